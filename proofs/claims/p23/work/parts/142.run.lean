set_option maxHeartbeats 4000000 in
set_option maxRecDepth 100000 in
theorem k941_shown (l : Launch) (hl9 : l.stackTraces = false) (dC : Nat → ClassId) (dI : Nat → Nat → Nat) (z : XZ) (h0 h1 h2 h3 h4 h5 h6 h7 h8 h9 h10 h11 h12 h13 h14 h15 h16 : Nat) (o0 o1 o2 o3 o4 o5 o6 o7 o8 : Nat) (sz : Nat) (kc0 kc1 kc2 kc3 : ClassId) : Met l yX6_shown (.code yX6_shown cX6_shown 4 (some .int) :: wsL_law) ({ frames := 7, cells := 0, slots := 0, locals := 160 }) (va_Pc [.ref h0] (PC (dC, dI) [(h0, ce16 h1 o0 h2), (h1, ce7 h3 h4 o1 h5), (h2, ce417 h1 h6), (h3, ce331 h7), (h4, ce331 h8), (h5, ce366 h9), (h6, ce416 kc0), (h7, ce330 kc1 h10 h11 h12 h13 h14 h15 h16), (h8, ce330 kc2 h10 h11 h12 h13 h14 h15 h16), (h9, ce330 kc3 h10 h11 h12 h13 h14 h15 h16), (h10, ce38 (z.2.1 0) o2 h10), (h11, ce77 (z.2.1 0) o3 h11), (h12, ce115 (z.2.1 0) o4 h12), (h13, ce165 (z.2.1 0) o5 h13), (h14, ce224 (z.2.1 0) o6 h14), (h15, ce287 (z.2.1 0) o7 h15), (h16, ce364 (z.2.1 0) o8 h16)] [(kc0, .int), (kc1, .object "java/lang/Object"), (kc2, .object "java/lang/Object"), (kc3, .object "java/lang/Object")] sz z)) (va_Qi (fun (r : Int32) (_ : Unit) => r = 0) (fun (_ : Unit) (t : State) => PG (dC, dI) [(h0, ce16 h1 o0 h2), (h1, ce7 h3 h4 o1 h5), (h2, ce417 h1 h6), (h3, ce331 h7), (h4, ce331 h8), (h5, ce366 h9), (h6, ce416 kc0), (h7, ce330 kc1 h10 h11 h12 h13 h14 h15 h16), (h8, ce330 kc2 h10 h11 h12 h13 h14 h15 h16), (h9, ce330 kc3 h10 h11 h12 h13 h14 h15 h16), (h10, ce427 (z.2.1 0) o2 h10), (h11, ce428 (z.2.1 0) o3 h11), (h12, ce429 (z.2.1 0) o4 h12), (h13, ce430 (z.2.1 0) o5 h13), (h14, ce431 (z.2.1 0) o6 h14), (h15, ce432 (z.2.1 0) o7 h15), (h16, ce440 (z.2.1 0) o8 h16)] [(kc0, .int), (kc1, .object "java/lang/Object"), (kc2, .object "java/lang/Object"), (kc3, .object "java/lang/Object")] (va_A [(h0, ce16 h1 o0 h2), (h1, ce7 h3 h4 o1 h5), (h2, ce417 h1 h6), (h3, ce331 h7), (h4, ce331 h8), (h5, ce366 h9), (h6, ce416 kc0), (h7, ce330 kc1 h10 h11 h12 h13 h14 h15 h16), (h8, ce330 kc2 h10 h11 h12 h13 h14 h15 h16), (h9, ce330 kc3 h10 h11 h12 h13 h14 h15 h16), (h10, ce38 (z.2.1 0) o2 h10), (h11, ce77 (z.2.1 0) o3 h11), (h12, ce115 (z.2.1 0) o4 h12), (h13, ce165 (z.2.1 0) o5 h13), (h14, ce224 (z.2.1 0) o6 h14), (h15, ce287 (z.2.1 0) o7 h15), (h16, ce364 (z.2.1 0) o8 h16)] sz) sz 0 t) (va_A [(h0, ce16 h1 o0 h2), (h1, ce7 h3 h4 o1 h5), (h2, ce417 h1 h6), (h3, ce331 h7), (h4, ce331 h8), (h5, ce366 h9), (h6, ce416 kc0), (h7, ce330 kc1 h10 h11 h12 h13 h14 h15 h16), (h8, ce330 kc2 h10 h11 h12 h13 h14 h15 h16), (h9, ce330 kc3 h10 h11 h12 h13 h14 h15 h16), (h10, ce38 (z.2.1 0) o2 h10), (h11, ce77 (z.2.1 0) o3 h11), (h12, ce115 (z.2.1 0) o4 h12), (h13, ce165 (z.2.1 0) o5 h13), (h14, ce224 (z.2.1 0) o6 h14), (h15, ce287 (z.2.1 0) o7 h15), (h16, ce364 (z.2.1 0) o8 h16)] sz)) 0 0 (va_A [(h0, ce16 h1 o0 h2), (h1, ce7 h3 h4 o1 h5), (h2, ce417 h1 h6), (h3, ce331 h7), (h4, ce331 h8), (h5, ce366 h9), (h6, ce416 kc0), (h7, ce330 kc1 h10 h11 h12 h13 h14 h15 h16), (h8, ce330 kc2 h10 h11 h12 h13 h14 h15 h16), (h9, ce330 kc3 h10 h11 h12 h13 h14 h15 h16), (h10, ce38 (z.2.1 0) o2 h10), (h11, ce77 (z.2.1 0) o3 h11), (h12, ce115 (z.2.1 0) o4 h12), (h13, ce165 (z.2.1 0) o5 h13), (h14, ce224 (z.2.1 0) o6 h14), (h15, ce287 (z.2.1 0) o7 h15), (h16, ce364 (z.2.1 0) o8 h16)] sz) := by
  refine Met.ofW (cc := cX6_shown) (maxL := 4) (ret := (some .int)) (by decide) rfl ?_
  intro p e s m args below meth c s₁ B hml hv
  obtain ⟨rfl, hsz, hP, hK, hD0, hX, hT⟩ := hv
  have hx := B.exec
  have hb := B.bytes
  have hr := B.returns
  have hts0 := atoms_spec (ws := .code yX6_shown cX6_shown 4 (some .int) :: wsL_law) B.pre
  have hts := xTail hts0
  have hown : s.vm.findClass RX6 = some m.cls := xown B.named rfl
  have hlocks := B.notSynchronized
  subst hsz
  have hD := hD0.self (sz := s.heap.size)
  generalize hAe : va_A [(h0, ce16 h1 o0 h2), (h1, ce7 h3 h4 o1 h5), (h2, ce417 h1 h6), (h3, ce331 h7), (h4, ce331 h8), (h5, ce366 h9), (h6, ce416 kc0), (h7, ce330 kc1 h10 h11 h12 h13 h14 h15 h16), (h8, ce330 kc2 h10 h11 h12 h13 h14 h15 h16), (h9, ce330 kc3 h10 h11 h12 h13 h14 h15 h16), (h10, ce38 (z.2.1 0) o2 h10), (h11, ce77 (z.2.1 0) o3 h11), (h12, ce115 (z.2.1 0) o4 h12), (h13, ce165 (z.2.1 0) o5 h13), (h14, ce224 (z.2.1 0) o6 h14), (h15, ce287 (z.2.1 0) o7 h15), (h16, ce364 (z.2.1 0) o8 h16)] s.heap.size = A at hD hX ⊢
  have hA : ∀ q : Nat, s.heap.size ≤ q → A q := fun q h => by rw [← hAe]; exact Or.inr h
  have hS : va_S A s.heap s.heap [] := va_S.rf
  have hG : s.heap.size + 0 ≤ s.heap.size := Nat.le_refl _
  have hl := lv_entry ([.ref h0]) (n := 4) (Nat.le_of_ble_eq_true rfl)
  rw [lg_entry_eq]
  generalize (lg_sl ([.ref h0]) ++ List.replicate (4 - (lg_sl ([.ref h0])).length) Slot.unset).toArray = ls at hl ⊢
  have hl : lv_has ls 4 [(0, .ref h0)] := hl
  refine lv_iconst (v := 0) hx hb dX6_shown_0 (by decide) ?_
  refine lv_istore_n (lv' := [(1, .int 0), (0, .ref h0)]) hx hb dX6_shown_1 rfl hl (by decide) rfl (fun ls hl => ?_)
  refine lv_iconst (v := 0) hx hb dX6_shown_2 (by decide) ?_
  refine lv_istore_n (lv' := [(2, .int 0), (1, .int 0), (0, .ref h0)]) hx hb dX6_shown_3 rfl hl (by decide) rfl (fun ls hl => ?_)
  refine lv_iload_n hx hb dX6_shown_4 rfl (lv_at hl 0 rfl) ?_
  refine lv_aload_n hx hb dX6_shown_5 rfl (lv_at hl 2 rfl) ?_
  refine va_get (D := (dC, dI)) (ci := 6) (v := .ref h1) (C := RX6) (T := TX6) (N := 3) hx hb hts in_X6 hown hK hP 0 rfl rfl 0 (by decide) (hts _ q_34) (fun _ h9 => h9) rfl dX6_shown_6 ?_
  refine va_get (D := (dC, dI)) (ci := 2) (v := .ref h3) (C := RX0) (T := TX0) (N := 4) hx hb hts in_X0 hown hK hP 1 rfl rfl 0 (by decide) (hts _ q_83) (fun _ h9 => h9) rfl dX6_shown_9 ?_
  have hM3 := k20_size l hl9 dC dI z h3 h7 s.heap.size 7 7
  obtain ⟨hF1, hC4⟩ := pc_M hM3 hP hD hK hS hX hT hA [3] [] rfl rfl rfl
  refine va_calli (va_runV (As := []) (rest := [.int 0]) ⟨hx, hb, hml, hown, hts⟩ hM3 (cwV 0 hts (gV q_76 q_77 q_78 q_12 q_75) rfl rfl rfl hV_Jx4a65c_size_8abf5 ⟨Nat.le_of_ble_eq_true rfl, Nat.le_of_ble_eq_true rfl⟩) ⟨pc_blind, va_recv hK hP (ci := 0) (q := (RJx4a65c, TJx4a65c, 3)) (q0 := 3) rfl rfl, fun U hU hW => ⟨rfl, hC4 U hU hW⟩⟩ rfl rfl hl.1 rfl (lv_room (Nat.le_of_ble_eq_true rfl)) dX6_shown_12 ⟨(Nat.le_of_ble_eq_true rfl), (Nat.le_of_ble_eq_true rfl)⟩) hS (fun q9 _ h9 => hF1 q9 h9) hF1 (fun r6 u5 t5 H5 L5 ht5 hvm5 hw5 hB5 hz5 hk5 hS => ?_)
  have hP := pq_keep hP hD [3] rfl hk5 hB5.1 ht5
  have hG : s.heap.size + 0 ≤ H5.size := Nat.le_trans hG hz5
  refine W.eq (g2 := F0 m 15 ls [.int 7, .int 0]) (by rw [hw5]) ?_
  refine lv_icmp_ge (tgt := 81) hx hb dX6_shown_15 (by decide) (fun cz => absurd cz (by decide)) (fun _ => ?_)
  refine lv_aload_n hx hb dX6_shown_18 rfl (lv_at hl 2 rfl) ?_
  refine va_get (D := (dC, dI)) (ci := 6) (v := .ref h1) (C := RX6) (T := TX6) (N := 3) hx hb hts in_X6 hown hK hP 0 rfl rfl 0 (by decide) (hts _ q_34) (fun _ h9 => h9) rfl dX6_shown_19 ?_
  refine va_get (D := (dC, dI)) (ci := 2) (v := .ref h3) (C := RX0) (T := TX0) (N := 4) hx hb hts in_X0 hown hK hP 1 rfl rfl 0 (by decide) (hts _ q_83) (fun _ h9 => h9) rfl dX6_shown_22 ?_
  refine lv_iload_n hx hb dX6_shown_25 rfl (lv_at hl 0 rfl) ?_
  have hM9 := k632_get l hl9 dC dI z h3 h7 h10 h11 h12 h13 h14 h15 h16 H5.size kc1
  obtain ⟨hF7, hC10⟩ := pc_M hM9 hP hD hK hS hX hT hA [3, 7] [1] rfl rfl rfl
  refine va_callr (va_runV (As := [.int 0]) (rest := []) ⟨hx, hb, hml, hown, hts⟩ hM9 (cwV 1 hts (gV q_381 q_157 q_158 q_12 q_155) rfl rfl rfl hV_Jx4a65c_get_915e3 ⟨Nat.le_of_ble_eq_true rfl, Nat.le_of_ble_eq_true rfl⟩) ⟨pc_blind, va_recv hK hP (ci := 0) (q := (RJx4a65c, TJx4a65c, 3)) (q0 := 3) rfl rfl, fun U hU hW => ⟨rfl, hC10 U hU hW⟩⟩ rfl rfl hl.1 rfl (lv_room (Nat.le_of_ble_eq_true rfl)) dX6_shown_26 ⟨(Nat.le_of_ble_eq_true rfl), (Nat.le_of_ble_eq_true rfl)⟩) hS (fun q9 _ h9 => hF7 q9 h9) hF7 (fun u11 r12 t11 H11 L11 ht11 hvm11 hw11 hB11 hz11 hk11 hS => ?_)
  obtain ⟨hr11, hB11⟩ := hB11
  have hP := pq_keep hP hD [3, 7] rfl hk11 hB11.1 ht11
  have hG : s.heap.size + 0 ≤ H11.size := Nat.le_trans hG hz11
  refine W.eq (g2 := F0 m 29 ls [.ref h10]) (by rw [hr11]) ?_
  refine va_castE (nm := RX2) hx hb hown (hts _ q_382) (va_recv hK hP (ci := 3) (q := (RX2, TX2, 19)) (q0 := 10) rfl rfl) dX6_shown_29 ?_
  refine lv_astore_n (lv' := [(3, .ref h10), (2, .int 0), (1, .int 0), (0, .ref h0)]) hx hb dX6_shown_32 rfl hl (by decide) rfl (fun ls hl => ?_)
  refine lv_iload_n hx hb dX6_shown_33 rfl (lv_at hl 2 rfl) ?_
  refine lv_aload_n hx hb dX6_shown_34 rfl (lv_at hl 3 rfl) ?_
  refine va_get (D := (dC, dI)) (ci := 6) (v := .ref h2) (C := RX6) (T := TX6) (N := 3) hx hb hts in_X6 hown hK hP 0 rfl rfl 2 (by decide) (hts _ q_54) (fun _ h9 => h9) rfl dX6_shown_35 ?_
  refine lv_aload_n hx hb dX6_shown_38 rfl (lv_at hl 0 rfl) ?_
  refine lv_bipush (v := 48) hx hb dX6_shown_39 (by decide) ?_
  have hM15 := k848_isShownBySomeTest l hl9 dC dI z h2 h10 h1 h6 h4 h5 h8 h9 h11 h12 h13 h14 h15 h16 o2 h3 o1 o3 o4 o5 o6 o7 o8 H11.size kc0 kc2 kc3
  obtain ⟨hF13, hC16⟩ := pc_M hM15 hP hD hK hS hX hT hA [2, 10, 1, 6, 4, 5, 8, 9, 11, 12, 13, 14, 15, 16] [0, 2, 3] rfl rfl rfl
  refine va_calli (va_runV (As := [.ref h10, .int 48]) (rest := [.int 0]) ⟨hx, hb, hml, hown, hts⟩ hM15 (cwV 2 hts (gV q_396 q_397 q_398 q_46 q_395) rfl rfl rfl hV_X4_isShownBySomeTest ⟨Nat.le_of_ble_eq_true rfl, Nat.le_of_ble_eq_true rfl⟩) ⟨pc_blind, va_recv hK hP (ci := 4) (q := (RX4, TX4, 3)) (q0 := 2) rfl rfl, fun U hU hW => ⟨rfl, hC16 U hU hW⟩⟩ rfl rfl hl.1 rfl (lv_room (Nat.le_of_ble_eq_true rfl)) dX6_shown_41 ⟨(Nat.le_of_ble_eq_true rfl), (Nat.le_of_ble_eq_true rfl)⟩) hS (fun q9 _ h9 => hF13 q9 h9) hF13 (fun r18 u17 t17 H17 L17 ht17 hvm17 hw17 hB17 hz17 hk17 hS => ?_)
  obtain ⟨hP, hD, hK⟩ := pq_jn (wz := [(h0, ce16 h1 o0 h2), (h3, ce331 h7), (h7, ce330 kc1 h10 h11 h12 h13 h14 h15 h16), (h2, ce417 h1 h6), (h10, ce420 (z.2.1 0) o2 h10), (h1, ce7 h3 h4 o1 h5), (h6, ce416 kc0), (h4, ce331 h8), (h5, ce366 h9), (h8, ce330 kc2 h10 h11 h12 h13 h14 h15 h16), (h9, ce330 kc3 h10 h11 h12 h13 h14 h15 h16), (h11, ce421 (z.2.1 0) o3 h11), (h12, ce422 (z.2.1 0) o4 h12), (h13, ce423 (z.2.1 0) o5 h13), (h14, ce424 (z.2.1 0) o6 h14), (h15, ce425 (z.2.1 0) o7 h15), (h16, ce426 (z.2.1 0) o8 h16)]) (tz := [(kc1, .object "java/lang/Object"), (kc0, .int), (kc2, .object "java/lang/Object"), (kc3, .object "java/lang/Object")]) hP hD hK [2, 10, 1, 6, 4, 5, 8, 9, 11, 12, 13, 14, 15, 16] [1] rfl hk17 hF13 hB17.1 ht17 hvm17 rfl rfl
  have hG : s.heap.size + 0 ≤ H17.size := Nat.le_trans hG hz17
  refine W.eq (g2 := F0 m 44 ls [.int 0, .int 0]) (by rw [hw17]) ?_
  refine lv_if_eq (tgt := 51) hx hb dX6_shown_44 (by decide) (fun _ => ?_) (fun cz => absurd (by decide) cz)
  refine lv_iconst (v := 0) hx hb dX6_shown_51 (by decide) ?_
  refine lv_iadd hx hb dX6_shown_52 ?_
  refine lv_topi (fun y19 ey19 => ?_)
  obtain rfl : y19 = 0 := ey19.trans (by decide)
  refine lv_istore_n (lv' := [(1, .int 0), (3, .ref h10), (2, .int 0), (0, .ref h0)]) hx hb dX6_shown_53 rfl hl (by decide) rfl (fun ls hl => ?_)
  refine lv_iload_n hx hb dX6_shown_54 rfl (lv_at hl 0 rfl) ?_
  refine lv_aload_n hx hb dX6_shown_55 rfl (lv_at hl 3 rfl) ?_
  refine va_get (D := (dC, dI)) (ci := 6) (v := .ref h2) (C := RX6) (T := TX6) (N := 3) hx hb hts in_X6 hown hK hP 0 rfl rfl 2 (by decide) (hts _ q_54) (fun _ h9 => h9) rfl dX6_shown_56 ?_
  refine lv_aload_n hx hb dX6_shown_59 rfl (lv_at hl 1 rfl) ?_
  refine lv_bipush (v := 49) hx hb dX6_shown_60 (by decide) ?_
  have hM22 := k872_isShownBySomeTest l hl9 dC dI z h2 h10 h1 h6 h3 h4 h5 h7 h8 h9 h11 h12 h13 h14 h15 h16 o2 o1 o3 o4 o5 o6 o7 o8 H17.size kc0 kc1 kc2 kc3
  obtain ⟨hF20, hC23⟩ := pc_M hM22 hP hD hK hS hX hT hA [3, 4, 5, 6, 1, 7, 8, 2, 9, 10, 11, 12, 13, 14, 15, 16] [1, 0, 2, 3] rfl rfl rfl
  refine va_calli (va_runV (As := [.ref h10, .int 49]) (rest := [.int 0]) ⟨hx, hb, hml, hown, hts⟩ hM22 (cwV 2 hts (gV q_396 q_397 q_398 q_46 q_395) rfl rfl rfl hV_X4_isShownBySomeTest ⟨Nat.le_of_ble_eq_true rfl, Nat.le_of_ble_eq_true rfl⟩) ⟨pc_blind, va_recv hK hP (ci := 4) (q := (RX4, TX4, 3)) (q0 := 3) rfl rfl, fun U hU hW => ⟨rfl, hC23 U hU hW⟩⟩ rfl rfl hl.1 rfl (lv_room (Nat.le_of_ble_eq_true rfl)) dX6_shown_62 ⟨(Nat.le_of_ble_eq_true rfl), (Nat.le_of_ble_eq_true rfl)⟩) hS (fun q9 _ h9 => hF20 q9 h9) hF20 (fun r25 u24 t24 H24 L24 ht24 hvm24 hw24 hB24 hz24 hk24 hS => ?_)
  obtain ⟨hP, hD, hK⟩ := pq_jn (wz := [(h0, ce16 h1 o0 h2), (h2, ce417 h1 h6), (h10, ce434 (z.2.1 0) o2 h10), (h1, ce7 h3 h4 o1 h5), (h6, ce416 kc0), (h3, ce331 h7), (h4, ce331 h8), (h5, ce366 h9), (h7, ce330 kc1 h10 h11 h12 h13 h14 h15 h16), (h8, ce330 kc2 h10 h11 h12 h13 h14 h15 h16), (h9, ce330 kc3 h10 h11 h12 h13 h14 h15 h16), (h11, ce428 (z.2.1 0) o3 h11), (h12, ce429 (z.2.1 0) o4 h12), (h13, ce430 (z.2.1 0) o5 h13), (h14, ce431 (z.2.1 0) o6 h14), (h15, ce432 (z.2.1 0) o7 h15), (h16, ce433 (z.2.1 0) o8 h16)]) (tz := [(kc0, .int), (kc1, .object "java/lang/Object"), (kc2, .object "java/lang/Object"), (kc3, .object "java/lang/Object")]) hP hD hK [3, 4, 5, 6, 1, 7, 8, 2, 9, 10, 11, 12, 13, 14, 15, 16] [] rfl hk24 hF20 hB24.1 ht24 hvm24 rfl rfl
  have hG : s.heap.size + 0 ≤ H24.size := Nat.le_trans hG hz24
  refine W.eq (g2 := F0 m 65 ls [.int 0, .int 0]) (by rw [hw24]) ?_
  refine lv_if_eq (tgt := 72) hx hb dX6_shown_65 (by decide) (fun _ => ?_) (fun cz => absurd (by decide) cz)
  refine lv_iconst (v := 0) hx hb dX6_shown_72 (by decide) ?_
  refine lv_iadd hx hb dX6_shown_73 ?_
  refine lv_topi (fun y26 ey26 => ?_)
  obtain rfl : y26 = 0 := ey26.trans (by decide)
  refine lv_istore_n (lv' := [(1, .int 0), (3, .ref h10), (2, .int 0), (0, .ref h0)]) hx hb dX6_shown_74 rfl hl (by decide) rfl (fun ls hl => ?_)
  refine lv_iinc (v := 1) (lv' := [(2, .int 1), (1, .int 0), (3, .ref h10), (0, .ref h0)]) hx hb dX6_shown_75 hl (k := 2) rfl (by decide) (by decide) rfl (fun ls hl => ?_)
  refine lv_goto (tgt := 4) hx hb dX6_shown_78 (by decide) ?_
  refine lv_iload_n hx hb dX6_shown_4 rfl (lv_at hl 0 rfl) ?_
  refine lv_aload_n hx hb dX6_shown_5 rfl (lv_at hl 3 rfl) ?_
  refine va_get (D := (dC, dI)) (ci := 6) (v := .ref h1) (C := RX6) (T := TX6) (N := 3) hx hb hts in_X6 hown hK hP 0 rfl rfl 0 (by decide) (hts _ q_34) (fun _ h9 => h9) rfl dX6_shown_6 ?_
  refine va_get (D := (dC, dI)) (ci := 2) (v := .ref h3) (C := RX0) (T := TX0) (N := 4) hx hb hts in_X0 hown hK hP 3 rfl rfl 0 (by decide) (hts _ q_83) (fun _ h9 => h9) rfl dX6_shown_9 ?_
  have hM29 := k20_size l hl9 dC dI z h3 h7 H24.size 7 7
  obtain ⟨hF27, hC30⟩ := pc_M hM29 hP hD hK hS hX hT hA [5] [] rfl rfl rfl
  refine va_calli (va_runV (As := []) (rest := [.int 1]) ⟨hx, hb, hml, hown, hts⟩ hM29 (cwV 0 hts (gV q_76 q_77 q_78 q_12 q_75) rfl rfl rfl hV_Jx4a65c_size_8abf5 ⟨Nat.le_of_ble_eq_true rfl, Nat.le_of_ble_eq_true rfl⟩) ⟨pc_blind, va_recv hK hP (ci := 0) (q := (RJx4a65c, TJx4a65c, 3)) (q0 := 5) rfl rfl, fun U hU hW => ⟨rfl, hC30 U hU hW⟩⟩ rfl rfl hl.1 rfl (lv_room (Nat.le_of_ble_eq_true rfl)) dX6_shown_12 ⟨(Nat.le_of_ble_eq_true rfl), (Nat.le_of_ble_eq_true rfl)⟩) hS (fun q9 _ h9 => hF27 q9 h9) hF27 (fun r32 u31 t31 H31 L31 ht31 hvm31 hw31 hB31 hz31 hk31 hS => ?_)
  have hP := pq_keep hP hD [5] rfl hk31 hB31.1 ht31
  have hG : s.heap.size + 0 ≤ H31.size := Nat.le_trans hG hz31
  refine W.eq (g2 := F0 m 15 ls [.int 7, .int 1]) (by rw [hw31]) ?_
  refine lv_icmp_ge (tgt := 81) hx hb dX6_shown_15 (by decide) (fun cz => absurd cz (by decide)) (fun _ => ?_)
  refine lv_aload_n hx hb dX6_shown_18 rfl (lv_at hl 3 rfl) ?_
  refine va_get (D := (dC, dI)) (ci := 6) (v := .ref h1) (C := RX6) (T := TX6) (N := 3) hx hb hts in_X6 hown hK hP 0 rfl rfl 0 (by decide) (hts _ q_34) (fun _ h9 => h9) rfl dX6_shown_19 ?_
  refine va_get (D := (dC, dI)) (ci := 2) (v := .ref h3) (C := RX0) (T := TX0) (N := 4) hx hb hts in_X0 hown hK hP 3 rfl rfl 0 (by decide) (hts _ q_83) (fun _ h9 => h9) rfl dX6_shown_22 ?_
  refine lv_iload_n hx hb dX6_shown_25 rfl (lv_at hl 0 rfl) ?_
  have hM35 := k636_get l hl9 dC dI z h3 h7 h10 h11 h12 h13 h14 h15 h16 H31.size kc1
  obtain ⟨hF33, hC36⟩ := pc_M hM35 hP hD hK hS hX hT hA [5, 8] [1] rfl rfl rfl
  refine va_callr (va_runV (As := [.int 1]) (rest := []) ⟨hx, hb, hml, hown, hts⟩ hM35 (cwV 1 hts (gV q_381 q_157 q_158 q_12 q_155) rfl rfl rfl hV_Jx4a65c_get_915e3 ⟨Nat.le_of_ble_eq_true rfl, Nat.le_of_ble_eq_true rfl⟩) ⟨pc_blind, va_recv hK hP (ci := 0) (q := (RJx4a65c, TJx4a65c, 3)) (q0 := 5) rfl rfl, fun U hU hW => ⟨rfl, hC36 U hU hW⟩⟩ rfl rfl hl.1 rfl (lv_room (Nat.le_of_ble_eq_true rfl)) dX6_shown_26 ⟨(Nat.le_of_ble_eq_true rfl), (Nat.le_of_ble_eq_true rfl)⟩) hS (fun q9 _ h9 => hF33 q9 h9) hF33 (fun u37 r38 t37 H37 L37 ht37 hvm37 hw37 hB37 hz37 hk37 hS => ?_)
  obtain ⟨hr37, hB37⟩ := hB37
  have hP := pq_keep hP hD [5, 8] rfl hk37 hB37.1 ht37
  have hG : s.heap.size + 0 ≤ H37.size := Nat.le_trans hG hz37
  refine W.eq (g2 := F0 m 29 ls [.ref h11]) (by rw [hr37]) ?_
  refine va_castE (nm := RX2) hx hb hown (hts _ q_382) (va_recv hK hP (ci := 3) (q := (RX2, TX2, 19)) (q0 := 11) rfl rfl) dX6_shown_29 ?_
  refine lv_astore_n (lv' := [(3, .ref h11), (2, .int 1), (1, .int 0), (0, .ref h0)]) hx hb dX6_shown_32 rfl hl (by decide) rfl (fun ls hl => ?_)
  refine lv_iload_n hx hb dX6_shown_33 rfl (lv_at hl 2 rfl) ?_
  refine lv_aload_n hx hb dX6_shown_34 rfl (lv_at hl 3 rfl) ?_
  refine va_get (D := (dC, dI)) (ci := 6) (v := .ref h2) (C := RX6) (T := TX6) (N := 3) hx hb hts in_X6 hown hK hP 0 rfl rfl 2 (by decide) (hts _ q_54) (fun _ h9 => h9) rfl dX6_shown_35 ?_
  refine lv_aload_n hx hb dX6_shown_38 rfl (lv_at hl 0 rfl) ?_
  refine lv_bipush (v := 48) hx hb dX6_shown_39 (by decide) ?_
  have hM41 := k876_isShownBySomeTest l hl9 dC dI z h2 h11 h1 h6 h4 h5 h8 h9 h10 h12 h13 h14 h15 h16 o3 h3 o1 o2 o4 o5 o6 o7 o8 H37.size kc0 kc2 kc3
  obtain ⟨hF39, hC42⟩ := pc_M hM41 hP hD hK hS hX hT hA [1, 11, 3, 4, 6, 7, 9, 10, 2, 12, 13, 14, 15, 16] [0, 2, 3] rfl rfl rfl
  refine va_calli (va_runV (As := [.ref h11, .int 48]) (rest := [.int 0]) ⟨hx, hb, hml, hown, hts⟩ hM41 (cwV 2 hts (gV q_396 q_397 q_398 q_46 q_395) rfl rfl rfl hV_X4_isShownBySomeTest ⟨Nat.le_of_ble_eq_true rfl, Nat.le_of_ble_eq_true rfl⟩) ⟨pc_blind, va_recv hK hP (ci := 4) (q := (RX4, TX4, 3)) (q0 := 1) rfl rfl, fun U hU hW => ⟨rfl, hC42 U hU hW⟩⟩ rfl rfl hl.1 rfl (lv_room (Nat.le_of_ble_eq_true rfl)) dX6_shown_41 ⟨(Nat.le_of_ble_eq_true rfl), (Nat.le_of_ble_eq_true rfl)⟩) hS (fun q9 _ h9 => hF39 q9 h9) hF39 (fun r44 u43 t43 H43 L43 ht43 hvm43 hw43 hB43 hz43 hk43 hS => ?_)
  obtain ⟨hP, hD, hK⟩ := pq_jn (wz := [(h0, ce16 h1 o0 h2), (h3, ce331 h7), (h7, ce330 kc1 h10 h11 h12 h13 h14 h15 h16), (h2, ce417 h1 h6), (h11, ce428 (z.2.1 0) o3 h11), (h1, ce7 h3 h4 o1 h5), (h6, ce416 kc0), (h4, ce331 h8), (h5, ce366 h9), (h8, ce330 kc2 h10 h11 h12 h13 h14 h15 h16), (h9, ce330 kc3 h10 h11 h12 h13 h14 h15 h16), (h10, ce427 (z.2.1 0) o2 h10), (h12, ce429 (z.2.1 0) o4 h12), (h13, ce430 (z.2.1 0) o5 h13), (h14, ce431 (z.2.1 0) o6 h14), (h15, ce432 (z.2.1 0) o7 h15), (h16, ce433 (z.2.1 0) o8 h16)]) (tz := [(kc1, .object "java/lang/Object"), (kc0, .int), (kc2, .object "java/lang/Object"), (kc3, .object "java/lang/Object")]) hP hD hK [1, 11, 3, 4, 6, 7, 9, 10, 2, 12, 13, 14, 15, 16] [1] rfl hk43 hF39 hB43.1 ht43 hvm43 rfl rfl
  have hG : s.heap.size + 0 ≤ H43.size := Nat.le_trans hG hz43
  refine W.eq (g2 := F0 m 44 ls [.int 0, .int 0]) (by rw [hw43]) ?_
  refine lv_if_eq (tgt := 51) hx hb dX6_shown_44 (by decide) (fun _ => ?_) (fun cz => absurd (by decide) cz)
  refine lv_iconst (v := 0) hx hb dX6_shown_51 (by decide) ?_
  refine lv_iadd hx hb dX6_shown_52 ?_
  refine lv_topi (fun y45 ey45 => ?_)
  obtain rfl : y45 = 0 := ey45.trans (by decide)
  refine lv_istore_n (lv' := [(1, .int 0), (3, .ref h11), (2, .int 1), (0, .ref h0)]) hx hb dX6_shown_53 rfl hl (by decide) rfl (fun ls hl => ?_)
  refine lv_iload_n hx hb dX6_shown_54 rfl (lv_at hl 0 rfl) ?_
  refine lv_aload_n hx hb dX6_shown_55 rfl (lv_at hl 3 rfl) ?_
  refine va_get (D := (dC, dI)) (ci := 6) (v := .ref h2) (C := RX6) (T := TX6) (N := 3) hx hb hts in_X6 hown hK hP 0 rfl rfl 2 (by decide) (hts _ q_54) (fun _ h9 => h9) rfl dX6_shown_56 ?_
  refine lv_aload_n hx hb dX6_shown_59 rfl (lv_at hl 1 rfl) ?_
  refine lv_bipush (v := 49) hx hb dX6_shown_60 (by decide) ?_
  have hM48 := k885_isShownBySomeTest l hl9 dC dI z h2 h11 h1 h6 h3 h4 h5 h7 h8 h9 h10 h12 h13 h14 h15 h16 o3 o1 o2 o4 o5 o6 o7 o8 H43.size kc0 kc1 kc2 kc3
  obtain ⟨hF46, hC49⟩ := pc_M hM48 hP hD hK hS hX hT hA [3, 4, 5, 6, 1, 7, 8, 2, 9, 10, 11, 12, 13, 14, 15, 16] [1, 0, 2, 3] rfl rfl rfl
  refine va_calli (va_runV (As := [.ref h11, .int 49]) (rest := [.int 0]) ⟨hx, hb, hml, hown, hts⟩ hM48 (cwV 2 hts (gV q_396 q_397 q_398 q_46 q_395) rfl rfl rfl hV_X4_isShownBySomeTest ⟨Nat.le_of_ble_eq_true rfl, Nat.le_of_ble_eq_true rfl⟩) ⟨pc_blind, va_recv hK hP (ci := 4) (q := (RX4, TX4, 3)) (q0 := 3) rfl rfl, fun U hU hW => ⟨rfl, hC49 U hU hW⟩⟩ rfl rfl hl.1 rfl (lv_room (Nat.le_of_ble_eq_true rfl)) dX6_shown_62 ⟨(Nat.le_of_ble_eq_true rfl), (Nat.le_of_ble_eq_true rfl)⟩) hS (fun q9 _ h9 => hF46 q9 h9) hF46 (fun r51 u50 t50 H50 L50 ht50 hvm50 hw50 hB50 hz50 hk50 hS => ?_)
  obtain ⟨hP, hD, hK⟩ := pq_jn (wz := [(h0, ce16 h1 o0 h2), (h2, ce417 h1 h6), (h11, ce435 (z.2.1 0) o3 h11), (h1, ce7 h3 h4 o1 h5), (h6, ce416 kc0), (h3, ce331 h7), (h4, ce331 h8), (h5, ce366 h9), (h7, ce330 kc1 h10 h11 h12 h13 h14 h15 h16), (h8, ce330 kc2 h10 h11 h12 h13 h14 h15 h16), (h9, ce330 kc3 h10 h11 h12 h13 h14 h15 h16), (h10, ce427 (z.2.1 0) o2 h10), (h12, ce429 (z.2.1 0) o4 h12), (h13, ce430 (z.2.1 0) o5 h13), (h14, ce431 (z.2.1 0) o6 h14), (h15, ce432 (z.2.1 0) o7 h15), (h16, ce433 (z.2.1 0) o8 h16)]) (tz := [(kc0, .int), (kc1, .object "java/lang/Object"), (kc2, .object "java/lang/Object"), (kc3, .object "java/lang/Object")]) hP hD hK [3, 4, 5, 6, 1, 7, 8, 2, 9, 10, 11, 12, 13, 14, 15, 16] [] rfl hk50 hF46 hB50.1 ht50 hvm50 rfl rfl
  have hG : s.heap.size + 0 ≤ H50.size := Nat.le_trans hG hz50
  refine W.eq (g2 := F0 m 65 ls [.int 0, .int 0]) (by rw [hw50]) ?_
  refine lv_if_eq (tgt := 72) hx hb dX6_shown_65 (by decide) (fun _ => ?_) (fun cz => absurd (by decide) cz)
  refine lv_iconst (v := 0) hx hb dX6_shown_72 (by decide) ?_
  refine lv_iadd hx hb dX6_shown_73 ?_
  refine lv_topi (fun y52 ey52 => ?_)
  obtain rfl : y52 = 0 := ey52.trans (by decide)
  refine lv_istore_n (lv' := [(1, .int 0), (3, .ref h11), (2, .int 1), (0, .ref h0)]) hx hb dX6_shown_74 rfl hl (by decide) rfl (fun ls hl => ?_)
  refine lv_iinc (v := 2) (lv' := [(2, .int 2), (1, .int 0), (3, .ref h11), (0, .ref h0)]) hx hb dX6_shown_75 hl (k := 2) rfl (by decide) (by decide) rfl (fun ls hl => ?_)
  refine lv_goto (tgt := 4) hx hb dX6_shown_78 (by decide) ?_
  refine lv_iload_n hx hb dX6_shown_4 rfl (lv_at hl 0 rfl) ?_
  refine lv_aload_n hx hb dX6_shown_5 rfl (lv_at hl 3 rfl) ?_
  refine va_get (D := (dC, dI)) (ci := 6) (v := .ref h1) (C := RX6) (T := TX6) (N := 3) hx hb hts in_X6 hown hK hP 0 rfl rfl 0 (by decide) (hts _ q_34) (fun _ h9 => h9) rfl dX6_shown_6 ?_
  refine va_get (D := (dC, dI)) (ci := 2) (v := .ref h3) (C := RX0) (T := TX0) (N := 4) hx hb hts in_X0 hown hK hP 3 rfl rfl 0 (by decide) (hts _ q_83) (fun _ h9 => h9) rfl dX6_shown_9 ?_
  have hM55 := k20_size l hl9 dC dI z h3 h7 H50.size 7 7
  obtain ⟨hF53, hC56⟩ := pc_M hM55 hP hD hK hS hX hT hA [5] [] rfl rfl rfl
  refine va_calli (va_runV (As := []) (rest := [.int 2]) ⟨hx, hb, hml, hown, hts⟩ hM55 (cwV 0 hts (gV q_76 q_77 q_78 q_12 q_75) rfl rfl rfl hV_Jx4a65c_size_8abf5 ⟨Nat.le_of_ble_eq_true rfl, Nat.le_of_ble_eq_true rfl⟩) ⟨pc_blind, va_recv hK hP (ci := 0) (q := (RJx4a65c, TJx4a65c, 3)) (q0 := 5) rfl rfl, fun U hU hW => ⟨rfl, hC56 U hU hW⟩⟩ rfl rfl hl.1 rfl (lv_room (Nat.le_of_ble_eq_true rfl)) dX6_shown_12 ⟨(Nat.le_of_ble_eq_true rfl), (Nat.le_of_ble_eq_true rfl)⟩) hS (fun q9 _ h9 => hF53 q9 h9) hF53 (fun r58 u57 t57 H57 L57 ht57 hvm57 hw57 hB57 hz57 hk57 hS => ?_)
  have hP := pq_keep hP hD [5] rfl hk57 hB57.1 ht57
  have hG : s.heap.size + 0 ≤ H57.size := Nat.le_trans hG hz57
  refine W.eq (g2 := F0 m 15 ls [.int 7, .int 2]) (by rw [hw57]) ?_
  refine lv_icmp_ge (tgt := 81) hx hb dX6_shown_15 (by decide) (fun cz => absurd cz (by decide)) (fun _ => ?_)
  refine lv_aload_n hx hb dX6_shown_18 rfl (lv_at hl 3 rfl) ?_
  refine va_get (D := (dC, dI)) (ci := 6) (v := .ref h1) (C := RX6) (T := TX6) (N := 3) hx hb hts in_X6 hown hK hP 0 rfl rfl 0 (by decide) (hts _ q_34) (fun _ h9 => h9) rfl dX6_shown_19 ?_
  refine va_get (D := (dC, dI)) (ci := 2) (v := .ref h3) (C := RX0) (T := TX0) (N := 4) hx hb hts in_X0 hown hK hP 3 rfl rfl 0 (by decide) (hts _ q_83) (fun _ h9 => h9) rfl dX6_shown_22 ?_
  refine lv_iload_n hx hb dX6_shown_25 rfl (lv_at hl 0 rfl) ?_
  have hM61 := k640_get l hl9 dC dI z h3 h7 h10 h11 h12 h13 h14 h15 h16 H57.size kc1
  obtain ⟨hF59, hC62⟩ := pc_M hM61 hP hD hK hS hX hT hA [5, 8] [1] rfl rfl rfl
  refine va_callr (va_runV (As := [.int 2]) (rest := []) ⟨hx, hb, hml, hown, hts⟩ hM61 (cwV 1 hts (gV q_381 q_157 q_158 q_12 q_155) rfl rfl rfl hV_Jx4a65c_get_915e3 ⟨Nat.le_of_ble_eq_true rfl, Nat.le_of_ble_eq_true rfl⟩) ⟨pc_blind, va_recv hK hP (ci := 0) (q := (RJx4a65c, TJx4a65c, 3)) (q0 := 5) rfl rfl, fun U hU hW => ⟨rfl, hC62 U hU hW⟩⟩ rfl rfl hl.1 rfl (lv_room (Nat.le_of_ble_eq_true rfl)) dX6_shown_26 ⟨(Nat.le_of_ble_eq_true rfl), (Nat.le_of_ble_eq_true rfl)⟩) hS (fun q9 _ h9 => hF59 q9 h9) hF59 (fun u63 r64 t63 H63 L63 ht63 hvm63 hw63 hB63 hz63 hk63 hS => ?_)
  obtain ⟨hr63, hB63⟩ := hB63
  have hP := pq_keep hP hD [5, 8] rfl hk63 hB63.1 ht63
  have hG : s.heap.size + 0 ≤ H63.size := Nat.le_trans hG hz63
  refine W.eq (g2 := F0 m 29 ls [.ref h12]) (by rw [hr63]) ?_
  refine va_castE (nm := RX2) hx hb hown (hts _ q_382) (va_recv hK hP (ci := 3) (q := (RX2, TX2, 19)) (q0 := 12) rfl rfl) dX6_shown_29 ?_
  refine lv_astore_n (lv' := [(3, .ref h12), (2, .int 2), (1, .int 0), (0, .ref h0)]) hx hb dX6_shown_32 rfl hl (by decide) rfl (fun ls hl => ?_)
  refine lv_iload_n hx hb dX6_shown_33 rfl (lv_at hl 2 rfl) ?_
  refine lv_aload_n hx hb dX6_shown_34 rfl (lv_at hl 3 rfl) ?_
  refine va_get (D := (dC, dI)) (ci := 6) (v := .ref h2) (C := RX6) (T := TX6) (N := 3) hx hb hts in_X6 hown hK hP 0 rfl rfl 2 (by decide) (hts _ q_54) (fun _ h9 => h9) rfl dX6_shown_35 ?_
  refine lv_aload_n hx hb dX6_shown_38 rfl (lv_at hl 0 rfl) ?_
  refine lv_bipush (v := 48) hx hb dX6_shown_39 (by decide) ?_
  have hM67 := k888_isShownBySomeTest l hl9 dC dI z h2 h12 h1 h6 h4 h5 h8 h9 h10 h11 h13 h14 h15 h16 o4 h3 o1 o2 o3 o5 o6 o7 o8 H63.size kc0 kc2 kc3
  obtain ⟨hF65, hC68⟩ := pc_M hM67 hP hD hK hS hX hT hA [1, 12, 3, 4, 6, 7, 9, 10, 11, 2, 13, 14, 15, 16] [0, 2, 3] rfl rfl rfl
  refine va_calli (va_runV (As := [.ref h12, .int 48]) (rest := [.int 0]) ⟨hx, hb, hml, hown, hts⟩ hM67 (cwV 2 hts (gV q_396 q_397 q_398 q_46 q_395) rfl rfl rfl hV_X4_isShownBySomeTest ⟨Nat.le_of_ble_eq_true rfl, Nat.le_of_ble_eq_true rfl⟩) ⟨pc_blind, va_recv hK hP (ci := 4) (q := (RX4, TX4, 3)) (q0 := 1) rfl rfl, fun U hU hW => ⟨rfl, hC68 U hU hW⟩⟩ rfl rfl hl.1 rfl (lv_room (Nat.le_of_ble_eq_true rfl)) dX6_shown_41 ⟨(Nat.le_of_ble_eq_true rfl), (Nat.le_of_ble_eq_true rfl)⟩) hS (fun q9 _ h9 => hF65 q9 h9) hF65 (fun r70 u69 t69 H69 L69 ht69 hvm69 hw69 hB69 hz69 hk69 hS => ?_)
  obtain ⟨hP, hD, hK⟩ := pq_jn (wz := [(h0, ce16 h1 o0 h2), (h3, ce331 h7), (h7, ce330 kc1 h10 h11 h12 h13 h14 h15 h16), (h2, ce417 h1 h6), (h12, ce429 (z.2.1 0) o4 h12), (h1, ce7 h3 h4 o1 h5), (h6, ce416 kc0), (h4, ce331 h8), (h5, ce366 h9), (h8, ce330 kc2 h10 h11 h12 h13 h14 h15 h16), (h9, ce330 kc3 h10 h11 h12 h13 h14 h15 h16), (h10, ce427 (z.2.1 0) o2 h10), (h11, ce428 (z.2.1 0) o3 h11), (h13, ce430 (z.2.1 0) o5 h13), (h14, ce431 (z.2.1 0) o6 h14), (h15, ce432 (z.2.1 0) o7 h15), (h16, ce433 (z.2.1 0) o8 h16)]) (tz := [(kc1, .object "java/lang/Object"), (kc0, .int), (kc2, .object "java/lang/Object"), (kc3, .object "java/lang/Object")]) hP hD hK [1, 12, 3, 4, 6, 7, 9, 10, 11, 2, 13, 14, 15, 16] [1] rfl hk69 hF65 hB69.1 ht69 hvm69 rfl rfl
  have hG : s.heap.size + 0 ≤ H69.size := Nat.le_trans hG hz69
  refine W.eq (g2 := F0 m 44 ls [.int 0, .int 0]) (by rw [hw69]) ?_
  refine lv_if_eq (tgt := 51) hx hb dX6_shown_44 (by decide) (fun _ => ?_) (fun cz => absurd (by decide) cz)
  refine lv_iconst (v := 0) hx hb dX6_shown_51 (by decide) ?_
  refine lv_iadd hx hb dX6_shown_52 ?_
  refine lv_topi (fun y71 ey71 => ?_)
  obtain rfl : y71 = 0 := ey71.trans (by decide)
  refine lv_istore_n (lv' := [(1, .int 0), (3, .ref h12), (2, .int 2), (0, .ref h0)]) hx hb dX6_shown_53 rfl hl (by decide) rfl (fun ls hl => ?_)
  refine lv_iload_n hx hb dX6_shown_54 rfl (lv_at hl 0 rfl) ?_
  refine lv_aload_n hx hb dX6_shown_55 rfl (lv_at hl 3 rfl) ?_
  refine va_get (D := (dC, dI)) (ci := 6) (v := .ref h2) (C := RX6) (T := TX6) (N := 3) hx hb hts in_X6 hown hK hP 0 rfl rfl 2 (by decide) (hts _ q_54) (fun _ h9 => h9) rfl dX6_shown_56 ?_
  refine lv_aload_n hx hb dX6_shown_59 rfl (lv_at hl 1 rfl) ?_
  refine lv_bipush (v := 49) hx hb dX6_shown_60 (by decide) ?_
  have hM74 := k896_isShownBySomeTest l hl9 dC dI z h2 h12 h1 h6 h3 h4 h5 h7 h8 h9 h10 h11 h13 h14 h15 h16 o4 o1 o2 o3 o5 o6 o7 o8 H69.size kc0 kc1 kc2 kc3
  obtain ⟨hF72, hC75⟩ := pc_M hM74 hP hD hK hS hX hT hA [3, 4, 5, 6, 1, 7, 8, 2, 9, 10, 11, 12, 13, 14, 15, 16] [1, 0, 2, 3] rfl rfl rfl
  refine va_calli (va_runV (As := [.ref h12, .int 49]) (rest := [.int 0]) ⟨hx, hb, hml, hown, hts⟩ hM74 (cwV 2 hts (gV q_396 q_397 q_398 q_46 q_395) rfl rfl rfl hV_X4_isShownBySomeTest ⟨Nat.le_of_ble_eq_true rfl, Nat.le_of_ble_eq_true rfl⟩) ⟨pc_blind, va_recv hK hP (ci := 4) (q := (RX4, TX4, 3)) (q0 := 3) rfl rfl, fun U hU hW => ⟨rfl, hC75 U hU hW⟩⟩ rfl rfl hl.1 rfl (lv_room (Nat.le_of_ble_eq_true rfl)) dX6_shown_62 ⟨(Nat.le_of_ble_eq_true rfl), (Nat.le_of_ble_eq_true rfl)⟩) hS (fun q9 _ h9 => hF72 q9 h9) hF72 (fun r77 u76 t76 H76 L76 ht76 hvm76 hw76 hB76 hz76 hk76 hS => ?_)
  obtain ⟨hP, hD, hK⟩ := pq_jn (wz := [(h0, ce16 h1 o0 h2), (h2, ce417 h1 h6), (h12, ce436 (z.2.1 0) o4 h12), (h1, ce7 h3 h4 o1 h5), (h6, ce416 kc0), (h3, ce331 h7), (h4, ce331 h8), (h5, ce366 h9), (h7, ce330 kc1 h10 h11 h12 h13 h14 h15 h16), (h8, ce330 kc2 h10 h11 h12 h13 h14 h15 h16), (h9, ce330 kc3 h10 h11 h12 h13 h14 h15 h16), (h10, ce427 (z.2.1 0) o2 h10), (h11, ce428 (z.2.1 0) o3 h11), (h13, ce430 (z.2.1 0) o5 h13), (h14, ce431 (z.2.1 0) o6 h14), (h15, ce432 (z.2.1 0) o7 h15), (h16, ce433 (z.2.1 0) o8 h16)]) (tz := [(kc0, .int), (kc1, .object "java/lang/Object"), (kc2, .object "java/lang/Object"), (kc3, .object "java/lang/Object")]) hP hD hK [3, 4, 5, 6, 1, 7, 8, 2, 9, 10, 11, 12, 13, 14, 15, 16] [] rfl hk76 hF72 hB76.1 ht76 hvm76 rfl rfl
  have hG : s.heap.size + 0 ≤ H76.size := Nat.le_trans hG hz76
  refine W.eq (g2 := F0 m 65 ls [.int 0, .int 0]) (by rw [hw76]) ?_
  refine lv_if_eq (tgt := 72) hx hb dX6_shown_65 (by decide) (fun _ => ?_) (fun cz => absurd (by decide) cz)
  refine lv_iconst (v := 0) hx hb dX6_shown_72 (by decide) ?_
  refine lv_iadd hx hb dX6_shown_73 ?_
  refine lv_topi (fun y78 ey78 => ?_)
  obtain rfl : y78 = 0 := ey78.trans (by decide)
  refine lv_istore_n (lv' := [(1, .int 0), (3, .ref h12), (2, .int 2), (0, .ref h0)]) hx hb dX6_shown_74 rfl hl (by decide) rfl (fun ls hl => ?_)
  refine lv_iinc (v := 3) (lv' := [(2, .int 3), (1, .int 0), (3, .ref h12), (0, .ref h0)]) hx hb dX6_shown_75 hl (k := 2) rfl (by decide) (by decide) rfl (fun ls hl => ?_)
  refine lv_goto (tgt := 4) hx hb dX6_shown_78 (by decide) ?_
  refine lv_iload_n hx hb dX6_shown_4 rfl (lv_at hl 0 rfl) ?_
  refine lv_aload_n hx hb dX6_shown_5 rfl (lv_at hl 3 rfl) ?_
  refine va_get (D := (dC, dI)) (ci := 6) (v := .ref h1) (C := RX6) (T := TX6) (N := 3) hx hb hts in_X6 hown hK hP 0 rfl rfl 0 (by decide) (hts _ q_34) (fun _ h9 => h9) rfl dX6_shown_6 ?_
  refine va_get (D := (dC, dI)) (ci := 2) (v := .ref h3) (C := RX0) (T := TX0) (N := 4) hx hb hts in_X0 hown hK hP 3 rfl rfl 0 (by decide) (hts _ q_83) (fun _ h9 => h9) rfl dX6_shown_9 ?_
  have hM81 := k20_size l hl9 dC dI z h3 h7 H76.size 7 7
  obtain ⟨hF79, hC82⟩ := pc_M hM81 hP hD hK hS hX hT hA [5] [] rfl rfl rfl
  refine va_calli (va_runV (As := []) (rest := [.int 3]) ⟨hx, hb, hml, hown, hts⟩ hM81 (cwV 0 hts (gV q_76 q_77 q_78 q_12 q_75) rfl rfl rfl hV_Jx4a65c_size_8abf5 ⟨Nat.le_of_ble_eq_true rfl, Nat.le_of_ble_eq_true rfl⟩) ⟨pc_blind, va_recv hK hP (ci := 0) (q := (RJx4a65c, TJx4a65c, 3)) (q0 := 5) rfl rfl, fun U hU hW => ⟨rfl, hC82 U hU hW⟩⟩ rfl rfl hl.1 rfl (lv_room (Nat.le_of_ble_eq_true rfl)) dX6_shown_12 ⟨(Nat.le_of_ble_eq_true rfl), (Nat.le_of_ble_eq_true rfl)⟩) hS (fun q9 _ h9 => hF79 q9 h9) hF79 (fun r84 u83 t83 H83 L83 ht83 hvm83 hw83 hB83 hz83 hk83 hS => ?_)
  have hP := pq_keep hP hD [5] rfl hk83 hB83.1 ht83
  have hG : s.heap.size + 0 ≤ H83.size := Nat.le_trans hG hz83
  refine W.eq (g2 := F0 m 15 ls [.int 7, .int 3]) (by rw [hw83]) ?_
  refine lv_icmp_ge (tgt := 81) hx hb dX6_shown_15 (by decide) (fun cz => absurd cz (by decide)) (fun _ => ?_)
  refine lv_aload_n hx hb dX6_shown_18 rfl (lv_at hl 3 rfl) ?_
  refine va_get (D := (dC, dI)) (ci := 6) (v := .ref h1) (C := RX6) (T := TX6) (N := 3) hx hb hts in_X6 hown hK hP 0 rfl rfl 0 (by decide) (hts _ q_34) (fun _ h9 => h9) rfl dX6_shown_19 ?_
  refine va_get (D := (dC, dI)) (ci := 2) (v := .ref h3) (C := RX0) (T := TX0) (N := 4) hx hb hts in_X0 hown hK hP 3 rfl rfl 0 (by decide) (hts _ q_83) (fun _ h9 => h9) rfl dX6_shown_22 ?_
  refine lv_iload_n hx hb dX6_shown_25 rfl (lv_at hl 0 rfl) ?_
  have hM87 := k644_get l hl9 dC dI z h3 h7 h10 h11 h12 h13 h14 h15 h16 H83.size kc1
  obtain ⟨hF85, hC88⟩ := pc_M hM87 hP hD hK hS hX hT hA [5, 8] [1] rfl rfl rfl
  refine va_callr (va_runV (As := [.int 3]) (rest := []) ⟨hx, hb, hml, hown, hts⟩ hM87 (cwV 1 hts (gV q_381 q_157 q_158 q_12 q_155) rfl rfl rfl hV_Jx4a65c_get_915e3 ⟨Nat.le_of_ble_eq_true rfl, Nat.le_of_ble_eq_true rfl⟩) ⟨pc_blind, va_recv hK hP (ci := 0) (q := (RJx4a65c, TJx4a65c, 3)) (q0 := 5) rfl rfl, fun U hU hW => ⟨rfl, hC88 U hU hW⟩⟩ rfl rfl hl.1 rfl (lv_room (Nat.le_of_ble_eq_true rfl)) dX6_shown_26 ⟨(Nat.le_of_ble_eq_true rfl), (Nat.le_of_ble_eq_true rfl)⟩) hS (fun q9 _ h9 => hF85 q9 h9) hF85 (fun u89 r90 t89 H89 L89 ht89 hvm89 hw89 hB89 hz89 hk89 hS => ?_)
  obtain ⟨hr89, hB89⟩ := hB89
  have hP := pq_keep hP hD [5, 8] rfl hk89 hB89.1 ht89
  have hG : s.heap.size + 0 ≤ H89.size := Nat.le_trans hG hz89
  refine W.eq (g2 := F0 m 29 ls [.ref h13]) (by rw [hr89]) ?_
  refine va_castE (nm := RX2) hx hb hown (hts _ q_382) (va_recv hK hP (ci := 3) (q := (RX2, TX2, 19)) (q0 := 13) rfl rfl) dX6_shown_29 ?_
  refine lv_astore_n (lv' := [(3, .ref h13), (2, .int 3), (1, .int 0), (0, .ref h0)]) hx hb dX6_shown_32 rfl hl (by decide) rfl (fun ls hl => ?_)
  refine lv_iload_n hx hb dX6_shown_33 rfl (lv_at hl 2 rfl) ?_
  refine lv_aload_n hx hb dX6_shown_34 rfl (lv_at hl 3 rfl) ?_
  refine va_get (D := (dC, dI)) (ci := 6) (v := .ref h2) (C := RX6) (T := TX6) (N := 3) hx hb hts in_X6 hown hK hP 0 rfl rfl 2 (by decide) (hts _ q_54) (fun _ h9 => h9) rfl dX6_shown_35 ?_
  refine lv_aload_n hx hb dX6_shown_38 rfl (lv_at hl 0 rfl) ?_
  refine lv_bipush (v := 48) hx hb dX6_shown_39 (by decide) ?_
  have hM93 := k899_isShownBySomeTest l hl9 dC dI z h2 h13 h1 h6 h4 h5 h8 h9 h10 h11 h12 h14 h15 h16 o5 h3 o1 o2 o3 o4 o6 o7 o8 H89.size kc0 kc2 kc3
  obtain ⟨hF91, hC94⟩ := pc_M hM93 hP hD hK hS hX hT hA [1, 13, 3, 4, 6, 7, 9, 10, 11, 12, 2, 14, 15, 16] [0, 2, 3] rfl rfl rfl
  refine va_calli (va_runV (As := [.ref h13, .int 48]) (rest := [.int 0]) ⟨hx, hb, hml, hown, hts⟩ hM93 (cwV 2 hts (gV q_396 q_397 q_398 q_46 q_395) rfl rfl rfl hV_X4_isShownBySomeTest ⟨Nat.le_of_ble_eq_true rfl, Nat.le_of_ble_eq_true rfl⟩) ⟨pc_blind, va_recv hK hP (ci := 4) (q := (RX4, TX4, 3)) (q0 := 1) rfl rfl, fun U hU hW => ⟨rfl, hC94 U hU hW⟩⟩ rfl rfl hl.1 rfl (lv_room (Nat.le_of_ble_eq_true rfl)) dX6_shown_41 ⟨(Nat.le_of_ble_eq_true rfl), (Nat.le_of_ble_eq_true rfl)⟩) hS (fun q9 _ h9 => hF91 q9 h9) hF91 (fun r96 u95 t95 H95 L95 ht95 hvm95 hw95 hB95 hz95 hk95 hS => ?_)
  obtain ⟨hP, hD, hK⟩ := pq_jn (wz := [(h0, ce16 h1 o0 h2), (h3, ce331 h7), (h7, ce330 kc1 h10 h11 h12 h13 h14 h15 h16), (h2, ce417 h1 h6), (h13, ce430 (z.2.1 0) o5 h13), (h1, ce7 h3 h4 o1 h5), (h6, ce416 kc0), (h4, ce331 h8), (h5, ce366 h9), (h8, ce330 kc2 h10 h11 h12 h13 h14 h15 h16), (h9, ce330 kc3 h10 h11 h12 h13 h14 h15 h16), (h10, ce427 (z.2.1 0) o2 h10), (h11, ce428 (z.2.1 0) o3 h11), (h12, ce429 (z.2.1 0) o4 h12), (h14, ce431 (z.2.1 0) o6 h14), (h15, ce432 (z.2.1 0) o7 h15), (h16, ce433 (z.2.1 0) o8 h16)]) (tz := [(kc1, .object "java/lang/Object"), (kc0, .int), (kc2, .object "java/lang/Object"), (kc3, .object "java/lang/Object")]) hP hD hK [1, 13, 3, 4, 6, 7, 9, 10, 11, 12, 2, 14, 15, 16] [1] rfl hk95 hF91 hB95.1 ht95 hvm95 rfl rfl
  have hG : s.heap.size + 0 ≤ H95.size := Nat.le_trans hG hz95
  refine W.eq (g2 := F0 m 44 ls [.int 0, .int 0]) (by rw [hw95]) ?_
  refine lv_if_eq (tgt := 51) hx hb dX6_shown_44 (by decide) (fun _ => ?_) (fun cz => absurd (by decide) cz)
  refine lv_iconst (v := 0) hx hb dX6_shown_51 (by decide) ?_
  refine lv_iadd hx hb dX6_shown_52 ?_
  refine lv_topi (fun y97 ey97 => ?_)
  obtain rfl : y97 = 0 := ey97.trans (by decide)
  refine lv_istore_n (lv' := [(1, .int 0), (3, .ref h13), (2, .int 3), (0, .ref h0)]) hx hb dX6_shown_53 rfl hl (by decide) rfl (fun ls hl => ?_)
  refine lv_iload_n hx hb dX6_shown_54 rfl (lv_at hl 0 rfl) ?_
  refine lv_aload_n hx hb dX6_shown_55 rfl (lv_at hl 3 rfl) ?_
  refine va_get (D := (dC, dI)) (ci := 6) (v := .ref h2) (C := RX6) (T := TX6) (N := 3) hx hb hts in_X6 hown hK hP 0 rfl rfl 2 (by decide) (hts _ q_54) (fun _ h9 => h9) rfl dX6_shown_56 ?_
  refine lv_aload_n hx hb dX6_shown_59 rfl (lv_at hl 1 rfl) ?_
  refine lv_bipush (v := 49) hx hb dX6_shown_60 (by decide) ?_
  have hM100 := k907_isShownBySomeTest l hl9 dC dI z h2 h13 h1 h6 h3 h4 h5 h7 h8 h9 h10 h11 h12 h14 h15 h16 o5 o1 o2 o3 o4 o6 o7 o8 H95.size kc0 kc1 kc2 kc3
  obtain ⟨hF98, hC101⟩ := pc_M hM100 hP hD hK hS hX hT hA [3, 4, 5, 6, 1, 7, 8, 2, 9, 10, 11, 12, 13, 14, 15, 16] [1, 0, 2, 3] rfl rfl rfl
  refine va_calli (va_runV (As := [.ref h13, .int 49]) (rest := [.int 0]) ⟨hx, hb, hml, hown, hts⟩ hM100 (cwV 2 hts (gV q_396 q_397 q_398 q_46 q_395) rfl rfl rfl hV_X4_isShownBySomeTest ⟨Nat.le_of_ble_eq_true rfl, Nat.le_of_ble_eq_true rfl⟩) ⟨pc_blind, va_recv hK hP (ci := 4) (q := (RX4, TX4, 3)) (q0 := 3) rfl rfl, fun U hU hW => ⟨rfl, hC101 U hU hW⟩⟩ rfl rfl hl.1 rfl (lv_room (Nat.le_of_ble_eq_true rfl)) dX6_shown_62 ⟨(Nat.le_of_ble_eq_true rfl), (Nat.le_of_ble_eq_true rfl)⟩) hS (fun q9 _ h9 => hF98 q9 h9) hF98 (fun r103 u102 t102 H102 L102 ht102 hvm102 hw102 hB102 hz102 hk102 hS => ?_)
  obtain ⟨hP, hD, hK⟩ := pq_jn (wz := [(h0, ce16 h1 o0 h2), (h2, ce417 h1 h6), (h13, ce437 (z.2.1 0) o5 h13), (h1, ce7 h3 h4 o1 h5), (h6, ce416 kc0), (h3, ce331 h7), (h4, ce331 h8), (h5, ce366 h9), (h7, ce330 kc1 h10 h11 h12 h13 h14 h15 h16), (h8, ce330 kc2 h10 h11 h12 h13 h14 h15 h16), (h9, ce330 kc3 h10 h11 h12 h13 h14 h15 h16), (h10, ce427 (z.2.1 0) o2 h10), (h11, ce428 (z.2.1 0) o3 h11), (h12, ce429 (z.2.1 0) o4 h12), (h14, ce431 (z.2.1 0) o6 h14), (h15, ce432 (z.2.1 0) o7 h15), (h16, ce433 (z.2.1 0) o8 h16)]) (tz := [(kc0, .int), (kc1, .object "java/lang/Object"), (kc2, .object "java/lang/Object"), (kc3, .object "java/lang/Object")]) hP hD hK [3, 4, 5, 6, 1, 7, 8, 2, 9, 10, 11, 12, 13, 14, 15, 16] [] rfl hk102 hF98 hB102.1 ht102 hvm102 rfl rfl
  have hG : s.heap.size + 0 ≤ H102.size := Nat.le_trans hG hz102
  refine W.eq (g2 := F0 m 65 ls [.int 0, .int 0]) (by rw [hw102]) ?_
  refine lv_if_eq (tgt := 72) hx hb dX6_shown_65 (by decide) (fun _ => ?_) (fun cz => absurd (by decide) cz)
  refine lv_iconst (v := 0) hx hb dX6_shown_72 (by decide) ?_
  refine lv_iadd hx hb dX6_shown_73 ?_
  refine lv_topi (fun y104 ey104 => ?_)
  obtain rfl : y104 = 0 := ey104.trans (by decide)
  refine lv_istore_n (lv' := [(1, .int 0), (3, .ref h13), (2, .int 3), (0, .ref h0)]) hx hb dX6_shown_74 rfl hl (by decide) rfl (fun ls hl => ?_)
  refine lv_iinc (v := 4) (lv' := [(2, .int 4), (1, .int 0), (3, .ref h13), (0, .ref h0)]) hx hb dX6_shown_75 hl (k := 2) rfl (by decide) (by decide) rfl (fun ls hl => ?_)
  refine lv_goto (tgt := 4) hx hb dX6_shown_78 (by decide) ?_
  refine lv_iload_n hx hb dX6_shown_4 rfl (lv_at hl 0 rfl) ?_
  refine lv_aload_n hx hb dX6_shown_5 rfl (lv_at hl 3 rfl) ?_
  refine va_get (D := (dC, dI)) (ci := 6) (v := .ref h1) (C := RX6) (T := TX6) (N := 3) hx hb hts in_X6 hown hK hP 0 rfl rfl 0 (by decide) (hts _ q_34) (fun _ h9 => h9) rfl dX6_shown_6 ?_
  refine va_get (D := (dC, dI)) (ci := 2) (v := .ref h3) (C := RX0) (T := TX0) (N := 4) hx hb hts in_X0 hown hK hP 3 rfl rfl 0 (by decide) (hts _ q_83) (fun _ h9 => h9) rfl dX6_shown_9 ?_
  have hM107 := k20_size l hl9 dC dI z h3 h7 H102.size 7 7
  obtain ⟨hF105, hC108⟩ := pc_M hM107 hP hD hK hS hX hT hA [5] [] rfl rfl rfl
  refine va_calli (va_runV (As := []) (rest := [.int 4]) ⟨hx, hb, hml, hown, hts⟩ hM107 (cwV 0 hts (gV q_76 q_77 q_78 q_12 q_75) rfl rfl rfl hV_Jx4a65c_size_8abf5 ⟨Nat.le_of_ble_eq_true rfl, Nat.le_of_ble_eq_true rfl⟩) ⟨pc_blind, va_recv hK hP (ci := 0) (q := (RJx4a65c, TJx4a65c, 3)) (q0 := 5) rfl rfl, fun U hU hW => ⟨rfl, hC108 U hU hW⟩⟩ rfl rfl hl.1 rfl (lv_room (Nat.le_of_ble_eq_true rfl)) dX6_shown_12 ⟨(Nat.le_of_ble_eq_true rfl), (Nat.le_of_ble_eq_true rfl)⟩) hS (fun q9 _ h9 => hF105 q9 h9) hF105 (fun r110 u109 t109 H109 L109 ht109 hvm109 hw109 hB109 hz109 hk109 hS => ?_)
  have hP := pq_keep hP hD [5] rfl hk109 hB109.1 ht109
  have hG : s.heap.size + 0 ≤ H109.size := Nat.le_trans hG hz109
  refine W.eq (g2 := F0 m 15 ls [.int 7, .int 4]) (by rw [hw109]) ?_
  refine lv_icmp_ge (tgt := 81) hx hb dX6_shown_15 (by decide) (fun cz => absurd cz (by decide)) (fun _ => ?_)
  refine lv_aload_n hx hb dX6_shown_18 rfl (lv_at hl 3 rfl) ?_
  refine va_get (D := (dC, dI)) (ci := 6) (v := .ref h1) (C := RX6) (T := TX6) (N := 3) hx hb hts in_X6 hown hK hP 0 rfl rfl 0 (by decide) (hts _ q_34) (fun _ h9 => h9) rfl dX6_shown_19 ?_
  refine va_get (D := (dC, dI)) (ci := 2) (v := .ref h3) (C := RX0) (T := TX0) (N := 4) hx hb hts in_X0 hown hK hP 3 rfl rfl 0 (by decide) (hts _ q_83) (fun _ h9 => h9) rfl dX6_shown_22 ?_
  refine lv_iload_n hx hb dX6_shown_25 rfl (lv_at hl 0 rfl) ?_
  have hM113 := k648_get l hl9 dC dI z h3 h7 h10 h11 h12 h13 h14 h15 h16 H109.size kc1
  obtain ⟨hF111, hC114⟩ := pc_M hM113 hP hD hK hS hX hT hA [5, 8] [1] rfl rfl rfl
  refine va_callr (va_runV (As := [.int 4]) (rest := []) ⟨hx, hb, hml, hown, hts⟩ hM113 (cwV 1 hts (gV q_381 q_157 q_158 q_12 q_155) rfl rfl rfl hV_Jx4a65c_get_915e3 ⟨Nat.le_of_ble_eq_true rfl, Nat.le_of_ble_eq_true rfl⟩) ⟨pc_blind, va_recv hK hP (ci := 0) (q := (RJx4a65c, TJx4a65c, 3)) (q0 := 5) rfl rfl, fun U hU hW => ⟨rfl, hC114 U hU hW⟩⟩ rfl rfl hl.1 rfl (lv_room (Nat.le_of_ble_eq_true rfl)) dX6_shown_26 ⟨(Nat.le_of_ble_eq_true rfl), (Nat.le_of_ble_eq_true rfl)⟩) hS (fun q9 _ h9 => hF111 q9 h9) hF111 (fun u115 r116 t115 H115 L115 ht115 hvm115 hw115 hB115 hz115 hk115 hS => ?_)
  obtain ⟨hr115, hB115⟩ := hB115
  have hP := pq_keep hP hD [5, 8] rfl hk115 hB115.1 ht115
  have hG : s.heap.size + 0 ≤ H115.size := Nat.le_trans hG hz115
  refine W.eq (g2 := F0 m 29 ls [.ref h14]) (by rw [hr115]) ?_
  refine va_castE (nm := RX2) hx hb hown (hts _ q_382) (va_recv hK hP (ci := 3) (q := (RX2, TX2, 19)) (q0 := 14) rfl rfl) dX6_shown_29 ?_
  refine lv_astore_n (lv' := [(3, .ref h14), (2, .int 4), (1, .int 0), (0, .ref h0)]) hx hb dX6_shown_32 rfl hl (by decide) rfl (fun ls hl => ?_)
  refine lv_iload_n hx hb dX6_shown_33 rfl (lv_at hl 2 rfl) ?_
  refine lv_aload_n hx hb dX6_shown_34 rfl (lv_at hl 3 rfl) ?_
  refine va_get (D := (dC, dI)) (ci := 6) (v := .ref h2) (C := RX6) (T := TX6) (N := 3) hx hb hts in_X6 hown hK hP 0 rfl rfl 2 (by decide) (hts _ q_54) (fun _ h9 => h9) rfl dX6_shown_35 ?_
  refine lv_aload_n hx hb dX6_shown_38 rfl (lv_at hl 0 rfl) ?_
  refine lv_bipush (v := 48) hx hb dX6_shown_39 (by decide) ?_
  have hM119 := k910_isShownBySomeTest l hl9 dC dI z h2 h14 h1 h6 h4 h5 h8 h9 h10 h11 h12 h13 h15 h16 o6 h3 o1 o2 o3 o4 o5 o7 o8 H115.size kc0 kc2 kc3
  obtain ⟨hF117, hC120⟩ := pc_M hM119 hP hD hK hS hX hT hA [1, 14, 3, 4, 6, 7, 9, 10, 11, 12, 13, 2, 15, 16] [0, 2, 3] rfl rfl rfl
  refine va_calli (va_runV (As := [.ref h14, .int 48]) (rest := [.int 0]) ⟨hx, hb, hml, hown, hts⟩ hM119 (cwV 2 hts (gV q_396 q_397 q_398 q_46 q_395) rfl rfl rfl hV_X4_isShownBySomeTest ⟨Nat.le_of_ble_eq_true rfl, Nat.le_of_ble_eq_true rfl⟩) ⟨pc_blind, va_recv hK hP (ci := 4) (q := (RX4, TX4, 3)) (q0 := 1) rfl rfl, fun U hU hW => ⟨rfl, hC120 U hU hW⟩⟩ rfl rfl hl.1 rfl (lv_room (Nat.le_of_ble_eq_true rfl)) dX6_shown_41 ⟨(Nat.le_of_ble_eq_true rfl), (Nat.le_of_ble_eq_true rfl)⟩) hS (fun q9 _ h9 => hF117 q9 h9) hF117 (fun r122 u121 t121 H121 L121 ht121 hvm121 hw121 hB121 hz121 hk121 hS => ?_)
  obtain ⟨hP, hD, hK⟩ := pq_jn (wz := [(h0, ce16 h1 o0 h2), (h3, ce331 h7), (h7, ce330 kc1 h10 h11 h12 h13 h14 h15 h16), (h2, ce417 h1 h6), (h14, ce431 (z.2.1 0) o6 h14), (h1, ce7 h3 h4 o1 h5), (h6, ce416 kc0), (h4, ce331 h8), (h5, ce366 h9), (h8, ce330 kc2 h10 h11 h12 h13 h14 h15 h16), (h9, ce330 kc3 h10 h11 h12 h13 h14 h15 h16), (h10, ce427 (z.2.1 0) o2 h10), (h11, ce428 (z.2.1 0) o3 h11), (h12, ce429 (z.2.1 0) o4 h12), (h13, ce430 (z.2.1 0) o5 h13), (h15, ce432 (z.2.1 0) o7 h15), (h16, ce433 (z.2.1 0) o8 h16)]) (tz := [(kc1, .object "java/lang/Object"), (kc0, .int), (kc2, .object "java/lang/Object"), (kc3, .object "java/lang/Object")]) hP hD hK [1, 14, 3, 4, 6, 7, 9, 10, 11, 12, 13, 2, 15, 16] [1] rfl hk121 hF117 hB121.1 ht121 hvm121 rfl rfl
  have hG : s.heap.size + 0 ≤ H121.size := Nat.le_trans hG hz121
  refine W.eq (g2 := F0 m 44 ls [.int 0, .int 0]) (by rw [hw121]) ?_
  refine lv_if_eq (tgt := 51) hx hb dX6_shown_44 (by decide) (fun _ => ?_) (fun cz => absurd (by decide) cz)
  refine lv_iconst (v := 0) hx hb dX6_shown_51 (by decide) ?_
  refine lv_iadd hx hb dX6_shown_52 ?_
  refine lv_topi (fun y123 ey123 => ?_)
  obtain rfl : y123 = 0 := ey123.trans (by decide)
  refine lv_istore_n (lv' := [(1, .int 0), (3, .ref h14), (2, .int 4), (0, .ref h0)]) hx hb dX6_shown_53 rfl hl (by decide) rfl (fun ls hl => ?_)
  refine lv_iload_n hx hb dX6_shown_54 rfl (lv_at hl 0 rfl) ?_
  refine lv_aload_n hx hb dX6_shown_55 rfl (lv_at hl 3 rfl) ?_
  refine va_get (D := (dC, dI)) (ci := 6) (v := .ref h2) (C := RX6) (T := TX6) (N := 3) hx hb hts in_X6 hown hK hP 0 rfl rfl 2 (by decide) (hts _ q_54) (fun _ h9 => h9) rfl dX6_shown_56 ?_
  refine lv_aload_n hx hb dX6_shown_59 rfl (lv_at hl 1 rfl) ?_
  refine lv_bipush (v := 49) hx hb dX6_shown_60 (by decide) ?_
  have hM126 := k918_isShownBySomeTest l hl9 dC dI z h2 h14 h1 h6 h3 h4 h5 h7 h8 h9 h10 h11 h12 h13 h15 h16 o6 o1 o2 o3 o4 o5 o7 o8 H121.size kc0 kc1 kc2 kc3
  obtain ⟨hF124, hC127⟩ := pc_M hM126 hP hD hK hS hX hT hA [3, 4, 5, 6, 1, 7, 8, 2, 9, 10, 11, 12, 13, 14, 15, 16] [1, 0, 2, 3] rfl rfl rfl
  refine va_calli (va_runV (As := [.ref h14, .int 49]) (rest := [.int 0]) ⟨hx, hb, hml, hown, hts⟩ hM126 (cwV 2 hts (gV q_396 q_397 q_398 q_46 q_395) rfl rfl rfl hV_X4_isShownBySomeTest ⟨Nat.le_of_ble_eq_true rfl, Nat.le_of_ble_eq_true rfl⟩) ⟨pc_blind, va_recv hK hP (ci := 4) (q := (RX4, TX4, 3)) (q0 := 3) rfl rfl, fun U hU hW => ⟨rfl, hC127 U hU hW⟩⟩ rfl rfl hl.1 rfl (lv_room (Nat.le_of_ble_eq_true rfl)) dX6_shown_62 ⟨(Nat.le_of_ble_eq_true rfl), (Nat.le_of_ble_eq_true rfl)⟩) hS (fun q9 _ h9 => hF124 q9 h9) hF124 (fun r129 u128 t128 H128 L128 ht128 hvm128 hw128 hB128 hz128 hk128 hS => ?_)
  obtain ⟨hP, hD, hK⟩ := pq_jn (wz := [(h0, ce16 h1 o0 h2), (h2, ce417 h1 h6), (h14, ce438 (z.2.1 0) o6 h14), (h1, ce7 h3 h4 o1 h5), (h6, ce416 kc0), (h3, ce331 h7), (h4, ce331 h8), (h5, ce366 h9), (h7, ce330 kc1 h10 h11 h12 h13 h14 h15 h16), (h8, ce330 kc2 h10 h11 h12 h13 h14 h15 h16), (h9, ce330 kc3 h10 h11 h12 h13 h14 h15 h16), (h10, ce427 (z.2.1 0) o2 h10), (h11, ce428 (z.2.1 0) o3 h11), (h12, ce429 (z.2.1 0) o4 h12), (h13, ce430 (z.2.1 0) o5 h13), (h15, ce432 (z.2.1 0) o7 h15), (h16, ce433 (z.2.1 0) o8 h16)]) (tz := [(kc0, .int), (kc1, .object "java/lang/Object"), (kc2, .object "java/lang/Object"), (kc3, .object "java/lang/Object")]) hP hD hK [3, 4, 5, 6, 1, 7, 8, 2, 9, 10, 11, 12, 13, 14, 15, 16] [] rfl hk128 hF124 hB128.1 ht128 hvm128 rfl rfl
  have hG : s.heap.size + 0 ≤ H128.size := Nat.le_trans hG hz128
  refine W.eq (g2 := F0 m 65 ls [.int 0, .int 0]) (by rw [hw128]) ?_
  refine lv_if_eq (tgt := 72) hx hb dX6_shown_65 (by decide) (fun _ => ?_) (fun cz => absurd (by decide) cz)
  refine lv_iconst (v := 0) hx hb dX6_shown_72 (by decide) ?_
  refine lv_iadd hx hb dX6_shown_73 ?_
  refine lv_topi (fun y130 ey130 => ?_)
  obtain rfl : y130 = 0 := ey130.trans (by decide)
  refine lv_istore_n (lv' := [(1, .int 0), (3, .ref h14), (2, .int 4), (0, .ref h0)]) hx hb dX6_shown_74 rfl hl (by decide) rfl (fun ls hl => ?_)
  refine lv_iinc (v := 5) (lv' := [(2, .int 5), (1, .int 0), (3, .ref h14), (0, .ref h0)]) hx hb dX6_shown_75 hl (k := 2) rfl (by decide) (by decide) rfl (fun ls hl => ?_)
  refine lv_goto (tgt := 4) hx hb dX6_shown_78 (by decide) ?_
  refine lv_iload_n hx hb dX6_shown_4 rfl (lv_at hl 0 rfl) ?_
  refine lv_aload_n hx hb dX6_shown_5 rfl (lv_at hl 3 rfl) ?_
  refine va_get (D := (dC, dI)) (ci := 6) (v := .ref h1) (C := RX6) (T := TX6) (N := 3) hx hb hts in_X6 hown hK hP 0 rfl rfl 0 (by decide) (hts _ q_34) (fun _ h9 => h9) rfl dX6_shown_6 ?_
  refine va_get (D := (dC, dI)) (ci := 2) (v := .ref h3) (C := RX0) (T := TX0) (N := 4) hx hb hts in_X0 hown hK hP 3 rfl rfl 0 (by decide) (hts _ q_83) (fun _ h9 => h9) rfl dX6_shown_9 ?_
  have hM133 := k20_size l hl9 dC dI z h3 h7 H128.size 7 7
  obtain ⟨hF131, hC134⟩ := pc_M hM133 hP hD hK hS hX hT hA [5] [] rfl rfl rfl
  refine va_calli (va_runV (As := []) (rest := [.int 5]) ⟨hx, hb, hml, hown, hts⟩ hM133 (cwV 0 hts (gV q_76 q_77 q_78 q_12 q_75) rfl rfl rfl hV_Jx4a65c_size_8abf5 ⟨Nat.le_of_ble_eq_true rfl, Nat.le_of_ble_eq_true rfl⟩) ⟨pc_blind, va_recv hK hP (ci := 0) (q := (RJx4a65c, TJx4a65c, 3)) (q0 := 5) rfl rfl, fun U hU hW => ⟨rfl, hC134 U hU hW⟩⟩ rfl rfl hl.1 rfl (lv_room (Nat.le_of_ble_eq_true rfl)) dX6_shown_12 ⟨(Nat.le_of_ble_eq_true rfl), (Nat.le_of_ble_eq_true rfl)⟩) hS (fun q9 _ h9 => hF131 q9 h9) hF131 (fun r136 u135 t135 H135 L135 ht135 hvm135 hw135 hB135 hz135 hk135 hS => ?_)
  have hP := pq_keep hP hD [5] rfl hk135 hB135.1 ht135
  have hG : s.heap.size + 0 ≤ H135.size := Nat.le_trans hG hz135
  refine W.eq (g2 := F0 m 15 ls [.int 7, .int 5]) (by rw [hw135]) ?_
  refine lv_icmp_ge (tgt := 81) hx hb dX6_shown_15 (by decide) (fun cz => absurd cz (by decide)) (fun _ => ?_)
  refine lv_aload_n hx hb dX6_shown_18 rfl (lv_at hl 3 rfl) ?_
  refine va_get (D := (dC, dI)) (ci := 6) (v := .ref h1) (C := RX6) (T := TX6) (N := 3) hx hb hts in_X6 hown hK hP 0 rfl rfl 0 (by decide) (hts _ q_34) (fun _ h9 => h9) rfl dX6_shown_19 ?_
  refine va_get (D := (dC, dI)) (ci := 2) (v := .ref h3) (C := RX0) (T := TX0) (N := 4) hx hb hts in_X0 hown hK hP 3 rfl rfl 0 (by decide) (hts _ q_83) (fun _ h9 => h9) rfl dX6_shown_22 ?_
  refine lv_iload_n hx hb dX6_shown_25 rfl (lv_at hl 0 rfl) ?_
  have hM139 := k652_get l hl9 dC dI z h3 h7 h10 h11 h12 h13 h14 h15 h16 H135.size kc1
  obtain ⟨hF137, hC140⟩ := pc_M hM139 hP hD hK hS hX hT hA [5, 8] [1] rfl rfl rfl
  refine va_callr (va_runV (As := [.int 5]) (rest := []) ⟨hx, hb, hml, hown, hts⟩ hM139 (cwV 1 hts (gV q_381 q_157 q_158 q_12 q_155) rfl rfl rfl hV_Jx4a65c_get_915e3 ⟨Nat.le_of_ble_eq_true rfl, Nat.le_of_ble_eq_true rfl⟩) ⟨pc_blind, va_recv hK hP (ci := 0) (q := (RJx4a65c, TJx4a65c, 3)) (q0 := 5) rfl rfl, fun U hU hW => ⟨rfl, hC140 U hU hW⟩⟩ rfl rfl hl.1 rfl (lv_room (Nat.le_of_ble_eq_true rfl)) dX6_shown_26 ⟨(Nat.le_of_ble_eq_true rfl), (Nat.le_of_ble_eq_true rfl)⟩) hS (fun q9 _ h9 => hF137 q9 h9) hF137 (fun u141 r142 t141 H141 L141 ht141 hvm141 hw141 hB141 hz141 hk141 hS => ?_)
  obtain ⟨hr141, hB141⟩ := hB141
  have hP := pq_keep hP hD [5, 8] rfl hk141 hB141.1 ht141
  have hG : s.heap.size + 0 ≤ H141.size := Nat.le_trans hG hz141
  refine W.eq (g2 := F0 m 29 ls [.ref h15]) (by rw [hr141]) ?_
  refine va_castE (nm := RX2) hx hb hown (hts _ q_382) (va_recv hK hP (ci := 3) (q := (RX2, TX2, 19)) (q0 := 15) rfl rfl) dX6_shown_29 ?_
  refine lv_astore_n (lv' := [(3, .ref h15), (2, .int 5), (1, .int 0), (0, .ref h0)]) hx hb dX6_shown_32 rfl hl (by decide) rfl (fun ls hl => ?_)
  refine lv_iload_n hx hb dX6_shown_33 rfl (lv_at hl 2 rfl) ?_
  refine lv_aload_n hx hb dX6_shown_34 rfl (lv_at hl 3 rfl) ?_
  refine va_get (D := (dC, dI)) (ci := 6) (v := .ref h2) (C := RX6) (T := TX6) (N := 3) hx hb hts in_X6 hown hK hP 0 rfl rfl 2 (by decide) (hts _ q_54) (fun _ h9 => h9) rfl dX6_shown_35 ?_
  refine lv_aload_n hx hb dX6_shown_38 rfl (lv_at hl 0 rfl) ?_
  refine lv_bipush (v := 48) hx hb dX6_shown_39 (by decide) ?_
  have hM145 := k921_isShownBySomeTest l hl9 dC dI z h2 h15 h1 h6 h4 h5 h8 h9 h10 h11 h12 h13 h14 h16 o7 h3 o1 o2 o3 o4 o5 o6 o8 H141.size kc0 kc2 kc3
  obtain ⟨hF143, hC146⟩ := pc_M hM145 hP hD hK hS hX hT hA [1, 15, 3, 4, 6, 7, 9, 10, 11, 12, 13, 14, 2, 16] [0, 2, 3] rfl rfl rfl
  refine va_calli (va_runV (As := [.ref h15, .int 48]) (rest := [.int 0]) ⟨hx, hb, hml, hown, hts⟩ hM145 (cwV 2 hts (gV q_396 q_397 q_398 q_46 q_395) rfl rfl rfl hV_X4_isShownBySomeTest ⟨Nat.le_of_ble_eq_true rfl, Nat.le_of_ble_eq_true rfl⟩) ⟨pc_blind, va_recv hK hP (ci := 4) (q := (RX4, TX4, 3)) (q0 := 1) rfl rfl, fun U hU hW => ⟨rfl, hC146 U hU hW⟩⟩ rfl rfl hl.1 rfl (lv_room (Nat.le_of_ble_eq_true rfl)) dX6_shown_41 ⟨(Nat.le_of_ble_eq_true rfl), (Nat.le_of_ble_eq_true rfl)⟩) hS (fun q9 _ h9 => hF143 q9 h9) hF143 (fun r148 u147 t147 H147 L147 ht147 hvm147 hw147 hB147 hz147 hk147 hS => ?_)
  obtain ⟨hP, hD, hK⟩ := pq_jn (wz := [(h0, ce16 h1 o0 h2), (h3, ce331 h7), (h7, ce330 kc1 h10 h11 h12 h13 h14 h15 h16), (h2, ce417 h1 h6), (h15, ce432 (z.2.1 0) o7 h15), (h1, ce7 h3 h4 o1 h5), (h6, ce416 kc0), (h4, ce331 h8), (h5, ce366 h9), (h8, ce330 kc2 h10 h11 h12 h13 h14 h15 h16), (h9, ce330 kc3 h10 h11 h12 h13 h14 h15 h16), (h10, ce427 (z.2.1 0) o2 h10), (h11, ce428 (z.2.1 0) o3 h11), (h12, ce429 (z.2.1 0) o4 h12), (h13, ce430 (z.2.1 0) o5 h13), (h14, ce431 (z.2.1 0) o6 h14), (h16, ce433 (z.2.1 0) o8 h16)]) (tz := [(kc1, .object "java/lang/Object"), (kc0, .int), (kc2, .object "java/lang/Object"), (kc3, .object "java/lang/Object")]) hP hD hK [1, 15, 3, 4, 6, 7, 9, 10, 11, 12, 13, 14, 2, 16] [1] rfl hk147 hF143 hB147.1 ht147 hvm147 rfl rfl
  have hG : s.heap.size + 0 ≤ H147.size := Nat.le_trans hG hz147
  refine W.eq (g2 := F0 m 44 ls [.int 0, .int 0]) (by rw [hw147]) ?_
  refine lv_if_eq (tgt := 51) hx hb dX6_shown_44 (by decide) (fun _ => ?_) (fun cz => absurd (by decide) cz)
  refine lv_iconst (v := 0) hx hb dX6_shown_51 (by decide) ?_
  refine lv_iadd hx hb dX6_shown_52 ?_
  refine lv_topi (fun y149 ey149 => ?_)
  obtain rfl : y149 = 0 := ey149.trans (by decide)
  refine lv_istore_n (lv' := [(1, .int 0), (3, .ref h15), (2, .int 5), (0, .ref h0)]) hx hb dX6_shown_53 rfl hl (by decide) rfl (fun ls hl => ?_)
  refine lv_iload_n hx hb dX6_shown_54 rfl (lv_at hl 0 rfl) ?_
  refine lv_aload_n hx hb dX6_shown_55 rfl (lv_at hl 3 rfl) ?_
  refine va_get (D := (dC, dI)) (ci := 6) (v := .ref h2) (C := RX6) (T := TX6) (N := 3) hx hb hts in_X6 hown hK hP 0 rfl rfl 2 (by decide) (hts _ q_54) (fun _ h9 => h9) rfl dX6_shown_56 ?_
  refine lv_aload_n hx hb dX6_shown_59 rfl (lv_at hl 1 rfl) ?_
  refine lv_bipush (v := 49) hx hb dX6_shown_60 (by decide) ?_
  have hM152 := k929_isShownBySomeTest l hl9 dC dI z h2 h15 h1 h6 h3 h4 h5 h7 h8 h9 h10 h11 h12 h13 h14 h16 o7 o1 o2 o3 o4 o5 o6 o8 H147.size kc0 kc1 kc2 kc3
  obtain ⟨hF150, hC153⟩ := pc_M hM152 hP hD hK hS hX hT hA [3, 4, 5, 6, 1, 7, 8, 2, 9, 10, 11, 12, 13, 14, 15, 16] [1, 0, 2, 3] rfl rfl rfl
  refine va_calli (va_runV (As := [.ref h15, .int 49]) (rest := [.int 0]) ⟨hx, hb, hml, hown, hts⟩ hM152 (cwV 2 hts (gV q_396 q_397 q_398 q_46 q_395) rfl rfl rfl hV_X4_isShownBySomeTest ⟨Nat.le_of_ble_eq_true rfl, Nat.le_of_ble_eq_true rfl⟩) ⟨pc_blind, va_recv hK hP (ci := 4) (q := (RX4, TX4, 3)) (q0 := 3) rfl rfl, fun U hU hW => ⟨rfl, hC153 U hU hW⟩⟩ rfl rfl hl.1 rfl (lv_room (Nat.le_of_ble_eq_true rfl)) dX6_shown_62 ⟨(Nat.le_of_ble_eq_true rfl), (Nat.le_of_ble_eq_true rfl)⟩) hS (fun q9 _ h9 => hF150 q9 h9) hF150 (fun r155 u154 t154 H154 L154 ht154 hvm154 hw154 hB154 hz154 hk154 hS => ?_)
  obtain ⟨hP, hD, hK⟩ := pq_jn (wz := [(h0, ce16 h1 o0 h2), (h2, ce417 h1 h6), (h15, ce439 (z.2.1 0) o7 h15), (h1, ce7 h3 h4 o1 h5), (h6, ce416 kc0), (h3, ce331 h7), (h4, ce331 h8), (h5, ce366 h9), (h7, ce330 kc1 h10 h11 h12 h13 h14 h15 h16), (h8, ce330 kc2 h10 h11 h12 h13 h14 h15 h16), (h9, ce330 kc3 h10 h11 h12 h13 h14 h15 h16), (h10, ce427 (z.2.1 0) o2 h10), (h11, ce428 (z.2.1 0) o3 h11), (h12, ce429 (z.2.1 0) o4 h12), (h13, ce430 (z.2.1 0) o5 h13), (h14, ce431 (z.2.1 0) o6 h14), (h16, ce433 (z.2.1 0) o8 h16)]) (tz := [(kc0, .int), (kc1, .object "java/lang/Object"), (kc2, .object "java/lang/Object"), (kc3, .object "java/lang/Object")]) hP hD hK [3, 4, 5, 6, 1, 7, 8, 2, 9, 10, 11, 12, 13, 14, 15, 16] [] rfl hk154 hF150 hB154.1 ht154 hvm154 rfl rfl
  have hG : s.heap.size + 0 ≤ H154.size := Nat.le_trans hG hz154
  refine W.eq (g2 := F0 m 65 ls [.int 0, .int 0]) (by rw [hw154]) ?_
  refine lv_if_eq (tgt := 72) hx hb dX6_shown_65 (by decide) (fun _ => ?_) (fun cz => absurd (by decide) cz)
  refine lv_iconst (v := 0) hx hb dX6_shown_72 (by decide) ?_
  refine lv_iadd hx hb dX6_shown_73 ?_
  refine lv_topi (fun y156 ey156 => ?_)
  obtain rfl : y156 = 0 := ey156.trans (by decide)
  refine lv_istore_n (lv' := [(1, .int 0), (3, .ref h15), (2, .int 5), (0, .ref h0)]) hx hb dX6_shown_74 rfl hl (by decide) rfl (fun ls hl => ?_)
  refine lv_iinc (v := 6) (lv' := [(2, .int 6), (1, .int 0), (3, .ref h15), (0, .ref h0)]) hx hb dX6_shown_75 hl (k := 2) rfl (by decide) (by decide) rfl (fun ls hl => ?_)
  refine lv_goto (tgt := 4) hx hb dX6_shown_78 (by decide) ?_
  refine lv_iload_n hx hb dX6_shown_4 rfl (lv_at hl 0 rfl) ?_
  refine lv_aload_n hx hb dX6_shown_5 rfl (lv_at hl 3 rfl) ?_
  refine va_get (D := (dC, dI)) (ci := 6) (v := .ref h1) (C := RX6) (T := TX6) (N := 3) hx hb hts in_X6 hown hK hP 0 rfl rfl 0 (by decide) (hts _ q_34) (fun _ h9 => h9) rfl dX6_shown_6 ?_
  refine va_get (D := (dC, dI)) (ci := 2) (v := .ref h3) (C := RX0) (T := TX0) (N := 4) hx hb hts in_X0 hown hK hP 3 rfl rfl 0 (by decide) (hts _ q_83) (fun _ h9 => h9) rfl dX6_shown_9 ?_
  have hM159 := k20_size l hl9 dC dI z h3 h7 H154.size 7 7
  obtain ⟨hF157, hC160⟩ := pc_M hM159 hP hD hK hS hX hT hA [5] [] rfl rfl rfl
  refine va_calli (va_runV (As := []) (rest := [.int 6]) ⟨hx, hb, hml, hown, hts⟩ hM159 (cwV 0 hts (gV q_76 q_77 q_78 q_12 q_75) rfl rfl rfl hV_Jx4a65c_size_8abf5 ⟨Nat.le_of_ble_eq_true rfl, Nat.le_of_ble_eq_true rfl⟩) ⟨pc_blind, va_recv hK hP (ci := 0) (q := (RJx4a65c, TJx4a65c, 3)) (q0 := 5) rfl rfl, fun U hU hW => ⟨rfl, hC160 U hU hW⟩⟩ rfl rfl hl.1 rfl (lv_room (Nat.le_of_ble_eq_true rfl)) dX6_shown_12 ⟨(Nat.le_of_ble_eq_true rfl), (Nat.le_of_ble_eq_true rfl)⟩) hS (fun q9 _ h9 => hF157 q9 h9) hF157 (fun r162 u161 t161 H161 L161 ht161 hvm161 hw161 hB161 hz161 hk161 hS => ?_)
  have hP := pq_keep hP hD [5] rfl hk161 hB161.1 ht161
  have hG : s.heap.size + 0 ≤ H161.size := Nat.le_trans hG hz161
  refine W.eq (g2 := F0 m 15 ls [.int 7, .int 6]) (by rw [hw161]) ?_
  refine lv_icmp_ge (tgt := 81) hx hb dX6_shown_15 (by decide) (fun cz => absurd cz (by decide)) (fun _ => ?_)
  refine lv_aload_n hx hb dX6_shown_18 rfl (lv_at hl 3 rfl) ?_
  refine va_get (D := (dC, dI)) (ci := 6) (v := .ref h1) (C := RX6) (T := TX6) (N := 3) hx hb hts in_X6 hown hK hP 0 rfl rfl 0 (by decide) (hts _ q_34) (fun _ h9 => h9) rfl dX6_shown_19 ?_
  refine va_get (D := (dC, dI)) (ci := 2) (v := .ref h3) (C := RX0) (T := TX0) (N := 4) hx hb hts in_X0 hown hK hP 3 rfl rfl 0 (by decide) (hts _ q_83) (fun _ h9 => h9) rfl dX6_shown_22 ?_
  refine lv_iload_n hx hb dX6_shown_25 rfl (lv_at hl 0 rfl) ?_
  have hM165 := k656_get l hl9 dC dI z h3 h7 h10 h11 h12 h13 h14 h15 h16 H161.size kc1
  obtain ⟨hF163, hC166⟩ := pc_M hM165 hP hD hK hS hX hT hA [5, 8] [1] rfl rfl rfl
  refine va_callr (va_runV (As := [.int 6]) (rest := []) ⟨hx, hb, hml, hown, hts⟩ hM165 (cwV 1 hts (gV q_381 q_157 q_158 q_12 q_155) rfl rfl rfl hV_Jx4a65c_get_915e3 ⟨Nat.le_of_ble_eq_true rfl, Nat.le_of_ble_eq_true rfl⟩) ⟨pc_blind, va_recv hK hP (ci := 0) (q := (RJx4a65c, TJx4a65c, 3)) (q0 := 5) rfl rfl, fun U hU hW => ⟨rfl, hC166 U hU hW⟩⟩ rfl rfl hl.1 rfl (lv_room (Nat.le_of_ble_eq_true rfl)) dX6_shown_26 ⟨(Nat.le_of_ble_eq_true rfl), (Nat.le_of_ble_eq_true rfl)⟩) hS (fun q9 _ h9 => hF163 q9 h9) hF163 (fun u167 r168 t167 H167 L167 ht167 hvm167 hw167 hB167 hz167 hk167 hS => ?_)
  obtain ⟨hr167, hB167⟩ := hB167
  have hP := pq_keep hP hD [5, 8] rfl hk167 hB167.1 ht167
  have hG : s.heap.size + 0 ≤ H167.size := Nat.le_trans hG hz167
  refine W.eq (g2 := F0 m 29 ls [.ref h16]) (by rw [hr167]) ?_
  refine va_castE (nm := RX2) hx hb hown (hts _ q_382) (va_recv hK hP (ci := 3) (q := (RX2, TX2, 19)) (q0 := 16) rfl rfl) dX6_shown_29 ?_
  refine lv_astore_n (lv' := [(3, .ref h16), (2, .int 6), (1, .int 0), (0, .ref h0)]) hx hb dX6_shown_32 rfl hl (by decide) rfl (fun ls hl => ?_)
  refine lv_iload_n hx hb dX6_shown_33 rfl (lv_at hl 2 rfl) ?_
  refine lv_aload_n hx hb dX6_shown_34 rfl (lv_at hl 3 rfl) ?_
  refine va_get (D := (dC, dI)) (ci := 6) (v := .ref h2) (C := RX6) (T := TX6) (N := 3) hx hb hts in_X6 hown hK hP 0 rfl rfl 2 (by decide) (hts _ q_54) (fun _ h9 => h9) rfl dX6_shown_35 ?_
  refine lv_aload_n hx hb dX6_shown_38 rfl (lv_at hl 0 rfl) ?_
  refine lv_bipush (v := 48) hx hb dX6_shown_39 (by decide) ?_
  have hM171 := k932_isShownBySomeTest l hl9 dC dI z h2 h16 h1 h6 h4 h5 h8 h9 h10 h11 h12 h13 h14 h15 o8 h3 o1 o2 o3 o4 o5 o6 o7 H167.size kc0 kc2 kc3
  obtain ⟨hF169, hC172⟩ := pc_M hM171 hP hD hK hS hX hT hA [1, 16, 3, 4, 6, 7, 9, 10, 11, 12, 13, 14, 15, 2] [0, 2, 3] rfl rfl rfl
  refine va_calli (va_runV (As := [.ref h16, .int 48]) (rest := [.int 0]) ⟨hx, hb, hml, hown, hts⟩ hM171 (cwV 2 hts (gV q_396 q_397 q_398 q_46 q_395) rfl rfl rfl hV_X4_isShownBySomeTest ⟨Nat.le_of_ble_eq_true rfl, Nat.le_of_ble_eq_true rfl⟩) ⟨pc_blind, va_recv hK hP (ci := 4) (q := (RX4, TX4, 3)) (q0 := 1) rfl rfl, fun U hU hW => ⟨rfl, hC172 U hU hW⟩⟩ rfl rfl hl.1 rfl (lv_room (Nat.le_of_ble_eq_true rfl)) dX6_shown_41 ⟨(Nat.le_of_ble_eq_true rfl), (Nat.le_of_ble_eq_true rfl)⟩) hS (fun q9 _ h9 => hF169 q9 h9) hF169 (fun r174 u173 t173 H173 L173 ht173 hvm173 hw173 hB173 hz173 hk173 hS => ?_)
  obtain ⟨hP, hD, hK⟩ := pq_jn (wz := [(h0, ce16 h1 o0 h2), (h3, ce331 h7), (h7, ce330 kc1 h10 h11 h12 h13 h14 h15 h16), (h2, ce417 h1 h6), (h16, ce433 (z.2.1 0) o8 h16), (h1, ce7 h3 h4 o1 h5), (h6, ce416 kc0), (h4, ce331 h8), (h5, ce366 h9), (h8, ce330 kc2 h10 h11 h12 h13 h14 h15 h16), (h9, ce330 kc3 h10 h11 h12 h13 h14 h15 h16), (h10, ce427 (z.2.1 0) o2 h10), (h11, ce428 (z.2.1 0) o3 h11), (h12, ce429 (z.2.1 0) o4 h12), (h13, ce430 (z.2.1 0) o5 h13), (h14, ce431 (z.2.1 0) o6 h14), (h15, ce432 (z.2.1 0) o7 h15)]) (tz := [(kc1, .object "java/lang/Object"), (kc0, .int), (kc2, .object "java/lang/Object"), (kc3, .object "java/lang/Object")]) hP hD hK [1, 16, 3, 4, 6, 7, 9, 10, 11, 12, 13, 14, 15, 2] [1] rfl hk173 hF169 hB173.1 ht173 hvm173 rfl rfl
  have hG : s.heap.size + 0 ≤ H173.size := Nat.le_trans hG hz173
  refine W.eq (g2 := F0 m 44 ls [.int 0, .int 0]) (by rw [hw173]) ?_
  refine lv_if_eq (tgt := 51) hx hb dX6_shown_44 (by decide) (fun _ => ?_) (fun cz => absurd (by decide) cz)
  refine lv_iconst (v := 0) hx hb dX6_shown_51 (by decide) ?_
  refine lv_iadd hx hb dX6_shown_52 ?_
  refine lv_topi (fun y175 ey175 => ?_)
  obtain rfl : y175 = 0 := ey175.trans (by decide)
  refine lv_istore_n (lv' := [(1, .int 0), (3, .ref h16), (2, .int 6), (0, .ref h0)]) hx hb dX6_shown_53 rfl hl (by decide) rfl (fun ls hl => ?_)
  refine lv_iload_n hx hb dX6_shown_54 rfl (lv_at hl 0 rfl) ?_
  refine lv_aload_n hx hb dX6_shown_55 rfl (lv_at hl 3 rfl) ?_
  refine va_get (D := (dC, dI)) (ci := 6) (v := .ref h2) (C := RX6) (T := TX6) (N := 3) hx hb hts in_X6 hown hK hP 0 rfl rfl 2 (by decide) (hts _ q_54) (fun _ h9 => h9) rfl dX6_shown_56 ?_
  refine lv_aload_n hx hb dX6_shown_59 rfl (lv_at hl 1 rfl) ?_
  refine lv_bipush (v := 49) hx hb dX6_shown_60 (by decide) ?_
  have hM178 := k940_isShownBySomeTest l hl9 dC dI z h2 h16 h1 h6 h3 h4 h5 h7 h8 h9 h10 h11 h12 h13 h14 h15 o8 o1 o2 o3 o4 o5 o6 o7 H173.size kc0 kc1 kc2 kc3
  obtain ⟨hF176, hC179⟩ := pc_M hM178 hP hD hK hS hX hT hA [3, 4, 5, 6, 1, 7, 8, 2, 9, 10, 11, 12, 13, 14, 15, 16] [1, 0, 2, 3] rfl rfl rfl
  refine va_calli (va_runV (As := [.ref h16, .int 49]) (rest := [.int 0]) ⟨hx, hb, hml, hown, hts⟩ hM178 (cwV 2 hts (gV q_396 q_397 q_398 q_46 q_395) rfl rfl rfl hV_X4_isShownBySomeTest ⟨Nat.le_of_ble_eq_true rfl, Nat.le_of_ble_eq_true rfl⟩) ⟨pc_blind, va_recv hK hP (ci := 4) (q := (RX4, TX4, 3)) (q0 := 3) rfl rfl, fun U hU hW => ⟨rfl, hC179 U hU hW⟩⟩ rfl rfl hl.1 rfl (lv_room (Nat.le_of_ble_eq_true rfl)) dX6_shown_62 ⟨(Nat.le_of_ble_eq_true rfl), (Nat.le_of_ble_eq_true rfl)⟩) hS (fun q9 _ h9 => hF176 q9 h9) hF176 (fun r181 u180 t180 H180 L180 ht180 hvm180 hw180 hB180 hz180 hk180 hS => ?_)
  obtain ⟨hP, hD, hK⟩ := pq_jn (wz := [(h0, ce16 h1 o0 h2), (h2, ce417 h1 h6), (h16, ce440 (z.2.1 0) o8 h16), (h1, ce7 h3 h4 o1 h5), (h6, ce416 kc0), (h3, ce331 h7), (h4, ce331 h8), (h5, ce366 h9), (h7, ce330 kc1 h10 h11 h12 h13 h14 h15 h16), (h8, ce330 kc2 h10 h11 h12 h13 h14 h15 h16), (h9, ce330 kc3 h10 h11 h12 h13 h14 h15 h16), (h10, ce427 (z.2.1 0) o2 h10), (h11, ce428 (z.2.1 0) o3 h11), (h12, ce429 (z.2.1 0) o4 h12), (h13, ce430 (z.2.1 0) o5 h13), (h14, ce431 (z.2.1 0) o6 h14), (h15, ce432 (z.2.1 0) o7 h15)]) (tz := [(kc0, .int), (kc1, .object "java/lang/Object"), (kc2, .object "java/lang/Object"), (kc3, .object "java/lang/Object")]) hP hD hK [3, 4, 5, 6, 1, 7, 8, 2, 9, 10, 11, 12, 13, 14, 15, 16] [] rfl hk180 hF176 hB180.1 ht180 hvm180 rfl rfl
  have hG : s.heap.size + 0 ≤ H180.size := Nat.le_trans hG hz180
  refine W.eq (g2 := F0 m 65 ls [.int 0, .int 0]) (by rw [hw180]) ?_
  refine lv_if_eq (tgt := 72) hx hb dX6_shown_65 (by decide) (fun _ => ?_) (fun cz => absurd (by decide) cz)
  refine lv_iconst (v := 0) hx hb dX6_shown_72 (by decide) ?_
  refine lv_iadd hx hb dX6_shown_73 ?_
  refine lv_topi (fun y182 ey182 => ?_)
  obtain rfl : y182 = 0 := ey182.trans (by decide)
  refine lv_istore_n (lv' := [(1, .int 0), (3, .ref h16), (2, .int 6), (0, .ref h0)]) hx hb dX6_shown_74 rfl hl (by decide) rfl (fun ls hl => ?_)
  refine lv_iinc (v := 7) (lv' := [(2, .int 7), (1, .int 0), (3, .ref h16), (0, .ref h0)]) hx hb dX6_shown_75 hl (k := 2) rfl (by decide) (by decide) rfl (fun ls hl => ?_)
  refine lv_goto (tgt := 4) hx hb dX6_shown_78 (by decide) ?_
  refine lv_iload_n hx hb dX6_shown_4 rfl (lv_at hl 0 rfl) ?_
  refine lv_aload_n hx hb dX6_shown_5 rfl (lv_at hl 3 rfl) ?_
  refine va_get (D := (dC, dI)) (ci := 6) (v := .ref h1) (C := RX6) (T := TX6) (N := 3) hx hb hts in_X6 hown hK hP 0 rfl rfl 0 (by decide) (hts _ q_34) (fun _ h9 => h9) rfl dX6_shown_6 ?_
  refine va_get (D := (dC, dI)) (ci := 2) (v := .ref h3) (C := RX0) (T := TX0) (N := 4) hx hb hts in_X0 hown hK hP 3 rfl rfl 0 (by decide) (hts _ q_83) (fun _ h9 => h9) rfl dX6_shown_9 ?_
  have hM185 := k20_size l hl9 dC dI z h3 h7 H180.size 7 7
  obtain ⟨hF183, hC186⟩ := pc_M hM185 hP hD hK hS hX hT hA [5] [] rfl rfl rfl
  refine va_calli (va_runV (As := []) (rest := [.int 7]) ⟨hx, hb, hml, hown, hts⟩ hM185 (cwV 0 hts (gV q_76 q_77 q_78 q_12 q_75) rfl rfl rfl hV_Jx4a65c_size_8abf5 ⟨Nat.le_of_ble_eq_true rfl, Nat.le_of_ble_eq_true rfl⟩) ⟨pc_blind, va_recv hK hP (ci := 0) (q := (RJx4a65c, TJx4a65c, 3)) (q0 := 5) rfl rfl, fun U hU hW => ⟨rfl, hC186 U hU hW⟩⟩ rfl rfl hl.1 rfl (lv_room (Nat.le_of_ble_eq_true rfl)) dX6_shown_12 ⟨(Nat.le_of_ble_eq_true rfl), (Nat.le_of_ble_eq_true rfl)⟩) hS (fun q9 _ h9 => hF183 q9 h9) hF183 (fun r188 u187 t187 H187 L187 ht187 hvm187 hw187 hB187 hz187 hk187 hS => ?_)
  have hP := pq_keep hP hD [5] rfl hk187 hB187.1 ht187
  have hG : s.heap.size + 0 ≤ H187.size := Nat.le_trans hG hz187
  refine W.eq (g2 := F0 m 15 ls [.int 7, .int 7]) (by rw [hw187]) ?_
  refine lv_icmp_ge (tgt := 81) hx hb dX6_shown_15 (by decide) (fun _ => ?_) (fun cz => absurd (by decide) cz)
  refine lv_iload_n hx hb dX6_shown_81 rfl (lv_at hl 1 rfl) ?_
  exact W.iret (v := 0) hx hb hr (fun t9 ht9 hW9 => ⟨⟨0, (), rfl, rfl, ⟨pq_mk2 hP hD hK [0, 3, 1, 5, 6, 7, 4, 8, 9, 10, 11, 12, 13, 14, 15, 16, 2] [0, 1, 2, 3] rfl rfl rfl ht9 hW9, by rw [ht9]; exact Nat.le_trans (Nat.add_le_add_left (Nat.le_of_ble_eq_true rfl) _) hG⟩⟩, hS.F ht9⟩) hS.2.2 dX6_shown_82

set_option maxHeartbeats 4000000 in
set_option maxRecDepth 100000 in
theorem k942_next (l : Launch) (hl9 : l.stackTraces = false) (dC : Nat → ClassId) (dI : Nat → Nat → Nat) (z : XZ) (h0 h1 h2 : Nat) (sz : Nat) (kc0 : ClassId) : Met l yJx35411_next_0502b (.code yJx35411_next_0502b cJx35411_next_0502b 3 (some (.object "java/lang/Object")) :: wsL_law) ({ frames := 1, cells := 0, slots := 0, locals := 20 }) (va_Pc [.ref h0] (PC (dC, dI) [(h0, ce370 h1), (h1, ce331 h2), (h2, ce330 kc0 (z.2.2.1 128) (z.2.2.1 128) (z.2.2.1 128) (z.2.2.1 128) (z.2.2.1 128) (z.2.2.1 128) (z.2.2.1 128))] [(kc0, .object "java/lang/Object")] sz z)) (va_Qr (fun (_ : Unit) => True) (fun (_ : Unit) (ra : Nat) (t : State) => ra = (z.2.2.1 128) ∧ PG (dC, dI) [(h0, ce372 h1), (h1, ce331 h2), (h2, ce330 kc0 (z.2.2.1 128) (z.2.2.1 128) (z.2.2.1 128) (z.2.2.1 128) (z.2.2.1 128) (z.2.2.1 128) (z.2.2.1 128))] [(kc0, .object "java/lang/Object")] (va_A [(h0, ce370 h1), (h1, ce331 h2), (h2, ce330 kc0 (z.2.2.1 128) (z.2.2.1 128) (z.2.2.1 128) (z.2.2.1 128) (z.2.2.1 128) (z.2.2.1 128) (z.2.2.1 128))] sz) sz 0 t) (va_A [(h0, ce370 h1), (h1, ce331 h2), (h2, ce330 kc0 (z.2.2.1 128) (z.2.2.1 128) (z.2.2.1 128) (z.2.2.1 128) (z.2.2.1 128) (z.2.2.1 128) (z.2.2.1 128))] sz)) 0 0 (va_A [(h0, ce370 h1), (h1, ce331 h2), (h2, ce330 kc0 (z.2.2.1 128) (z.2.2.1 128) (z.2.2.1 128) (z.2.2.1 128) (z.2.2.1 128) (z.2.2.1 128) (z.2.2.1 128))] sz) := by
  refine Met.ofW (cc := cJx35411_next_0502b) (maxL := 3) (ret := (some (.object "java/lang/Object"))) (by decide) rfl ?_
  intro p e s m args below meth c s₁ B hml hv
  obtain ⟨rfl, hsz, hP, hK, hD0, hX, hT⟩ := hv
  have hx := B.exec
  have hb := B.bytes
  have hr := B.returns
  have hts0 := atoms_spec (ws := .code yJx35411_next_0502b cJx35411_next_0502b 3 (some (.object "java/lang/Object")) :: wsL_law) B.pre
  have hts := xTail hts0
  have hown : s.vm.findClass RJx35411 = some m.cls := xown B.named rfl
  have hlocks := B.notSynchronized
  subst hsz
  have hD := hD0.self (sz := s.heap.size)
  generalize hAe : va_A [(h0, ce370 h1), (h1, ce331 h2), (h2, ce330 kc0 (z.2.2.1 128) (z.2.2.1 128) (z.2.2.1 128) (z.2.2.1 128) (z.2.2.1 128) (z.2.2.1 128) (z.2.2.1 128))] s.heap.size = A at hD hX ⊢
  have hA : ∀ q : Nat, s.heap.size ≤ q → A q := fun q h => by rw [← hAe]; exact Or.inr h
  have hS : va_S A s.heap s.heap [] := va_S.rf
  have hG : s.heap.size + 0 ≤ s.heap.size := Nat.le_refl _
  have hl := lv_entry ([.ref h0]) (n := 3) (Nat.le_of_ble_eq_true rfl)
  rw [lg_entry_eq]
  generalize (lg_sl ([.ref h0]) ++ List.replicate (3 - (lg_sl ([.ref h0])).length) Slot.unset).toArray = ls at hl ⊢
  have hl : lv_has ls 3 [(0, .ref h0)] := hl
  refine lv_aload_n hx hb dJx35411_next_0502b_0 rfl (lv_at hl 0 rfl) ?_
  have hM3 := k726_checkForComodification l hl9 dC dI z h0 h1 h2 s.heap.size
  obtain ⟨hF1, hC4⟩ := pc_M hM3 hP hD hK hS hX hT hA [0, 1] [] rfl rfl rfl
  refine va_callv (va_runV (As := []) (rest := []) ⟨hx, hb, hml, hown, hts⟩ hM3 (cwV 0 hts (gV q_303 q_304 q_305 q_246 q_302) rfl rfl rfl hV_Jx35411_checkForComodification_da8c8 ⟨Nat.le_of_ble_eq_true rfl, Nat.le_of_ble_eq_true rfl⟩) ⟨pc_blind, va_recv hK hP (ci := 1) (q := (RJx35411, TJx35411, 4)) (q0 := 0) rfl rfl, fun U hU hW => ⟨rfl, hC4 U hU hW⟩⟩ rfl rfl hl.1 rfl (lv_room (Nat.le_of_ble_eq_true rfl)) dJx35411_next_0502b_1 ⟨(Nat.le_of_ble_eq_true rfl), (Nat.le_of_ble_eq_true rfl)⟩) hS (fun q9 _ h9 => hF1 q9 h9) hF1 (fun u5 t5 H5 L5 ht5 hvm5 hw5 hB5 hz5 hk5 hS => ?_)
  have hP := pq_keep hP hD [0, 1] rfl hk5 hB5.1 ht5
  have hG : s.heap.size + 0 ≤ H5.size := Nat.le_trans hG hz5
  refine lv_aload_n hx hb dJx35411_next_0502b_4 rfl (lv_at hl 0 rfl) ?_
  refine va_get (D := (dC, dI)) (ci := 1) (v := .int 0) (C := RJx35411) (T := TJx35411) (N := 4) hx hb hts in_Jx35411 hown hK hP 0 rfl rfl 0 (by decide) (hts _ q_259) (fun _ h9 => h9) rfl dJx35411_next_0502b_5 ?_
  refine lv_istore_n (lv' := [(1, .int 0), (0, .ref h0)]) hx hb dJx35411_next_0502b_8 rfl hl (by decide) rfl (fun ls hl => ?_)
  refine lv_iload_n hx hb dJx35411_next_0502b_9 rfl (lv_at hl 0 rfl) ?_
  refine lv_aload_n hx hb dJx35411_next_0502b_10 rfl (lv_at hl 1 rfl) ?_
  refine va_get (D := (dC, dI)) (ci := 1) (v := .ref h1) (C := RJx35411) (T := TJx35411) (N := 4) hx hb hts in_Jx35411 hown hK hP 0 rfl rfl 3 (by decide) (hts _ q_247) (fun _ h9 => h9) rfl dJx35411_next_0502b_11 ?_
  refine va_getN (D := (dC, dI)) (ci := 0) (v := .int 7) (C := RJx4a65c) (T := TJx4a65c) (N := 3) hx hb hts in_Jx4a65c hown hK hP 1 rfl rfl 2 (by decide) (va_Nw.use rfl hT.2.2.2.2.1) (fun _ h9 => h9) rfl dJx35411_next_0502b_14 ?_
  refine lv_icmp_lt (tgt := 28) hx hb dJx35411_next_0502b_17 (by decide) (fun _ => ?_) (fun cz => absurd (by decide) cz)
  refine lv_aload_n hx hb dJx35411_next_0502b_28 rfl (lv_at hl 1 rfl) ?_
  refine va_get (D := (dC, dI)) (ci := 1) (v := .ref h1) (C := RJx35411) (T := TJx35411) (N := 4) hx hb hts in_Jx35411 hown hK hP 0 rfl rfl 3 (by decide) (hts _ q_247) (fun _ h9 => h9) rfl dJx35411_next_0502b_29 ?_
  refine va_get (D := (dC, dI)) (ci := 0) (v := .ref h2) (C := RJx4a65c) (T := TJx4a65c) (N := 3) hx hb hts in_Jx4a65c hown hK hP 1 rfl rfl 1 (by decide) (hts _ q_306) (fun _ h9 => h9) rfl dJx35411_next_0502b_32 ?_
  refine lv_astore_n (lv' := [(2, .ref h2), (1, .int 0), (0, .ref h0)]) hx hb dJx35411_next_0502b_35 rfl hl (by decide) rfl (fun ls hl => ?_)
  refine lv_iload_n hx hb dJx35411_next_0502b_36 rfl (lv_at hl 1 rfl) ?_
  refine lv_aload_n hx hb dJx35411_next_0502b_37 rfl (lv_at hl 0 rfl) ?_
  refine va_alen hx hb hK hP 2 0 rfl rfl (v := 10) rfl dJx35411_next_0502b_38 ?_
  refine lv_icmp_lt (tgt := 50) hx hb dJx35411_next_0502b_39 (by decide) (fun _ => ?_) (fun cz => absurd (by decide) cz)
  refine lv_aload_n hx hb dJx35411_next_0502b_50 rfl (lv_at hl 2 rfl) ?_
  refine lv_iload_n hx hb dJx35411_next_0502b_51 rfl (lv_at hl 1 rfl) ?_
  refine lv_iconst (v := 1) hx hb dJx35411_next_0502b_52 (by decide) ?_
  refine lv_iadd hx hb dJx35411_next_0502b_53 ?_
  refine lv_topi (fun y7 ey7 => ?_)
  obtain rfl : y7 = 1 := ey7.trans (by decide)
  refine va_put (D := (dC, dI)) (ci := 1) (v := .int 1) (ty := .int) (C := RJx35411) (T := TJx35411) (N := 4) hx hb hts in_Jx35411 tyJx35411 tyJx35411_ok nmJx35411 hown hK hP hD (va_Sre hS) 0 rfl rfl 0 (by decide) (hts _ q_259) (fun _ h9 => h9) rfl (by decide +kernel) rfl rfl (Nat.le_of_ble_eq_true rfl) dJx35411_next_0502b_54 (fun H8 _ hP hD hS' => ?_)
  have hG : s.heap.size + 0 ≤ H8.size := Nat.le_trans hG hS'.1
  have hS := va_Str hS hS'
  have hP : va_P (dC, dI) xCl [(h0, ce371 h1), (h1, ce331 h2), (h2, ce330 kc0 (z.2.2.1 128) (z.2.2.1 128) (z.2.2.1 128) (z.2.2.1 128) (z.2.2.1 128) (z.2.2.1 128) (z.2.2.1 128))] H8 := hP
  have hD := vd_as hP hD rfl
  refine lv_aload_n hx hb dJx35411_next_0502b_57 rfl (lv_at hl 0 rfl) ?_
  refine lv_aload_n hx hb dJx35411_next_0502b_58 rfl (lv_at hl 2 rfl) ?_
  refine lv_iload_n hx hb dJx35411_next_0502b_59 rfl (lv_at hl 1 rfl) ?_
  refine lv_dup_x1 hx hb dJx35411_next_0502b_60 rfl rfl ?_
  refine va_put (D := (dC, dI)) (ci := 1) (v := .int 0) (ty := .int) (C := RJx35411) (T := TJx35411) (N := 4) hx hb hts in_Jx35411 tyJx35411 tyJx35411_ok nmJx35411 hown hK hP hD (va_Sre hS) 0 rfl rfl 1 (by decide) (hts _ q_249) (fun _ h9 => h9) rfl (by decide +kernel) rfl rfl (Nat.le_of_ble_eq_true rfl) dJx35411_next_0502b_61 (fun H9 _ hP hD hS' => ?_)
  have hG : s.heap.size + 0 ≤ H9.size := Nat.le_trans hG hS'.1
  have hS := va_Str hS hS'
  have hP : va_P (dC, dI) xCl [(h0, ce372 h1), (h1, ce331 h2), (h2, ce330 kc0 (z.2.2.1 128) (z.2.2.1 128) (z.2.2.1 128) (z.2.2.1 128) (z.2.2.1 128) (z.2.2.1 128) (z.2.2.1 128))] H9 := hP
  have hD := vd_as hP hD rfl
  refine va_aldq hx hb hK hP 2 0 rfl rfl (i := 0) (by unfold vp_in; decide) dJx35411_next_0502b_64 ?_
  refine W.eq (g2 := F0 m 65 ls [.ref (z.2.2.1 128)]) rfl ?_
  exact W.aret (v := .ref (z.2.2.1 128)) hx hb hr (by first | exact Or.inl ⟨_, rfl⟩ | exact Or.inr ⟨_, rfl⟩) (Or.inr ⟨_, rfl⟩) (fun t9 ht9 hW9 => ⟨⟨(), (z.2.2.1 128), rfl, trivial, ⟨rfl, ⟨pq_mk2 hP hD hK [0, 1, 2] [0] rfl rfl rfl ht9 hW9, by rw [ht9]; exact Nat.le_trans (Nat.add_le_add_left (Nat.le_of_ble_eq_true rfl) _) hG⟩⟩⟩, hS.F ht9⟩) hS.2.2 dJx35411_next_0502b_65

set_option maxHeartbeats 4000000 in
set_option maxRecDepth 100000 in
theorem k943_valuesOf (l : Launch) (hl9 : l.stackTraces = false) (dC : Nat → ClassId) (dI : Nat → Nat → Nat) (z : XZ) (h0 h1 h2 h3 h4 h5 h6 h7 h8 h9 : Nat) (o0 o1 o2 : Nat) (sz : Nat) (kc0 : ClassId) : Met l yX9_valuesOf (.code yX9_valuesOf cX9_valuesOf 5 (some (.array .char)) :: wsL_law) ({ frames := 3, cells := 1, slots := 40, locals := 64 }) (va_Pc [.ref h0, .int 0] (PC (dC, dI) [(h0, ce21 h1 o0 o1 o2), (h1, ce331 h2), (h2, ce330 kc0 h3 h4 h5 h6 h7 h8 h9), (h3, ce49), (h4, ce49), (h5, ce49), (h6, ce49), (h7, ce49), (h8, ce49), (h9, ce49)] [(kc0, .object "java/lang/Object")] sz z)) (va_Qr (fun (_ : Unit) => True) (fun (_ : Unit) (ra : Nat) (t : State) => ∃ (n0 : Nat), ∃ (m0 : ClassId), ra = n0 ∧ PG (dC, dI) [(h0, ce21 h1 o0 o1 o2), (h1, ce331 h2), (h2, ce330 kc0 h3 h4 h5 h6 h7 h8 h9), (h3, ce49), (h4, ce49), (h5, ce49), (h6, ce49), (h7, ce49), (h8, ce49), (h9, ce49), (n0, ce447 m0)] [(kc0, .object "java/lang/Object"), (m0, .char)] (va_A [(h0, ce21 h1 o0 o1 o2), (h1, ce331 h2), (h2, ce330 kc0 h3 h4 h5 h6 h7 h8 h9), (h3, ce49), (h4, ce49), (h5, ce49), (h6, ce49), (h7, ce49), (h8, ce49), (h9, ce49)] sz) sz 1 t) (va_A [(h0, ce21 h1 o0 o1 o2), (h1, ce331 h2), (h2, ce330 kc0 h3 h4 h5 h6 h7 h8 h9), (h3, ce49), (h4, ce49), (h5, ce49), (h6, ce49), (h7, ce49), (h8, ce49), (h9, ce49)] sz)) 1 40 (va_A [(h0, ce21 h1 o0 o1 o2), (h1, ce331 h2), (h2, ce330 kc0 h3 h4 h5 h6 h7 h8 h9), (h3, ce49), (h4, ce49), (h5, ce49), (h6, ce49), (h7, ce49), (h8, ce49), (h9, ce49)] sz) := by
  refine Met.ofW (cc := cX9_valuesOf) (maxL := 5) (ret := (some (.array .char))) (by decide) rfl ?_
  intro p e s m args below meth c s₁ B hml hv
  obtain ⟨rfl, hsz, hP, hK, hD0, hX, hT⟩ := hv
  have hx := B.exec
  have hb := B.bytes
  have hr := B.returns
  have hts0 := atoms_spec (ws := .code yX9_valuesOf cX9_valuesOf 5 (some (.array .char)) :: wsL_law) B.pre
  have hts := xTail hts0
  have hown : s.vm.findClass RX9 = some m.cls := xown B.named rfl
  have hlocks := B.notSynchronized
  subst hsz
  have hD := hD0.self (sz := s.heap.size)
  generalize hAe : va_A [(h0, ce21 h1 o0 o1 o2), (h1, ce331 h2), (h2, ce330 kc0 h3 h4 h5 h6 h7 h8 h9), (h3, ce49), (h4, ce49), (h5, ce49), (h6, ce49), (h7, ce49), (h8, ce49), (h9, ce49)] s.heap.size = A at hD hX ⊢
  have hA : ∀ q : Nat, s.heap.size ≤ q → A q := fun q h => by rw [← hAe]; exact Or.inr h
  have hS : va_S A s.heap s.heap [] := va_S.rf
  have hG : s.heap.size + 0 ≤ s.heap.size := Nat.le_refl _
  have hl := lv_entry ([.ref h0, .int 0]) (n := 5) (Nat.le_of_ble_eq_true rfl)
  rw [lg_entry_eq]
  generalize (lg_sl ([.ref h0, .int 0]) ++ List.replicate (5 - (lg_sl ([.ref h0, .int 0])).length) Slot.unset).toArray = ls at hl ⊢
  have hl : lv_has ls 5 [(0, .ref h0), (1, .int 0)] := hl
  refine lv_bipush (v := 40) hx hb dX9_valuesOf_0 (by decide) ?_
  refine xa_newa (atype := .char) hx hb (hts _ q_314) rfl hK hP hD hS hA (n := 40) (N' := 40) (a0 := (40, .inl (fun _ => 0))) (fun _ => rfl) (by decide) (by decide) (Nat.le_of_ble_eq_true rfl) (Nat.le_of_ble_eq_true rfl) (Nat.le_of_ble_eq_true rfl) dX9_valuesOf_2 (fun a1 k2 H3 hg8 hK hP hD hS => ?_)
  have hG : s.heap.size + 1 ≤ H3.size := by rw [hg8]; exact Nat.succ_le_succ hG
  have hK : va_K (dC, dI) xCl [(kc0, .object "java/lang/Object"), (k2, .char)] s := hK
  have hP : va_P (dC, dI) xCl [(h0, ce21 h1 o0 o1 o2), (h1, ce331 h2), (h2, ce330 kc0 h3 h4 h5 h6 h7 h8 h9), (h3, ce49), (h4, ce49), (h5, ce49), (h6, ce49), (h7, ce49), (h8, ce49), (h9, ce49), (a1, ce51 k2)] H3 := hP
  have hD := vd_as hP hD rfl
  refine W.widen (k := 1) (n := 40) (by decide) (by decide) ?_
  refine lv_astore_n (lv' := [(2, .ref a1), (0, .ref h0), (1, .int 0)]) hx hb dX9_valuesOf_4 rfl hl (by decide) rfl (fun ls hl => ?_)
  refine lv_iconst (v := 0) hx hb dX9_valuesOf_5 (by decide) ?_
  refine lv_istore_n (lv' := [(3, .int 0), (2, .ref a1), (0, .ref h0), (1, .int 0)]) hx hb dX9_valuesOf_6 rfl hl (by decide) rfl (fun ls hl => ?_)
  refine lv_iconst (v := 0) hx hb dX9_valuesOf_7 (by decide) ?_
  refine lv_istore (lv' := [(4, .int 0), (3, .int 0), (2, .ref a1), (0, .ref h0), (1, .int 0)]) hx hb dX9_valuesOf_8 hl (by decide) rfl (fun ls hl => ?_)
  refine lv_iload hx hb dX9_valuesOf_10 (lv_at hl 0 rfl) ?_
  refine lv_aload_n hx hb dX9_valuesOf_12 rfl (lv_at hl 3 rfl) ?_
  refine va_get (D := (dC, dI)) (ci := 8) (v := .ref h1) (C := RX9) (T := TX9) (N := 6) hx hb hts in_X9 hown hK hP 0 rfl rfl 1 (by decide) (hts _ q_64) (fun _ h9 => h9) rfl dX9_valuesOf_13 ?_
  have hM6 := k20_size l hl9 dC dI z h1 h2 H3.size 7 7
  obtain ⟨hF4, hC7⟩ := pc_M hM6 hP hD hK hS hX hT hA [1] [] rfl rfl rfl
  refine va_calli (va_runV (As := []) (rest := [.int 0]) ⟨hx, hb, hml, hown, hts⟩ hM6 (cwV 0 hts (gV q_272 q_77 q_78 q_12 q_75) rfl rfl rfl hV_Jx4a65c_size_8abf5 ⟨Nat.le_of_ble_eq_true rfl, Nat.le_of_ble_eq_true rfl⟩) ⟨pc_blind, va_recv hK hP (ci := 0) (q := (RJx4a65c, TJx4a65c, 3)) (q0 := 1) rfl rfl, fun U hU hW => ⟨rfl, hC7 U hU hW⟩⟩ rfl rfl hl.1 rfl (lv_room (Nat.le_of_ble_eq_true rfl)) dX9_valuesOf_16 ⟨(Nat.le_of_ble_eq_true rfl), (Nat.le_of_ble_eq_true rfl)⟩) hS (fun q9 _ h9 => hF4 q9 h9) hF4 (fun r9 u8 t8 H8 L8 ht8 hvm8 hw8 hB8 hz8 hk8 hS => ?_)
  have hP := pq_keep hP hD [1] rfl hk8 hB8.1 ht8
  have hG : s.heap.size + 1 ≤ H8.size := Nat.le_trans hG hz8
  refine W.eq (g2 := F0 m 19 ls [.int 7, .int 0]) (by rw [hw8]) ?_
  refine lv_icmp_ge (tgt := 69) hx hb dX9_valuesOf_19 (by decide) (fun cz => absurd cz (by decide)) (fun _ => ?_)
  refine lv_aload_n hx hb dX9_valuesOf_22 rfl (lv_at hl 3 rfl) ?_
  refine va_get (D := (dC, dI)) (ci := 8) (v := .ref h1) (C := RX9) (T := TX9) (N := 6) hx hb hts in_X9 hown hK hP 0 rfl rfl 1 (by decide) (hts _ q_64) (fun _ h9 => h9) rfl dX9_valuesOf_23 ?_
  refine lv_iload hx hb dX9_valuesOf_26 (lv_at hl 0 rfl) ?_
  have hM12 := k632_get l hl9 dC dI z h1 h2 h3 h4 h5 h6 h7 h8 h9 H8.size kc0
  obtain ⟨hF10, hC13⟩ := pc_M hM12 hP hD hK hS hX hT hA [1, 2] [0] rfl rfl rfl
  refine va_callr (va_runV (As := [.int 0]) (rest := []) ⟨hx, hb, hml, hown, hts⟩ hM12 (cwV 1 hts (gV q_315 q_157 q_158 q_12 q_155) rfl rfl rfl hV_Jx4a65c_get_915e3 ⟨Nat.le_of_ble_eq_true rfl, Nat.le_of_ble_eq_true rfl⟩) ⟨pc_blind, va_recv hK hP (ci := 0) (q := (RJx4a65c, TJx4a65c, 3)) (q0 := 1) rfl rfl, fun U hU hW => ⟨rfl, hC13 U hU hW⟩⟩ rfl rfl hl.1 rfl (lv_room (Nat.le_of_ble_eq_true rfl)) dX9_valuesOf_28 ⟨(Nat.le_of_ble_eq_true rfl), (Nat.le_of_ble_eq_true rfl)⟩) hS (fun q9 _ h9 => hF10 q9 h9) hF10 (fun u14 r15 t14 H14 L14 ht14 hvm14 hw14 hB14 hz14 hk14 hS => ?_)
  obtain ⟨hr14, hB14⟩ := hB14
  have hP := pq_keep hP hD [1, 2] rfl hk14 hB14.1 ht14
  have hG : s.heap.size + 1 ≤ H14.size := Nat.le_trans hG hz14
  refine W.eq (g2 := F0 m 31 ls [.ref h3]) (by rw [hr14]) ?_
  refine va_castE (nm := RX8) hx hb hown (hts _ q_273) (va_recv hK hP (ci := 7) (q := (RX8, TX8, 6)) (q0 := 3) rfl rfl) dX9_valuesOf_31 ?_
  have hM18 := k121_isSource l hl9 dC dI z h3 H14.size
  obtain ⟨hF16, hC19⟩ := pc_M hM18 hP hD hK hS hX hT hA [3] [] rfl rfl rfl
  refine va_calli (va_runV (As := []) (rest := []) ⟨hx, hb, hml, hown, hts⟩ hM18 (cwV 0 hts (gV q_344 q_345 q_346 q_275 q_343) rfl rfl rfl hV_X8_isSource ⟨Nat.le_of_ble_eq_true rfl, Nat.le_of_ble_eq_true rfl⟩) ⟨pc_blind, va_recv hK hP (ci := 7) (q := (RX8, TX8, 6)) (q0 := 3) rfl rfl, fun U hU hW => ⟨rfl, hC19 U hU hW⟩⟩ rfl rfl hl.1 rfl (lv_room (Nat.le_of_ble_eq_true rfl)) dX9_valuesOf_34 ⟨(Nat.le_of_ble_eq_true rfl), (Nat.le_of_ble_eq_true rfl)⟩) hS (fun q9 _ h9 => hF16 q9 h9) hF16 (fun r21 u20 t20 H20 L20 ht20 hvm20 hw20 hB20 hz20 hk20 hS => ?_)
  have hP := pq_keep hP hD [3] rfl hk20 hB20.1 ht20
  have hG : s.heap.size + 1 ≤ H20.size := Nat.le_trans hG hz20
  refine W.eq (g2 := F0 m 37 ls [.int 1]) (by rw [hw20]) ?_
  refine lv_if_eq (tgt := 63) hx hb dX9_valuesOf_37 (by decide) (fun cz => absurd cz (by decide)) (fun _ => ?_)
  refine lv_aload_n hx hb dX9_valuesOf_40 rfl (lv_at hl 2 rfl) ?_
  refine lv_iload hx hb dX9_valuesOf_41 (lv_at hl 0 rfl) ?_
  refine lv_iload_n hx hb dX9_valuesOf_43 rfl (lv_at hl 4 rfl) ?_
  refine lv_iload_n hx hb dX9_valuesOf_44 rfl (lv_at hl 1 rfl) ?_
  refine lv_ishr hx hb dX9_valuesOf_45 ?_
  refine lv_topi (fun y22 ey22 => ?_)
  obtain rfl : y22 = 0 := ey22.trans (by decide)
  refine lv_iconst (v := 1) hx hb dX9_valuesOf_46 (by decide) ?_
  refine lv_iand hx hb dX9_valuesOf_47 ?_
  refine lv_topi (fun y23 ey23 => ?_)
  obtain rfl : y23 = 0 := ey23.trans (by decide)
  refine lv_iconst (v := 1) hx hb dX9_valuesOf_48 (by decide) ?_
  refine lv_icmp_ne (tgt := 57) hx hb dX9_valuesOf_49 (by decide) (fun _ => ?_) (fun cz => absurd cz (by decide))
  refine lv_bipush (v := 48) hx hb dX9_valuesOf_57 (by decide) ?_
  refine va_cast hx hb hK hP hD (va_Sre hS) 10 1 rfl rfl (i := 0) (by unfold vp_in; decide) dX9_valuesOf_59 (fun H24 _ hP hD hS' => ?_)
  have hG : s.heap.size + 1 ≤ H24.size := Nat.le_trans hG hS'.1
  have hS := va_Str hS hS'
  have hP : va_P (dC, dI) xCl [(h0, ce21 h1 o0 o1 o2), (h1, ce331 h2), (h2, ce330 kc0 h3 h4 h5 h6 h7 h8 h9), (h3, ce49), (h4, ce49), (h5, ce49), (h6, ce49), (h7, ce49), (h8, ce49), (h9, ce49), (a1, ce441 k2)] H24 := hP
  have hD := vd_as hP hD rfl
  refine lv_iinc (v := 1) (lv' := [(3, .int 1), (4, .int 0), (2, .ref a1), (0, .ref h0), (1, .int 0)]) hx hb dX9_valuesOf_60 hl (k := 1) rfl (by decide) (by decide) rfl (fun ls hl => ?_)
  refine lv_iinc (v := 1) (lv' := [(4, .int 1), (3, .int 1), (2, .ref a1), (0, .ref h0), (1, .int 0)]) hx hb dX9_valuesOf_63 hl (k := 1) rfl (by decide) (by decide) rfl (fun ls hl => ?_)
  refine lv_goto (tgt := 10) hx hb dX9_valuesOf_66 (by decide) ?_
  refine lv_iload hx hb dX9_valuesOf_10 (lv_at hl 0 rfl) ?_
  refine lv_aload_n hx hb dX9_valuesOf_12 rfl (lv_at hl 3 rfl) ?_
  refine va_get (D := (dC, dI)) (ci := 8) (v := .ref h1) (C := RX9) (T := TX9) (N := 6) hx hb hts in_X9 hown hK hP 0 rfl rfl 1 (by decide) (hts _ q_64) (fun _ h9 => h9) rfl dX9_valuesOf_13 ?_
  have hM27 := k20_size l hl9 dC dI z h1 h2 H24.size 7 7
  obtain ⟨hF25, hC28⟩ := pc_M hM27 hP hD hK hS hX hT hA [1] [] rfl rfl rfl
  refine va_calli (va_runV (As := []) (rest := [.int 1]) ⟨hx, hb, hml, hown, hts⟩ hM27 (cwV 0 hts (gV q_272 q_77 q_78 q_12 q_75) rfl rfl rfl hV_Jx4a65c_size_8abf5 ⟨Nat.le_of_ble_eq_true rfl, Nat.le_of_ble_eq_true rfl⟩) ⟨pc_blind, va_recv hK hP (ci := 0) (q := (RJx4a65c, TJx4a65c, 3)) (q0 := 1) rfl rfl, fun U hU hW => ⟨rfl, hC28 U hU hW⟩⟩ rfl rfl hl.1 rfl (lv_room (Nat.le_of_ble_eq_true rfl)) dX9_valuesOf_16 ⟨(Nat.le_of_ble_eq_true rfl), (Nat.le_of_ble_eq_true rfl)⟩) hS (fun q9 _ h9 => hF25 q9 h9) hF25 (fun r30 u29 t29 H29 L29 ht29 hvm29 hw29 hB29 hz29 hk29 hS => ?_)
  have hP := pq_keep hP hD [1] rfl hk29 hB29.1 ht29
  have hG : s.heap.size + 1 ≤ H29.size := Nat.le_trans hG hz29
  refine W.eq (g2 := F0 m 19 ls [.int 7, .int 1]) (by rw [hw29]) ?_
  refine lv_icmp_ge (tgt := 69) hx hb dX9_valuesOf_19 (by decide) (fun cz => absurd cz (by decide)) (fun _ => ?_)
  refine lv_aload_n hx hb dX9_valuesOf_22 rfl (lv_at hl 3 rfl) ?_
  refine va_get (D := (dC, dI)) (ci := 8) (v := .ref h1) (C := RX9) (T := TX9) (N := 6) hx hb hts in_X9 hown hK hP 0 rfl rfl 1 (by decide) (hts _ q_64) (fun _ h9 => h9) rfl dX9_valuesOf_23 ?_
  refine lv_iload hx hb dX9_valuesOf_26 (lv_at hl 0 rfl) ?_
  have hM33 := k636_get l hl9 dC dI z h1 h2 h3 h4 h5 h6 h7 h8 h9 H29.size kc0
  obtain ⟨hF31, hC34⟩ := pc_M hM33 hP hD hK hS hX hT hA [1, 2] [0] rfl rfl rfl
  refine va_callr (va_runV (As := [.int 1]) (rest := []) ⟨hx, hb, hml, hown, hts⟩ hM33 (cwV 1 hts (gV q_315 q_157 q_158 q_12 q_155) rfl rfl rfl hV_Jx4a65c_get_915e3 ⟨Nat.le_of_ble_eq_true rfl, Nat.le_of_ble_eq_true rfl⟩) ⟨pc_blind, va_recv hK hP (ci := 0) (q := (RJx4a65c, TJx4a65c, 3)) (q0 := 1) rfl rfl, fun U hU hW => ⟨rfl, hC34 U hU hW⟩⟩ rfl rfl hl.1 rfl (lv_room (Nat.le_of_ble_eq_true rfl)) dX9_valuesOf_28 ⟨(Nat.le_of_ble_eq_true rfl), (Nat.le_of_ble_eq_true rfl)⟩) hS (fun q9 _ h9 => hF31 q9 h9) hF31 (fun u35 r36 t35 H35 L35 ht35 hvm35 hw35 hB35 hz35 hk35 hS => ?_)
  obtain ⟨hr35, hB35⟩ := hB35
  have hP := pq_keep hP hD [1, 2] rfl hk35 hB35.1 ht35
  have hG : s.heap.size + 1 ≤ H35.size := Nat.le_trans hG hz35
  refine W.eq (g2 := F0 m 31 ls [.ref h4]) (by rw [hr35]) ?_
  refine va_castE (nm := RX8) hx hb hown (hts _ q_273) (va_recv hK hP (ci := 7) (q := (RX8, TX8, 6)) (q0 := 4) rfl rfl) dX9_valuesOf_31 ?_
  have hM39 := k121_isSource l hl9 dC dI z h4 H35.size
  obtain ⟨hF37, hC40⟩ := pc_M hM39 hP hD hK hS hX hT hA [4] [] rfl rfl rfl
  refine va_calli (va_runV (As := []) (rest := []) ⟨hx, hb, hml, hown, hts⟩ hM39 (cwV 0 hts (gV q_344 q_345 q_346 q_275 q_343) rfl rfl rfl hV_X8_isSource ⟨Nat.le_of_ble_eq_true rfl, Nat.le_of_ble_eq_true rfl⟩) ⟨pc_blind, va_recv hK hP (ci := 7) (q := (RX8, TX8, 6)) (q0 := 4) rfl rfl, fun U hU hW => ⟨rfl, hC40 U hU hW⟩⟩ rfl rfl hl.1 rfl (lv_room (Nat.le_of_ble_eq_true rfl)) dX9_valuesOf_34 ⟨(Nat.le_of_ble_eq_true rfl), (Nat.le_of_ble_eq_true rfl)⟩) hS (fun q9 _ h9 => hF37 q9 h9) hF37 (fun r42 u41 t41 H41 L41 ht41 hvm41 hw41 hB41 hz41 hk41 hS => ?_)
  have hP := pq_keep hP hD [4] rfl hk41 hB41.1 ht41
  have hG : s.heap.size + 1 ≤ H41.size := Nat.le_trans hG hz41
  refine W.eq (g2 := F0 m 37 ls [.int 1]) (by rw [hw41]) ?_
  refine lv_if_eq (tgt := 63) hx hb dX9_valuesOf_37 (by decide) (fun cz => absurd cz (by decide)) (fun _ => ?_)
  refine lv_aload_n hx hb dX9_valuesOf_40 rfl (lv_at hl 2 rfl) ?_
  refine lv_iload hx hb dX9_valuesOf_41 (lv_at hl 0 rfl) ?_
  refine lv_iload_n hx hb dX9_valuesOf_43 rfl (lv_at hl 4 rfl) ?_
  refine lv_iload_n hx hb dX9_valuesOf_44 rfl (lv_at hl 1 rfl) ?_
  refine lv_ishr hx hb dX9_valuesOf_45 ?_
  refine lv_topi (fun y43 ey43 => ?_)
  obtain rfl : y43 = 0 := ey43.trans (by decide)
  refine lv_iconst (v := 1) hx hb dX9_valuesOf_46 (by decide) ?_
  refine lv_iand hx hb dX9_valuesOf_47 ?_
  refine lv_topi (fun y44 ey44 => ?_)
  obtain rfl : y44 = 0 := ey44.trans (by decide)
  refine lv_iconst (v := 1) hx hb dX9_valuesOf_48 (by decide) ?_
  refine lv_icmp_ne (tgt := 57) hx hb dX9_valuesOf_49 (by decide) (fun _ => ?_) (fun cz => absurd cz (by decide))
  refine lv_bipush (v := 48) hx hb dX9_valuesOf_57 (by decide) ?_
  refine va_cast hx hb hK hP hD (va_Sre hS) 10 1 rfl rfl (i := 1) (by unfold vp_in; decide) dX9_valuesOf_59 (fun H45 _ hP hD hS' => ?_)
  have hG : s.heap.size + 1 ≤ H45.size := Nat.le_trans hG hS'.1
  have hS := va_Str hS hS'
  have hP : va_P (dC, dI) xCl [(h0, ce21 h1 o0 o1 o2), (h1, ce331 h2), (h2, ce330 kc0 h3 h4 h5 h6 h7 h8 h9), (h3, ce49), (h4, ce49), (h5, ce49), (h6, ce49), (h7, ce49), (h8, ce49), (h9, ce49), (a1, ce442 k2)] H45 := hP
  have hD := vd_as hP hD rfl
  refine lv_iinc (v := 2) (lv' := [(3, .int 2), (4, .int 1), (2, .ref a1), (0, .ref h0), (1, .int 0)]) hx hb dX9_valuesOf_60 hl (k := 1) rfl (by decide) (by decide) rfl (fun ls hl => ?_)
  refine lv_iinc (v := 2) (lv' := [(4, .int 2), (3, .int 2), (2, .ref a1), (0, .ref h0), (1, .int 0)]) hx hb dX9_valuesOf_63 hl (k := 1) rfl (by decide) (by decide) rfl (fun ls hl => ?_)
  refine lv_goto (tgt := 10) hx hb dX9_valuesOf_66 (by decide) ?_
  refine lv_iload hx hb dX9_valuesOf_10 (lv_at hl 0 rfl) ?_
  refine lv_aload_n hx hb dX9_valuesOf_12 rfl (lv_at hl 3 rfl) ?_
  refine va_get (D := (dC, dI)) (ci := 8) (v := .ref h1) (C := RX9) (T := TX9) (N := 6) hx hb hts in_X9 hown hK hP 0 rfl rfl 1 (by decide) (hts _ q_64) (fun _ h9 => h9) rfl dX9_valuesOf_13 ?_
  have hM48 := k20_size l hl9 dC dI z h1 h2 H45.size 7 7
  obtain ⟨hF46, hC49⟩ := pc_M hM48 hP hD hK hS hX hT hA [1] [] rfl rfl rfl
  refine va_calli (va_runV (As := []) (rest := [.int 2]) ⟨hx, hb, hml, hown, hts⟩ hM48 (cwV 0 hts (gV q_272 q_77 q_78 q_12 q_75) rfl rfl rfl hV_Jx4a65c_size_8abf5 ⟨Nat.le_of_ble_eq_true rfl, Nat.le_of_ble_eq_true rfl⟩) ⟨pc_blind, va_recv hK hP (ci := 0) (q := (RJx4a65c, TJx4a65c, 3)) (q0 := 1) rfl rfl, fun U hU hW => ⟨rfl, hC49 U hU hW⟩⟩ rfl rfl hl.1 rfl (lv_room (Nat.le_of_ble_eq_true rfl)) dX9_valuesOf_16 ⟨(Nat.le_of_ble_eq_true rfl), (Nat.le_of_ble_eq_true rfl)⟩) hS (fun q9 _ h9 => hF46 q9 h9) hF46 (fun r51 u50 t50 H50 L50 ht50 hvm50 hw50 hB50 hz50 hk50 hS => ?_)
  have hP := pq_keep hP hD [1] rfl hk50 hB50.1 ht50
  have hG : s.heap.size + 1 ≤ H50.size := Nat.le_trans hG hz50
  refine W.eq (g2 := F0 m 19 ls [.int 7, .int 2]) (by rw [hw50]) ?_
  refine lv_icmp_ge (tgt := 69) hx hb dX9_valuesOf_19 (by decide) (fun cz => absurd cz (by decide)) (fun _ => ?_)
  refine lv_aload_n hx hb dX9_valuesOf_22 rfl (lv_at hl 3 rfl) ?_
  refine va_get (D := (dC, dI)) (ci := 8) (v := .ref h1) (C := RX9) (T := TX9) (N := 6) hx hb hts in_X9 hown hK hP 0 rfl rfl 1 (by decide) (hts _ q_64) (fun _ h9 => h9) rfl dX9_valuesOf_23 ?_
  refine lv_iload hx hb dX9_valuesOf_26 (lv_at hl 0 rfl) ?_
  have hM54 := k640_get l hl9 dC dI z h1 h2 h3 h4 h5 h6 h7 h8 h9 H50.size kc0
  obtain ⟨hF52, hC55⟩ := pc_M hM54 hP hD hK hS hX hT hA [1, 2] [0] rfl rfl rfl
  refine va_callr (va_runV (As := [.int 2]) (rest := []) ⟨hx, hb, hml, hown, hts⟩ hM54 (cwV 1 hts (gV q_315 q_157 q_158 q_12 q_155) rfl rfl rfl hV_Jx4a65c_get_915e3 ⟨Nat.le_of_ble_eq_true rfl, Nat.le_of_ble_eq_true rfl⟩) ⟨pc_blind, va_recv hK hP (ci := 0) (q := (RJx4a65c, TJx4a65c, 3)) (q0 := 1) rfl rfl, fun U hU hW => ⟨rfl, hC55 U hU hW⟩⟩ rfl rfl hl.1 rfl (lv_room (Nat.le_of_ble_eq_true rfl)) dX9_valuesOf_28 ⟨(Nat.le_of_ble_eq_true rfl), (Nat.le_of_ble_eq_true rfl)⟩) hS (fun q9 _ h9 => hF52 q9 h9) hF52 (fun u56 r57 t56 H56 L56 ht56 hvm56 hw56 hB56 hz56 hk56 hS => ?_)
  obtain ⟨hr56, hB56⟩ := hB56
  have hP := pq_keep hP hD [1, 2] rfl hk56 hB56.1 ht56
  have hG : s.heap.size + 1 ≤ H56.size := Nat.le_trans hG hz56
  refine W.eq (g2 := F0 m 31 ls [.ref h5]) (by rw [hr56]) ?_
  refine va_castE (nm := RX8) hx hb hown (hts _ q_273) (va_recv hK hP (ci := 7) (q := (RX8, TX8, 6)) (q0 := 5) rfl rfl) dX9_valuesOf_31 ?_
  have hM60 := k121_isSource l hl9 dC dI z h5 H56.size
  obtain ⟨hF58, hC61⟩ := pc_M hM60 hP hD hK hS hX hT hA [5] [] rfl rfl rfl
  refine va_calli (va_runV (As := []) (rest := []) ⟨hx, hb, hml, hown, hts⟩ hM60 (cwV 0 hts (gV q_344 q_345 q_346 q_275 q_343) rfl rfl rfl hV_X8_isSource ⟨Nat.le_of_ble_eq_true rfl, Nat.le_of_ble_eq_true rfl⟩) ⟨pc_blind, va_recv hK hP (ci := 7) (q := (RX8, TX8, 6)) (q0 := 5) rfl rfl, fun U hU hW => ⟨rfl, hC61 U hU hW⟩⟩ rfl rfl hl.1 rfl (lv_room (Nat.le_of_ble_eq_true rfl)) dX9_valuesOf_34 ⟨(Nat.le_of_ble_eq_true rfl), (Nat.le_of_ble_eq_true rfl)⟩) hS (fun q9 _ h9 => hF58 q9 h9) hF58 (fun r63 u62 t62 H62 L62 ht62 hvm62 hw62 hB62 hz62 hk62 hS => ?_)
  have hP := pq_keep hP hD [5] rfl hk62 hB62.1 ht62
  have hG : s.heap.size + 1 ≤ H62.size := Nat.le_trans hG hz62
  refine W.eq (g2 := F0 m 37 ls [.int 1]) (by rw [hw62]) ?_
  refine lv_if_eq (tgt := 63) hx hb dX9_valuesOf_37 (by decide) (fun cz => absurd cz (by decide)) (fun _ => ?_)
  refine lv_aload_n hx hb dX9_valuesOf_40 rfl (lv_at hl 2 rfl) ?_
  refine lv_iload hx hb dX9_valuesOf_41 (lv_at hl 0 rfl) ?_
  refine lv_iload_n hx hb dX9_valuesOf_43 rfl (lv_at hl 4 rfl) ?_
  refine lv_iload_n hx hb dX9_valuesOf_44 rfl (lv_at hl 1 rfl) ?_
  refine lv_ishr hx hb dX9_valuesOf_45 ?_
  refine lv_topi (fun y64 ey64 => ?_)
  obtain rfl : y64 = 0 := ey64.trans (by decide)
  refine lv_iconst (v := 1) hx hb dX9_valuesOf_46 (by decide) ?_
  refine lv_iand hx hb dX9_valuesOf_47 ?_
  refine lv_topi (fun y65 ey65 => ?_)
  obtain rfl : y65 = 0 := ey65.trans (by decide)
  refine lv_iconst (v := 1) hx hb dX9_valuesOf_48 (by decide) ?_
  refine lv_icmp_ne (tgt := 57) hx hb dX9_valuesOf_49 (by decide) (fun _ => ?_) (fun cz => absurd cz (by decide))
  refine lv_bipush (v := 48) hx hb dX9_valuesOf_57 (by decide) ?_
  refine va_cast hx hb hK hP hD (va_Sre hS) 10 1 rfl rfl (i := 2) (by unfold vp_in; decide) dX9_valuesOf_59 (fun H66 _ hP hD hS' => ?_)
  have hG : s.heap.size + 1 ≤ H66.size := Nat.le_trans hG hS'.1
  have hS := va_Str hS hS'
  have hP : va_P (dC, dI) xCl [(h0, ce21 h1 o0 o1 o2), (h1, ce331 h2), (h2, ce330 kc0 h3 h4 h5 h6 h7 h8 h9), (h3, ce49), (h4, ce49), (h5, ce49), (h6, ce49), (h7, ce49), (h8, ce49), (h9, ce49), (a1, ce443 k2)] H66 := hP
  have hD := vd_as hP hD rfl
  refine lv_iinc (v := 3) (lv' := [(3, .int 3), (4, .int 2), (2, .ref a1), (0, .ref h0), (1, .int 0)]) hx hb dX9_valuesOf_60 hl (k := 1) rfl (by decide) (by decide) rfl (fun ls hl => ?_)
  refine lv_iinc (v := 3) (lv' := [(4, .int 3), (3, .int 3), (2, .ref a1), (0, .ref h0), (1, .int 0)]) hx hb dX9_valuesOf_63 hl (k := 1) rfl (by decide) (by decide) rfl (fun ls hl => ?_)
  refine lv_goto (tgt := 10) hx hb dX9_valuesOf_66 (by decide) ?_
  refine lv_iload hx hb dX9_valuesOf_10 (lv_at hl 0 rfl) ?_
  refine lv_aload_n hx hb dX9_valuesOf_12 rfl (lv_at hl 3 rfl) ?_
  refine va_get (D := (dC, dI)) (ci := 8) (v := .ref h1) (C := RX9) (T := TX9) (N := 6) hx hb hts in_X9 hown hK hP 0 rfl rfl 1 (by decide) (hts _ q_64) (fun _ h9 => h9) rfl dX9_valuesOf_13 ?_
  have hM69 := k20_size l hl9 dC dI z h1 h2 H66.size 7 7
  obtain ⟨hF67, hC70⟩ := pc_M hM69 hP hD hK hS hX hT hA [1] [] rfl rfl rfl
  refine va_calli (va_runV (As := []) (rest := [.int 3]) ⟨hx, hb, hml, hown, hts⟩ hM69 (cwV 0 hts (gV q_272 q_77 q_78 q_12 q_75) rfl rfl rfl hV_Jx4a65c_size_8abf5 ⟨Nat.le_of_ble_eq_true rfl, Nat.le_of_ble_eq_true rfl⟩) ⟨pc_blind, va_recv hK hP (ci := 0) (q := (RJx4a65c, TJx4a65c, 3)) (q0 := 1) rfl rfl, fun U hU hW => ⟨rfl, hC70 U hU hW⟩⟩ rfl rfl hl.1 rfl (lv_room (Nat.le_of_ble_eq_true rfl)) dX9_valuesOf_16 ⟨(Nat.le_of_ble_eq_true rfl), (Nat.le_of_ble_eq_true rfl)⟩) hS (fun q9 _ h9 => hF67 q9 h9) hF67 (fun r72 u71 t71 H71 L71 ht71 hvm71 hw71 hB71 hz71 hk71 hS => ?_)
  have hP := pq_keep hP hD [1] rfl hk71 hB71.1 ht71
  have hG : s.heap.size + 1 ≤ H71.size := Nat.le_trans hG hz71
  refine W.eq (g2 := F0 m 19 ls [.int 7, .int 3]) (by rw [hw71]) ?_
  refine lv_icmp_ge (tgt := 69) hx hb dX9_valuesOf_19 (by decide) (fun cz => absurd cz (by decide)) (fun _ => ?_)
  refine lv_aload_n hx hb dX9_valuesOf_22 rfl (lv_at hl 3 rfl) ?_
  refine va_get (D := (dC, dI)) (ci := 8) (v := .ref h1) (C := RX9) (T := TX9) (N := 6) hx hb hts in_X9 hown hK hP 0 rfl rfl 1 (by decide) (hts _ q_64) (fun _ h9 => h9) rfl dX9_valuesOf_23 ?_
  refine lv_iload hx hb dX9_valuesOf_26 (lv_at hl 0 rfl) ?_
  have hM75 := k644_get l hl9 dC dI z h1 h2 h3 h4 h5 h6 h7 h8 h9 H71.size kc0
  obtain ⟨hF73, hC76⟩ := pc_M hM75 hP hD hK hS hX hT hA [1, 2] [0] rfl rfl rfl
  refine va_callr (va_runV (As := [.int 3]) (rest := []) ⟨hx, hb, hml, hown, hts⟩ hM75 (cwV 1 hts (gV q_315 q_157 q_158 q_12 q_155) rfl rfl rfl hV_Jx4a65c_get_915e3 ⟨Nat.le_of_ble_eq_true rfl, Nat.le_of_ble_eq_true rfl⟩) ⟨pc_blind, va_recv hK hP (ci := 0) (q := (RJx4a65c, TJx4a65c, 3)) (q0 := 1) rfl rfl, fun U hU hW => ⟨rfl, hC76 U hU hW⟩⟩ rfl rfl hl.1 rfl (lv_room (Nat.le_of_ble_eq_true rfl)) dX9_valuesOf_28 ⟨(Nat.le_of_ble_eq_true rfl), (Nat.le_of_ble_eq_true rfl)⟩) hS (fun q9 _ h9 => hF73 q9 h9) hF73 (fun u77 r78 t77 H77 L77 ht77 hvm77 hw77 hB77 hz77 hk77 hS => ?_)
  obtain ⟨hr77, hB77⟩ := hB77
  have hP := pq_keep hP hD [1, 2] rfl hk77 hB77.1 ht77
  have hG : s.heap.size + 1 ≤ H77.size := Nat.le_trans hG hz77
  refine W.eq (g2 := F0 m 31 ls [.ref h6]) (by rw [hr77]) ?_
  refine va_castE (nm := RX8) hx hb hown (hts _ q_273) (va_recv hK hP (ci := 7) (q := (RX8, TX8, 6)) (q0 := 6) rfl rfl) dX9_valuesOf_31 ?_
  have hM81 := k121_isSource l hl9 dC dI z h6 H77.size
  obtain ⟨hF79, hC82⟩ := pc_M hM81 hP hD hK hS hX hT hA [6] [] rfl rfl rfl
  refine va_calli (va_runV (As := []) (rest := []) ⟨hx, hb, hml, hown, hts⟩ hM81 (cwV 0 hts (gV q_344 q_345 q_346 q_275 q_343) rfl rfl rfl hV_X8_isSource ⟨Nat.le_of_ble_eq_true rfl, Nat.le_of_ble_eq_true rfl⟩) ⟨pc_blind, va_recv hK hP (ci := 7) (q := (RX8, TX8, 6)) (q0 := 6) rfl rfl, fun U hU hW => ⟨rfl, hC82 U hU hW⟩⟩ rfl rfl hl.1 rfl (lv_room (Nat.le_of_ble_eq_true rfl)) dX9_valuesOf_34 ⟨(Nat.le_of_ble_eq_true rfl), (Nat.le_of_ble_eq_true rfl)⟩) hS (fun q9 _ h9 => hF79 q9 h9) hF79 (fun r84 u83 t83 H83 L83 ht83 hvm83 hw83 hB83 hz83 hk83 hS => ?_)
  have hP := pq_keep hP hD [6] rfl hk83 hB83.1 ht83
  have hG : s.heap.size + 1 ≤ H83.size := Nat.le_trans hG hz83
  refine W.eq (g2 := F0 m 37 ls [.int 1]) (by rw [hw83]) ?_
  refine lv_if_eq (tgt := 63) hx hb dX9_valuesOf_37 (by decide) (fun cz => absurd cz (by decide)) (fun _ => ?_)
  refine lv_aload_n hx hb dX9_valuesOf_40 rfl (lv_at hl 2 rfl) ?_
  refine lv_iload hx hb dX9_valuesOf_41 (lv_at hl 0 rfl) ?_
  refine lv_iload_n hx hb dX9_valuesOf_43 rfl (lv_at hl 4 rfl) ?_
  refine lv_iload_n hx hb dX9_valuesOf_44 rfl (lv_at hl 1 rfl) ?_
  refine lv_ishr hx hb dX9_valuesOf_45 ?_
  refine lv_topi (fun y85 ey85 => ?_)
  obtain rfl : y85 = 0 := ey85.trans (by decide)
  refine lv_iconst (v := 1) hx hb dX9_valuesOf_46 (by decide) ?_
  refine lv_iand hx hb dX9_valuesOf_47 ?_
  refine lv_topi (fun y86 ey86 => ?_)
  obtain rfl : y86 = 0 := ey86.trans (by decide)
  refine lv_iconst (v := 1) hx hb dX9_valuesOf_48 (by decide) ?_
  refine lv_icmp_ne (tgt := 57) hx hb dX9_valuesOf_49 (by decide) (fun _ => ?_) (fun cz => absurd cz (by decide))
  refine lv_bipush (v := 48) hx hb dX9_valuesOf_57 (by decide) ?_
  refine va_cast hx hb hK hP hD (va_Sre hS) 10 1 rfl rfl (i := 3) (by unfold vp_in; decide) dX9_valuesOf_59 (fun H87 _ hP hD hS' => ?_)
  have hG : s.heap.size + 1 ≤ H87.size := Nat.le_trans hG hS'.1
  have hS := va_Str hS hS'
  have hP : va_P (dC, dI) xCl [(h0, ce21 h1 o0 o1 o2), (h1, ce331 h2), (h2, ce330 kc0 h3 h4 h5 h6 h7 h8 h9), (h3, ce49), (h4, ce49), (h5, ce49), (h6, ce49), (h7, ce49), (h8, ce49), (h9, ce49), (a1, ce444 k2)] H87 := hP
  have hD := vd_as hP hD rfl
  refine lv_iinc (v := 4) (lv' := [(3, .int 4), (4, .int 3), (2, .ref a1), (0, .ref h0), (1, .int 0)]) hx hb dX9_valuesOf_60 hl (k := 1) rfl (by decide) (by decide) rfl (fun ls hl => ?_)
  refine lv_iinc (v := 4) (lv' := [(4, .int 4), (3, .int 4), (2, .ref a1), (0, .ref h0), (1, .int 0)]) hx hb dX9_valuesOf_63 hl (k := 1) rfl (by decide) (by decide) rfl (fun ls hl => ?_)
  refine lv_goto (tgt := 10) hx hb dX9_valuesOf_66 (by decide) ?_
  refine lv_iload hx hb dX9_valuesOf_10 (lv_at hl 0 rfl) ?_
  refine lv_aload_n hx hb dX9_valuesOf_12 rfl (lv_at hl 3 rfl) ?_
  refine va_get (D := (dC, dI)) (ci := 8) (v := .ref h1) (C := RX9) (T := TX9) (N := 6) hx hb hts in_X9 hown hK hP 0 rfl rfl 1 (by decide) (hts _ q_64) (fun _ h9 => h9) rfl dX9_valuesOf_13 ?_
  have hM90 := k20_size l hl9 dC dI z h1 h2 H87.size 7 7
  obtain ⟨hF88, hC91⟩ := pc_M hM90 hP hD hK hS hX hT hA [1] [] rfl rfl rfl
  refine va_calli (va_runV (As := []) (rest := [.int 4]) ⟨hx, hb, hml, hown, hts⟩ hM90 (cwV 0 hts (gV q_272 q_77 q_78 q_12 q_75) rfl rfl rfl hV_Jx4a65c_size_8abf5 ⟨Nat.le_of_ble_eq_true rfl, Nat.le_of_ble_eq_true rfl⟩) ⟨pc_blind, va_recv hK hP (ci := 0) (q := (RJx4a65c, TJx4a65c, 3)) (q0 := 1) rfl rfl, fun U hU hW => ⟨rfl, hC91 U hU hW⟩⟩ rfl rfl hl.1 rfl (lv_room (Nat.le_of_ble_eq_true rfl)) dX9_valuesOf_16 ⟨(Nat.le_of_ble_eq_true rfl), (Nat.le_of_ble_eq_true rfl)⟩) hS (fun q9 _ h9 => hF88 q9 h9) hF88 (fun r93 u92 t92 H92 L92 ht92 hvm92 hw92 hB92 hz92 hk92 hS => ?_)
  have hP := pq_keep hP hD [1] rfl hk92 hB92.1 ht92
  have hG : s.heap.size + 1 ≤ H92.size := Nat.le_trans hG hz92
  refine W.eq (g2 := F0 m 19 ls [.int 7, .int 4]) (by rw [hw92]) ?_
  refine lv_icmp_ge (tgt := 69) hx hb dX9_valuesOf_19 (by decide) (fun cz => absurd cz (by decide)) (fun _ => ?_)
  refine lv_aload_n hx hb dX9_valuesOf_22 rfl (lv_at hl 3 rfl) ?_
  refine va_get (D := (dC, dI)) (ci := 8) (v := .ref h1) (C := RX9) (T := TX9) (N := 6) hx hb hts in_X9 hown hK hP 0 rfl rfl 1 (by decide) (hts _ q_64) (fun _ h9 => h9) rfl dX9_valuesOf_23 ?_
  refine lv_iload hx hb dX9_valuesOf_26 (lv_at hl 0 rfl) ?_
  have hM96 := k648_get l hl9 dC dI z h1 h2 h3 h4 h5 h6 h7 h8 h9 H92.size kc0
  obtain ⟨hF94, hC97⟩ := pc_M hM96 hP hD hK hS hX hT hA [1, 2] [0] rfl rfl rfl
  refine va_callr (va_runV (As := [.int 4]) (rest := []) ⟨hx, hb, hml, hown, hts⟩ hM96 (cwV 1 hts (gV q_315 q_157 q_158 q_12 q_155) rfl rfl rfl hV_Jx4a65c_get_915e3 ⟨Nat.le_of_ble_eq_true rfl, Nat.le_of_ble_eq_true rfl⟩) ⟨pc_blind, va_recv hK hP (ci := 0) (q := (RJx4a65c, TJx4a65c, 3)) (q0 := 1) rfl rfl, fun U hU hW => ⟨rfl, hC97 U hU hW⟩⟩ rfl rfl hl.1 rfl (lv_room (Nat.le_of_ble_eq_true rfl)) dX9_valuesOf_28 ⟨(Nat.le_of_ble_eq_true rfl), (Nat.le_of_ble_eq_true rfl)⟩) hS (fun q9 _ h9 => hF94 q9 h9) hF94 (fun u98 r99 t98 H98 L98 ht98 hvm98 hw98 hB98 hz98 hk98 hS => ?_)
  obtain ⟨hr98, hB98⟩ := hB98
  have hP := pq_keep hP hD [1, 2] rfl hk98 hB98.1 ht98
  have hG : s.heap.size + 1 ≤ H98.size := Nat.le_trans hG hz98
  refine W.eq (g2 := F0 m 31 ls [.ref h7]) (by rw [hr98]) ?_
  refine va_castE (nm := RX8) hx hb hown (hts _ q_273) (va_recv hK hP (ci := 7) (q := (RX8, TX8, 6)) (q0 := 7) rfl rfl) dX9_valuesOf_31 ?_
  have hM102 := k121_isSource l hl9 dC dI z h7 H98.size
  obtain ⟨hF100, hC103⟩ := pc_M hM102 hP hD hK hS hX hT hA [7] [] rfl rfl rfl
  refine va_calli (va_runV (As := []) (rest := []) ⟨hx, hb, hml, hown, hts⟩ hM102 (cwV 0 hts (gV q_344 q_345 q_346 q_275 q_343) rfl rfl rfl hV_X8_isSource ⟨Nat.le_of_ble_eq_true rfl, Nat.le_of_ble_eq_true rfl⟩) ⟨pc_blind, va_recv hK hP (ci := 7) (q := (RX8, TX8, 6)) (q0 := 7) rfl rfl, fun U hU hW => ⟨rfl, hC103 U hU hW⟩⟩ rfl rfl hl.1 rfl (lv_room (Nat.le_of_ble_eq_true rfl)) dX9_valuesOf_34 ⟨(Nat.le_of_ble_eq_true rfl), (Nat.le_of_ble_eq_true rfl)⟩) hS (fun q9 _ h9 => hF100 q9 h9) hF100 (fun r105 u104 t104 H104 L104 ht104 hvm104 hw104 hB104 hz104 hk104 hS => ?_)
  have hP := pq_keep hP hD [7] rfl hk104 hB104.1 ht104
  have hG : s.heap.size + 1 ≤ H104.size := Nat.le_trans hG hz104
  refine W.eq (g2 := F0 m 37 ls [.int 1]) (by rw [hw104]) ?_
  refine lv_if_eq (tgt := 63) hx hb dX9_valuesOf_37 (by decide) (fun cz => absurd cz (by decide)) (fun _ => ?_)
  refine lv_aload_n hx hb dX9_valuesOf_40 rfl (lv_at hl 2 rfl) ?_
  refine lv_iload hx hb dX9_valuesOf_41 (lv_at hl 0 rfl) ?_
  refine lv_iload_n hx hb dX9_valuesOf_43 rfl (lv_at hl 4 rfl) ?_
  refine lv_iload_n hx hb dX9_valuesOf_44 rfl (lv_at hl 1 rfl) ?_
  refine lv_ishr hx hb dX9_valuesOf_45 ?_
  refine lv_topi (fun y106 ey106 => ?_)
  obtain rfl : y106 = 0 := ey106.trans (by decide)
  refine lv_iconst (v := 1) hx hb dX9_valuesOf_46 (by decide) ?_
  refine lv_iand hx hb dX9_valuesOf_47 ?_
  refine lv_topi (fun y107 ey107 => ?_)
  obtain rfl : y107 = 0 := ey107.trans (by decide)
  refine lv_iconst (v := 1) hx hb dX9_valuesOf_48 (by decide) ?_
  refine lv_icmp_ne (tgt := 57) hx hb dX9_valuesOf_49 (by decide) (fun _ => ?_) (fun cz => absurd cz (by decide))
  refine lv_bipush (v := 48) hx hb dX9_valuesOf_57 (by decide) ?_
  refine va_cast hx hb hK hP hD (va_Sre hS) 10 1 rfl rfl (i := 4) (by unfold vp_in; decide) dX9_valuesOf_59 (fun H108 _ hP hD hS' => ?_)
  have hG : s.heap.size + 1 ≤ H108.size := Nat.le_trans hG hS'.1
  have hS := va_Str hS hS'
  have hP : va_P (dC, dI) xCl [(h0, ce21 h1 o0 o1 o2), (h1, ce331 h2), (h2, ce330 kc0 h3 h4 h5 h6 h7 h8 h9), (h3, ce49), (h4, ce49), (h5, ce49), (h6, ce49), (h7, ce49), (h8, ce49), (h9, ce49), (a1, ce445 k2)] H108 := hP
  have hD := vd_as hP hD rfl
  refine lv_iinc (v := 5) (lv' := [(3, .int 5), (4, .int 4), (2, .ref a1), (0, .ref h0), (1, .int 0)]) hx hb dX9_valuesOf_60 hl (k := 1) rfl (by decide) (by decide) rfl (fun ls hl => ?_)
  refine lv_iinc (v := 5) (lv' := [(4, .int 5), (3, .int 5), (2, .ref a1), (0, .ref h0), (1, .int 0)]) hx hb dX9_valuesOf_63 hl (k := 1) rfl (by decide) (by decide) rfl (fun ls hl => ?_)
  refine lv_goto (tgt := 10) hx hb dX9_valuesOf_66 (by decide) ?_
  refine lv_iload hx hb dX9_valuesOf_10 (lv_at hl 0 rfl) ?_
  refine lv_aload_n hx hb dX9_valuesOf_12 rfl (lv_at hl 3 rfl) ?_
  refine va_get (D := (dC, dI)) (ci := 8) (v := .ref h1) (C := RX9) (T := TX9) (N := 6) hx hb hts in_X9 hown hK hP 0 rfl rfl 1 (by decide) (hts _ q_64) (fun _ h9 => h9) rfl dX9_valuesOf_13 ?_
  have hM111 := k20_size l hl9 dC dI z h1 h2 H108.size 7 7
  obtain ⟨hF109, hC112⟩ := pc_M hM111 hP hD hK hS hX hT hA [1] [] rfl rfl rfl
  refine va_calli (va_runV (As := []) (rest := [.int 5]) ⟨hx, hb, hml, hown, hts⟩ hM111 (cwV 0 hts (gV q_272 q_77 q_78 q_12 q_75) rfl rfl rfl hV_Jx4a65c_size_8abf5 ⟨Nat.le_of_ble_eq_true rfl, Nat.le_of_ble_eq_true rfl⟩) ⟨pc_blind, va_recv hK hP (ci := 0) (q := (RJx4a65c, TJx4a65c, 3)) (q0 := 1) rfl rfl, fun U hU hW => ⟨rfl, hC112 U hU hW⟩⟩ rfl rfl hl.1 rfl (lv_room (Nat.le_of_ble_eq_true rfl)) dX9_valuesOf_16 ⟨(Nat.le_of_ble_eq_true rfl), (Nat.le_of_ble_eq_true rfl)⟩) hS (fun q9 _ h9 => hF109 q9 h9) hF109 (fun r114 u113 t113 H113 L113 ht113 hvm113 hw113 hB113 hz113 hk113 hS => ?_)
  have hP := pq_keep hP hD [1] rfl hk113 hB113.1 ht113
  have hG : s.heap.size + 1 ≤ H113.size := Nat.le_trans hG hz113
  refine W.eq (g2 := F0 m 19 ls [.int 7, .int 5]) (by rw [hw113]) ?_
  refine lv_icmp_ge (tgt := 69) hx hb dX9_valuesOf_19 (by decide) (fun cz => absurd cz (by decide)) (fun _ => ?_)
  refine lv_aload_n hx hb dX9_valuesOf_22 rfl (lv_at hl 3 rfl) ?_
  refine va_get (D := (dC, dI)) (ci := 8) (v := .ref h1) (C := RX9) (T := TX9) (N := 6) hx hb hts in_X9 hown hK hP 0 rfl rfl 1 (by decide) (hts _ q_64) (fun _ h9 => h9) rfl dX9_valuesOf_23 ?_
  refine lv_iload hx hb dX9_valuesOf_26 (lv_at hl 0 rfl) ?_
  have hM117 := k652_get l hl9 dC dI z h1 h2 h3 h4 h5 h6 h7 h8 h9 H113.size kc0
  obtain ⟨hF115, hC118⟩ := pc_M hM117 hP hD hK hS hX hT hA [1, 2] [0] rfl rfl rfl
  refine va_callr (va_runV (As := [.int 5]) (rest := []) ⟨hx, hb, hml, hown, hts⟩ hM117 (cwV 1 hts (gV q_315 q_157 q_158 q_12 q_155) rfl rfl rfl hV_Jx4a65c_get_915e3 ⟨Nat.le_of_ble_eq_true rfl, Nat.le_of_ble_eq_true rfl⟩) ⟨pc_blind, va_recv hK hP (ci := 0) (q := (RJx4a65c, TJx4a65c, 3)) (q0 := 1) rfl rfl, fun U hU hW => ⟨rfl, hC118 U hU hW⟩⟩ rfl rfl hl.1 rfl (lv_room (Nat.le_of_ble_eq_true rfl)) dX9_valuesOf_28 ⟨(Nat.le_of_ble_eq_true rfl), (Nat.le_of_ble_eq_true rfl)⟩) hS (fun q9 _ h9 => hF115 q9 h9) hF115 (fun u119 r120 t119 H119 L119 ht119 hvm119 hw119 hB119 hz119 hk119 hS => ?_)
  obtain ⟨hr119, hB119⟩ := hB119
  have hP := pq_keep hP hD [1, 2] rfl hk119 hB119.1 ht119
  have hG : s.heap.size + 1 ≤ H119.size := Nat.le_trans hG hz119
  refine W.eq (g2 := F0 m 31 ls [.ref h8]) (by rw [hr119]) ?_
  refine va_castE (nm := RX8) hx hb hown (hts _ q_273) (va_recv hK hP (ci := 7) (q := (RX8, TX8, 6)) (q0 := 8) rfl rfl) dX9_valuesOf_31 ?_
  have hM123 := k121_isSource l hl9 dC dI z h8 H119.size
  obtain ⟨hF121, hC124⟩ := pc_M hM123 hP hD hK hS hX hT hA [8] [] rfl rfl rfl
  refine va_calli (va_runV (As := []) (rest := []) ⟨hx, hb, hml, hown, hts⟩ hM123 (cwV 0 hts (gV q_344 q_345 q_346 q_275 q_343) rfl rfl rfl hV_X8_isSource ⟨Nat.le_of_ble_eq_true rfl, Nat.le_of_ble_eq_true rfl⟩) ⟨pc_blind, va_recv hK hP (ci := 7) (q := (RX8, TX8, 6)) (q0 := 8) rfl rfl, fun U hU hW => ⟨rfl, hC124 U hU hW⟩⟩ rfl rfl hl.1 rfl (lv_room (Nat.le_of_ble_eq_true rfl)) dX9_valuesOf_34 ⟨(Nat.le_of_ble_eq_true rfl), (Nat.le_of_ble_eq_true rfl)⟩) hS (fun q9 _ h9 => hF121 q9 h9) hF121 (fun r126 u125 t125 H125 L125 ht125 hvm125 hw125 hB125 hz125 hk125 hS => ?_)
  have hP := pq_keep hP hD [8] rfl hk125 hB125.1 ht125
  have hG : s.heap.size + 1 ≤ H125.size := Nat.le_trans hG hz125
  refine W.eq (g2 := F0 m 37 ls [.int 1]) (by rw [hw125]) ?_
  refine lv_if_eq (tgt := 63) hx hb dX9_valuesOf_37 (by decide) (fun cz => absurd cz (by decide)) (fun _ => ?_)
  refine lv_aload_n hx hb dX9_valuesOf_40 rfl (lv_at hl 2 rfl) ?_
  refine lv_iload hx hb dX9_valuesOf_41 (lv_at hl 0 rfl) ?_
  refine lv_iload_n hx hb dX9_valuesOf_43 rfl (lv_at hl 4 rfl) ?_
  refine lv_iload_n hx hb dX9_valuesOf_44 rfl (lv_at hl 1 rfl) ?_
  refine lv_ishr hx hb dX9_valuesOf_45 ?_
  refine lv_topi (fun y127 ey127 => ?_)
  obtain rfl : y127 = 0 := ey127.trans (by decide)
  refine lv_iconst (v := 1) hx hb dX9_valuesOf_46 (by decide) ?_
  refine lv_iand hx hb dX9_valuesOf_47 ?_
  refine lv_topi (fun y128 ey128 => ?_)
  obtain rfl : y128 = 0 := ey128.trans (by decide)
  refine lv_iconst (v := 1) hx hb dX9_valuesOf_48 (by decide) ?_
  refine lv_icmp_ne (tgt := 57) hx hb dX9_valuesOf_49 (by decide) (fun _ => ?_) (fun cz => absurd cz (by decide))
  refine lv_bipush (v := 48) hx hb dX9_valuesOf_57 (by decide) ?_
  refine va_cast hx hb hK hP hD (va_Sre hS) 10 1 rfl rfl (i := 5) (by unfold vp_in; decide) dX9_valuesOf_59 (fun H129 _ hP hD hS' => ?_)
  have hG : s.heap.size + 1 ≤ H129.size := Nat.le_trans hG hS'.1
  have hS := va_Str hS hS'
  have hP : va_P (dC, dI) xCl [(h0, ce21 h1 o0 o1 o2), (h1, ce331 h2), (h2, ce330 kc0 h3 h4 h5 h6 h7 h8 h9), (h3, ce49), (h4, ce49), (h5, ce49), (h6, ce49), (h7, ce49), (h8, ce49), (h9, ce49), (a1, ce446 k2)] H129 := hP
  have hD := vd_as hP hD rfl
  refine lv_iinc (v := 6) (lv' := [(3, .int 6), (4, .int 5), (2, .ref a1), (0, .ref h0), (1, .int 0)]) hx hb dX9_valuesOf_60 hl (k := 1) rfl (by decide) (by decide) rfl (fun ls hl => ?_)
  refine lv_iinc (v := 6) (lv' := [(4, .int 6), (3, .int 6), (2, .ref a1), (0, .ref h0), (1, .int 0)]) hx hb dX9_valuesOf_63 hl (k := 1) rfl (by decide) (by decide) rfl (fun ls hl => ?_)
  refine lv_goto (tgt := 10) hx hb dX9_valuesOf_66 (by decide) ?_
  refine lv_iload hx hb dX9_valuesOf_10 (lv_at hl 0 rfl) ?_
  refine lv_aload_n hx hb dX9_valuesOf_12 rfl (lv_at hl 3 rfl) ?_
  refine va_get (D := (dC, dI)) (ci := 8) (v := .ref h1) (C := RX9) (T := TX9) (N := 6) hx hb hts in_X9 hown hK hP 0 rfl rfl 1 (by decide) (hts _ q_64) (fun _ h9 => h9) rfl dX9_valuesOf_13 ?_
  have hM132 := k20_size l hl9 dC dI z h1 h2 H129.size 7 7
  obtain ⟨hF130, hC133⟩ := pc_M hM132 hP hD hK hS hX hT hA [1] [] rfl rfl rfl
  refine va_calli (va_runV (As := []) (rest := [.int 6]) ⟨hx, hb, hml, hown, hts⟩ hM132 (cwV 0 hts (gV q_272 q_77 q_78 q_12 q_75) rfl rfl rfl hV_Jx4a65c_size_8abf5 ⟨Nat.le_of_ble_eq_true rfl, Nat.le_of_ble_eq_true rfl⟩) ⟨pc_blind, va_recv hK hP (ci := 0) (q := (RJx4a65c, TJx4a65c, 3)) (q0 := 1) rfl rfl, fun U hU hW => ⟨rfl, hC133 U hU hW⟩⟩ rfl rfl hl.1 rfl (lv_room (Nat.le_of_ble_eq_true rfl)) dX9_valuesOf_16 ⟨(Nat.le_of_ble_eq_true rfl), (Nat.le_of_ble_eq_true rfl)⟩) hS (fun q9 _ h9 => hF130 q9 h9) hF130 (fun r135 u134 t134 H134 L134 ht134 hvm134 hw134 hB134 hz134 hk134 hS => ?_)
  have hP := pq_keep hP hD [1] rfl hk134 hB134.1 ht134
  have hG : s.heap.size + 1 ≤ H134.size := Nat.le_trans hG hz134
  refine W.eq (g2 := F0 m 19 ls [.int 7, .int 6]) (by rw [hw134]) ?_
  refine lv_icmp_ge (tgt := 69) hx hb dX9_valuesOf_19 (by decide) (fun cz => absurd cz (by decide)) (fun _ => ?_)
  refine lv_aload_n hx hb dX9_valuesOf_22 rfl (lv_at hl 3 rfl) ?_
  refine va_get (D := (dC, dI)) (ci := 8) (v := .ref h1) (C := RX9) (T := TX9) (N := 6) hx hb hts in_X9 hown hK hP 0 rfl rfl 1 (by decide) (hts _ q_64) (fun _ h9 => h9) rfl dX9_valuesOf_23 ?_
  refine lv_iload hx hb dX9_valuesOf_26 (lv_at hl 0 rfl) ?_
  have hM138 := k656_get l hl9 dC dI z h1 h2 h3 h4 h5 h6 h7 h8 h9 H134.size kc0
  obtain ⟨hF136, hC139⟩ := pc_M hM138 hP hD hK hS hX hT hA [1, 2] [0] rfl rfl rfl
  refine va_callr (va_runV (As := [.int 6]) (rest := []) ⟨hx, hb, hml, hown, hts⟩ hM138 (cwV 1 hts (gV q_315 q_157 q_158 q_12 q_155) rfl rfl rfl hV_Jx4a65c_get_915e3 ⟨Nat.le_of_ble_eq_true rfl, Nat.le_of_ble_eq_true rfl⟩) ⟨pc_blind, va_recv hK hP (ci := 0) (q := (RJx4a65c, TJx4a65c, 3)) (q0 := 1) rfl rfl, fun U hU hW => ⟨rfl, hC139 U hU hW⟩⟩ rfl rfl hl.1 rfl (lv_room (Nat.le_of_ble_eq_true rfl)) dX9_valuesOf_28 ⟨(Nat.le_of_ble_eq_true rfl), (Nat.le_of_ble_eq_true rfl)⟩) hS (fun q9 _ h9 => hF136 q9 h9) hF136 (fun u140 r141 t140 H140 L140 ht140 hvm140 hw140 hB140 hz140 hk140 hS => ?_)
  obtain ⟨hr140, hB140⟩ := hB140
  have hP := pq_keep hP hD [1, 2] rfl hk140 hB140.1 ht140
  have hG : s.heap.size + 1 ≤ H140.size := Nat.le_trans hG hz140
  refine W.eq (g2 := F0 m 31 ls [.ref h9]) (by rw [hr140]) ?_
  refine va_castE (nm := RX8) hx hb hown (hts _ q_273) (va_recv hK hP (ci := 7) (q := (RX8, TX8, 6)) (q0 := 9) rfl rfl) dX9_valuesOf_31 ?_
  have hM144 := k121_isSource l hl9 dC dI z h9 H140.size
  obtain ⟨hF142, hC145⟩ := pc_M hM144 hP hD hK hS hX hT hA [9] [] rfl rfl rfl
  refine va_calli (va_runV (As := []) (rest := []) ⟨hx, hb, hml, hown, hts⟩ hM144 (cwV 0 hts (gV q_344 q_345 q_346 q_275 q_343) rfl rfl rfl hV_X8_isSource ⟨Nat.le_of_ble_eq_true rfl, Nat.le_of_ble_eq_true rfl⟩) ⟨pc_blind, va_recv hK hP (ci := 7) (q := (RX8, TX8, 6)) (q0 := 9) rfl rfl, fun U hU hW => ⟨rfl, hC145 U hU hW⟩⟩ rfl rfl hl.1 rfl (lv_room (Nat.le_of_ble_eq_true rfl)) dX9_valuesOf_34 ⟨(Nat.le_of_ble_eq_true rfl), (Nat.le_of_ble_eq_true rfl)⟩) hS (fun q9 _ h9 => hF142 q9 h9) hF142 (fun r147 u146 t146 H146 L146 ht146 hvm146 hw146 hB146 hz146 hk146 hS => ?_)
  have hP := pq_keep hP hD [9] rfl hk146 hB146.1 ht146
  have hG : s.heap.size + 1 ≤ H146.size := Nat.le_trans hG hz146
  refine W.eq (g2 := F0 m 37 ls [.int 1]) (by rw [hw146]) ?_
  refine lv_if_eq (tgt := 63) hx hb dX9_valuesOf_37 (by decide) (fun cz => absurd cz (by decide)) (fun _ => ?_)
  refine lv_aload_n hx hb dX9_valuesOf_40 rfl (lv_at hl 2 rfl) ?_
  refine lv_iload hx hb dX9_valuesOf_41 (lv_at hl 0 rfl) ?_
  refine lv_iload_n hx hb dX9_valuesOf_43 rfl (lv_at hl 4 rfl) ?_
  refine lv_iload_n hx hb dX9_valuesOf_44 rfl (lv_at hl 1 rfl) ?_
  refine lv_ishr hx hb dX9_valuesOf_45 ?_
  refine lv_topi (fun y148 ey148 => ?_)
  obtain rfl : y148 = 0 := ey148.trans (by decide)
  refine lv_iconst (v := 1) hx hb dX9_valuesOf_46 (by decide) ?_
  refine lv_iand hx hb dX9_valuesOf_47 ?_
  refine lv_topi (fun y149 ey149 => ?_)
  obtain rfl : y149 = 0 := ey149.trans (by decide)
  refine lv_iconst (v := 1) hx hb dX9_valuesOf_48 (by decide) ?_
  refine lv_icmp_ne (tgt := 57) hx hb dX9_valuesOf_49 (by decide) (fun _ => ?_) (fun cz => absurd cz (by decide))
  refine lv_bipush (v := 48) hx hb dX9_valuesOf_57 (by decide) ?_
  refine va_cast hx hb hK hP hD (va_Sre hS) 10 1 rfl rfl (i := 6) (by unfold vp_in; decide) dX9_valuesOf_59 (fun H150 _ hP hD hS' => ?_)
  have hG : s.heap.size + 1 ≤ H150.size := Nat.le_trans hG hS'.1
  have hS := va_Str hS hS'
  have hP : va_P (dC, dI) xCl [(h0, ce21 h1 o0 o1 o2), (h1, ce331 h2), (h2, ce330 kc0 h3 h4 h5 h6 h7 h8 h9), (h3, ce49), (h4, ce49), (h5, ce49), (h6, ce49), (h7, ce49), (h8, ce49), (h9, ce49), (a1, ce447 k2)] H150 := hP
  have hD := vd_as hP hD rfl
  refine lv_iinc (v := 7) (lv' := [(3, .int 7), (4, .int 6), (2, .ref a1), (0, .ref h0), (1, .int 0)]) hx hb dX9_valuesOf_60 hl (k := 1) rfl (by decide) (by decide) rfl (fun ls hl => ?_)
  refine lv_iinc (v := 7) (lv' := [(4, .int 7), (3, .int 7), (2, .ref a1), (0, .ref h0), (1, .int 0)]) hx hb dX9_valuesOf_63 hl (k := 1) rfl (by decide) (by decide) rfl (fun ls hl => ?_)
  refine lv_goto (tgt := 10) hx hb dX9_valuesOf_66 (by decide) ?_
  refine lv_iload hx hb dX9_valuesOf_10 (lv_at hl 0 rfl) ?_
  refine lv_aload_n hx hb dX9_valuesOf_12 rfl (lv_at hl 3 rfl) ?_
  refine va_get (D := (dC, dI)) (ci := 8) (v := .ref h1) (C := RX9) (T := TX9) (N := 6) hx hb hts in_X9 hown hK hP 0 rfl rfl 1 (by decide) (hts _ q_64) (fun _ h9 => h9) rfl dX9_valuesOf_13 ?_
  have hM153 := k20_size l hl9 dC dI z h1 h2 H150.size 7 7
  obtain ⟨hF151, hC154⟩ := pc_M hM153 hP hD hK hS hX hT hA [1] [] rfl rfl rfl
  refine va_calli (va_runV (As := []) (rest := [.int 7]) ⟨hx, hb, hml, hown, hts⟩ hM153 (cwV 0 hts (gV q_272 q_77 q_78 q_12 q_75) rfl rfl rfl hV_Jx4a65c_size_8abf5 ⟨Nat.le_of_ble_eq_true rfl, Nat.le_of_ble_eq_true rfl⟩) ⟨pc_blind, va_recv hK hP (ci := 0) (q := (RJx4a65c, TJx4a65c, 3)) (q0 := 1) rfl rfl, fun U hU hW => ⟨rfl, hC154 U hU hW⟩⟩ rfl rfl hl.1 rfl (lv_room (Nat.le_of_ble_eq_true rfl)) dX9_valuesOf_16 ⟨(Nat.le_of_ble_eq_true rfl), (Nat.le_of_ble_eq_true rfl)⟩) hS (fun q9 _ h9 => hF151 q9 h9) hF151 (fun r156 u155 t155 H155 L155 ht155 hvm155 hw155 hB155 hz155 hk155 hS => ?_)
  have hP := pq_keep hP hD [1] rfl hk155 hB155.1 ht155
  have hG : s.heap.size + 1 ≤ H155.size := Nat.le_trans hG hz155
  refine W.eq (g2 := F0 m 19 ls [.int 7, .int 7]) (by rw [hw155]) ?_
  refine lv_icmp_ge (tgt := 69) hx hb dX9_valuesOf_19 (by decide) (fun _ => ?_) (fun cz => absurd (by decide) cz)
  refine lv_aload_n hx hb dX9_valuesOf_69 rfl (lv_at hl 2 rfl) ?_
  exact W.aret (v := .ref a1) hx hb hr (by first | exact Or.inl ⟨_, rfl⟩ | exact Or.inr ⟨_, rfl⟩) (Or.inr ⟨_, rfl⟩) (fun t9 ht9 hW9 => ⟨⟨(), a1, rfl, trivial, ⟨a1, k2, rfl, ⟨pq_mk2 hP hD hK [0, 1, 2, 3, 4, 5, 6, 7, 8, 9, 10] [0, 1] rfl rfl rfl ht9 hW9, by rw [ht9]; exact Nat.le_trans (Nat.add_le_add_left (Nat.le_of_ble_eq_true rfl) _) hG⟩⟩⟩, hS.F ht9⟩) hS.2.2 dX9_valuesOf_70

set_option maxHeartbeats 4000000 in
set_option maxRecDepth 100000 in
theorem k944_settledAll (l : Launch) (hl9 : l.stackTraces = false) (dC : Nat → ClassId) (dI : Nat → Nat → Nat) (z : XZ) (h0 h1 h2 h3 h4 h5 h6 h7 h8 h9 h10 h11 h12 h13 : Nat) (o0 : Nat) (sz : Nat) (kc0 kc1 kc2 : ClassId) : Met l yX9_settledAll (.code yX9_settledAll cX9_settledAll 11 (some (.array .char)) :: wsL_law) ({ frames := 3, cells := 9, slots := 72, locals := 64 }) (va_Pc [.ref h0, .ref h1, .int 0, .int 48] (PC (dC, dI) [(h0, ce21 h2 h3 o0 h4), (h1, ce447 kc0), (h2, ce331 h5), (h3, ce3 z.1), (h4, ce366 h6), (h5, ce330 kc1 h7 h8 h9 h10 h11 h12 h13), (h6, ce330 kc2 (z.2.2.1 128) (z.2.2.1 129) (z.2.2.1 130) (z.2.2.1 131) (z.2.2.1 132) (z.2.2.1 133) (z.2.2.1 134)), (h7, ce49), (h8, ce49), (h9, ce49), (h10, ce49), (h11, ce49), (h12, ce49), (h13, ce49)] [(kc0, .char), (kc1, .object "java/lang/Object"), (kc2, .object "java/lang/Object")] sz z)) (va_Qr (fun (_ : Unit) => True) (fun (_ : Unit) (ra : Nat) (t : State) => ∃ (n0 : Nat), ∃ (m0 : ClassId), ra = n0 ∧ PG (dC, dI) [(h0, ce21 h2 h3 o0 h4), (h1, ce447 kc0), (h2, ce331 h5), (h3, ce3 z.1), (h4, ce366 h6), (h5, ce330 kc1 h7 h8 h9 h10 h11 h12 h13), (h6, ce330 kc2 (z.2.2.1 128) (z.2.2.1 129) (z.2.2.1 130) (z.2.2.1 131) (z.2.2.1 132) (z.2.2.1 133) (z.2.2.1 134)), (h7, ce49), (h8, ce49), (h9, ce49), (h10, ce49), (h11, ce49), (h12, ce49), (h13, ce49), (n0, ce447 m0)] [(kc0, .char), (kc1, .object "java/lang/Object"), (kc2, .object "java/lang/Object"), (m0, .char)] (va_A [(h0, ce21 h2 h3 o0 h4), (h1, ce447 kc0), (h2, ce331 h5), (h3, ce3 z.1), (h4, ce366 h6), (h5, ce330 kc1 h7 h8 h9 h10 h11 h12 h13), (h6, ce330 kc2 (z.2.2.1 128) (z.2.2.1 129) (z.2.2.1 130) (z.2.2.1 131) (z.2.2.1 132) (z.2.2.1 133) (z.2.2.1 134)), (h7, ce49), (h8, ce49), (h9, ce49), (h10, ce49), (h11, ce49), (h12, ce49), (h13, ce49)] sz) sz 9 t) (va_A [(h0, ce21 h2 h3 o0 h4), (h1, ce447 kc0), (h2, ce331 h5), (h3, ce3 z.1), (h4, ce366 h6), (h5, ce330 kc1 h7 h8 h9 h10 h11 h12 h13), (h6, ce330 kc2 (z.2.2.1 128) (z.2.2.1 129) (z.2.2.1 130) (z.2.2.1 131) (z.2.2.1 132) (z.2.2.1 133) (z.2.2.1 134)), (h7, ce49), (h8, ce49), (h9, ce49), (h10, ce49), (h11, ce49), (h12, ce49), (h13, ce49)] sz)) 9 72 (va_A [(h0, ce21 h2 h3 o0 h4), (h1, ce447 kc0), (h2, ce331 h5), (h3, ce3 z.1), (h4, ce366 h6), (h5, ce330 kc1 h7 h8 h9 h10 h11 h12 h13), (h6, ce330 kc2 (z.2.2.1 128) (z.2.2.1 129) (z.2.2.1 130) (z.2.2.1 131) (z.2.2.1 132) (z.2.2.1 133) (z.2.2.1 134)), (h7, ce49), (h8, ce49), (h9, ce49), (h10, ce49), (h11, ce49), (h12, ce49), (h13, ce49)] sz) := by
  refine Met.ofW (cc := cX9_settledAll) (maxL := 11) (ret := (some (.array .char))) (by decide) rfl ?_
  intro p e s m args below meth c s₁ B hml hv
  obtain ⟨rfl, hsz, hP, hK, hD0, hX, hT⟩ := hv
  have hx := B.exec
  have hb := B.bytes
  have hr := B.returns
  have hts0 := atoms_spec (ws := .code yX9_settledAll cX9_settledAll 11 (some (.array .char)) :: wsL_law) B.pre
  have hts := xTail hts0
  have hown : s.vm.findClass RX9 = some m.cls := xown B.named rfl
  have hlocks := B.notSynchronized
  subst hsz
  have hD := hD0.self (sz := s.heap.size)
  generalize hAe : va_A [(h0, ce21 h2 h3 o0 h4), (h1, ce447 kc0), (h2, ce331 h5), (h3, ce3 z.1), (h4, ce366 h6), (h5, ce330 kc1 h7 h8 h9 h10 h11 h12 h13), (h6, ce330 kc2 (z.2.2.1 128) (z.2.2.1 129) (z.2.2.1 130) (z.2.2.1 131) (z.2.2.1 132) (z.2.2.1 133) (z.2.2.1 134)), (h7, ce49), (h8, ce49), (h9, ce49), (h10, ce49), (h11, ce49), (h12, ce49), (h13, ce49)] s.heap.size = A at hD hX ⊢
  have hA : ∀ q : Nat, s.heap.size ≤ q → A q := fun q h => by rw [← hAe]; exact Or.inr h
  have hS : va_S A s.heap s.heap [] := va_S.rf
  have hG : s.heap.size + 0 ≤ s.heap.size := Nat.le_refl _
  have hl := lv_entry ([.ref h0, .ref h1, .int 0, .int 48]) (n := 11) (Nat.le_of_ble_eq_true rfl)
  rw [lg_entry_eq]
  generalize (lg_sl ([.ref h0, .ref h1, .int 0, .int 48]) ++ List.replicate (11 - (lg_sl ([.ref h0, .ref h1, .int 0, .int 48])).length) Slot.unset).toArray = ls at hl ⊢
  have hl : lv_has ls 11 [(0, .ref h0), (1, .ref h1), (2, .int 0), (3, .int 48)] := hl
  refine lv_bipush (v := 40) hx hb dX9_settledAll_0 (by decide) ?_
  refine xa_newa (atype := .char) hx hb (hts _ q_314) rfl hK hP hD hS hA (n := 40) (N' := 40) (a0 := (40, .inl (fun _ => 0))) (fun _ => rfl) (by decide) (by decide) (Nat.le_of_ble_eq_true rfl) (Nat.le_of_ble_eq_true rfl) (Nat.le_of_ble_eq_true rfl) dX9_settledAll_2 (fun a1 k2 H3 hg8 hK hP hD hS => ?_)
  have hG : s.heap.size + 1 ≤ H3.size := by rw [hg8]; exact Nat.succ_le_succ hG
  have hK : va_K (dC, dI) xCl [(kc0, .char), (kc1, .object "java/lang/Object"), (kc2, .object "java/lang/Object"), (k2, .char)] s := hK
  have hP : va_P (dC, dI) xCl [(h0, ce21 h2 h3 o0 h4), (h1, ce447 kc0), (h2, ce331 h5), (h3, ce3 z.1), (h4, ce366 h6), (h5, ce330 kc1 h7 h8 h9 h10 h11 h12 h13), (h6, ce330 kc2 (z.2.2.1 128) (z.2.2.1 129) (z.2.2.1 130) (z.2.2.1 131) (z.2.2.1 132) (z.2.2.1 133) (z.2.2.1 134)), (h7, ce49), (h8, ce49), (h9, ce49), (h10, ce49), (h11, ce49), (h12, ce49), (h13, ce49), (a1, ce51 k2)] H3 := hP
  have hD := vd_as hP hD rfl
  refine W.widen (k := 1) (n := 40) (by decide) (by decide) ?_
  refine lv_astore (lv' := [(4, .ref a1), (0, .ref h0), (1, .ref h1), (2, .int 0), (3, .int 48)]) hx hb dX9_settledAll_4 hl (by decide) rfl (fun ls hl => ?_)
  refine lv_aload_n hx hb dX9_settledAll_6 rfl (lv_at hl 1 rfl) ?_
  refine va_get (D := (dC, dI)) (ci := 8) (v := .ref h4) (C := RX9) (T := TX9) (N := 6) hx hb hts in_X9 hown hK hP 0 rfl rfl 4 (by decide) (hts _ q_67) (fun _ h9 => h9) rfl dX9_settledAll_7 ?_
  have hM6 := k749_iterator l hl9 dC dI z h4 h6 H3.size
  obtain ⟨hF4, hC7⟩ := pc_M hM6 hP hD hK hS hX hT hA [4] [] rfl rfl rfl
  refine va_callr (va_runV (As := []) (rest := []) ⟨hx, hb, hml, hown, hts⟩ hM6 (cwV 0 hts (gV q_256 q_257 q_258 q_12 q_255) rfl rfl rfl hV_Jx4a65c_iterator_32c93 ⟨Nat.le_of_ble_eq_true rfl, Nat.le_of_ble_eq_true rfl⟩) ⟨pc_blind, va_recv hK hP (ci := 0) (q := (RJx4a65c, TJx4a65c, 3)) (q0 := 4) rfl rfl, fun U hU hW => ⟨rfl, hC7 U hU hW⟩⟩ rfl rfl hl.1 rfl (lv_room (Nat.le_of_ble_eq_true rfl)) dX9_settledAll_10 ⟨(Nat.le_of_ble_eq_true rfl), (Nat.le_of_ble_eq_true rfl)⟩) hS (fun q9 _ h9 => hF4 q9 h9) hF4 (fun u8 r9 t8 H8 L8 ht8 hvm8 hw8 hB8 hz8 hk8 hS => ?_)
  obtain ⟨a10, hr8, hB8⟩ := hB8
  obtain ⟨hP, hD, hK⟩ := pq_jn (wz := [(h0, ce21 h2 h3 o0 h4), (h1, ce447 kc0), (h2, ce331 h5), (h3, ce3 z.1), (h5, ce330 kc1 h7 h8 h9 h10 h11 h12 h13), (h6, ce330 kc2 (z.2.2.1 128) (z.2.2.1 129) (z.2.2.1 130) (z.2.2.1 131) (z.2.2.1 132) (z.2.2.1 133) (z.2.2.1 134)), (h7, ce49), (h8, ce49), (h9, ce49), (h10, ce49), (h11, ce49), (h12, ce49), (h13, ce49), (a1, ce51 k2), (h4, ce366 h6), (a10, ce386 h4)]) (tz := [(kc0, .char), (kc1, .object "java/lang/Object"), (kc2, .object "java/lang/Object"), (k2, .char)]) hP hD hK [4] [0, 1, 2, 3] rfl hk8 hF4 hB8.1 ht8 hvm8 rfl rfl
  have hG : s.heap.size + 2 ≤ H8.size := va_gr (g := 1) (g1 := 1) hG (by rw [← ht8]; exact hB8.2)
  refine W.eq (g2 := F0 m 13 ls [.ref a10]) (by rw [hr8]) ?_
  refine W.widen (k := 2) (n := 44) (by decide) (by decide) ?_
  refine lv_astore (lv' := [(5, .ref a10), (4, .ref a1), (0, .ref h0), (1, .ref h1), (2, .int 0), (3, .int 48)]) hx hb dX9_settledAll_13 hl (by decide) rfl (fun ls hl => ?_)
  refine lv_aload hx hb dX9_settledAll_15 (lv_at hl 0 rfl) ?_
  have hM13 := k750_hasNext l hl9 dC dI z a10 h4 h6 H8.size
  obtain ⟨hF11, hC14⟩ := pc_M hM13 hP hD hK hS hX hT hA [15, 14] [] rfl rfl rfl
  refine va_callFi (va_runF (As := []) (rest := []) (hK.1 1 (RJx35411, TJx35411, 4) rfl).2 ⟨hx, hb, hml, hown, hts⟩ hM13 (va_cwF 0 hts (gF q_261 q_262 q_263 q_246 q_260) rfl rfl rfl hT.2.2.2.2.2.2.1 hF_xIh ⟨Nat.le_of_ble_eq_true rfl, Nat.le_of_ble_eq_true rfl⟩) ⟨pc_blind, va_recv hK hP (ci := 1) (q := (RJx35411, TJx35411, 4)) (q0 := 15) rfl rfl, fun U hU hW => ⟨rfl, hC14 U hU hW⟩⟩ rfl rfl hl.1 rfl (lv_room (Nat.le_of_ble_eq_true rfl)) dX9_settledAll_17 ⟨(Nat.le_of_ble_eq_true rfl), (Nat.le_of_ble_eq_true rfl)⟩) hS (fun q9 _ h9 => hF11 q9 h9) hF11 (fun r16 u15 t15 H15 L15 ht15 hvm15 hw15 hB15 hz15 hk15 hS => ?_)
  have hP := pq_keep hP hD [15, 14] rfl hk15 hB15.1 ht15
  have hG : s.heap.size + 2 ≤ H15.size := Nat.le_trans hG hz15
  refine W.eq (g2 := F0 m 22 ls [.int 1]) (by rw [hw15]) ?_
  refine lv_if_eq (tgt := 221) hx hb dX9_settledAll_22 (by decide) (fun cz => absurd cz (by decide)) (fun _ => ?_)
  refine lv_aload hx hb dX9_settledAll_25 (lv_at hl 0 rfl) ?_
  have hM19 := k752_next l hl9 dC dI z a10 h4 h6 H15.size kc2
  obtain ⟨hF17, hC20⟩ := pc_M hM19 hP hD hK hS hX hT hA [15, 14, 5] [2] rfl rfl rfl
  refine va_callFr (va_runF (As := []) (rest := []) (hK.1 1 (RJx35411, TJx35411, 4) rfl).2 ⟨hx, hb, hml, hown, hts⟩ hM19 (va_cwF 0 hts (gF q_308 q_309 q_310 q_246 q_307) rfl rfl rfl hT.2.2.2.2.2.2.2.1 hF_xIn ⟨Nat.le_of_ble_eq_true rfl, Nat.le_of_ble_eq_true rfl⟩) ⟨pc_blind, va_recv hK hP (ci := 1) (q := (RJx35411, TJx35411, 4)) (q0 := 15) rfl rfl, fun U hU hW => ⟨rfl, hC20 U hU hW⟩⟩ rfl rfl hl.1 rfl (lv_room (Nat.le_of_ble_eq_true rfl)) dX9_settledAll_27 ⟨(Nat.le_of_ble_eq_true rfl), (Nat.le_of_ble_eq_true rfl)⟩) hS (fun q9 _ h9 => hF17 q9 h9) hF17 (fun u21 r22 t21 H21 L21 ht21 hvm21 hw21 hB21 hz21 hk21 hS => ?_)
  obtain ⟨hr21, hB21⟩ := hB21
  obtain ⟨hP, hD, hK⟩ := pq_jn (wz := [(h0, ce21 h2 h3 o0 h4), (h1, ce447 kc0), (h2, ce331 h5), (h3, ce3 z.1), (h5, ce330 kc1 h7 h8 h9 h10 h11 h12 h13), (h7, ce49), (h8, ce49), (h9, ce49), (h10, ce49), (h11, ce49), (h12, ce49), (h13, ce49), (a1, ce51 k2), (a10, ce388 h4), (h4, ce366 h6), (h6, ce330 kc2 (z.2.2.1 128) (z.2.2.1 129) (z.2.2.1 130) (z.2.2.1 131) (z.2.2.1 132) (z.2.2.1 133) (z.2.2.1 134))]) (tz := [(kc0, .char), (kc1, .object "java/lang/Object"), (k2, .char), (kc2, .object "java/lang/Object")]) hP hD hK [15, 14, 5] [0, 1, 3] rfl hk21 hF17 hB21.1 ht21 hvm21 rfl rfl
  have hG : s.heap.size + 2 ≤ H21.size := Nat.le_trans hG hz21
  refine W.eq (g2 := F0 m 32 ls [.ref (z.2.2.1 128)]) (by rw [hr21]) ?_
  refine va_castE (nm := "java/lang/Integer") hx hb hown (hts _ q_320) (va_Orecv (hX.2.2.1.1.1 128 (by decide)) hS) dX9_settledAll_32 ?_
  have hM25 := k74_intValue l hl9 dC dI z H21.size
  obtain ⟨hF23, hC26⟩ := pc_M hM25 hP hD hK hS hX hT hA [] [] rfl rfl rfl
  refine va_calli (va_runV (As := []) (rest := []) ⟨hx, hb, hml, hown, hts⟩ hM25 (cwV 0 hts (gV q_323 q_324 q_325 q_297 q_322) rfl rfl rfl hV_J6_intValue_8abf5 ⟨Nat.le_of_ble_eq_true rfl, Nat.le_of_ble_eq_true rfl⟩) ⟨pc_blind, va_Orecv (hX.2.2.1.1.1 128 (by decide)) hS, fun U hU hW => ⟨rfl, hC26 U hU hW⟩⟩ rfl rfl hl.1 rfl (lv_room (Nat.le_of_ble_eq_true rfl)) dX9_settledAll_35 ⟨(Nat.le_of_ble_eq_true rfl), (Nat.le_of_ble_eq_true rfl)⟩) hS (fun q9 _ h9 => hF23 q9 h9) hF23 (fun r28 u27 t27 H27 L27 ht27 hvm27 hw27 hB27 hz27 hk27 hS => ?_)
  have hP := pq_keep hP hD [] rfl hk27 hB27.1 ht27
  have hG : s.heap.size + 2 ≤ H27.size := Nat.le_trans hG hz27
  refine W.eq (g2 := F0 m 38 ls [.int 0]) (by rw [hw27]) ?_
  refine lv_istore (lv' := [(6, .int 0), (5, .ref a10), (4, .ref a1), (0, .ref h0), (1, .ref h1), (2, .int 0), (3, .int 48)]) hx hb dX9_settledAll_38 hl (by decide) rfl (fun ls hl => ?_)
  refine lv_aload_n hx hb dX9_settledAll_40 rfl (lv_at hl 3 rfl) ?_
  refine va_get (D := (dC, dI)) (ci := 8) (v := .ref h2) (C := RX9) (T := TX9) (N := 6) hx hb hts in_X9 hown hK hP 0 rfl rfl 1 (by decide) (hts _ q_64) (fun _ h9 => h9) rfl dX9_settledAll_41 ?_
  refine lv_iload hx hb dX9_settledAll_44 (lv_at hl 0 rfl) ?_
  have hM31 := k632_get l hl9 dC dI z h2 h5 h7 h8 h9 h10 h11 h12 h13 H27.size kc1
  obtain ⟨hF29, hC32⟩ := pc_M hM31 hP hD hK hS hX hT hA [2, 4] [1] rfl rfl rfl
  refine va_callr (va_runV (As := [.int 0]) (rest := []) ⟨hx, hb, hml, hown, hts⟩ hM31 (cwV 1 hts (gV q_315 q_157 q_158 q_12 q_155) rfl rfl rfl hV_Jx4a65c_get_915e3 ⟨Nat.le_of_ble_eq_true rfl, Nat.le_of_ble_eq_true rfl⟩) ⟨pc_blind, va_recv hK hP (ci := 0) (q := (RJx4a65c, TJx4a65c, 3)) (q0 := 2) rfl rfl, fun U hU hW => ⟨rfl, hC32 U hU hW⟩⟩ rfl rfl hl.1 rfl (lv_room (Nat.le_of_ble_eq_true rfl)) dX9_settledAll_46 ⟨(Nat.le_of_ble_eq_true rfl), (Nat.le_of_ble_eq_true rfl)⟩) hS (fun q9 _ h9 => hF29 q9 h9) hF29 (fun u33 r34 t33 H33 L33 ht33 hvm33 hw33 hB33 hz33 hk33 hS => ?_)
  obtain ⟨hr33, hB33⟩ := hB33
  have hP := pq_keep hP hD [2, 4] rfl hk33 hB33.1 ht33
  have hG : s.heap.size + 2 ≤ H33.size := Nat.le_trans hG hz33
  refine W.eq (g2 := F0 m 49 ls [.ref h7]) (by rw [hr33]) ?_
  refine va_castE (nm := RX8) hx hb hown (hts _ q_273) (va_recv hK hP (ci := 7) (q := (RX8, TX8, 6)) (q0 := 5) rfl rfl) dX9_settledAll_49 ?_
  refine va_get (D := (dC, dI)) (ci := 7) (v := .int 105) (C := RX8) (T := TX8) (N := 6) hx hb hts in_X8 hown hK hP 5 rfl rfl 0 (by decide) (hts _ q_326) (fun _ h9 => h9) rfl dX9_settledAll_52 ?_
  refine lv_bipush (v := 98) hx hb dX9_settledAll_55 (by decide) ?_
  refine lv_icmp_ne (tgt := 64) hx hb dX9_settledAll_57 (by decide) (fun _ => ?_) (fun cz => absurd cz (by decide))
  refine lv_iconst (v := 0) hx hb dX9_settledAll_64 (by decide) ?_
  refine lv_istore (lv' := [(7, .int 0), (6, .int 0), (5, .ref a10), (4, .ref a1), (0, .ref h0), (1, .ref h1), (2, .int 0), (3, .int 48)]) hx hb dX9_settledAll_65 hl (by decide) rfl (fun ls hl => ?_)
  refine lv_aload hx hb dX9_settledAll_67 (lv_at hl 3 rfl) ?_
  refine lv_iload hx hb dX9_settledAll_69 (lv_at hl 1 rfl) ?_
  refine lv_iload hx hb dX9_settledAll_71 (lv_at hl 0 rfl) ?_
  refine lv_if_eq (tgt := 81) hx hb dX9_settledAll_73 (by decide) (fun _ => ?_) (fun cz => absurd (by decide) cz)
  refine lv_aload_n hx hb dX9_settledAll_81 rfl (lv_at hl 5 rfl) ?_
  refine lv_iload hx hb dX9_settledAll_82 (lv_at hl 1 rfl) ?_
  refine va_cald hx hb hK hP 1 0 rfl rfl (i := 0) (by unfold vp_in; decide) dX9_settledAll_84 ?_
  refine W.eq (g2 := F0 m 85 ls [.int 48, .int 0, .ref a1]) rfl ?_
  refine va_cast hx hb hK hP hD (va_Sre hS) 12 2 rfl rfl (i := 0) (by unfold vp_in; decide) dX9_settledAll_85 (fun H35 _ hP hD hS' => ?_)
  have hG : s.heap.size + 2 ≤ H35.size := Nat.le_trans hG hS'.1
  have hS := va_Str hS hS'
  have hP : va_P (dC, dI) xCl [(h0, ce21 h2 h3 o0 h4), (h1, ce447 kc0), (h2, ce331 h5), (h3, ce3 z.1), (h5, ce330 kc1 h7 h8 h9 h10 h11 h12 h13), (h7, ce49), (h8, ce49), (h9, ce49), (h10, ce49), (h11, ce49), (h12, ce49), (h13, ce49), (a1, ce441 k2), (a10, ce388 h4), (h4, ce366 h6), (h6, ce330 kc2 (z.2.2.1 128) (z.2.2.1 129) (z.2.2.1 130) (z.2.2.1 131) (z.2.2.1 132) (z.2.2.1 133) (z.2.2.1 134))] H35 := hP
  have hD := vd_as hP hD rfl
  refine lv_aload_n hx hb dX9_settledAll_86 rfl (lv_at hl 4 rfl) ?_
  refine va_get (D := (dC, dI)) (ci := 8) (v := .ref h3) (C := RX9) (T := TX9) (N := 6) hx hb hts in_X9 hown hK hP 0 rfl rfl 2 (by decide) (hts _ q_65) (fun _ h9 => h9) rfl dX9_settledAll_87 ?_
  have hM38 := k49_iterator l hl9 dC dI z h3 H35.size
  obtain ⟨hF36, hC39⟩ := pc_M hM38 hP hD hK hS hX hT hA [3] [] rfl rfl rfl
  refine va_callr (va_runV (As := []) (rest := []) ⟨hx, hb, hml, hown, hts⟩ hM38 (cwV 0 hts (gV q_256 q_257 q_258 q_12 q_255) rfl rfl rfl hV_Jx4a65c_iterator_32c93 ⟨Nat.le_of_ble_eq_true rfl, Nat.le_of_ble_eq_true rfl⟩) ⟨pc_blind, va_recv hK hP (ci := 0) (q := (RJx4a65c, TJx4a65c, 3)) (q0 := 3) rfl rfl, fun U hU hW => ⟨rfl, hC39 U hU hW⟩⟩ rfl rfl hl.1 rfl (lv_room (Nat.le_of_ble_eq_true rfl)) dX9_settledAll_90 ⟨(Nat.le_of_ble_eq_true rfl), (Nat.le_of_ble_eq_true rfl)⟩) hS (fun q9 _ h9 => hF36 q9 h9) hF36 (fun u40 r41 t40 H40 L40 ht40 hvm40 hw40 hB40 hz40 hk40 hS => ?_)
  obtain ⟨a42, hr40, hB40⟩ := hB40
  obtain ⟨hP, hD, hK⟩ := pq_jn (wz := [(h0, ce21 h2 h3 o0 h4), (h1, ce447 kc0), (h2, ce331 h5), (h5, ce330 kc1 h7 h8 h9 h10 h11 h12 h13), (h7, ce49), (h8, ce49), (h9, ce49), (h10, ce49), (h11, ce49), (h12, ce49), (h13, ce49), (a1, ce441 k2), (a10, ce388 h4), (h4, ce366 h6), (h6, ce330 kc2 (z.2.2.1 128) (z.2.2.1 129) (z.2.2.1 130) (z.2.2.1 131) (z.2.2.1 132) (z.2.2.1 133) (z.2.2.1 134)), (h3, ce3 z.1), (a42, ce44 h3)]) (tz := [(kc0, .char), (kc1, .object "java/lang/Object"), (k2, .char), (kc2, .object "java/lang/Object")]) hP hD hK [3] [0, 1, 2, 3] rfl hk40 hF36 hB40.1 ht40 hvm40 rfl rfl
  have hG : s.heap.size + 3 ≤ H40.size := va_gr (g := 2) (g1 := 1) hG (by rw [← ht40]; exact hB40.2)
  refine W.eq (g2 := F0 m 93 ls [.ref a42]) (by rw [hr40]) ?_
  refine W.widen (k := 3) (n := 48) (by decide) (by decide) ?_
  refine lv_astore (lv' := [(8, .ref a42), (7, .int 0), (6, .int 0), (5, .ref a10), (4, .ref a1), (0, .ref h0), (1, .ref h1), (2, .int 0), (3, .int 48)]) hx hb dX9_settledAll_93 hl (by decide) rfl (fun ls hl => ?_)
  refine lv_aload hx hb dX9_settledAll_95 (lv_at hl 0 rfl) ?_
  have hM45 := k50_hasNext l hl9 dC dI z a42 h3 H40.size
  obtain ⟨hF43, hC46⟩ := pc_M hM45 hP hD hK hS hX hT hA [16, 15] [] rfl rfl rfl
  refine va_callFi (va_runF (As := []) (rest := []) (hK.1 1 (RJx35411, TJx35411, 4) rfl).2 ⟨hx, hb, hml, hown, hts⟩ hM45 (va_cwF 0 hts (gF q_261 q_262 q_263 q_246 q_260) rfl rfl rfl hT.2.2.2.2.2.2.1 hF_xIh ⟨Nat.le_of_ble_eq_true rfl, Nat.le_of_ble_eq_true rfl⟩) ⟨pc_blind, va_recv hK hP (ci := 1) (q := (RJx35411, TJx35411, 4)) (q0 := 16) rfl rfl, fun U hU hW => ⟨rfl, hC46 U hU hW⟩⟩ rfl rfl hl.1 rfl (lv_room (Nat.le_of_ble_eq_true rfl)) dX9_settledAll_97 ⟨(Nat.le_of_ble_eq_true rfl), (Nat.le_of_ble_eq_true rfl)⟩) hS (fun q9 _ h9 => hF43 q9 h9) hF43 (fun r48 u47 t47 H47 L47 ht47 hvm47 hw47 hB47 hz47 hk47 hS => ?_)
  have hP := pq_keep hP hD [16, 15] rfl hk47 hB47.1 ht47
  have hG : s.heap.size + 3 ≤ H47.size := Nat.le_trans hG hz47
  refine W.eq (g2 := F0 m 102 ls [.int 0]) (by rw [hw47]) ?_
  refine lv_if_eq (tgt := 198) hx hb dX9_settledAll_102 (by decide) (fun _ => ?_) (fun cz => absurd (by decide) cz)
  refine lv_aload hx hb dX9_settledAll_198 (lv_at hl 4 rfl) ?_
  refine lv_iload hx hb dX9_settledAll_200 (lv_at hl 2 rfl) ?_
  refine lv_iload hx hb dX9_settledAll_202 (lv_at hl 2 rfl) ?_
  refine lv_iload_n hx hb dX9_settledAll_204 rfl (lv_at hl 7 rfl) ?_
  refine lv_icmp_ne (tgt := 212) hx hb dX9_settledAll_205 (by decide) (fun cz => absurd (by decide) cz) (fun _ => ?_)
  refine lv_iload_n hx hb dX9_settledAll_208 rfl (lv_at hl 8 rfl) ?_
  refine lv_goto (tgt := 217) hx hb dX9_settledAll_209 (by decide) ?_
  refine va_cast hx hb hK hP hD (va_Sre hS) 11 2 rfl rfl (i := 0) (by unfold vp_in; decide) dX9_settledAll_217 (fun H49 _ hP hD hS' => ?_)
  have hG : s.heap.size + 3 ≤ H49.size := Nat.le_trans hG hS'.1
  have hS := va_Str hS hS'
  have hP : va_P (dC, dI) xCl [(h0, ce21 h2 h3 o0 h4), (h1, ce447 kc0), (h2, ce331 h5), (h5, ce330 kc1 h7 h8 h9 h10 h11 h12 h13), (h7, ce49), (h8, ce49), (h9, ce49), (h10, ce49), (h11, ce49), (h12, ce49), (h13, ce49), (a1, ce448 k2), (a10, ce388 h4), (h4, ce366 h6), (h6, ce330 kc2 (z.2.2.1 128) (z.2.2.1 129) (z.2.2.1 130) (z.2.2.1 131) (z.2.2.1 132) (z.2.2.1 133) (z.2.2.1 134)), (h3, ce3 z.1), (a42, ce44 h3)] H49 := hP
  have hD := vd_as hP hD rfl
  refine lv_goto (tgt := 15) hx hb dX9_settledAll_218 (by decide) ?_
  refine lv_aload hx hb dX9_settledAll_15 (lv_at hl 3 rfl) ?_
  have hM52 := k753_hasNext l hl9 dC dI z a10 h4 h6 H49.size
  obtain ⟨hF50, hC53⟩ := pc_M hM52 hP hD hK hS hX hT hA [12, 13] [] rfl rfl rfl
  refine va_callFi (va_runF (As := []) (rest := []) (hK.1 1 (RJx35411, TJx35411, 4) rfl).2 ⟨hx, hb, hml, hown, hts⟩ hM52 (va_cwF 0 hts (gF q_261 q_262 q_263 q_246 q_260) rfl rfl rfl hT.2.2.2.2.2.2.1 hF_xIh ⟨Nat.le_of_ble_eq_true rfl, Nat.le_of_ble_eq_true rfl⟩) ⟨pc_blind, va_recv hK hP (ci := 1) (q := (RJx35411, TJx35411, 4)) (q0 := 12) rfl rfl, fun U hU hW => ⟨rfl, hC53 U hU hW⟩⟩ rfl rfl hl.1 rfl (lv_room (Nat.le_of_ble_eq_true rfl)) dX9_settledAll_17 ⟨(Nat.le_of_ble_eq_true rfl), (Nat.le_of_ble_eq_true rfl)⟩) hS (fun q9 _ h9 => hF50 q9 h9) hF50 (fun r55 u54 t54 H54 L54 ht54 hvm54 hw54 hB54 hz54 hk54 hS => ?_)
  have hP := pq_keep hP hD [12, 13] rfl hk54 hB54.1 ht54
  have hG : s.heap.size + 3 ≤ H54.size := Nat.le_trans hG hz54
  refine W.eq (g2 := F0 m 22 ls [.int 1]) (by rw [hw54]) ?_
  refine lv_if_eq (tgt := 221) hx hb dX9_settledAll_22 (by decide) (fun cz => absurd cz (by decide)) (fun _ => ?_)
  refine lv_aload hx hb dX9_settledAll_25 (lv_at hl 3 rfl) ?_
  have hM58 := k755_next l hl9 dC dI z a10 h4 h6 H54.size kc2
  obtain ⟨hF56, hC59⟩ := pc_M hM58 hP hD hK hS hX hT hA [12, 13, 14] [3] rfl rfl rfl
  refine va_callFr (va_runF (As := []) (rest := []) (hK.1 1 (RJx35411, TJx35411, 4) rfl).2 ⟨hx, hb, hml, hown, hts⟩ hM58 (va_cwF 0 hts (gF q_308 q_309 q_310 q_246 q_307) rfl rfl rfl hT.2.2.2.2.2.2.2.1 hF_xIn ⟨Nat.le_of_ble_eq_true rfl, Nat.le_of_ble_eq_true rfl⟩) ⟨pc_blind, va_recv hK hP (ci := 1) (q := (RJx35411, TJx35411, 4)) (q0 := 12) rfl rfl, fun U hU hW => ⟨rfl, hC59 U hU hW⟩⟩ rfl rfl hl.1 rfl (lv_room (Nat.le_of_ble_eq_true rfl)) dX9_settledAll_27 ⟨(Nat.le_of_ble_eq_true rfl), (Nat.le_of_ble_eq_true rfl)⟩) hS (fun q9 _ h9 => hF56 q9 h9) hF56 (fun u60 r61 t60 H60 L60 ht60 hvm60 hw60 hB60 hz60 hk60 hS => ?_)
  obtain ⟨hr60, hB60⟩ := hB60
  obtain ⟨hP, hD, hK⟩ := pq_jn (wz := [(h0, ce21 h2 h3 o0 h4), (h1, ce447 kc0), (h2, ce331 h5), (h5, ce330 kc1 h7 h8 h9 h10 h11 h12 h13), (h7, ce49), (h8, ce49), (h9, ce49), (h10, ce49), (h11, ce49), (h12, ce49), (h13, ce49), (a1, ce448 k2), (h3, ce3 z.1), (a42, ce44 h3), (a10, ce390 h4), (h4, ce366 h6), (h6, ce330 kc2 (z.2.2.1 128) (z.2.2.1 129) (z.2.2.1 130) (z.2.2.1 131) (z.2.2.1 132) (z.2.2.1 133) (z.2.2.1 134))]) (tz := [(kc0, .char), (kc1, .object "java/lang/Object"), (k2, .char), (kc2, .object "java/lang/Object")]) hP hD hK [12, 13, 14] [0, 1, 2] rfl hk60 hF56 hB60.1 ht60 hvm60 rfl rfl
  have hG : s.heap.size + 3 ≤ H60.size := Nat.le_trans hG hz60
  refine W.eq (g2 := F0 m 32 ls [.ref (z.2.2.1 129)]) (by rw [hr60]) ?_
  refine va_castE (nm := "java/lang/Integer") hx hb hown (hts _ q_320) (va_Orecv (hX.2.2.1.1.1 129 (by decide)) hS) dX9_settledAll_32 ?_
  have hM64 := k151_intValue l hl9 dC dI z H60.size
  obtain ⟨hF62, hC65⟩ := pc_M hM64 hP hD hK hS hX hT hA [] [] rfl rfl rfl
  refine va_calli (va_runV (As := []) (rest := []) ⟨hx, hb, hml, hown, hts⟩ hM64 (cwV 0 hts (gV q_323 q_324 q_325 q_297 q_322) rfl rfl rfl hV_J6_intValue_8abf5 ⟨Nat.le_of_ble_eq_true rfl, Nat.le_of_ble_eq_true rfl⟩) ⟨pc_blind, va_Orecv (hX.2.2.1.1.1 129 (by decide)) hS, fun U hU hW => ⟨rfl, hC65 U hU hW⟩⟩ rfl rfl hl.1 rfl (lv_room (Nat.le_of_ble_eq_true rfl)) dX9_settledAll_35 ⟨(Nat.le_of_ble_eq_true rfl), (Nat.le_of_ble_eq_true rfl)⟩) hS (fun q9 _ h9 => hF62 q9 h9) hF62 (fun r67 u66 t66 H66 L66 ht66 hvm66 hw66 hB66 hz66 hk66 hS => ?_)
  have hP := pq_keep hP hD [] rfl hk66 hB66.1 ht66
  have hG : s.heap.size + 3 ≤ H66.size := Nat.le_trans hG hz66
  refine W.eq (g2 := F0 m 38 ls [.int 1]) (by rw [hw66]) ?_
  refine lv_istore (lv' := [(6, .int 1), (8, .ref a42), (7, .int 0), (5, .ref a10), (4, .ref a1), (0, .ref h0), (1, .ref h1), (2, .int 0), (3, .int 48)]) hx hb dX9_settledAll_38 hl (by decide) rfl (fun ls hl => ?_)
  refine lv_aload_n hx hb dX9_settledAll_40 rfl (lv_at hl 5 rfl) ?_
  refine va_get (D := (dC, dI)) (ci := 8) (v := .ref h2) (C := RX9) (T := TX9) (N := 6) hx hb hts in_X9 hown hK hP 0 rfl rfl 1 (by decide) (hts _ q_64) (fun _ h9 => h9) rfl dX9_settledAll_41 ?_
  refine lv_iload hx hb dX9_settledAll_44 (lv_at hl 0 rfl) ?_
  have hM70 := k636_get l hl9 dC dI z h2 h5 h7 h8 h9 h10 h11 h12 h13 H66.size kc1
  obtain ⟨hF68, hC71⟩ := pc_M hM70 hP hD hK hS hX hT hA [2, 3] [1] rfl rfl rfl
  refine va_callr (va_runV (As := [.int 1]) (rest := []) ⟨hx, hb, hml, hown, hts⟩ hM70 (cwV 1 hts (gV q_315 q_157 q_158 q_12 q_155) rfl rfl rfl hV_Jx4a65c_get_915e3 ⟨Nat.le_of_ble_eq_true rfl, Nat.le_of_ble_eq_true rfl⟩) ⟨pc_blind, va_recv hK hP (ci := 0) (q := (RJx4a65c, TJx4a65c, 3)) (q0 := 2) rfl rfl, fun U hU hW => ⟨rfl, hC71 U hU hW⟩⟩ rfl rfl hl.1 rfl (lv_room (Nat.le_of_ble_eq_true rfl)) dX9_settledAll_46 ⟨(Nat.le_of_ble_eq_true rfl), (Nat.le_of_ble_eq_true rfl)⟩) hS (fun q9 _ h9 => hF68 q9 h9) hF68 (fun u72 r73 t72 H72 L72 ht72 hvm72 hw72 hB72 hz72 hk72 hS => ?_)
  obtain ⟨hr72, hB72⟩ := hB72
  have hP := pq_keep hP hD [2, 3] rfl hk72 hB72.1 ht72
  have hG : s.heap.size + 3 ≤ H72.size := Nat.le_trans hG hz72
  refine W.eq (g2 := F0 m 49 ls [.ref h8]) (by rw [hr72]) ?_
  refine va_castE (nm := RX8) hx hb hown (hts _ q_273) (va_recv hK hP (ci := 7) (q := (RX8, TX8, 6)) (q0 := 5) rfl rfl) dX9_settledAll_49 ?_
  refine va_get (D := (dC, dI)) (ci := 7) (v := .int 105) (C := RX8) (T := TX8) (N := 6) hx hb hts in_X8 hown hK hP 5 rfl rfl 0 (by decide) (hts _ q_326) (fun _ h9 => h9) rfl dX9_settledAll_52 ?_
  refine lv_bipush (v := 98) hx hb dX9_settledAll_55 (by decide) ?_
  refine lv_icmp_ne (tgt := 64) hx hb dX9_settledAll_57 (by decide) (fun _ => ?_) (fun cz => absurd cz (by decide))
  refine lv_iconst (v := 0) hx hb dX9_settledAll_64 (by decide) ?_
  refine lv_istore (lv' := [(7, .int 0), (6, .int 1), (8, .ref a42), (5, .ref a10), (4, .ref a1), (0, .ref h0), (1, .ref h1), (2, .int 0), (3, .int 48)]) hx hb dX9_settledAll_65 hl (by decide) rfl (fun ls hl => ?_)
  refine lv_aload hx hb dX9_settledAll_67 (lv_at hl 4 rfl) ?_
  refine lv_iload hx hb dX9_settledAll_69 (lv_at hl 1 rfl) ?_
  refine lv_iload hx hb dX9_settledAll_71 (lv_at hl 0 rfl) ?_
  refine lv_if_eq (tgt := 81) hx hb dX9_settledAll_73 (by decide) (fun _ => ?_) (fun cz => absurd (by decide) cz)
  refine lv_aload_n hx hb dX9_settledAll_81 rfl (lv_at hl 6 rfl) ?_
  refine lv_iload hx hb dX9_settledAll_82 (lv_at hl 1 rfl) ?_
  refine va_cald hx hb hK hP 1 0 rfl rfl (i := 1) (by unfold vp_in; decide) dX9_settledAll_84 ?_
  refine W.eq (g2 := F0 m 85 ls [.int 48, .int 1, .ref a1]) rfl ?_
  refine va_cast hx hb hK hP hD (va_Sre hS) 11 2 rfl rfl (i := 1) (by unfold vp_in; decide) dX9_settledAll_85 (fun H74 _ hP hD hS' => ?_)
  have hG : s.heap.size + 3 ≤ H74.size := Nat.le_trans hG hS'.1
  have hS := va_Str hS hS'
  have hP : va_P (dC, dI) xCl [(h0, ce21 h2 h3 o0 h4), (h1, ce447 kc0), (h2, ce331 h5), (h5, ce330 kc1 h7 h8 h9 h10 h11 h12 h13), (h7, ce49), (h8, ce49), (h9, ce49), (h10, ce49), (h11, ce49), (h12, ce49), (h13, ce49), (a1, ce449 k2), (h3, ce3 z.1), (a42, ce44 h3), (a10, ce390 h4), (h4, ce366 h6), (h6, ce330 kc2 (z.2.2.1 128) (z.2.2.1 129) (z.2.2.1 130) (z.2.2.1 131) (z.2.2.1 132) (z.2.2.1 133) (z.2.2.1 134))] H74 := hP
  have hD := vd_as hP hD rfl
  refine lv_aload_n hx hb dX9_settledAll_86 rfl (lv_at hl 5 rfl) ?_
  refine va_get (D := (dC, dI)) (ci := 8) (v := .ref h3) (C := RX9) (T := TX9) (N := 6) hx hb hts in_X9 hown hK hP 0 rfl rfl 2 (by decide) (hts _ q_65) (fun _ h9 => h9) rfl dX9_settledAll_87 ?_
  have hM77 := k49_iterator l hl9 dC dI z h3 H74.size
  obtain ⟨hF75, hC78⟩ := pc_M hM77 hP hD hK hS hX hT hA [12] [] rfl rfl rfl
  refine va_callr (va_runV (As := []) (rest := []) ⟨hx, hb, hml, hown, hts⟩ hM77 (cwV 0 hts (gV q_256 q_257 q_258 q_12 q_255) rfl rfl rfl hV_Jx4a65c_iterator_32c93 ⟨Nat.le_of_ble_eq_true rfl, Nat.le_of_ble_eq_true rfl⟩) ⟨pc_blind, va_recv hK hP (ci := 0) (q := (RJx4a65c, TJx4a65c, 3)) (q0 := 12) rfl rfl, fun U hU hW => ⟨rfl, hC78 U hU hW⟩⟩ rfl rfl hl.1 rfl (lv_room (Nat.le_of_ble_eq_true rfl)) dX9_settledAll_90 ⟨(Nat.le_of_ble_eq_true rfl), (Nat.le_of_ble_eq_true rfl)⟩) hS (fun q9 _ h9 => hF75 q9 h9) hF75 (fun u79 r80 t79 H79 L79 ht79 hvm79 hw79 hB79 hz79 hk79 hS => ?_)
  obtain ⟨a81, hr79, hB79⟩ := hB79
  obtain ⟨hP, hD, hK⟩ := pq_jn (wz := [(h0, ce21 h2 h3 o0 h4), (h1, ce447 kc0), (h2, ce331 h5), (h5, ce330 kc1 h7 h8 h9 h10 h11 h12 h13), (h7, ce49), (h8, ce49), (h9, ce49), (h10, ce49), (h11, ce49), (h12, ce49), (h13, ce49), (a1, ce449 k2), (a42, ce44 h3), (a10, ce390 h4), (h4, ce366 h6), (h6, ce330 kc2 (z.2.2.1 128) (z.2.2.1 129) (z.2.2.1 130) (z.2.2.1 131) (z.2.2.1 132) (z.2.2.1 133) (z.2.2.1 134)), (h3, ce3 z.1), (a81, ce44 h3)]) (tz := [(kc0, .char), (kc1, .object "java/lang/Object"), (k2, .char), (kc2, .object "java/lang/Object")]) hP hD hK [12] [0, 1, 2, 3] rfl hk79 hF75 hB79.1 ht79 hvm79 rfl rfl
  have hG : s.heap.size + 4 ≤ H79.size := va_gr (g := 3) (g1 := 1) hG (by rw [← ht79]; exact hB79.2)
  refine W.eq (g2 := F0 m 93 ls [.ref a81]) (by rw [hr79]) ?_
  refine W.widen (k := 4) (n := 52) (by decide) (by decide) ?_
  refine lv_astore (lv' := [(8, .ref a81), (7, .int 0), (6, .int 1), (5, .ref a10), (4, .ref a1), (0, .ref h0), (1, .ref h1), (2, .int 0), (3, .int 48)]) hx hb dX9_settledAll_93 hl (by decide) rfl (fun ls hl => ?_)
  refine lv_aload hx hb dX9_settledAll_95 (lv_at hl 0 rfl) ?_
  have hM84 := k50_hasNext l hl9 dC dI z a81 h3 H79.size
  obtain ⟨hF82, hC85⟩ := pc_M hM84 hP hD hK hS hX hT hA [17, 16] [] rfl rfl rfl
  refine va_callFi (va_runF (As := []) (rest := []) (hK.1 1 (RJx35411, TJx35411, 4) rfl).2 ⟨hx, hb, hml, hown, hts⟩ hM84 (va_cwF 0 hts (gF q_261 q_262 q_263 q_246 q_260) rfl rfl rfl hT.2.2.2.2.2.2.1 hF_xIh ⟨Nat.le_of_ble_eq_true rfl, Nat.le_of_ble_eq_true rfl⟩) ⟨pc_blind, va_recv hK hP (ci := 1) (q := (RJx35411, TJx35411, 4)) (q0 := 17) rfl rfl, fun U hU hW => ⟨rfl, hC85 U hU hW⟩⟩ rfl rfl hl.1 rfl (lv_room (Nat.le_of_ble_eq_true rfl)) dX9_settledAll_97 ⟨(Nat.le_of_ble_eq_true rfl), (Nat.le_of_ble_eq_true rfl)⟩) hS (fun q9 _ h9 => hF82 q9 h9) hF82 (fun r87 u86 t86 H86 L86 ht86 hvm86 hw86 hB86 hz86 hk86 hS => ?_)
  have hP := pq_keep hP hD [17, 16] rfl hk86 hB86.1 ht86
  have hG : s.heap.size + 4 ≤ H86.size := Nat.le_trans hG hz86
  refine W.eq (g2 := F0 m 102 ls [.int 0]) (by rw [hw86]) ?_
  refine lv_if_eq (tgt := 198) hx hb dX9_settledAll_102 (by decide) (fun _ => ?_) (fun cz => absurd (by decide) cz)
  refine lv_aload hx hb dX9_settledAll_198 (lv_at hl 4 rfl) ?_
  refine lv_iload hx hb dX9_settledAll_200 (lv_at hl 2 rfl) ?_
  refine lv_iload hx hb dX9_settledAll_202 (lv_at hl 2 rfl) ?_
  refine lv_iload_n hx hb dX9_settledAll_204 rfl (lv_at hl 7 rfl) ?_
  refine lv_icmp_ne (tgt := 212) hx hb dX9_settledAll_205 (by decide) (fun _ => ?_) (fun cz => absurd cz (by decide))
  refine lv_aload hx hb dX9_settledAll_212 (lv_at hl 4 rfl) ?_
  refine lv_iload hx hb dX9_settledAll_214 (lv_at hl 2 rfl) ?_
  refine va_cald hx hb hK hP 11 2 rfl rfl (i := 1) (by unfold vp_in; decide) dX9_settledAll_216 ?_
  refine W.eq (g2 := F0 m 217 ls [.int 48, .int 1, .ref a1]) rfl ?_
  refine va_cast hx hb hK hP hD (va_Sre hS) 11 2 rfl rfl (i := 1) (by unfold vp_in; decide) dX9_settledAll_217 (fun H88 _ hP hD hS' => ?_)
  have hG : s.heap.size + 4 ≤ H88.size := Nat.le_trans hG hS'.1
  have hS := va_Str hS hS'
  have hP : va_P (dC, dI) xCl [(h0, ce21 h2 h3 o0 h4), (h1, ce447 kc0), (h2, ce331 h5), (h5, ce330 kc1 h7 h8 h9 h10 h11 h12 h13), (h7, ce49), (h8, ce49), (h9, ce49), (h10, ce49), (h11, ce49), (h12, ce49), (h13, ce49), (a1, ce450 k2), (a42, ce44 h3), (a10, ce390 h4), (h4, ce366 h6), (h6, ce330 kc2 (z.2.2.1 128) (z.2.2.1 129) (z.2.2.1 130) (z.2.2.1 131) (z.2.2.1 132) (z.2.2.1 133) (z.2.2.1 134)), (h3, ce3 z.1), (a81, ce44 h3)] H88 := hP
  have hD := vd_as hP hD rfl
  refine lv_goto (tgt := 15) hx hb dX9_settledAll_218 (by decide) ?_
  refine lv_aload hx hb dX9_settledAll_15 (lv_at hl 3 rfl) ?_
  have hM91 := k756_hasNext l hl9 dC dI z a10 h4 h6 H88.size
  obtain ⟨hF89, hC92⟩ := pc_M hM91 hP hD hK hS hX hT hA [13, 14] [] rfl rfl rfl
  refine va_callFi (va_runF (As := []) (rest := []) (hK.1 1 (RJx35411, TJx35411, 4) rfl).2 ⟨hx, hb, hml, hown, hts⟩ hM91 (va_cwF 0 hts (gF q_261 q_262 q_263 q_246 q_260) rfl rfl rfl hT.2.2.2.2.2.2.1 hF_xIh ⟨Nat.le_of_ble_eq_true rfl, Nat.le_of_ble_eq_true rfl⟩) ⟨pc_blind, va_recv hK hP (ci := 1) (q := (RJx35411, TJx35411, 4)) (q0 := 13) rfl rfl, fun U hU hW => ⟨rfl, hC92 U hU hW⟩⟩ rfl rfl hl.1 rfl (lv_room (Nat.le_of_ble_eq_true rfl)) dX9_settledAll_17 ⟨(Nat.le_of_ble_eq_true rfl), (Nat.le_of_ble_eq_true rfl)⟩) hS (fun q9 _ h9 => hF89 q9 h9) hF89 (fun r94 u93 t93 H93 L93 ht93 hvm93 hw93 hB93 hz93 hk93 hS => ?_)
  have hP := pq_keep hP hD [13, 14] rfl hk93 hB93.1 ht93
  have hG : s.heap.size + 4 ≤ H93.size := Nat.le_trans hG hz93
  refine W.eq (g2 := F0 m 22 ls [.int 1]) (by rw [hw93]) ?_
  refine lv_if_eq (tgt := 221) hx hb dX9_settledAll_22 (by decide) (fun cz => absurd cz (by decide)) (fun _ => ?_)
  refine lv_aload hx hb dX9_settledAll_25 (lv_at hl 3 rfl) ?_
  have hM97 := k758_next l hl9 dC dI z a10 h4 h6 H93.size kc2
  obtain ⟨hF95, hC98⟩ := pc_M hM97 hP hD hK hS hX hT hA [13, 14, 15] [3] rfl rfl rfl
  refine va_callFr (va_runF (As := []) (rest := []) (hK.1 1 (RJx35411, TJx35411, 4) rfl).2 ⟨hx, hb, hml, hown, hts⟩ hM97 (va_cwF 0 hts (gF q_308 q_309 q_310 q_246 q_307) rfl rfl rfl hT.2.2.2.2.2.2.2.1 hF_xIn ⟨Nat.le_of_ble_eq_true rfl, Nat.le_of_ble_eq_true rfl⟩) ⟨pc_blind, va_recv hK hP (ci := 1) (q := (RJx35411, TJx35411, 4)) (q0 := 13) rfl rfl, fun U hU hW => ⟨rfl, hC98 U hU hW⟩⟩ rfl rfl hl.1 rfl (lv_room (Nat.le_of_ble_eq_true rfl)) dX9_settledAll_27 ⟨(Nat.le_of_ble_eq_true rfl), (Nat.le_of_ble_eq_true rfl)⟩) hS (fun q9 _ h9 => hF95 q9 h9) hF95 (fun u99 r100 t99 H99 L99 ht99 hvm99 hw99 hB99 hz99 hk99 hS => ?_)
  obtain ⟨hr99, hB99⟩ := hB99
  obtain ⟨hP, hD, hK⟩ := pq_jn (wz := [(h0, ce21 h2 h3 o0 h4), (h1, ce447 kc0), (h2, ce331 h5), (h5, ce330 kc1 h7 h8 h9 h10 h11 h12 h13), (h7, ce49), (h8, ce49), (h9, ce49), (h10, ce49), (h11, ce49), (h12, ce49), (h13, ce49), (a1, ce450 k2), (a42, ce44 h3), (h3, ce3 z.1), (a81, ce44 h3), (a10, ce392 h4), (h4, ce366 h6), (h6, ce330 kc2 (z.2.2.1 128) (z.2.2.1 129) (z.2.2.1 130) (z.2.2.1 131) (z.2.2.1 132) (z.2.2.1 133) (z.2.2.1 134))]) (tz := [(kc0, .char), (kc1, .object "java/lang/Object"), (k2, .char), (kc2, .object "java/lang/Object")]) hP hD hK [13, 14, 15] [0, 1, 2] rfl hk99 hF95 hB99.1 ht99 hvm99 rfl rfl
  have hG : s.heap.size + 4 ≤ H99.size := Nat.le_trans hG hz99
  refine W.eq (g2 := F0 m 32 ls [.ref (z.2.2.1 130)]) (by rw [hr99]) ?_
  refine va_castE (nm := "java/lang/Integer") hx hb hown (hts _ q_320) (va_Orecv (hX.2.2.1.1.1 130 (by decide)) hS) dX9_settledAll_32 ?_
  have hM103 := k243_intValue l hl9 dC dI z H99.size
  obtain ⟨hF101, hC104⟩ := pc_M hM103 hP hD hK hS hX hT hA [] [] rfl rfl rfl
  refine va_calli (va_runV (As := []) (rest := []) ⟨hx, hb, hml, hown, hts⟩ hM103 (cwV 0 hts (gV q_323 q_324 q_325 q_297 q_322) rfl rfl rfl hV_J6_intValue_8abf5 ⟨Nat.le_of_ble_eq_true rfl, Nat.le_of_ble_eq_true rfl⟩) ⟨pc_blind, va_Orecv (hX.2.2.1.1.1 130 (by decide)) hS, fun U hU hW => ⟨rfl, hC104 U hU hW⟩⟩ rfl rfl hl.1 rfl (lv_room (Nat.le_of_ble_eq_true rfl)) dX9_settledAll_35 ⟨(Nat.le_of_ble_eq_true rfl), (Nat.le_of_ble_eq_true rfl)⟩) hS (fun q9 _ h9 => hF101 q9 h9) hF101 (fun r106 u105 t105 H105 L105 ht105 hvm105 hw105 hB105 hz105 hk105 hS => ?_)
  have hP := pq_keep hP hD [] rfl hk105 hB105.1 ht105
  have hG : s.heap.size + 4 ≤ H105.size := Nat.le_trans hG hz105
  refine W.eq (g2 := F0 m 38 ls [.int 2]) (by rw [hw105]) ?_
  refine lv_istore (lv' := [(6, .int 2), (8, .ref a81), (7, .int 0), (5, .ref a10), (4, .ref a1), (0, .ref h0), (1, .ref h1), (2, .int 0), (3, .int 48)]) hx hb dX9_settledAll_38 hl (by decide) rfl (fun ls hl => ?_)
  refine lv_aload_n hx hb dX9_settledAll_40 rfl (lv_at hl 5 rfl) ?_
  refine va_get (D := (dC, dI)) (ci := 8) (v := .ref h2) (C := RX9) (T := TX9) (N := 6) hx hb hts in_X9 hown hK hP 0 rfl rfl 1 (by decide) (hts _ q_64) (fun _ h9 => h9) rfl dX9_settledAll_41 ?_
  refine lv_iload hx hb dX9_settledAll_44 (lv_at hl 0 rfl) ?_
  have hM109 := k640_get l hl9 dC dI z h2 h5 h7 h8 h9 h10 h11 h12 h13 H105.size kc1
  obtain ⟨hF107, hC110⟩ := pc_M hM109 hP hD hK hS hX hT hA [2, 3] [1] rfl rfl rfl
  refine va_callr (va_runV (As := [.int 2]) (rest := []) ⟨hx, hb, hml, hown, hts⟩ hM109 (cwV 1 hts (gV q_315 q_157 q_158 q_12 q_155) rfl rfl rfl hV_Jx4a65c_get_915e3 ⟨Nat.le_of_ble_eq_true rfl, Nat.le_of_ble_eq_true rfl⟩) ⟨pc_blind, va_recv hK hP (ci := 0) (q := (RJx4a65c, TJx4a65c, 3)) (q0 := 2) rfl rfl, fun U hU hW => ⟨rfl, hC110 U hU hW⟩⟩ rfl rfl hl.1 rfl (lv_room (Nat.le_of_ble_eq_true rfl)) dX9_settledAll_46 ⟨(Nat.le_of_ble_eq_true rfl), (Nat.le_of_ble_eq_true rfl)⟩) hS (fun q9 _ h9 => hF107 q9 h9) hF107 (fun u111 r112 t111 H111 L111 ht111 hvm111 hw111 hB111 hz111 hk111 hS => ?_)
  obtain ⟨hr111, hB111⟩ := hB111
  have hP := pq_keep hP hD [2, 3] rfl hk111 hB111.1 ht111
  have hG : s.heap.size + 4 ≤ H111.size := Nat.le_trans hG hz111
  refine W.eq (g2 := F0 m 49 ls [.ref h9]) (by rw [hr111]) ?_
  refine va_castE (nm := RX8) hx hb hown (hts _ q_273) (va_recv hK hP (ci := 7) (q := (RX8, TX8, 6)) (q0 := 6) rfl rfl) dX9_settledAll_49 ?_
  refine va_get (D := (dC, dI)) (ci := 7) (v := .int 105) (C := RX8) (T := TX8) (N := 6) hx hb hts in_X8 hown hK hP 6 rfl rfl 0 (by decide) (hts _ q_326) (fun _ h9 => h9) rfl dX9_settledAll_52 ?_
  refine lv_bipush (v := 98) hx hb dX9_settledAll_55 (by decide) ?_
  refine lv_icmp_ne (tgt := 64) hx hb dX9_settledAll_57 (by decide) (fun _ => ?_) (fun cz => absurd cz (by decide))
  refine lv_iconst (v := 0) hx hb dX9_settledAll_64 (by decide) ?_
  refine lv_istore (lv' := [(7, .int 0), (6, .int 2), (8, .ref a81), (5, .ref a10), (4, .ref a1), (0, .ref h0), (1, .ref h1), (2, .int 0), (3, .int 48)]) hx hb dX9_settledAll_65 hl (by decide) rfl (fun ls hl => ?_)
  refine lv_aload hx hb dX9_settledAll_67 (lv_at hl 4 rfl) ?_
  refine lv_iload hx hb dX9_settledAll_69 (lv_at hl 1 rfl) ?_
  refine lv_iload hx hb dX9_settledAll_71 (lv_at hl 0 rfl) ?_
  refine lv_if_eq (tgt := 81) hx hb dX9_settledAll_73 (by decide) (fun _ => ?_) (fun cz => absurd (by decide) cz)
  refine lv_aload_n hx hb dX9_settledAll_81 rfl (lv_at hl 6 rfl) ?_
  refine lv_iload hx hb dX9_settledAll_82 (lv_at hl 1 rfl) ?_
  refine va_cald hx hb hK hP 1 0 rfl rfl (i := 2) (by unfold vp_in; decide) dX9_settledAll_84 ?_
  refine W.eq (g2 := F0 m 85 ls [.int 48, .int 2, .ref a1]) rfl ?_
  refine va_cast hx hb hK hP hD (va_Sre hS) 11 2 rfl rfl (i := 2) (by unfold vp_in; decide) dX9_settledAll_85 (fun H113 _ hP hD hS' => ?_)
  have hG : s.heap.size + 4 ≤ H113.size := Nat.le_trans hG hS'.1
  have hS := va_Str hS hS'
  have hP : va_P (dC, dI) xCl [(h0, ce21 h2 h3 o0 h4), (h1, ce447 kc0), (h2, ce331 h5), (h5, ce330 kc1 h7 h8 h9 h10 h11 h12 h13), (h7, ce49), (h8, ce49), (h9, ce49), (h10, ce49), (h11, ce49), (h12, ce49), (h13, ce49), (a1, ce451 k2), (a42, ce44 h3), (h3, ce3 z.1), (a81, ce44 h3), (a10, ce392 h4), (h4, ce366 h6), (h6, ce330 kc2 (z.2.2.1 128) (z.2.2.1 129) (z.2.2.1 130) (z.2.2.1 131) (z.2.2.1 132) (z.2.2.1 133) (z.2.2.1 134))] H113 := hP
  have hD := vd_as hP hD rfl
  refine lv_aload_n hx hb dX9_settledAll_86 rfl (lv_at hl 5 rfl) ?_
  refine va_get (D := (dC, dI)) (ci := 8) (v := .ref h3) (C := RX9) (T := TX9) (N := 6) hx hb hts in_X9 hown hK hP 0 rfl rfl 2 (by decide) (hts _ q_65) (fun _ h9 => h9) rfl dX9_settledAll_87 ?_
  have hM116 := k49_iterator l hl9 dC dI z h3 H113.size
  obtain ⟨hF114, hC117⟩ := pc_M hM116 hP hD hK hS hX hT hA [13] [] rfl rfl rfl
  refine va_callr (va_runV (As := []) (rest := []) ⟨hx, hb, hml, hown, hts⟩ hM116 (cwV 0 hts (gV q_256 q_257 q_258 q_12 q_255) rfl rfl rfl hV_Jx4a65c_iterator_32c93 ⟨Nat.le_of_ble_eq_true rfl, Nat.le_of_ble_eq_true rfl⟩) ⟨pc_blind, va_recv hK hP (ci := 0) (q := (RJx4a65c, TJx4a65c, 3)) (q0 := 13) rfl rfl, fun U hU hW => ⟨rfl, hC117 U hU hW⟩⟩ rfl rfl hl.1 rfl (lv_room (Nat.le_of_ble_eq_true rfl)) dX9_settledAll_90 ⟨(Nat.le_of_ble_eq_true rfl), (Nat.le_of_ble_eq_true rfl)⟩) hS (fun q9 _ h9 => hF114 q9 h9) hF114 (fun u118 r119 t118 H118 L118 ht118 hvm118 hw118 hB118 hz118 hk118 hS => ?_)
  obtain ⟨a120, hr118, hB118⟩ := hB118
  obtain ⟨hP, hD, hK⟩ := pq_jn (wz := [(h0, ce21 h2 h3 o0 h4), (h1, ce447 kc0), (h2, ce331 h5), (h5, ce330 kc1 h7 h8 h9 h10 h11 h12 h13), (h7, ce49), (h8, ce49), (h9, ce49), (h10, ce49), (h11, ce49), (h12, ce49), (h13, ce49), (a1, ce451 k2), (a42, ce44 h3), (a81, ce44 h3), (a10, ce392 h4), (h4, ce366 h6), (h6, ce330 kc2 (z.2.2.1 128) (z.2.2.1 129) (z.2.2.1 130) (z.2.2.1 131) (z.2.2.1 132) (z.2.2.1 133) (z.2.2.1 134)), (h3, ce3 z.1), (a120, ce44 h3)]) (tz := [(kc0, .char), (kc1, .object "java/lang/Object"), (k2, .char), (kc2, .object "java/lang/Object")]) hP hD hK [13] [0, 1, 2, 3] rfl hk118 hF114 hB118.1 ht118 hvm118 rfl rfl
  have hG : s.heap.size + 5 ≤ H118.size := va_gr (g := 4) (g1 := 1) hG (by rw [← ht118]; exact hB118.2)
  refine W.eq (g2 := F0 m 93 ls [.ref a120]) (by rw [hr118]) ?_
  refine W.widen (k := 5) (n := 56) (by decide) (by decide) ?_
  refine lv_astore (lv' := [(8, .ref a120), (7, .int 0), (6, .int 2), (5, .ref a10), (4, .ref a1), (0, .ref h0), (1, .ref h1), (2, .int 0), (3, .int 48)]) hx hb dX9_settledAll_93 hl (by decide) rfl (fun ls hl => ?_)
  refine lv_aload hx hb dX9_settledAll_95 (lv_at hl 0 rfl) ?_
  have hM123 := k50_hasNext l hl9 dC dI z a120 h3 H118.size
  obtain ⟨hF121, hC124⟩ := pc_M hM123 hP hD hK hS hX hT hA [18, 17] [] rfl rfl rfl
  refine va_callFi (va_runF (As := []) (rest := []) (hK.1 1 (RJx35411, TJx35411, 4) rfl).2 ⟨hx, hb, hml, hown, hts⟩ hM123 (va_cwF 0 hts (gF q_261 q_262 q_263 q_246 q_260) rfl rfl rfl hT.2.2.2.2.2.2.1 hF_xIh ⟨Nat.le_of_ble_eq_true rfl, Nat.le_of_ble_eq_true rfl⟩) ⟨pc_blind, va_recv hK hP (ci := 1) (q := (RJx35411, TJx35411, 4)) (q0 := 18) rfl rfl, fun U hU hW => ⟨rfl, hC124 U hU hW⟩⟩ rfl rfl hl.1 rfl (lv_room (Nat.le_of_ble_eq_true rfl)) dX9_settledAll_97 ⟨(Nat.le_of_ble_eq_true rfl), (Nat.le_of_ble_eq_true rfl)⟩) hS (fun q9 _ h9 => hF121 q9 h9) hF121 (fun r126 u125 t125 H125 L125 ht125 hvm125 hw125 hB125 hz125 hk125 hS => ?_)
  have hP := pq_keep hP hD [18, 17] rfl hk125 hB125.1 ht125
  have hG : s.heap.size + 5 ≤ H125.size := Nat.le_trans hG hz125
  refine W.eq (g2 := F0 m 102 ls [.int 0]) (by rw [hw125]) ?_
  refine lv_if_eq (tgt := 198) hx hb dX9_settledAll_102 (by decide) (fun _ => ?_) (fun cz => absurd (by decide) cz)
  refine lv_aload hx hb dX9_settledAll_198 (lv_at hl 4 rfl) ?_
  refine lv_iload hx hb dX9_settledAll_200 (lv_at hl 2 rfl) ?_
  refine lv_iload hx hb dX9_settledAll_202 (lv_at hl 2 rfl) ?_
  refine lv_iload_n hx hb dX9_settledAll_204 rfl (lv_at hl 7 rfl) ?_
  refine lv_icmp_ne (tgt := 212) hx hb dX9_settledAll_205 (by decide) (fun _ => ?_) (fun cz => absurd cz (by decide))
  refine lv_aload hx hb dX9_settledAll_212 (lv_at hl 4 rfl) ?_
  refine lv_iload hx hb dX9_settledAll_214 (lv_at hl 2 rfl) ?_
  refine va_cald hx hb hK hP 11 2 rfl rfl (i := 2) (by unfold vp_in; decide) dX9_settledAll_216 ?_
  refine W.eq (g2 := F0 m 217 ls [.int 48, .int 2, .ref a1]) rfl ?_
  refine va_cast hx hb hK hP hD (va_Sre hS) 11 2 rfl rfl (i := 2) (by unfold vp_in; decide) dX9_settledAll_217 (fun H127 _ hP hD hS' => ?_)
  have hG : s.heap.size + 5 ≤ H127.size := Nat.le_trans hG hS'.1
  have hS := va_Str hS hS'
  have hP : va_P (dC, dI) xCl [(h0, ce21 h2 h3 o0 h4), (h1, ce447 kc0), (h2, ce331 h5), (h5, ce330 kc1 h7 h8 h9 h10 h11 h12 h13), (h7, ce49), (h8, ce49), (h9, ce49), (h10, ce49), (h11, ce49), (h12, ce49), (h13, ce49), (a1, ce452 k2), (a42, ce44 h3), (a81, ce44 h3), (a10, ce392 h4), (h4, ce366 h6), (h6, ce330 kc2 (z.2.2.1 128) (z.2.2.1 129) (z.2.2.1 130) (z.2.2.1 131) (z.2.2.1 132) (z.2.2.1 133) (z.2.2.1 134)), (h3, ce3 z.1), (a120, ce44 h3)] H127 := hP
  have hD := vd_as hP hD rfl
  refine lv_goto (tgt := 15) hx hb dX9_settledAll_218 (by decide) ?_
  refine lv_aload hx hb dX9_settledAll_15 (lv_at hl 3 rfl) ?_
  have hM130 := k759_hasNext l hl9 dC dI z a10 h4 h6 H127.size
  obtain ⟨hF128, hC131⟩ := pc_M hM130 hP hD hK hS hX hT hA [14, 15] [] rfl rfl rfl
  refine va_callFi (va_runF (As := []) (rest := []) (hK.1 1 (RJx35411, TJx35411, 4) rfl).2 ⟨hx, hb, hml, hown, hts⟩ hM130 (va_cwF 0 hts (gF q_261 q_262 q_263 q_246 q_260) rfl rfl rfl hT.2.2.2.2.2.2.1 hF_xIh ⟨Nat.le_of_ble_eq_true rfl, Nat.le_of_ble_eq_true rfl⟩) ⟨pc_blind, va_recv hK hP (ci := 1) (q := (RJx35411, TJx35411, 4)) (q0 := 14) rfl rfl, fun U hU hW => ⟨rfl, hC131 U hU hW⟩⟩ rfl rfl hl.1 rfl (lv_room (Nat.le_of_ble_eq_true rfl)) dX9_settledAll_17 ⟨(Nat.le_of_ble_eq_true rfl), (Nat.le_of_ble_eq_true rfl)⟩) hS (fun q9 _ h9 => hF128 q9 h9) hF128 (fun r133 u132 t132 H132 L132 ht132 hvm132 hw132 hB132 hz132 hk132 hS => ?_)
  have hP := pq_keep hP hD [14, 15] rfl hk132 hB132.1 ht132
  have hG : s.heap.size + 5 ≤ H132.size := Nat.le_trans hG hz132
  refine W.eq (g2 := F0 m 22 ls [.int 1]) (by rw [hw132]) ?_
  refine lv_if_eq (tgt := 221) hx hb dX9_settledAll_22 (by decide) (fun cz => absurd cz (by decide)) (fun _ => ?_)
  refine lv_aload hx hb dX9_settledAll_25 (lv_at hl 3 rfl) ?_
  have hM136 := k761_next l hl9 dC dI z a10 h4 h6 H132.size kc2
  obtain ⟨hF134, hC137⟩ := pc_M hM136 hP hD hK hS hX hT hA [14, 15, 16] [3] rfl rfl rfl
  refine va_callFr (va_runF (As := []) (rest := []) (hK.1 1 (RJx35411, TJx35411, 4) rfl).2 ⟨hx, hb, hml, hown, hts⟩ hM136 (va_cwF 0 hts (gF q_308 q_309 q_310 q_246 q_307) rfl rfl rfl hT.2.2.2.2.2.2.2.1 hF_xIn ⟨Nat.le_of_ble_eq_true rfl, Nat.le_of_ble_eq_true rfl⟩) ⟨pc_blind, va_recv hK hP (ci := 1) (q := (RJx35411, TJx35411, 4)) (q0 := 14) rfl rfl, fun U hU hW => ⟨rfl, hC137 U hU hW⟩⟩ rfl rfl hl.1 rfl (lv_room (Nat.le_of_ble_eq_true rfl)) dX9_settledAll_27 ⟨(Nat.le_of_ble_eq_true rfl), (Nat.le_of_ble_eq_true rfl)⟩) hS (fun q9 _ h9 => hF134 q9 h9) hF134 (fun u138 r139 t138 H138 L138 ht138 hvm138 hw138 hB138 hz138 hk138 hS => ?_)
  obtain ⟨hr138, hB138⟩ := hB138
  obtain ⟨hP, hD, hK⟩ := pq_jn (wz := [(h0, ce21 h2 h3 o0 h4), (h1, ce447 kc0), (h2, ce331 h5), (h5, ce330 kc1 h7 h8 h9 h10 h11 h12 h13), (h7, ce49), (h8, ce49), (h9, ce49), (h10, ce49), (h11, ce49), (h12, ce49), (h13, ce49), (a1, ce452 k2), (a42, ce44 h3), (a81, ce44 h3), (h3, ce3 z.1), (a120, ce44 h3), (a10, ce394 h4), (h4, ce366 h6), (h6, ce330 kc2 (z.2.2.1 128) (z.2.2.1 129) (z.2.2.1 130) (z.2.2.1 131) (z.2.2.1 132) (z.2.2.1 133) (z.2.2.1 134))]) (tz := [(kc0, .char), (kc1, .object "java/lang/Object"), (k2, .char), (kc2, .object "java/lang/Object")]) hP hD hK [14, 15, 16] [0, 1, 2] rfl hk138 hF134 hB138.1 ht138 hvm138 rfl rfl
  have hG : s.heap.size + 5 ≤ H138.size := Nat.le_trans hG hz138
  refine W.eq (g2 := F0 m 32 ls [.ref (z.2.2.1 131)]) (by rw [hr138]) ?_
  refine va_castE (nm := "java/lang/Integer") hx hb hown (hts _ q_320) (va_Orecv (hX.2.2.1.1.1 131 (by decide)) hS) dX9_settledAll_32 ?_
  have hM142 := k351_intValue l hl9 dC dI z H138.size
  obtain ⟨hF140, hC143⟩ := pc_M hM142 hP hD hK hS hX hT hA [] [] rfl rfl rfl
  refine va_calli (va_runV (As := []) (rest := []) ⟨hx, hb, hml, hown, hts⟩ hM142 (cwV 0 hts (gV q_323 q_324 q_325 q_297 q_322) rfl rfl rfl hV_J6_intValue_8abf5 ⟨Nat.le_of_ble_eq_true rfl, Nat.le_of_ble_eq_true rfl⟩) ⟨pc_blind, va_Orecv (hX.2.2.1.1.1 131 (by decide)) hS, fun U hU hW => ⟨rfl, hC143 U hU hW⟩⟩ rfl rfl hl.1 rfl (lv_room (Nat.le_of_ble_eq_true rfl)) dX9_settledAll_35 ⟨(Nat.le_of_ble_eq_true rfl), (Nat.le_of_ble_eq_true rfl)⟩) hS (fun q9 _ h9 => hF140 q9 h9) hF140 (fun r145 u144 t144 H144 L144 ht144 hvm144 hw144 hB144 hz144 hk144 hS => ?_)
  have hP := pq_keep hP hD [] rfl hk144 hB144.1 ht144
  have hG : s.heap.size + 5 ≤ H144.size := Nat.le_trans hG hz144
  refine W.eq (g2 := F0 m 38 ls [.int 3]) (by rw [hw144]) ?_
  refine lv_istore (lv' := [(6, .int 3), (8, .ref a120), (7, .int 0), (5, .ref a10), (4, .ref a1), (0, .ref h0), (1, .ref h1), (2, .int 0), (3, .int 48)]) hx hb dX9_settledAll_38 hl (by decide) rfl (fun ls hl => ?_)
  refine lv_aload_n hx hb dX9_settledAll_40 rfl (lv_at hl 5 rfl) ?_
  refine va_get (D := (dC, dI)) (ci := 8) (v := .ref h2) (C := RX9) (T := TX9) (N := 6) hx hb hts in_X9 hown hK hP 0 rfl rfl 1 (by decide) (hts _ q_64) (fun _ h9 => h9) rfl dX9_settledAll_41 ?_
  refine lv_iload hx hb dX9_settledAll_44 (lv_at hl 0 rfl) ?_
  have hM148 := k644_get l hl9 dC dI z h2 h5 h7 h8 h9 h10 h11 h12 h13 H144.size kc1
  obtain ⟨hF146, hC149⟩ := pc_M hM148 hP hD hK hS hX hT hA [2, 3] [1] rfl rfl rfl
  refine va_callr (va_runV (As := [.int 3]) (rest := []) ⟨hx, hb, hml, hown, hts⟩ hM148 (cwV 1 hts (gV q_315 q_157 q_158 q_12 q_155) rfl rfl rfl hV_Jx4a65c_get_915e3 ⟨Nat.le_of_ble_eq_true rfl, Nat.le_of_ble_eq_true rfl⟩) ⟨pc_blind, va_recv hK hP (ci := 0) (q := (RJx4a65c, TJx4a65c, 3)) (q0 := 2) rfl rfl, fun U hU hW => ⟨rfl, hC149 U hU hW⟩⟩ rfl rfl hl.1 rfl (lv_room (Nat.le_of_ble_eq_true rfl)) dX9_settledAll_46 ⟨(Nat.le_of_ble_eq_true rfl), (Nat.le_of_ble_eq_true rfl)⟩) hS (fun q9 _ h9 => hF146 q9 h9) hF146 (fun u150 r151 t150 H150 L150 ht150 hvm150 hw150 hB150 hz150 hk150 hS => ?_)
  obtain ⟨hr150, hB150⟩ := hB150
  have hP := pq_keep hP hD [2, 3] rfl hk150 hB150.1 ht150
  have hG : s.heap.size + 5 ≤ H150.size := Nat.le_trans hG hz150
  refine W.eq (g2 := F0 m 49 ls [.ref h10]) (by rw [hr150]) ?_
  refine va_castE (nm := RX8) hx hb hown (hts _ q_273) (va_recv hK hP (ci := 7) (q := (RX8, TX8, 6)) (q0 := 7) rfl rfl) dX9_settledAll_49 ?_
  refine va_get (D := (dC, dI)) (ci := 7) (v := .int 105) (C := RX8) (T := TX8) (N := 6) hx hb hts in_X8 hown hK hP 7 rfl rfl 0 (by decide) (hts _ q_326) (fun _ h9 => h9) rfl dX9_settledAll_52 ?_
  refine lv_bipush (v := 98) hx hb dX9_settledAll_55 (by decide) ?_
  refine lv_icmp_ne (tgt := 64) hx hb dX9_settledAll_57 (by decide) (fun _ => ?_) (fun cz => absurd cz (by decide))
  refine lv_iconst (v := 0) hx hb dX9_settledAll_64 (by decide) ?_
  refine lv_istore (lv' := [(7, .int 0), (6, .int 3), (8, .ref a120), (5, .ref a10), (4, .ref a1), (0, .ref h0), (1, .ref h1), (2, .int 0), (3, .int 48)]) hx hb dX9_settledAll_65 hl (by decide) rfl (fun ls hl => ?_)
  refine lv_aload hx hb dX9_settledAll_67 (lv_at hl 4 rfl) ?_
  refine lv_iload hx hb dX9_settledAll_69 (lv_at hl 1 rfl) ?_
  refine lv_iload hx hb dX9_settledAll_71 (lv_at hl 0 rfl) ?_
  refine lv_if_eq (tgt := 81) hx hb dX9_settledAll_73 (by decide) (fun _ => ?_) (fun cz => absurd (by decide) cz)
  refine lv_aload_n hx hb dX9_settledAll_81 rfl (lv_at hl 6 rfl) ?_
  refine lv_iload hx hb dX9_settledAll_82 (lv_at hl 1 rfl) ?_
  refine va_cald hx hb hK hP 1 0 rfl rfl (i := 3) (by unfold vp_in; decide) dX9_settledAll_84 ?_
  refine W.eq (g2 := F0 m 85 ls [.int 48, .int 3, .ref a1]) rfl ?_
  refine va_cast hx hb hK hP hD (va_Sre hS) 11 2 rfl rfl (i := 3) (by unfold vp_in; decide) dX9_settledAll_85 (fun H152 _ hP hD hS' => ?_)
  have hG : s.heap.size + 5 ≤ H152.size := Nat.le_trans hG hS'.1
  have hS := va_Str hS hS'
  have hP : va_P (dC, dI) xCl [(h0, ce21 h2 h3 o0 h4), (h1, ce447 kc0), (h2, ce331 h5), (h5, ce330 kc1 h7 h8 h9 h10 h11 h12 h13), (h7, ce49), (h8, ce49), (h9, ce49), (h10, ce49), (h11, ce49), (h12, ce49), (h13, ce49), (a1, ce453 k2), (a42, ce44 h3), (a81, ce44 h3), (h3, ce3 z.1), (a120, ce44 h3), (a10, ce394 h4), (h4, ce366 h6), (h6, ce330 kc2 (z.2.2.1 128) (z.2.2.1 129) (z.2.2.1 130) (z.2.2.1 131) (z.2.2.1 132) (z.2.2.1 133) (z.2.2.1 134))] H152 := hP
  have hD := vd_as hP hD rfl
  refine lv_aload_n hx hb dX9_settledAll_86 rfl (lv_at hl 5 rfl) ?_
  refine va_get (D := (dC, dI)) (ci := 8) (v := .ref h3) (C := RX9) (T := TX9) (N := 6) hx hb hts in_X9 hown hK hP 0 rfl rfl 2 (by decide) (hts _ q_65) (fun _ h9 => h9) rfl dX9_settledAll_87 ?_
  have hM155 := k49_iterator l hl9 dC dI z h3 H152.size
  obtain ⟨hF153, hC156⟩ := pc_M hM155 hP hD hK hS hX hT hA [14] [] rfl rfl rfl
  refine va_callr (va_runV (As := []) (rest := []) ⟨hx, hb, hml, hown, hts⟩ hM155 (cwV 0 hts (gV q_256 q_257 q_258 q_12 q_255) rfl rfl rfl hV_Jx4a65c_iterator_32c93 ⟨Nat.le_of_ble_eq_true rfl, Nat.le_of_ble_eq_true rfl⟩) ⟨pc_blind, va_recv hK hP (ci := 0) (q := (RJx4a65c, TJx4a65c, 3)) (q0 := 14) rfl rfl, fun U hU hW => ⟨rfl, hC156 U hU hW⟩⟩ rfl rfl hl.1 rfl (lv_room (Nat.le_of_ble_eq_true rfl)) dX9_settledAll_90 ⟨(Nat.le_of_ble_eq_true rfl), (Nat.le_of_ble_eq_true rfl)⟩) hS (fun q9 _ h9 => hF153 q9 h9) hF153 (fun u157 r158 t157 H157 L157 ht157 hvm157 hw157 hB157 hz157 hk157 hS => ?_)
  obtain ⟨a159, hr157, hB157⟩ := hB157
  obtain ⟨hP, hD, hK⟩ := pq_jn (wz := [(h0, ce21 h2 h3 o0 h4), (h1, ce447 kc0), (h2, ce331 h5), (h5, ce330 kc1 h7 h8 h9 h10 h11 h12 h13), (h7, ce49), (h8, ce49), (h9, ce49), (h10, ce49), (h11, ce49), (h12, ce49), (h13, ce49), (a1, ce453 k2), (a42, ce44 h3), (a81, ce44 h3), (a120, ce44 h3), (a10, ce394 h4), (h4, ce366 h6), (h6, ce330 kc2 (z.2.2.1 128) (z.2.2.1 129) (z.2.2.1 130) (z.2.2.1 131) (z.2.2.1 132) (z.2.2.1 133) (z.2.2.1 134)), (h3, ce3 z.1), (a159, ce44 h3)]) (tz := [(kc0, .char), (kc1, .object "java/lang/Object"), (k2, .char), (kc2, .object "java/lang/Object")]) hP hD hK [14] [0, 1, 2, 3] rfl hk157 hF153 hB157.1 ht157 hvm157 rfl rfl
  have hG : s.heap.size + 6 ≤ H157.size := va_gr (g := 5) (g1 := 1) hG (by rw [← ht157]; exact hB157.2)
  refine W.eq (g2 := F0 m 93 ls [.ref a159]) (by rw [hr157]) ?_
  refine W.widen (k := 6) (n := 60) (by decide) (by decide) ?_
  refine lv_astore (lv' := [(8, .ref a159), (7, .int 0), (6, .int 3), (5, .ref a10), (4, .ref a1), (0, .ref h0), (1, .ref h1), (2, .int 0), (3, .int 48)]) hx hb dX9_settledAll_93 hl (by decide) rfl (fun ls hl => ?_)
  refine lv_aload hx hb dX9_settledAll_95 (lv_at hl 0 rfl) ?_
  have hM162 := k50_hasNext l hl9 dC dI z a159 h3 H157.size
  obtain ⟨hF160, hC163⟩ := pc_M hM162 hP hD hK hS hX hT hA [19, 18] [] rfl rfl rfl
  refine va_callFi (va_runF (As := []) (rest := []) (hK.1 1 (RJx35411, TJx35411, 4) rfl).2 ⟨hx, hb, hml, hown, hts⟩ hM162 (va_cwF 0 hts (gF q_261 q_262 q_263 q_246 q_260) rfl rfl rfl hT.2.2.2.2.2.2.1 hF_xIh ⟨Nat.le_of_ble_eq_true rfl, Nat.le_of_ble_eq_true rfl⟩) ⟨pc_blind, va_recv hK hP (ci := 1) (q := (RJx35411, TJx35411, 4)) (q0 := 19) rfl rfl, fun U hU hW => ⟨rfl, hC163 U hU hW⟩⟩ rfl rfl hl.1 rfl (lv_room (Nat.le_of_ble_eq_true rfl)) dX9_settledAll_97 ⟨(Nat.le_of_ble_eq_true rfl), (Nat.le_of_ble_eq_true rfl)⟩) hS (fun q9 _ h9 => hF160 q9 h9) hF160 (fun r165 u164 t164 H164 L164 ht164 hvm164 hw164 hB164 hz164 hk164 hS => ?_)
  have hP := pq_keep hP hD [19, 18] rfl hk164 hB164.1 ht164
  have hG : s.heap.size + 6 ≤ H164.size := Nat.le_trans hG hz164
  refine W.eq (g2 := F0 m 102 ls [.int 0]) (by rw [hw164]) ?_
  refine lv_if_eq (tgt := 198) hx hb dX9_settledAll_102 (by decide) (fun _ => ?_) (fun cz => absurd (by decide) cz)
  refine lv_aload hx hb dX9_settledAll_198 (lv_at hl 4 rfl) ?_
  refine lv_iload hx hb dX9_settledAll_200 (lv_at hl 2 rfl) ?_
  refine lv_iload hx hb dX9_settledAll_202 (lv_at hl 2 rfl) ?_
  refine lv_iload_n hx hb dX9_settledAll_204 rfl (lv_at hl 7 rfl) ?_
  refine lv_icmp_ne (tgt := 212) hx hb dX9_settledAll_205 (by decide) (fun _ => ?_) (fun cz => absurd cz (by decide))
  refine lv_aload hx hb dX9_settledAll_212 (lv_at hl 4 rfl) ?_
  refine lv_iload hx hb dX9_settledAll_214 (lv_at hl 2 rfl) ?_
  refine va_cald hx hb hK hP 11 2 rfl rfl (i := 3) (by unfold vp_in; decide) dX9_settledAll_216 ?_
  refine W.eq (g2 := F0 m 217 ls [.int 48, .int 3, .ref a1]) rfl ?_
  refine va_cast hx hb hK hP hD (va_Sre hS) 11 2 rfl rfl (i := 3) (by unfold vp_in; decide) dX9_settledAll_217 (fun H166 _ hP hD hS' => ?_)
  have hG : s.heap.size + 6 ≤ H166.size := Nat.le_trans hG hS'.1
  have hS := va_Str hS hS'
  have hP : va_P (dC, dI) xCl [(h0, ce21 h2 h3 o0 h4), (h1, ce447 kc0), (h2, ce331 h5), (h5, ce330 kc1 h7 h8 h9 h10 h11 h12 h13), (h7, ce49), (h8, ce49), (h9, ce49), (h10, ce49), (h11, ce49), (h12, ce49), (h13, ce49), (a1, ce454 k2), (a42, ce44 h3), (a81, ce44 h3), (a120, ce44 h3), (a10, ce394 h4), (h4, ce366 h6), (h6, ce330 kc2 (z.2.2.1 128) (z.2.2.1 129) (z.2.2.1 130) (z.2.2.1 131) (z.2.2.1 132) (z.2.2.1 133) (z.2.2.1 134)), (h3, ce3 z.1), (a159, ce44 h3)] H166 := hP
  have hD := vd_as hP hD rfl
  refine lv_goto (tgt := 15) hx hb dX9_settledAll_218 (by decide) ?_
  refine lv_aload hx hb dX9_settledAll_15 (lv_at hl 3 rfl) ?_
  have hM169 := k762_hasNext l hl9 dC dI z a10 h4 h6 H166.size
  obtain ⟨hF167, hC170⟩ := pc_M hM169 hP hD hK hS hX hT hA [15, 16] [] rfl rfl rfl
  refine va_callFi (va_runF (As := []) (rest := []) (hK.1 1 (RJx35411, TJx35411, 4) rfl).2 ⟨hx, hb, hml, hown, hts⟩ hM169 (va_cwF 0 hts (gF q_261 q_262 q_263 q_246 q_260) rfl rfl rfl hT.2.2.2.2.2.2.1 hF_xIh ⟨Nat.le_of_ble_eq_true rfl, Nat.le_of_ble_eq_true rfl⟩) ⟨pc_blind, va_recv hK hP (ci := 1) (q := (RJx35411, TJx35411, 4)) (q0 := 15) rfl rfl, fun U hU hW => ⟨rfl, hC170 U hU hW⟩⟩ rfl rfl hl.1 rfl (lv_room (Nat.le_of_ble_eq_true rfl)) dX9_settledAll_17 ⟨(Nat.le_of_ble_eq_true rfl), (Nat.le_of_ble_eq_true rfl)⟩) hS (fun q9 _ h9 => hF167 q9 h9) hF167 (fun r172 u171 t171 H171 L171 ht171 hvm171 hw171 hB171 hz171 hk171 hS => ?_)
  have hP := pq_keep hP hD [15, 16] rfl hk171 hB171.1 ht171
  have hG : s.heap.size + 6 ≤ H171.size := Nat.le_trans hG hz171
  refine W.eq (g2 := F0 m 22 ls [.int 1]) (by rw [hw171]) ?_
  refine lv_if_eq (tgt := 221) hx hb dX9_settledAll_22 (by decide) (fun cz => absurd cz (by decide)) (fun _ => ?_)
  refine lv_aload hx hb dX9_settledAll_25 (lv_at hl 3 rfl) ?_
  have hM175 := k764_next l hl9 dC dI z a10 h4 h6 H171.size kc2
  obtain ⟨hF173, hC176⟩ := pc_M hM175 hP hD hK hS hX hT hA [15, 16, 17] [3] rfl rfl rfl
  refine va_callFr (va_runF (As := []) (rest := []) (hK.1 1 (RJx35411, TJx35411, 4) rfl).2 ⟨hx, hb, hml, hown, hts⟩ hM175 (va_cwF 0 hts (gF q_308 q_309 q_310 q_246 q_307) rfl rfl rfl hT.2.2.2.2.2.2.2.1 hF_xIn ⟨Nat.le_of_ble_eq_true rfl, Nat.le_of_ble_eq_true rfl⟩) ⟨pc_blind, va_recv hK hP (ci := 1) (q := (RJx35411, TJx35411, 4)) (q0 := 15) rfl rfl, fun U hU hW => ⟨rfl, hC176 U hU hW⟩⟩ rfl rfl hl.1 rfl (lv_room (Nat.le_of_ble_eq_true rfl)) dX9_settledAll_27 ⟨(Nat.le_of_ble_eq_true rfl), (Nat.le_of_ble_eq_true rfl)⟩) hS (fun q9 _ h9 => hF173 q9 h9) hF173 (fun u177 r178 t177 H177 L177 ht177 hvm177 hw177 hB177 hz177 hk177 hS => ?_)
  obtain ⟨hr177, hB177⟩ := hB177
  obtain ⟨hP, hD, hK⟩ := pq_jn (wz := [(h0, ce21 h2 h3 o0 h4), (h1, ce447 kc0), (h2, ce331 h5), (h5, ce330 kc1 h7 h8 h9 h10 h11 h12 h13), (h7, ce49), (h8, ce49), (h9, ce49), (h10, ce49), (h11, ce49), (h12, ce49), (h13, ce49), (a1, ce454 k2), (a42, ce44 h3), (a81, ce44 h3), (a120, ce44 h3), (h3, ce3 z.1), (a159, ce44 h3), (a10, ce396 h4), (h4, ce366 h6), (h6, ce330 kc2 (z.2.2.1 128) (z.2.2.1 129) (z.2.2.1 130) (z.2.2.1 131) (z.2.2.1 132) (z.2.2.1 133) (z.2.2.1 134))]) (tz := [(kc0, .char), (kc1, .object "java/lang/Object"), (k2, .char), (kc2, .object "java/lang/Object")]) hP hD hK [15, 16, 17] [0, 1, 2] rfl hk177 hF173 hB177.1 ht177 hvm177 rfl rfl
  have hG : s.heap.size + 6 ≤ H177.size := Nat.le_trans hG hz177
  refine W.eq (g2 := F0 m 32 ls [.ref (z.2.2.1 132)]) (by rw [hr177]) ?_
  refine va_castE (nm := "java/lang/Integer") hx hb hown (hts _ q_320) (va_Orecv (hX.2.2.1.1.1 132 (by decide)) hS) dX9_settledAll_32 ?_
  have hM181 := k475_intValue l hl9 dC dI z H177.size
  obtain ⟨hF179, hC182⟩ := pc_M hM181 hP hD hK hS hX hT hA [] [] rfl rfl rfl
  refine va_calli (va_runV (As := []) (rest := []) ⟨hx, hb, hml, hown, hts⟩ hM181 (cwV 0 hts (gV q_323 q_324 q_325 q_297 q_322) rfl rfl rfl hV_J6_intValue_8abf5 ⟨Nat.le_of_ble_eq_true rfl, Nat.le_of_ble_eq_true rfl⟩) ⟨pc_blind, va_Orecv (hX.2.2.1.1.1 132 (by decide)) hS, fun U hU hW => ⟨rfl, hC182 U hU hW⟩⟩ rfl rfl hl.1 rfl (lv_room (Nat.le_of_ble_eq_true rfl)) dX9_settledAll_35 ⟨(Nat.le_of_ble_eq_true rfl), (Nat.le_of_ble_eq_true rfl)⟩) hS (fun q9 _ h9 => hF179 q9 h9) hF179 (fun r184 u183 t183 H183 L183 ht183 hvm183 hw183 hB183 hz183 hk183 hS => ?_)
  have hP := pq_keep hP hD [] rfl hk183 hB183.1 ht183
  have hG : s.heap.size + 6 ≤ H183.size := Nat.le_trans hG hz183
  refine W.eq (g2 := F0 m 38 ls [.int 4]) (by rw [hw183]) ?_
  refine lv_istore (lv' := [(6, .int 4), (8, .ref a159), (7, .int 0), (5, .ref a10), (4, .ref a1), (0, .ref h0), (1, .ref h1), (2, .int 0), (3, .int 48)]) hx hb dX9_settledAll_38 hl (by decide) rfl (fun ls hl => ?_)
  refine lv_aload_n hx hb dX9_settledAll_40 rfl (lv_at hl 5 rfl) ?_
  refine va_get (D := (dC, dI)) (ci := 8) (v := .ref h2) (C := RX9) (T := TX9) (N := 6) hx hb hts in_X9 hown hK hP 0 rfl rfl 1 (by decide) (hts _ q_64) (fun _ h9 => h9) rfl dX9_settledAll_41 ?_
  refine lv_iload hx hb dX9_settledAll_44 (lv_at hl 0 rfl) ?_
  have hM187 := k648_get l hl9 dC dI z h2 h5 h7 h8 h9 h10 h11 h12 h13 H183.size kc1
  obtain ⟨hF185, hC188⟩ := pc_M hM187 hP hD hK hS hX hT hA [2, 3] [1] rfl rfl rfl
  refine va_callr (va_runV (As := [.int 4]) (rest := []) ⟨hx, hb, hml, hown, hts⟩ hM187 (cwV 1 hts (gV q_315 q_157 q_158 q_12 q_155) rfl rfl rfl hV_Jx4a65c_get_915e3 ⟨Nat.le_of_ble_eq_true rfl, Nat.le_of_ble_eq_true rfl⟩) ⟨pc_blind, va_recv hK hP (ci := 0) (q := (RJx4a65c, TJx4a65c, 3)) (q0 := 2) rfl rfl, fun U hU hW => ⟨rfl, hC188 U hU hW⟩⟩ rfl rfl hl.1 rfl (lv_room (Nat.le_of_ble_eq_true rfl)) dX9_settledAll_46 ⟨(Nat.le_of_ble_eq_true rfl), (Nat.le_of_ble_eq_true rfl)⟩) hS (fun q9 _ h9 => hF185 q9 h9) hF185 (fun u189 r190 t189 H189 L189 ht189 hvm189 hw189 hB189 hz189 hk189 hS => ?_)
  obtain ⟨hr189, hB189⟩ := hB189
  have hP := pq_keep hP hD [2, 3] rfl hk189 hB189.1 ht189
  have hG : s.heap.size + 6 ≤ H189.size := Nat.le_trans hG hz189
  refine W.eq (g2 := F0 m 49 ls [.ref h11]) (by rw [hr189]) ?_
  refine va_castE (nm := RX8) hx hb hown (hts _ q_273) (va_recv hK hP (ci := 7) (q := (RX8, TX8, 6)) (q0 := 8) rfl rfl) dX9_settledAll_49 ?_
  refine va_get (D := (dC, dI)) (ci := 7) (v := .int 105) (C := RX8) (T := TX8) (N := 6) hx hb hts in_X8 hown hK hP 8 rfl rfl 0 (by decide) (hts _ q_326) (fun _ h9 => h9) rfl dX9_settledAll_52 ?_
  refine lv_bipush (v := 98) hx hb dX9_settledAll_55 (by decide) ?_
  refine lv_icmp_ne (tgt := 64) hx hb dX9_settledAll_57 (by decide) (fun _ => ?_) (fun cz => absurd cz (by decide))
  refine lv_iconst (v := 0) hx hb dX9_settledAll_64 (by decide) ?_
  refine lv_istore (lv' := [(7, .int 0), (6, .int 4), (8, .ref a159), (5, .ref a10), (4, .ref a1), (0, .ref h0), (1, .ref h1), (2, .int 0), (3, .int 48)]) hx hb dX9_settledAll_65 hl (by decide) rfl (fun ls hl => ?_)
  refine lv_aload hx hb dX9_settledAll_67 (lv_at hl 4 rfl) ?_
  refine lv_iload hx hb dX9_settledAll_69 (lv_at hl 1 rfl) ?_
  refine lv_iload hx hb dX9_settledAll_71 (lv_at hl 0 rfl) ?_
  refine lv_if_eq (tgt := 81) hx hb dX9_settledAll_73 (by decide) (fun _ => ?_) (fun cz => absurd (by decide) cz)
  refine lv_aload_n hx hb dX9_settledAll_81 rfl (lv_at hl 6 rfl) ?_
  refine lv_iload hx hb dX9_settledAll_82 (lv_at hl 1 rfl) ?_
  refine va_cald hx hb hK hP 1 0 rfl rfl (i := 4) (by unfold vp_in; decide) dX9_settledAll_84 ?_
  refine W.eq (g2 := F0 m 85 ls [.int 48, .int 4, .ref a1]) rfl ?_
  refine va_cast hx hb hK hP hD (va_Sre hS) 11 2 rfl rfl (i := 4) (by unfold vp_in; decide) dX9_settledAll_85 (fun H191 _ hP hD hS' => ?_)
  have hG : s.heap.size + 6 ≤ H191.size := Nat.le_trans hG hS'.1
  have hS := va_Str hS hS'
  have hP : va_P (dC, dI) xCl [(h0, ce21 h2 h3 o0 h4), (h1, ce447 kc0), (h2, ce331 h5), (h5, ce330 kc1 h7 h8 h9 h10 h11 h12 h13), (h7, ce49), (h8, ce49), (h9, ce49), (h10, ce49), (h11, ce49), (h12, ce49), (h13, ce49), (a1, ce455 k2), (a42, ce44 h3), (a81, ce44 h3), (a120, ce44 h3), (h3, ce3 z.1), (a159, ce44 h3), (a10, ce396 h4), (h4, ce366 h6), (h6, ce330 kc2 (z.2.2.1 128) (z.2.2.1 129) (z.2.2.1 130) (z.2.2.1 131) (z.2.2.1 132) (z.2.2.1 133) (z.2.2.1 134))] H191 := hP
  have hD := vd_as hP hD rfl
  refine lv_aload_n hx hb dX9_settledAll_86 rfl (lv_at hl 5 rfl) ?_
  refine va_get (D := (dC, dI)) (ci := 8) (v := .ref h3) (C := RX9) (T := TX9) (N := 6) hx hb hts in_X9 hown hK hP 0 rfl rfl 2 (by decide) (hts _ q_65) (fun _ h9 => h9) rfl dX9_settledAll_87 ?_
  have hM194 := k49_iterator l hl9 dC dI z h3 H191.size
  obtain ⟨hF192, hC195⟩ := pc_M hM194 hP hD hK hS hX hT hA [15] [] rfl rfl rfl
  refine va_callr (va_runV (As := []) (rest := []) ⟨hx, hb, hml, hown, hts⟩ hM194 (cwV 0 hts (gV q_256 q_257 q_258 q_12 q_255) rfl rfl rfl hV_Jx4a65c_iterator_32c93 ⟨Nat.le_of_ble_eq_true rfl, Nat.le_of_ble_eq_true rfl⟩) ⟨pc_blind, va_recv hK hP (ci := 0) (q := (RJx4a65c, TJx4a65c, 3)) (q0 := 15) rfl rfl, fun U hU hW => ⟨rfl, hC195 U hU hW⟩⟩ rfl rfl hl.1 rfl (lv_room (Nat.le_of_ble_eq_true rfl)) dX9_settledAll_90 ⟨(Nat.le_of_ble_eq_true rfl), (Nat.le_of_ble_eq_true rfl)⟩) hS (fun q9 _ h9 => hF192 q9 h9) hF192 (fun u196 r197 t196 H196 L196 ht196 hvm196 hw196 hB196 hz196 hk196 hS => ?_)
  obtain ⟨a198, hr196, hB196⟩ := hB196
  obtain ⟨hP, hD, hK⟩ := pq_jn (wz := [(h0, ce21 h2 h3 o0 h4), (h1, ce447 kc0), (h2, ce331 h5), (h5, ce330 kc1 h7 h8 h9 h10 h11 h12 h13), (h7, ce49), (h8, ce49), (h9, ce49), (h10, ce49), (h11, ce49), (h12, ce49), (h13, ce49), (a1, ce455 k2), (a42, ce44 h3), (a81, ce44 h3), (a120, ce44 h3), (a159, ce44 h3), (a10, ce396 h4), (h4, ce366 h6), (h6, ce330 kc2 (z.2.2.1 128) (z.2.2.1 129) (z.2.2.1 130) (z.2.2.1 131) (z.2.2.1 132) (z.2.2.1 133) (z.2.2.1 134)), (h3, ce3 z.1), (a198, ce44 h3)]) (tz := [(kc0, .char), (kc1, .object "java/lang/Object"), (k2, .char), (kc2, .object "java/lang/Object")]) hP hD hK [15] [0, 1, 2, 3] rfl hk196 hF192 hB196.1 ht196 hvm196 rfl rfl
  have hG : s.heap.size + 7 ≤ H196.size := va_gr (g := 6) (g1 := 1) hG (by rw [← ht196]; exact hB196.2)
  refine W.eq (g2 := F0 m 93 ls [.ref a198]) (by rw [hr196]) ?_
  refine W.widen (k := 7) (n := 64) (by decide) (by decide) ?_
  refine lv_astore (lv' := [(8, .ref a198), (7, .int 0), (6, .int 4), (5, .ref a10), (4, .ref a1), (0, .ref h0), (1, .ref h1), (2, .int 0), (3, .int 48)]) hx hb dX9_settledAll_93 hl (by decide) rfl (fun ls hl => ?_)
  refine lv_aload hx hb dX9_settledAll_95 (lv_at hl 0 rfl) ?_
  have hM201 := k50_hasNext l hl9 dC dI z a198 h3 H196.size
  obtain ⟨hF199, hC202⟩ := pc_M hM201 hP hD hK hS hX hT hA [20, 19] [] rfl rfl rfl
  refine va_callFi (va_runF (As := []) (rest := []) (hK.1 1 (RJx35411, TJx35411, 4) rfl).2 ⟨hx, hb, hml, hown, hts⟩ hM201 (va_cwF 0 hts (gF q_261 q_262 q_263 q_246 q_260) rfl rfl rfl hT.2.2.2.2.2.2.1 hF_xIh ⟨Nat.le_of_ble_eq_true rfl, Nat.le_of_ble_eq_true rfl⟩) ⟨pc_blind, va_recv hK hP (ci := 1) (q := (RJx35411, TJx35411, 4)) (q0 := 20) rfl rfl, fun U hU hW => ⟨rfl, hC202 U hU hW⟩⟩ rfl rfl hl.1 rfl (lv_room (Nat.le_of_ble_eq_true rfl)) dX9_settledAll_97 ⟨(Nat.le_of_ble_eq_true rfl), (Nat.le_of_ble_eq_true rfl)⟩) hS (fun q9 _ h9 => hF199 q9 h9) hF199 (fun r204 u203 t203 H203 L203 ht203 hvm203 hw203 hB203 hz203 hk203 hS => ?_)
  have hP := pq_keep hP hD [20, 19] rfl hk203 hB203.1 ht203
  have hG : s.heap.size + 7 ≤ H203.size := Nat.le_trans hG hz203
  refine W.eq (g2 := F0 m 102 ls [.int 0]) (by rw [hw203]) ?_
  refine lv_if_eq (tgt := 198) hx hb dX9_settledAll_102 (by decide) (fun _ => ?_) (fun cz => absurd (by decide) cz)
  refine lv_aload hx hb dX9_settledAll_198 (lv_at hl 4 rfl) ?_
  refine lv_iload hx hb dX9_settledAll_200 (lv_at hl 2 rfl) ?_
  refine lv_iload hx hb dX9_settledAll_202 (lv_at hl 2 rfl) ?_
  refine lv_iload_n hx hb dX9_settledAll_204 rfl (lv_at hl 7 rfl) ?_
  refine lv_icmp_ne (tgt := 212) hx hb dX9_settledAll_205 (by decide) (fun _ => ?_) (fun cz => absurd cz (by decide))
  refine lv_aload hx hb dX9_settledAll_212 (lv_at hl 4 rfl) ?_
  refine lv_iload hx hb dX9_settledAll_214 (lv_at hl 2 rfl) ?_
  refine va_cald hx hb hK hP 11 2 rfl rfl (i := 4) (by unfold vp_in; decide) dX9_settledAll_216 ?_
  refine W.eq (g2 := F0 m 217 ls [.int 48, .int 4, .ref a1]) rfl ?_
  refine va_cast hx hb hK hP hD (va_Sre hS) 11 2 rfl rfl (i := 4) (by unfold vp_in; decide) dX9_settledAll_217 (fun H205 _ hP hD hS' => ?_)
  have hG : s.heap.size + 7 ≤ H205.size := Nat.le_trans hG hS'.1
  have hS := va_Str hS hS'
  have hP : va_P (dC, dI) xCl [(h0, ce21 h2 h3 o0 h4), (h1, ce447 kc0), (h2, ce331 h5), (h5, ce330 kc1 h7 h8 h9 h10 h11 h12 h13), (h7, ce49), (h8, ce49), (h9, ce49), (h10, ce49), (h11, ce49), (h12, ce49), (h13, ce49), (a1, ce456 k2), (a42, ce44 h3), (a81, ce44 h3), (a120, ce44 h3), (a159, ce44 h3), (a10, ce396 h4), (h4, ce366 h6), (h6, ce330 kc2 (z.2.2.1 128) (z.2.2.1 129) (z.2.2.1 130) (z.2.2.1 131) (z.2.2.1 132) (z.2.2.1 133) (z.2.2.1 134)), (h3, ce3 z.1), (a198, ce44 h3)] H205 := hP
  have hD := vd_as hP hD rfl
  refine lv_goto (tgt := 15) hx hb dX9_settledAll_218 (by decide) ?_
  refine lv_aload hx hb dX9_settledAll_15 (lv_at hl 3 rfl) ?_
  have hM208 := k765_hasNext l hl9 dC dI z a10 h4 h6 H205.size
  obtain ⟨hF206, hC209⟩ := pc_M hM208 hP hD hK hS hX hT hA [16, 17] [] rfl rfl rfl
  refine va_callFi (va_runF (As := []) (rest := []) (hK.1 1 (RJx35411, TJx35411, 4) rfl).2 ⟨hx, hb, hml, hown, hts⟩ hM208 (va_cwF 0 hts (gF q_261 q_262 q_263 q_246 q_260) rfl rfl rfl hT.2.2.2.2.2.2.1 hF_xIh ⟨Nat.le_of_ble_eq_true rfl, Nat.le_of_ble_eq_true rfl⟩) ⟨pc_blind, va_recv hK hP (ci := 1) (q := (RJx35411, TJx35411, 4)) (q0 := 16) rfl rfl, fun U hU hW => ⟨rfl, hC209 U hU hW⟩⟩ rfl rfl hl.1 rfl (lv_room (Nat.le_of_ble_eq_true rfl)) dX9_settledAll_17 ⟨(Nat.le_of_ble_eq_true rfl), (Nat.le_of_ble_eq_true rfl)⟩) hS (fun q9 _ h9 => hF206 q9 h9) hF206 (fun r211 u210 t210 H210 L210 ht210 hvm210 hw210 hB210 hz210 hk210 hS => ?_)
  have hP := pq_keep hP hD [16, 17] rfl hk210 hB210.1 ht210
  have hG : s.heap.size + 7 ≤ H210.size := Nat.le_trans hG hz210
  refine W.eq (g2 := F0 m 22 ls [.int 1]) (by rw [hw210]) ?_
  refine lv_if_eq (tgt := 221) hx hb dX9_settledAll_22 (by decide) (fun cz => absurd cz (by decide)) (fun _ => ?_)
  refine lv_aload hx hb dX9_settledAll_25 (lv_at hl 3 rfl) ?_
  have hM214 := k767_next l hl9 dC dI z a10 h4 h6 H210.size kc2
  obtain ⟨hF212, hC215⟩ := pc_M hM214 hP hD hK hS hX hT hA [16, 17, 18] [3] rfl rfl rfl
  refine va_callFr (va_runF (As := []) (rest := []) (hK.1 1 (RJx35411, TJx35411, 4) rfl).2 ⟨hx, hb, hml, hown, hts⟩ hM214 (va_cwF 0 hts (gF q_308 q_309 q_310 q_246 q_307) rfl rfl rfl hT.2.2.2.2.2.2.2.1 hF_xIn ⟨Nat.le_of_ble_eq_true rfl, Nat.le_of_ble_eq_true rfl⟩) ⟨pc_blind, va_recv hK hP (ci := 1) (q := (RJx35411, TJx35411, 4)) (q0 := 16) rfl rfl, fun U hU hW => ⟨rfl, hC215 U hU hW⟩⟩ rfl rfl hl.1 rfl (lv_room (Nat.le_of_ble_eq_true rfl)) dX9_settledAll_27 ⟨(Nat.le_of_ble_eq_true rfl), (Nat.le_of_ble_eq_true rfl)⟩) hS (fun q9 _ h9 => hF212 q9 h9) hF212 (fun u216 r217 t216 H216 L216 ht216 hvm216 hw216 hB216 hz216 hk216 hS => ?_)
  obtain ⟨hr216, hB216⟩ := hB216
  obtain ⟨hP, hD, hK⟩ := pq_jn (wz := [(h0, ce21 h2 h3 o0 h4), (h1, ce447 kc0), (h2, ce331 h5), (h5, ce330 kc1 h7 h8 h9 h10 h11 h12 h13), (h7, ce49), (h8, ce49), (h9, ce49), (h10, ce49), (h11, ce49), (h12, ce49), (h13, ce49), (a1, ce456 k2), (a42, ce44 h3), (a81, ce44 h3), (a120, ce44 h3), (a159, ce44 h3), (h3, ce3 z.1), (a198, ce44 h3), (a10, ce398 h4), (h4, ce366 h6), (h6, ce330 kc2 (z.2.2.1 128) (z.2.2.1 129) (z.2.2.1 130) (z.2.2.1 131) (z.2.2.1 132) (z.2.2.1 133) (z.2.2.1 134))]) (tz := [(kc0, .char), (kc1, .object "java/lang/Object"), (k2, .char), (kc2, .object "java/lang/Object")]) hP hD hK [16, 17, 18] [0, 1, 2] rfl hk216 hF212 hB216.1 ht216 hvm216 rfl rfl
  have hG : s.heap.size + 7 ≤ H216.size := Nat.le_trans hG hz216
  refine W.eq (g2 := F0 m 32 ls [.ref (z.2.2.1 133)]) (by rw [hr216]) ?_
  refine va_castE (nm := "java/lang/Integer") hx hb hown (hts _ q_320) (va_Orecv (hX.2.2.1.1.1 133 (by decide)) hS) dX9_settledAll_32 ?_
  have hM220 := k615_intValue l hl9 dC dI z H216.size
  obtain ⟨hF218, hC221⟩ := pc_M hM220 hP hD hK hS hX hT hA [] [] rfl rfl rfl
  refine va_calli (va_runV (As := []) (rest := []) ⟨hx, hb, hml, hown, hts⟩ hM220 (cwV 0 hts (gV q_323 q_324 q_325 q_297 q_322) rfl rfl rfl hV_J6_intValue_8abf5 ⟨Nat.le_of_ble_eq_true rfl, Nat.le_of_ble_eq_true rfl⟩) ⟨pc_blind, va_Orecv (hX.2.2.1.1.1 133 (by decide)) hS, fun U hU hW => ⟨rfl, hC221 U hU hW⟩⟩ rfl rfl hl.1 rfl (lv_room (Nat.le_of_ble_eq_true rfl)) dX9_settledAll_35 ⟨(Nat.le_of_ble_eq_true rfl), (Nat.le_of_ble_eq_true rfl)⟩) hS (fun q9 _ h9 => hF218 q9 h9) hF218 (fun r223 u222 t222 H222 L222 ht222 hvm222 hw222 hB222 hz222 hk222 hS => ?_)
  have hP := pq_keep hP hD [] rfl hk222 hB222.1 ht222
  have hG : s.heap.size + 7 ≤ H222.size := Nat.le_trans hG hz222
  refine W.eq (g2 := F0 m 38 ls [.int 5]) (by rw [hw222]) ?_
  refine lv_istore (lv' := [(6, .int 5), (8, .ref a198), (7, .int 0), (5, .ref a10), (4, .ref a1), (0, .ref h0), (1, .ref h1), (2, .int 0), (3, .int 48)]) hx hb dX9_settledAll_38 hl (by decide) rfl (fun ls hl => ?_)
  refine lv_aload_n hx hb dX9_settledAll_40 rfl (lv_at hl 5 rfl) ?_
  refine va_get (D := (dC, dI)) (ci := 8) (v := .ref h2) (C := RX9) (T := TX9) (N := 6) hx hb hts in_X9 hown hK hP 0 rfl rfl 1 (by decide) (hts _ q_64) (fun _ h9 => h9) rfl dX9_settledAll_41 ?_
  refine lv_iload hx hb dX9_settledAll_44 (lv_at hl 0 rfl) ?_
  have hM226 := k652_get l hl9 dC dI z h2 h5 h7 h8 h9 h10 h11 h12 h13 H222.size kc1
  obtain ⟨hF224, hC227⟩ := pc_M hM226 hP hD hK hS hX hT hA [2, 3] [1] rfl rfl rfl
  refine va_callr (va_runV (As := [.int 5]) (rest := []) ⟨hx, hb, hml, hown, hts⟩ hM226 (cwV 1 hts (gV q_315 q_157 q_158 q_12 q_155) rfl rfl rfl hV_Jx4a65c_get_915e3 ⟨Nat.le_of_ble_eq_true rfl, Nat.le_of_ble_eq_true rfl⟩) ⟨pc_blind, va_recv hK hP (ci := 0) (q := (RJx4a65c, TJx4a65c, 3)) (q0 := 2) rfl rfl, fun U hU hW => ⟨rfl, hC227 U hU hW⟩⟩ rfl rfl hl.1 rfl (lv_room (Nat.le_of_ble_eq_true rfl)) dX9_settledAll_46 ⟨(Nat.le_of_ble_eq_true rfl), (Nat.le_of_ble_eq_true rfl)⟩) hS (fun q9 _ h9 => hF224 q9 h9) hF224 (fun u228 r229 t228 H228 L228 ht228 hvm228 hw228 hB228 hz228 hk228 hS => ?_)
  obtain ⟨hr228, hB228⟩ := hB228
  have hP := pq_keep hP hD [2, 3] rfl hk228 hB228.1 ht228
  have hG : s.heap.size + 7 ≤ H228.size := Nat.le_trans hG hz228
  refine W.eq (g2 := F0 m 49 ls [.ref h12]) (by rw [hr228]) ?_
  refine va_castE (nm := RX8) hx hb hown (hts _ q_273) (va_recv hK hP (ci := 7) (q := (RX8, TX8, 6)) (q0 := 9) rfl rfl) dX9_settledAll_49 ?_
  refine va_get (D := (dC, dI)) (ci := 7) (v := .int 105) (C := RX8) (T := TX8) (N := 6) hx hb hts in_X8 hown hK hP 9 rfl rfl 0 (by decide) (hts _ q_326) (fun _ h9 => h9) rfl dX9_settledAll_52 ?_
  refine lv_bipush (v := 98) hx hb dX9_settledAll_55 (by decide) ?_
  refine lv_icmp_ne (tgt := 64) hx hb dX9_settledAll_57 (by decide) (fun _ => ?_) (fun cz => absurd cz (by decide))
  refine lv_iconst (v := 0) hx hb dX9_settledAll_64 (by decide) ?_
  refine lv_istore (lv' := [(7, .int 0), (6, .int 5), (8, .ref a198), (5, .ref a10), (4, .ref a1), (0, .ref h0), (1, .ref h1), (2, .int 0), (3, .int 48)]) hx hb dX9_settledAll_65 hl (by decide) rfl (fun ls hl => ?_)
  refine lv_aload hx hb dX9_settledAll_67 (lv_at hl 4 rfl) ?_
  refine lv_iload hx hb dX9_settledAll_69 (lv_at hl 1 rfl) ?_
  refine lv_iload hx hb dX9_settledAll_71 (lv_at hl 0 rfl) ?_
  refine lv_if_eq (tgt := 81) hx hb dX9_settledAll_73 (by decide) (fun _ => ?_) (fun cz => absurd (by decide) cz)
  refine lv_aload_n hx hb dX9_settledAll_81 rfl (lv_at hl 6 rfl) ?_
  refine lv_iload hx hb dX9_settledAll_82 (lv_at hl 1 rfl) ?_
  refine va_cald hx hb hK hP 1 0 rfl rfl (i := 5) (by unfold vp_in; decide) dX9_settledAll_84 ?_
  refine W.eq (g2 := F0 m 85 ls [.int 48, .int 5, .ref a1]) rfl ?_
  refine va_cast hx hb hK hP hD (va_Sre hS) 11 2 rfl rfl (i := 5) (by unfold vp_in; decide) dX9_settledAll_85 (fun H230 _ hP hD hS' => ?_)
  have hG : s.heap.size + 7 ≤ H230.size := Nat.le_trans hG hS'.1
  have hS := va_Str hS hS'
  have hP : va_P (dC, dI) xCl [(h0, ce21 h2 h3 o0 h4), (h1, ce447 kc0), (h2, ce331 h5), (h5, ce330 kc1 h7 h8 h9 h10 h11 h12 h13), (h7, ce49), (h8, ce49), (h9, ce49), (h10, ce49), (h11, ce49), (h12, ce49), (h13, ce49), (a1, ce457 k2), (a42, ce44 h3), (a81, ce44 h3), (a120, ce44 h3), (a159, ce44 h3), (h3, ce3 z.1), (a198, ce44 h3), (a10, ce398 h4), (h4, ce366 h6), (h6, ce330 kc2 (z.2.2.1 128) (z.2.2.1 129) (z.2.2.1 130) (z.2.2.1 131) (z.2.2.1 132) (z.2.2.1 133) (z.2.2.1 134))] H230 := hP
  have hD := vd_as hP hD rfl
  refine lv_aload_n hx hb dX9_settledAll_86 rfl (lv_at hl 5 rfl) ?_
  refine va_get (D := (dC, dI)) (ci := 8) (v := .ref h3) (C := RX9) (T := TX9) (N := 6) hx hb hts in_X9 hown hK hP 0 rfl rfl 2 (by decide) (hts _ q_65) (fun _ h9 => h9) rfl dX9_settledAll_87 ?_
  have hM233 := k49_iterator l hl9 dC dI z h3 H230.size
  obtain ⟨hF231, hC234⟩ := pc_M hM233 hP hD hK hS hX hT hA [16] [] rfl rfl rfl
  refine va_callr (va_runV (As := []) (rest := []) ⟨hx, hb, hml, hown, hts⟩ hM233 (cwV 0 hts (gV q_256 q_257 q_258 q_12 q_255) rfl rfl rfl hV_Jx4a65c_iterator_32c93 ⟨Nat.le_of_ble_eq_true rfl, Nat.le_of_ble_eq_true rfl⟩) ⟨pc_blind, va_recv hK hP (ci := 0) (q := (RJx4a65c, TJx4a65c, 3)) (q0 := 16) rfl rfl, fun U hU hW => ⟨rfl, hC234 U hU hW⟩⟩ rfl rfl hl.1 rfl (lv_room (Nat.le_of_ble_eq_true rfl)) dX9_settledAll_90 ⟨(Nat.le_of_ble_eq_true rfl), (Nat.le_of_ble_eq_true rfl)⟩) hS (fun q9 _ h9 => hF231 q9 h9) hF231 (fun u235 r236 t235 H235 L235 ht235 hvm235 hw235 hB235 hz235 hk235 hS => ?_)
  obtain ⟨a237, hr235, hB235⟩ := hB235
  obtain ⟨hP, hD, hK⟩ := pq_jn (wz := [(h0, ce21 h2 h3 o0 h4), (h1, ce447 kc0), (h2, ce331 h5), (h5, ce330 kc1 h7 h8 h9 h10 h11 h12 h13), (h7, ce49), (h8, ce49), (h9, ce49), (h10, ce49), (h11, ce49), (h12, ce49), (h13, ce49), (a1, ce457 k2), (a42, ce44 h3), (a81, ce44 h3), (a120, ce44 h3), (a159, ce44 h3), (a198, ce44 h3), (a10, ce398 h4), (h4, ce366 h6), (h6, ce330 kc2 (z.2.2.1 128) (z.2.2.1 129) (z.2.2.1 130) (z.2.2.1 131) (z.2.2.1 132) (z.2.2.1 133) (z.2.2.1 134)), (h3, ce3 z.1), (a237, ce44 h3)]) (tz := [(kc0, .char), (kc1, .object "java/lang/Object"), (k2, .char), (kc2, .object "java/lang/Object")]) hP hD hK [16] [0, 1, 2, 3] rfl hk235 hF231 hB235.1 ht235 hvm235 rfl rfl
  have hG : s.heap.size + 8 ≤ H235.size := va_gr (g := 7) (g1 := 1) hG (by rw [← ht235]; exact hB235.2)
  refine W.eq (g2 := F0 m 93 ls [.ref a237]) (by rw [hr235]) ?_
  refine W.widen (k := 8) (n := 68) (by decide) (by decide) ?_
  refine lv_astore (lv' := [(8, .ref a237), (7, .int 0), (6, .int 5), (5, .ref a10), (4, .ref a1), (0, .ref h0), (1, .ref h1), (2, .int 0), (3, .int 48)]) hx hb dX9_settledAll_93 hl (by decide) rfl (fun ls hl => ?_)
  refine lv_aload hx hb dX9_settledAll_95 (lv_at hl 0 rfl) ?_
  have hM240 := k50_hasNext l hl9 dC dI z a237 h3 H235.size
  obtain ⟨hF238, hC241⟩ := pc_M hM240 hP hD hK hS hX hT hA [21, 20] [] rfl rfl rfl
  refine va_callFi (va_runF (As := []) (rest := []) (hK.1 1 (RJx35411, TJx35411, 4) rfl).2 ⟨hx, hb, hml, hown, hts⟩ hM240 (va_cwF 0 hts (gF q_261 q_262 q_263 q_246 q_260) rfl rfl rfl hT.2.2.2.2.2.2.1 hF_xIh ⟨Nat.le_of_ble_eq_true rfl, Nat.le_of_ble_eq_true rfl⟩) ⟨pc_blind, va_recv hK hP (ci := 1) (q := (RJx35411, TJx35411, 4)) (q0 := 21) rfl rfl, fun U hU hW => ⟨rfl, hC241 U hU hW⟩⟩ rfl rfl hl.1 rfl (lv_room (Nat.le_of_ble_eq_true rfl)) dX9_settledAll_97 ⟨(Nat.le_of_ble_eq_true rfl), (Nat.le_of_ble_eq_true rfl)⟩) hS (fun q9 _ h9 => hF238 q9 h9) hF238 (fun r243 u242 t242 H242 L242 ht242 hvm242 hw242 hB242 hz242 hk242 hS => ?_)
  have hP := pq_keep hP hD [21, 20] rfl hk242 hB242.1 ht242
  have hG : s.heap.size + 8 ≤ H242.size := Nat.le_trans hG hz242
  refine W.eq (g2 := F0 m 102 ls [.int 0]) (by rw [hw242]) ?_
  refine lv_if_eq (tgt := 198) hx hb dX9_settledAll_102 (by decide) (fun _ => ?_) (fun cz => absurd (by decide) cz)
  refine lv_aload hx hb dX9_settledAll_198 (lv_at hl 4 rfl) ?_
  refine lv_iload hx hb dX9_settledAll_200 (lv_at hl 2 rfl) ?_
  refine lv_iload hx hb dX9_settledAll_202 (lv_at hl 2 rfl) ?_
  refine lv_iload_n hx hb dX9_settledAll_204 rfl (lv_at hl 7 rfl) ?_
  refine lv_icmp_ne (tgt := 212) hx hb dX9_settledAll_205 (by decide) (fun _ => ?_) (fun cz => absurd cz (by decide))
  refine lv_aload hx hb dX9_settledAll_212 (lv_at hl 4 rfl) ?_
  refine lv_iload hx hb dX9_settledAll_214 (lv_at hl 2 rfl) ?_
  refine va_cald hx hb hK hP 11 2 rfl rfl (i := 5) (by unfold vp_in; decide) dX9_settledAll_216 ?_
  refine W.eq (g2 := F0 m 217 ls [.int 48, .int 5, .ref a1]) rfl ?_
  refine va_cast hx hb hK hP hD (va_Sre hS) 11 2 rfl rfl (i := 5) (by unfold vp_in; decide) dX9_settledAll_217 (fun H244 _ hP hD hS' => ?_)
  have hG : s.heap.size + 8 ≤ H244.size := Nat.le_trans hG hS'.1
  have hS := va_Str hS hS'
  have hP : va_P (dC, dI) xCl [(h0, ce21 h2 h3 o0 h4), (h1, ce447 kc0), (h2, ce331 h5), (h5, ce330 kc1 h7 h8 h9 h10 h11 h12 h13), (h7, ce49), (h8, ce49), (h9, ce49), (h10, ce49), (h11, ce49), (h12, ce49), (h13, ce49), (a1, ce458 k2), (a42, ce44 h3), (a81, ce44 h3), (a120, ce44 h3), (a159, ce44 h3), (a198, ce44 h3), (a10, ce398 h4), (h4, ce366 h6), (h6, ce330 kc2 (z.2.2.1 128) (z.2.2.1 129) (z.2.2.1 130) (z.2.2.1 131) (z.2.2.1 132) (z.2.2.1 133) (z.2.2.1 134)), (h3, ce3 z.1), (a237, ce44 h3)] H244 := hP
  have hD := vd_as hP hD rfl
  refine lv_goto (tgt := 15) hx hb dX9_settledAll_218 (by decide) ?_
  refine lv_aload hx hb dX9_settledAll_15 (lv_at hl 3 rfl) ?_
  have hM247 := k768_hasNext l hl9 dC dI z a10 h4 h6 H244.size
  obtain ⟨hF245, hC248⟩ := pc_M hM247 hP hD hK hS hX hT hA [17, 18] [] rfl rfl rfl
  refine va_callFi (va_runF (As := []) (rest := []) (hK.1 1 (RJx35411, TJx35411, 4) rfl).2 ⟨hx, hb, hml, hown, hts⟩ hM247 (va_cwF 0 hts (gF q_261 q_262 q_263 q_246 q_260) rfl rfl rfl hT.2.2.2.2.2.2.1 hF_xIh ⟨Nat.le_of_ble_eq_true rfl, Nat.le_of_ble_eq_true rfl⟩) ⟨pc_blind, va_recv hK hP (ci := 1) (q := (RJx35411, TJx35411, 4)) (q0 := 17) rfl rfl, fun U hU hW => ⟨rfl, hC248 U hU hW⟩⟩ rfl rfl hl.1 rfl (lv_room (Nat.le_of_ble_eq_true rfl)) dX9_settledAll_17 ⟨(Nat.le_of_ble_eq_true rfl), (Nat.le_of_ble_eq_true rfl)⟩) hS (fun q9 _ h9 => hF245 q9 h9) hF245 (fun r250 u249 t249 H249 L249 ht249 hvm249 hw249 hB249 hz249 hk249 hS => ?_)
  have hP := pq_keep hP hD [17, 18] rfl hk249 hB249.1 ht249
  have hG : s.heap.size + 8 ≤ H249.size := Nat.le_trans hG hz249
  refine W.eq (g2 := F0 m 22 ls [.int 1]) (by rw [hw249]) ?_
  refine lv_if_eq (tgt := 221) hx hb dX9_settledAll_22 (by decide) (fun cz => absurd cz (by decide)) (fun _ => ?_)
  refine lv_aload hx hb dX9_settledAll_25 (lv_at hl 3 rfl) ?_
  have hM253 := k770_next l hl9 dC dI z a10 h4 h6 H249.size kc2
  obtain ⟨hF251, hC254⟩ := pc_M hM253 hP hD hK hS hX hT hA [17, 18, 19] [3] rfl rfl rfl
  refine va_callFr (va_runF (As := []) (rest := []) (hK.1 1 (RJx35411, TJx35411, 4) rfl).2 ⟨hx, hb, hml, hown, hts⟩ hM253 (va_cwF 0 hts (gF q_308 q_309 q_310 q_246 q_307) rfl rfl rfl hT.2.2.2.2.2.2.2.1 hF_xIn ⟨Nat.le_of_ble_eq_true rfl, Nat.le_of_ble_eq_true rfl⟩) ⟨pc_blind, va_recv hK hP (ci := 1) (q := (RJx35411, TJx35411, 4)) (q0 := 17) rfl rfl, fun U hU hW => ⟨rfl, hC254 U hU hW⟩⟩ rfl rfl hl.1 rfl (lv_room (Nat.le_of_ble_eq_true rfl)) dX9_settledAll_27 ⟨(Nat.le_of_ble_eq_true rfl), (Nat.le_of_ble_eq_true rfl)⟩) hS (fun q9 _ h9 => hF251 q9 h9) hF251 (fun u255 r256 t255 H255 L255 ht255 hvm255 hw255 hB255 hz255 hk255 hS => ?_)
  obtain ⟨hr255, hB255⟩ := hB255
  obtain ⟨hP, hD, hK⟩ := pq_jn (wz := [(h0, ce21 h2 h3 o0 h4), (h1, ce447 kc0), (h2, ce331 h5), (h5, ce330 kc1 h7 h8 h9 h10 h11 h12 h13), (h7, ce49), (h8, ce49), (h9, ce49), (h10, ce49), (h11, ce49), (h12, ce49), (h13, ce49), (a1, ce458 k2), (a42, ce44 h3), (a81, ce44 h3), (a120, ce44 h3), (a159, ce44 h3), (a198, ce44 h3), (h3, ce3 z.1), (a237, ce44 h3), (a10, ce400 h4), (h4, ce366 h6), (h6, ce330 kc2 (z.2.2.1 128) (z.2.2.1 129) (z.2.2.1 130) (z.2.2.1 131) (z.2.2.1 132) (z.2.2.1 133) (z.2.2.1 134))]) (tz := [(kc0, .char), (kc1, .object "java/lang/Object"), (k2, .char), (kc2, .object "java/lang/Object")]) hP hD hK [17, 18, 19] [0, 1, 2] rfl hk255 hF251 hB255.1 ht255 hvm255 rfl rfl
  have hG : s.heap.size + 8 ≤ H255.size := Nat.le_trans hG hz255
  refine W.eq (g2 := F0 m 32 ls [.ref (z.2.2.1 134)]) (by rw [hr255]) ?_
  refine va_castE (nm := "java/lang/Integer") hx hb hown (hts _ q_320) (va_Orecv (hX.2.2.1.1.1 134 (by decide)) hS) dX9_settledAll_32 ?_
  have hM259 := k771_intValue l hl9 dC dI z H255.size
  obtain ⟨hF257, hC260⟩ := pc_M hM259 hP hD hK hS hX hT hA [] [] rfl rfl rfl
  refine va_calli (va_runV (As := []) (rest := []) ⟨hx, hb, hml, hown, hts⟩ hM259 (cwV 0 hts (gV q_323 q_324 q_325 q_297 q_322) rfl rfl rfl hV_J6_intValue_8abf5 ⟨Nat.le_of_ble_eq_true rfl, Nat.le_of_ble_eq_true rfl⟩) ⟨pc_blind, va_Orecv (hX.2.2.1.1.1 134 (by decide)) hS, fun U hU hW => ⟨rfl, hC260 U hU hW⟩⟩ rfl rfl hl.1 rfl (lv_room (Nat.le_of_ble_eq_true rfl)) dX9_settledAll_35 ⟨(Nat.le_of_ble_eq_true rfl), (Nat.le_of_ble_eq_true rfl)⟩) hS (fun q9 _ h9 => hF257 q9 h9) hF257 (fun r262 u261 t261 H261 L261 ht261 hvm261 hw261 hB261 hz261 hk261 hS => ?_)
  have hP := pq_keep hP hD [] rfl hk261 hB261.1 ht261
  have hG : s.heap.size + 8 ≤ H261.size := Nat.le_trans hG hz261
  refine W.eq (g2 := F0 m 38 ls [.int 6]) (by rw [hw261]) ?_
  refine lv_istore (lv' := [(6, .int 6), (8, .ref a237), (7, .int 0), (5, .ref a10), (4, .ref a1), (0, .ref h0), (1, .ref h1), (2, .int 0), (3, .int 48)]) hx hb dX9_settledAll_38 hl (by decide) rfl (fun ls hl => ?_)
  refine lv_aload_n hx hb dX9_settledAll_40 rfl (lv_at hl 5 rfl) ?_
  refine va_get (D := (dC, dI)) (ci := 8) (v := .ref h2) (C := RX9) (T := TX9) (N := 6) hx hb hts in_X9 hown hK hP 0 rfl rfl 1 (by decide) (hts _ q_64) (fun _ h9 => h9) rfl dX9_settledAll_41 ?_
  refine lv_iload hx hb dX9_settledAll_44 (lv_at hl 0 rfl) ?_
  have hM265 := k656_get l hl9 dC dI z h2 h5 h7 h8 h9 h10 h11 h12 h13 H261.size kc1
  obtain ⟨hF263, hC266⟩ := pc_M hM265 hP hD hK hS hX hT hA [2, 3] [1] rfl rfl rfl
  refine va_callr (va_runV (As := [.int 6]) (rest := []) ⟨hx, hb, hml, hown, hts⟩ hM265 (cwV 1 hts (gV q_315 q_157 q_158 q_12 q_155) rfl rfl rfl hV_Jx4a65c_get_915e3 ⟨Nat.le_of_ble_eq_true rfl, Nat.le_of_ble_eq_true rfl⟩) ⟨pc_blind, va_recv hK hP (ci := 0) (q := (RJx4a65c, TJx4a65c, 3)) (q0 := 2) rfl rfl, fun U hU hW => ⟨rfl, hC266 U hU hW⟩⟩ rfl rfl hl.1 rfl (lv_room (Nat.le_of_ble_eq_true rfl)) dX9_settledAll_46 ⟨(Nat.le_of_ble_eq_true rfl), (Nat.le_of_ble_eq_true rfl)⟩) hS (fun q9 _ h9 => hF263 q9 h9) hF263 (fun u267 r268 t267 H267 L267 ht267 hvm267 hw267 hB267 hz267 hk267 hS => ?_)
  obtain ⟨hr267, hB267⟩ := hB267
  have hP := pq_keep hP hD [2, 3] rfl hk267 hB267.1 ht267
  have hG : s.heap.size + 8 ≤ H267.size := Nat.le_trans hG hz267
  refine W.eq (g2 := F0 m 49 ls [.ref h13]) (by rw [hr267]) ?_
  refine va_castE (nm := RX8) hx hb hown (hts _ q_273) (va_recv hK hP (ci := 7) (q := (RX8, TX8, 6)) (q0 := 10) rfl rfl) dX9_settledAll_49 ?_
  refine va_get (D := (dC, dI)) (ci := 7) (v := .int 105) (C := RX8) (T := TX8) (N := 6) hx hb hts in_X8 hown hK hP 10 rfl rfl 0 (by decide) (hts _ q_326) (fun _ h9 => h9) rfl dX9_settledAll_52 ?_
  refine lv_bipush (v := 98) hx hb dX9_settledAll_55 (by decide) ?_
  refine lv_icmp_ne (tgt := 64) hx hb dX9_settledAll_57 (by decide) (fun _ => ?_) (fun cz => absurd cz (by decide))
  refine lv_iconst (v := 0) hx hb dX9_settledAll_64 (by decide) ?_
  refine lv_istore (lv' := [(7, .int 0), (6, .int 6), (8, .ref a237), (5, .ref a10), (4, .ref a1), (0, .ref h0), (1, .ref h1), (2, .int 0), (3, .int 48)]) hx hb dX9_settledAll_65 hl (by decide) rfl (fun ls hl => ?_)
  refine lv_aload hx hb dX9_settledAll_67 (lv_at hl 4 rfl) ?_
  refine lv_iload hx hb dX9_settledAll_69 (lv_at hl 1 rfl) ?_
  refine lv_iload hx hb dX9_settledAll_71 (lv_at hl 0 rfl) ?_
  refine lv_if_eq (tgt := 81) hx hb dX9_settledAll_73 (by decide) (fun _ => ?_) (fun cz => absurd (by decide) cz)
  refine lv_aload_n hx hb dX9_settledAll_81 rfl (lv_at hl 6 rfl) ?_
  refine lv_iload hx hb dX9_settledAll_82 (lv_at hl 1 rfl) ?_
  refine va_cald hx hb hK hP 1 0 rfl rfl (i := 6) (by unfold vp_in; decide) dX9_settledAll_84 ?_
  refine W.eq (g2 := F0 m 85 ls [.int 48, .int 6, .ref a1]) rfl ?_
  refine va_cast hx hb hK hP hD (va_Sre hS) 11 2 rfl rfl (i := 6) (by unfold vp_in; decide) dX9_settledAll_85 (fun H269 _ hP hD hS' => ?_)
  have hG : s.heap.size + 8 ≤ H269.size := Nat.le_trans hG hS'.1
  have hS := va_Str hS hS'
  have hP : va_P (dC, dI) xCl [(h0, ce21 h2 h3 o0 h4), (h1, ce447 kc0), (h2, ce331 h5), (h5, ce330 kc1 h7 h8 h9 h10 h11 h12 h13), (h7, ce49), (h8, ce49), (h9, ce49), (h10, ce49), (h11, ce49), (h12, ce49), (h13, ce49), (a1, ce459 k2), (a42, ce44 h3), (a81, ce44 h3), (a120, ce44 h3), (a159, ce44 h3), (a198, ce44 h3), (h3, ce3 z.1), (a237, ce44 h3), (a10, ce400 h4), (h4, ce366 h6), (h6, ce330 kc2 (z.2.2.1 128) (z.2.2.1 129) (z.2.2.1 130) (z.2.2.1 131) (z.2.2.1 132) (z.2.2.1 133) (z.2.2.1 134))] H269 := hP
  have hD := vd_as hP hD rfl
  refine lv_aload_n hx hb dX9_settledAll_86 rfl (lv_at hl 5 rfl) ?_
  refine va_get (D := (dC, dI)) (ci := 8) (v := .ref h3) (C := RX9) (T := TX9) (N := 6) hx hb hts in_X9 hown hK hP 0 rfl rfl 2 (by decide) (hts _ q_65) (fun _ h9 => h9) rfl dX9_settledAll_87 ?_
  have hM272 := k49_iterator l hl9 dC dI z h3 H269.size
  obtain ⟨hF270, hC273⟩ := pc_M hM272 hP hD hK hS hX hT hA [17] [] rfl rfl rfl
  refine va_callr (va_runV (As := []) (rest := []) ⟨hx, hb, hml, hown, hts⟩ hM272 (cwV 0 hts (gV q_256 q_257 q_258 q_12 q_255) rfl rfl rfl hV_Jx4a65c_iterator_32c93 ⟨Nat.le_of_ble_eq_true rfl, Nat.le_of_ble_eq_true rfl⟩) ⟨pc_blind, va_recv hK hP (ci := 0) (q := (RJx4a65c, TJx4a65c, 3)) (q0 := 17) rfl rfl, fun U hU hW => ⟨rfl, hC273 U hU hW⟩⟩ rfl rfl hl.1 rfl (lv_room (Nat.le_of_ble_eq_true rfl)) dX9_settledAll_90 ⟨(Nat.le_of_ble_eq_true rfl), (Nat.le_of_ble_eq_true rfl)⟩) hS (fun q9 _ h9 => hF270 q9 h9) hF270 (fun u274 r275 t274 H274 L274 ht274 hvm274 hw274 hB274 hz274 hk274 hS => ?_)
  obtain ⟨a276, hr274, hB274⟩ := hB274
  obtain ⟨hP, hD, hK⟩ := pq_jn (wz := [(h0, ce21 h2 h3 o0 h4), (h1, ce447 kc0), (h2, ce331 h5), (h5, ce330 kc1 h7 h8 h9 h10 h11 h12 h13), (h7, ce49), (h8, ce49), (h9, ce49), (h10, ce49), (h11, ce49), (h12, ce49), (h13, ce49), (a1, ce459 k2), (a42, ce44 h3), (a81, ce44 h3), (a120, ce44 h3), (a159, ce44 h3), (a198, ce44 h3), (a237, ce44 h3), (a10, ce400 h4), (h4, ce366 h6), (h6, ce330 kc2 (z.2.2.1 128) (z.2.2.1 129) (z.2.2.1 130) (z.2.2.1 131) (z.2.2.1 132) (z.2.2.1 133) (z.2.2.1 134)), (h3, ce3 z.1), (a276, ce44 h3)]) (tz := [(kc0, .char), (kc1, .object "java/lang/Object"), (k2, .char), (kc2, .object "java/lang/Object")]) hP hD hK [17] [0, 1, 2, 3] rfl hk274 hF270 hB274.1 ht274 hvm274 rfl rfl
  have hG : s.heap.size + 9 ≤ H274.size := va_gr (g := 8) (g1 := 1) hG (by rw [← ht274]; exact hB274.2)
  refine W.eq (g2 := F0 m 93 ls [.ref a276]) (by rw [hr274]) ?_
  refine W.widen (k := 9) (n := 72) (by decide) (by decide) ?_
  refine lv_astore (lv' := [(8, .ref a276), (7, .int 0), (6, .int 6), (5, .ref a10), (4, .ref a1), (0, .ref h0), (1, .ref h1), (2, .int 0), (3, .int 48)]) hx hb dX9_settledAll_93 hl (by decide) rfl (fun ls hl => ?_)
  refine lv_aload hx hb dX9_settledAll_95 (lv_at hl 0 rfl) ?_
  have hM279 := k50_hasNext l hl9 dC dI z a276 h3 H274.size
  obtain ⟨hF277, hC280⟩ := pc_M hM279 hP hD hK hS hX hT hA [22, 21] [] rfl rfl rfl
  refine va_callFi (va_runF (As := []) (rest := []) (hK.1 1 (RJx35411, TJx35411, 4) rfl).2 ⟨hx, hb, hml, hown, hts⟩ hM279 (va_cwF 0 hts (gF q_261 q_262 q_263 q_246 q_260) rfl rfl rfl hT.2.2.2.2.2.2.1 hF_xIh ⟨Nat.le_of_ble_eq_true rfl, Nat.le_of_ble_eq_true rfl⟩) ⟨pc_blind, va_recv hK hP (ci := 1) (q := (RJx35411, TJx35411, 4)) (q0 := 22) rfl rfl, fun U hU hW => ⟨rfl, hC280 U hU hW⟩⟩ rfl rfl hl.1 rfl (lv_room (Nat.le_of_ble_eq_true rfl)) dX9_settledAll_97 ⟨(Nat.le_of_ble_eq_true rfl), (Nat.le_of_ble_eq_true rfl)⟩) hS (fun q9 _ h9 => hF277 q9 h9) hF277 (fun r282 u281 t281 H281 L281 ht281 hvm281 hw281 hB281 hz281 hk281 hS => ?_)
  have hP := pq_keep hP hD [22, 21] rfl hk281 hB281.1 ht281
  have hG : s.heap.size + 9 ≤ H281.size := Nat.le_trans hG hz281
  refine W.eq (g2 := F0 m 102 ls [.int 0]) (by rw [hw281]) ?_
  refine lv_if_eq (tgt := 198) hx hb dX9_settledAll_102 (by decide) (fun _ => ?_) (fun cz => absurd (by decide) cz)
  refine lv_aload hx hb dX9_settledAll_198 (lv_at hl 4 rfl) ?_
  refine lv_iload hx hb dX9_settledAll_200 (lv_at hl 2 rfl) ?_
  refine lv_iload hx hb dX9_settledAll_202 (lv_at hl 2 rfl) ?_
  refine lv_iload_n hx hb dX9_settledAll_204 rfl (lv_at hl 7 rfl) ?_
  refine lv_icmp_ne (tgt := 212) hx hb dX9_settledAll_205 (by decide) (fun _ => ?_) (fun cz => absurd cz (by decide))
  refine lv_aload hx hb dX9_settledAll_212 (lv_at hl 4 rfl) ?_
  refine lv_iload hx hb dX9_settledAll_214 (lv_at hl 2 rfl) ?_
  refine va_cald hx hb hK hP 11 2 rfl rfl (i := 6) (by unfold vp_in; decide) dX9_settledAll_216 ?_
  refine W.eq (g2 := F0 m 217 ls [.int 48, .int 6, .ref a1]) rfl ?_
  refine va_cast hx hb hK hP hD (va_Sre hS) 11 2 rfl rfl (i := 6) (by unfold vp_in; decide) dX9_settledAll_217 (fun H283 _ hP hD hS' => ?_)
  have hG : s.heap.size + 9 ≤ H283.size := Nat.le_trans hG hS'.1
  have hS := va_Str hS hS'
  have hP : va_P (dC, dI) xCl [(h0, ce21 h2 h3 o0 h4), (h1, ce447 kc0), (h2, ce331 h5), (h5, ce330 kc1 h7 h8 h9 h10 h11 h12 h13), (h7, ce49), (h8, ce49), (h9, ce49), (h10, ce49), (h11, ce49), (h12, ce49), (h13, ce49), (a1, ce460 k2), (a42, ce44 h3), (a81, ce44 h3), (a120, ce44 h3), (a159, ce44 h3), (a198, ce44 h3), (a237, ce44 h3), (a10, ce400 h4), (h4, ce366 h6), (h6, ce330 kc2 (z.2.2.1 128) (z.2.2.1 129) (z.2.2.1 130) (z.2.2.1 131) (z.2.2.1 132) (z.2.2.1 133) (z.2.2.1 134)), (h3, ce3 z.1), (a276, ce44 h3)] H283 := hP
  have hD := vd_as hP hD rfl
  refine lv_goto (tgt := 15) hx hb dX9_settledAll_218 (by decide) ?_
  refine lv_aload hx hb dX9_settledAll_15 (lv_at hl 3 rfl) ?_
  have hM286 := k772_hasNext l hl9 dC dI z a10 h4 h6 H283.size
  obtain ⟨hF284, hC287⟩ := pc_M hM286 hP hD hK hS hX hT hA [18, 19] [] rfl rfl rfl
  refine va_callFi (va_runF (As := []) (rest := []) (hK.1 1 (RJx35411, TJx35411, 4) rfl).2 ⟨hx, hb, hml, hown, hts⟩ hM286 (va_cwF 0 hts (gF q_261 q_262 q_263 q_246 q_260) rfl rfl rfl hT.2.2.2.2.2.2.1 hF_xIh ⟨Nat.le_of_ble_eq_true rfl, Nat.le_of_ble_eq_true rfl⟩) ⟨pc_blind, va_recv hK hP (ci := 1) (q := (RJx35411, TJx35411, 4)) (q0 := 18) rfl rfl, fun U hU hW => ⟨rfl, hC287 U hU hW⟩⟩ rfl rfl hl.1 rfl (lv_room (Nat.le_of_ble_eq_true rfl)) dX9_settledAll_17 ⟨(Nat.le_of_ble_eq_true rfl), (Nat.le_of_ble_eq_true rfl)⟩) hS (fun q9 _ h9 => hF284 q9 h9) hF284 (fun r289 u288 t288 H288 L288 ht288 hvm288 hw288 hB288 hz288 hk288 hS => ?_)
  have hP := pq_keep hP hD [18, 19] rfl hk288 hB288.1 ht288
  have hG : s.heap.size + 9 ≤ H288.size := Nat.le_trans hG hz288
  refine W.eq (g2 := F0 m 22 ls [.int 0]) (by rw [hw288]) ?_
  refine lv_if_eq (tgt := 221) hx hb dX9_settledAll_22 (by decide) (fun _ => ?_) (fun cz => absurd (by decide) cz)
  refine lv_aload hx hb dX9_settledAll_221 (lv_at hl 4 rfl) ?_
  have ehu290 : (upd (upd (upd (upd (upd (upd (upd (upd (upd (upd (upd (upd (upd (upd (fun _ => 0) 0 48) 0 48) 1 48) 1 48) 2 48) 2 48) 3 48) 3 48) 4 48) 4 48) 5 48) 5 48) 6 48) 6 48) = (upd (upd (upd (upd (upd (upd (upd (fun _ => 0) 0 48) 1 48) 2 48) 3 48) 4 48) 5 48) 6 48) := by funext j; by_cases g0 : j = 0; (subst g0; rfl); by_cases g1 : j = 1; (subst g1; rfl); by_cases g2 : j = 2; (subst g2; rfl); by_cases g3 : j = 3; (subst g3; rfl); by_cases g4 : j = 4; (subst g4; rfl); by_cases g5 : j = 5; (subst g5; rfl); by_cases g6 : j = 6; (subst g6; rfl); simp only [upd, g0, g1, g2, g3, g4, g5, g6, if_false]
  have hu290 : (ce460 k2 : va_E) = ce447 k2 := (show (.inl (k2, 40, .inl (upd (upd (upd (upd (upd (upd (upd (upd (upd (upd (upd (upd (upd (upd (fun _ => 0) 0 48) 0 48) 1 48) 1 48) 2 48) 2 48) 3 48) 3 48) 4 48) 4 48) 5 48) 5 48) 6 48) 6 48)) : va_E) = .inl (k2, 40, .inl (upd (upd (upd (upd (upd (upd (upd (fun _ => 0) 0 48) 1 48) 2 48) 3 48) 4 48) 5 48) 6 48)) by rw [ehu290])
  rw [hu290] at hP hD
  have hP : va_P (dC, dI) xCl [(h0, ce21 h2 h3 o0 h4), (h1, ce447 kc0), (h2, ce331 h5), (h5, ce330 kc1 h7 h8 h9 h10 h11 h12 h13), (h7, ce49), (h8, ce49), (h9, ce49), (h10, ce49), (h11, ce49), (h12, ce49), (h13, ce49), (a1, ce447 k2), (a42, ce44 h3), (a81, ce44 h3), (a120, ce44 h3), (a159, ce44 h3), (a198, ce44 h3), (a237, ce44 h3), (a10, ce400 h4), (h4, ce366 h6), (h6, ce330 kc2 (z.2.2.1 128) (z.2.2.1 129) (z.2.2.1 130) (z.2.2.1 131) (z.2.2.1 132) (z.2.2.1 133) (z.2.2.1 134)), (h3, ce3 z.1), (a276, ce44 h3)] H288 := hP
  have hD := vd_as hP hD rfl
  exact W.aret (v := .ref a1) hx hb hr (by first | exact Or.inl ⟨_, rfl⟩ | exact Or.inr ⟨_, rfl⟩) (Or.inr ⟨_, rfl⟩) (fun t9 ht9 hW9 => ⟨⟨(), a1, rfl, trivial, ⟨a1, k2, rfl, ⟨pq_mk2 hP hD hK [0, 1, 2, 21, 19, 3, 20, 4, 5, 6, 7, 8, 9, 10, 11] [0, 1, 3, 2] rfl rfl rfl ht9 hW9, by rw [ht9]; exact Nat.le_trans (Nat.add_le_add_left (Nat.le_of_ble_eq_true rfl) _) hG⟩⟩⟩, hS.F ht9⟩) hS.2.2 dX9_settledAll_223
