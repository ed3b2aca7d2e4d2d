set_option maxHeartbeats 4000000 in
set_option maxRecDepth 100000 in
theorem k675_shown (l : Launch) (hl9 : l.stackTraces = false) (dC : Nat → ClassId) (dI : Nat → Nat → Nat) (z : XZ) (h0 h1 h2 h3 h4 h5 h6 h7 h8 h9 h10 h11 h12 h13 h14 : Nat) (o0 o1 o2 o3 o4 o5 o6 : Nat) (sz : Nat) (kc0 kc1 kc2 kc3 : ClassId) : Met l yX6_shown (.code yX6_shown cX6_shown 4 (some .int) :: wsL_law) ({ frames := 7, cells := 0, slots := 0, locals := 160 }) (va_Pc [.ref h0] (PC (dC, dI) [(h0, ce16 h1 o0 h2), (h1, ce7 h3 h4 o1 h5), (h2, ce271 h1 h6), (h3, ce201 h7), (h4, ce201 h8), (h5, ce226 h9), (h6, ce270 kc0), (h7, ce200 kc1 h10 h11 h12 h13 h14), (h8, ce200 kc2 h10 h11 h12 h13 h14), (h9, ce200 kc3 h10 h11 h12 h13 h14), (h10, ce282 (z.2.1 0) o2 h10), (h11, ce283 (z.2.1 0) o3 h11), (h12, ce284 (z.2.1 0) o4 h12), (h13, ce285 (z.2.1 0) o5 h13), (h14, ce291 (z.2.1 0) o6 h14)] [(kc0, .int), (kc1, .object "java/lang/Object"), (kc2, .object "java/lang/Object"), (kc3, .object "java/lang/Object")] sz z)) (va_Qi (fun (r : Int32) (_ : Unit) => r = 0) (fun (_ : Unit) (t : State) => PG (dC, dI) [(h0, ce16 h1 o0 h2), (h1, ce7 h3 h4 o1 h5), (h2, ce271 h1 h6), (h3, ce201 h7), (h4, ce201 h8), (h5, ce226 h9), (h6, ce270 kc0), (h7, ce200 kc1 h10 h11 h12 h13 h14), (h8, ce200 kc2 h10 h11 h12 h13 h14), (h9, ce200 kc3 h10 h11 h12 h13 h14), (h10, ce282 (z.2.1 0) o2 h10), (h11, ce283 (z.2.1 0) o3 h11), (h12, ce284 (z.2.1 0) o4 h12), (h13, ce285 (z.2.1 0) o5 h13), (h14, ce291 (z.2.1 0) o6 h14)] [(kc0, .int), (kc1, .object "java/lang/Object"), (kc2, .object "java/lang/Object"), (kc3, .object "java/lang/Object")] (va_A [(h0, ce16 h1 o0 h2), (h1, ce7 h3 h4 o1 h5), (h2, ce271 h1 h6), (h3, ce201 h7), (h4, ce201 h8), (h5, ce226 h9), (h6, ce270 kc0), (h7, ce200 kc1 h10 h11 h12 h13 h14), (h8, ce200 kc2 h10 h11 h12 h13 h14), (h9, ce200 kc3 h10 h11 h12 h13 h14), (h10, ce282 (z.2.1 0) o2 h10), (h11, ce283 (z.2.1 0) o3 h11), (h12, ce284 (z.2.1 0) o4 h12), (h13, ce285 (z.2.1 0) o5 h13), (h14, ce291 (z.2.1 0) o6 h14)] sz) sz 0 t) (va_A [(h0, ce16 h1 o0 h2), (h1, ce7 h3 h4 o1 h5), (h2, ce271 h1 h6), (h3, ce201 h7), (h4, ce201 h8), (h5, ce226 h9), (h6, ce270 kc0), (h7, ce200 kc1 h10 h11 h12 h13 h14), (h8, ce200 kc2 h10 h11 h12 h13 h14), (h9, ce200 kc3 h10 h11 h12 h13 h14), (h10, ce282 (z.2.1 0) o2 h10), (h11, ce283 (z.2.1 0) o3 h11), (h12, ce284 (z.2.1 0) o4 h12), (h13, ce285 (z.2.1 0) o5 h13), (h14, ce291 (z.2.1 0) o6 h14)] sz)) 0 0 (va_A [(h0, ce16 h1 o0 h2), (h1, ce7 h3 h4 o1 h5), (h2, ce271 h1 h6), (h3, ce201 h7), (h4, ce201 h8), (h5, ce226 h9), (h6, ce270 kc0), (h7, ce200 kc1 h10 h11 h12 h13 h14), (h8, ce200 kc2 h10 h11 h12 h13 h14), (h9, ce200 kc3 h10 h11 h12 h13 h14), (h10, ce282 (z.2.1 0) o2 h10), (h11, ce283 (z.2.1 0) o3 h11), (h12, ce284 (z.2.1 0) o4 h12), (h13, ce285 (z.2.1 0) o5 h13), (h14, ce291 (z.2.1 0) o6 h14)] sz) := by
  refine Met.ofW (cc := cX6_shown) (maxL := 4) (ret := (some .int)) (by decide) rfl ?_
  intro p e s m args below meth c s₁ B hml hv
  obtain ⟨rfl, hsz, hP, hK, hD0, hX, hT⟩ := hv
  have hx := B.exec
  have hb := B.bytes
  have hr := B.returns
  have hts0 := atoms_spec (ws := .code yX6_shown cX6_shown 4 (some .int) :: wsL_law) B.pre
  have hts := xTail hts0
  have hown : s.vm.findClass RX6 = some m.cls := xown B.named rfl
  have hlocks := B.notSynchronized
  subst hsz
  have hD := hD0.self (sz := s.heap.size)
  generalize hAe : va_A [(h0, ce16 h1 o0 h2), (h1, ce7 h3 h4 o1 h5), (h2, ce271 h1 h6), (h3, ce201 h7), (h4, ce201 h8), (h5, ce226 h9), (h6, ce270 kc0), (h7, ce200 kc1 h10 h11 h12 h13 h14), (h8, ce200 kc2 h10 h11 h12 h13 h14), (h9, ce200 kc3 h10 h11 h12 h13 h14), (h10, ce282 (z.2.1 0) o2 h10), (h11, ce283 (z.2.1 0) o3 h11), (h12, ce284 (z.2.1 0) o4 h12), (h13, ce285 (z.2.1 0) o5 h13), (h14, ce291 (z.2.1 0) o6 h14)] s.heap.size = A at hD hX ⊢
  have hA : ∀ q : Nat, s.heap.size ≤ q → A q := fun q h => by rw [← hAe]; exact Or.inr h
  have hS : va_S A s.heap s.heap [] := va_S.rf
  have hG : s.heap.size + 0 ≤ s.heap.size := Nat.le_refl _
  have hl := lv_entry ([.ref h0]) (n := 4) (Nat.le_of_ble_eq_true rfl)
  rw [lg_entry_eq]
  generalize (lg_sl ([.ref h0]) ++ List.replicate (4 - (lg_sl ([.ref h0])).length) Slot.unset).toArray = ls at hl ⊢
  have hl : lv_has ls 4 [(0, .ref h0)] := hl
  refine lv_iconst (v := 0) hx hb dX6_shown_0 (by decide) ?_
  refine lv_istore_n (lv' := [(1, .int 0), (0, .ref h0)]) hx hb dX6_shown_1 rfl hl (by decide) rfl (fun ls hl => ?_)
  refine lv_iconst (v := 0) hx hb dX6_shown_2 (by decide) ?_
  refine lv_istore_n (lv' := [(2, .int 0), (1, .int 0), (0, .ref h0)]) hx hb dX6_shown_3 rfl hl (by decide) rfl (fun ls hl => ?_)
  refine lv_iload_n hx hb dX6_shown_4 rfl (lv_at hl 0 rfl) ?_
  refine lv_aload_n hx hb dX6_shown_5 rfl (lv_at hl 2 rfl) ?_
  refine va_get (D := (dC, dI)) (ci := 6) (v := .ref h1) (C := RX6) (T := TX6) (N := 3) hx hb hts in_X6 hown hK hP 0 rfl rfl 0 (by decide) (hts _ q_34) (fun _ h9 => h9) rfl dX6_shown_6 ?_
  refine va_get (D := (dC, dI)) (ci := 2) (v := .ref h3) (C := RX0) (T := TX0) (N := 4) hx hb hts in_X0 hown hK hP 1 rfl rfl 0 (by decide) (hts _ q_83) (fun _ h9 => h9) rfl dX6_shown_9 ?_
  have hM3 := k20_size l hl9 dC dI z h3 h7 s.heap.size 5 5
  obtain ⟨hF1, hC4⟩ := pc_M hM3 hP hD hK hS hX hT hA [3] [] rfl rfl rfl
  refine va_calli (va_runV (As := []) (rest := [.int 0]) ⟨hx, hb, hml, hown, hts⟩ hM3 (cwV 0 hts (gV q_76 q_77 q_78 q_12 q_75) rfl rfl rfl hV_Jx4a65c_size_8abf5 ⟨Nat.le_of_ble_eq_true rfl, Nat.le_of_ble_eq_true rfl⟩) ⟨pc_blind, va_recv hK hP (ci := 0) (q := (RJx4a65c, TJx4a65c, 3)) (q0 := 3) rfl rfl, fun U hU hW => ⟨rfl, hC4 U hU hW⟩⟩ rfl rfl hl.1 rfl (lv_room (Nat.le_of_ble_eq_true rfl)) dX6_shown_12 ⟨(Nat.le_of_ble_eq_true rfl), (Nat.le_of_ble_eq_true rfl)⟩) hS (fun q9 _ h9 => hF1 q9 h9) hF1 (fun r6 u5 t5 H5 L5 ht5 hvm5 hw5 hB5 hz5 hk5 hS => ?_)
  have hP := pq_keep hP hD [3] rfl hk5 hB5.1 ht5
  have hG : s.heap.size + 0 ≤ H5.size := Nat.le_trans hG hz5
  refine W.eq (g2 := F0 m 15 ls [.int 5, .int 0]) (by rw [hw5]) ?_
  refine lv_icmp_ge (tgt := 81) hx hb dX6_shown_15 (by decide) (fun cz => absurd cz (by decide)) (fun _ => ?_)
  refine lv_aload_n hx hb dX6_shown_18 rfl (lv_at hl 2 rfl) ?_
  refine va_get (D := (dC, dI)) (ci := 6) (v := .ref h1) (C := RX6) (T := TX6) (N := 3) hx hb hts in_X6 hown hK hP 0 rfl rfl 0 (by decide) (hts _ q_34) (fun _ h9 => h9) rfl dX6_shown_19 ?_
  refine va_get (D := (dC, dI)) (ci := 2) (v := .ref h3) (C := RX0) (T := TX0) (N := 4) hx hb hts in_X0 hown hK hP 1 rfl rfl 0 (by decide) (hts _ q_83) (fun _ h9 => h9) rfl dX6_shown_22 ?_
  refine lv_iload_n hx hb dX6_shown_25 rfl (lv_at hl 0 rfl) ?_
  have hM9 := k368_get l hl9 dC dI z h3 h7 h10 h11 h12 h13 h14 H5.size kc1
  obtain ⟨hF7, hC10⟩ := pc_M hM9 hP hD hK hS hX hT hA [3, 7] [1] rfl rfl rfl
  refine va_callr (va_runV (As := [.int 0]) (rest := []) ⟨hx, hb, hml, hown, hts⟩ hM9 (cwV 1 hts (gV q_381 q_157 q_158 q_12 q_155) rfl rfl rfl hV_Jx4a65c_get_915e3 ⟨Nat.le_of_ble_eq_true rfl, Nat.le_of_ble_eq_true rfl⟩) ⟨pc_blind, va_recv hK hP (ci := 0) (q := (RJx4a65c, TJx4a65c, 3)) (q0 := 3) rfl rfl, fun U hU hW => ⟨rfl, hC10 U hU hW⟩⟩ rfl rfl hl.1 rfl (lv_room (Nat.le_of_ble_eq_true rfl)) dX6_shown_26 ⟨(Nat.le_of_ble_eq_true rfl), (Nat.le_of_ble_eq_true rfl)⟩) hS (fun q9 _ h9 => hF7 q9 h9) hF7 (fun u11 r12 t11 H11 L11 ht11 hvm11 hw11 hB11 hz11 hk11 hS => ?_)
  obtain ⟨hr11, hB11⟩ := hB11
  have hP := pq_keep hP hD [3, 7] rfl hk11 hB11.1 ht11
  have hG : s.heap.size + 0 ≤ H11.size := Nat.le_trans hG hz11
  refine W.eq (g2 := F0 m 29 ls [.ref h10]) (by rw [hr11]) ?_
  refine va_castE (nm := RX2) hx hb hown (hts _ q_382) (va_recv hK hP (ci := 3) (q := (RX2, TX2, 19)) (q0 := 10) rfl rfl) dX6_shown_29 ?_
  refine lv_astore_n (lv' := [(3, .ref h10), (2, .int 0), (1, .int 0), (0, .ref h0)]) hx hb dX6_shown_32 rfl hl (by decide) rfl (fun ls hl => ?_)
  refine lv_iload_n hx hb dX6_shown_33 rfl (lv_at hl 2 rfl) ?_
  refine lv_aload_n hx hb dX6_shown_34 rfl (lv_at hl 3 rfl) ?_
  refine va_get (D := (dC, dI)) (ci := 6) (v := .ref h2) (C := RX6) (T := TX6) (N := 3) hx hb hts in_X6 hown hK hP 0 rfl rfl 2 (by decide) (hts _ q_54) (fun _ h9 => h9) rfl dX6_shown_35 ?_
  refine lv_aload_n hx hb dX6_shown_38 rfl (lv_at hl 0 rfl) ?_
  refine lv_bipush (v := 48) hx hb dX6_shown_39 (by decide) ?_
  have hM15 := k672_isShownBySomeTest l hl9 dC dI z h2 h10 h1 h6 h4 h5 h8 h9 h11 h12 h13 h14 o2 h3 o1 o3 o4 o5 o6 H11.size kc0 kc2 kc3
  obtain ⟨hF13, hC16⟩ := pc_M hM15 hP hD hK hS hX hT hA [2, 10, 1, 6, 4, 5, 8, 9, 11, 12, 13, 14] [0, 2, 3] rfl rfl rfl
  refine va_calli (va_runV (As := [.ref h10, .int 48]) (rest := [.int 0]) ⟨hx, hb, hml, hown, hts⟩ hM15 (cwV 2 hts (gV q_396 q_397 q_398 q_46 q_395) rfl rfl rfl hV_X4_isShownBySomeTest ⟨Nat.le_of_ble_eq_true rfl, Nat.le_of_ble_eq_true rfl⟩) ⟨pc_blind, va_recv hK hP (ci := 4) (q := (RX4, TX4, 3)) (q0 := 2) rfl rfl, fun U hU hW => ⟨rfl, hC16 U hU hW⟩⟩ rfl rfl hl.1 rfl (lv_room (Nat.le_of_ble_eq_true rfl)) dX6_shown_41 ⟨(Nat.le_of_ble_eq_true rfl), (Nat.le_of_ble_eq_true rfl)⟩) hS (fun q9 _ h9 => hF13 q9 h9) hF13 (fun r18 u17 t17 H17 L17 ht17 hvm17 hw17 hB17 hz17 hk17 hS => ?_)
  obtain ⟨hP, hD, hK⟩ := pq_jn (wz := [(h0, ce16 h1 o0 h2), (h3, ce201 h7), (h7, ce200 kc1 h10 h11 h12 h13 h14), (h2, ce271 h1 h6), (h10, ce282 (z.2.1 0) o2 h10), (h1, ce7 h3 h4 o1 h5), (h6, ce270 kc0), (h4, ce201 h8), (h5, ce226 h9), (h8, ce200 kc2 h10 h11 h12 h13 h14), (h9, ce200 kc3 h10 h11 h12 h13 h14), (h11, ce283 (z.2.1 0) o3 h11), (h12, ce284 (z.2.1 0) o4 h12), (h13, ce285 (z.2.1 0) o5 h13), (h14, ce286 (z.2.1 0) o6 h14)]) (tz := [(kc1, .object "java/lang/Object"), (kc0, .int), (kc2, .object "java/lang/Object"), (kc3, .object "java/lang/Object")]) hP hD hK [2, 10, 1, 6, 4, 5, 8, 9, 11, 12, 13, 14] [1] rfl hk17 hF13 hB17.1 ht17 hvm17 rfl rfl
  have hG : s.heap.size + 0 ≤ H17.size := Nat.le_trans hG hz17
  refine W.eq (g2 := F0 m 44 ls [.int 0, .int 0]) (by rw [hw17]) ?_
  refine lv_if_eq (tgt := 51) hx hb dX6_shown_44 (by decide) (fun _ => ?_) (fun cz => absurd (by decide) cz)
  refine lv_iconst (v := 0) hx hb dX6_shown_51 (by decide) ?_
  refine lv_iadd hx hb dX6_shown_52 ?_
  refine lv_topi (fun y19 ey19 => ?_)
  obtain rfl : y19 = 0 := ey19.trans (by decide)
  refine lv_istore_n (lv' := [(1, .int 0), (3, .ref h10), (2, .int 0), (0, .ref h0)]) hx hb dX6_shown_53 rfl hl (by decide) rfl (fun ls hl => ?_)
  refine lv_iload_n hx hb dX6_shown_54 rfl (lv_at hl 0 rfl) ?_
  refine lv_aload_n hx hb dX6_shown_55 rfl (lv_at hl 3 rfl) ?_
  refine va_get (D := (dC, dI)) (ci := 6) (v := .ref h2) (C := RX6) (T := TX6) (N := 3) hx hb hts in_X6 hown hK hP 0 rfl rfl 2 (by decide) (hts _ q_54) (fun _ h9 => h9) rfl dX6_shown_56 ?_
  refine lv_aload_n hx hb dX6_shown_59 rfl (lv_at hl 1 rfl) ?_
  refine lv_bipush (v := 49) hx hb dX6_shown_60 (by decide) ?_
  have hM22 := k674_isShownBySomeTest l hl9 dC dI z h2 h10 h1 h6 h3 h4 h5 h7 h8 h9 h11 h12 h13 h14 o2 o1 o3 o4 o5 o6 H17.size kc0 kc1 kc2 kc3
  obtain ⟨hF20, hC23⟩ := pc_M hM22 hP hD hK hS hX hT hA [3, 4, 5, 6, 1, 7, 8, 2, 9, 10, 11, 12, 13, 14] [1, 0, 2, 3] rfl rfl rfl
  refine va_calli (va_runV (As := [.ref h10, .int 49]) (rest := [.int 0]) ⟨hx, hb, hml, hown, hts⟩ hM22 (cwV 2 hts (gV q_396 q_397 q_398 q_46 q_395) rfl rfl rfl hV_X4_isShownBySomeTest ⟨Nat.le_of_ble_eq_true rfl, Nat.le_of_ble_eq_true rfl⟩) ⟨pc_blind, va_recv hK hP (ci := 4) (q := (RX4, TX4, 3)) (q0 := 3) rfl rfl, fun U hU hW => ⟨rfl, hC23 U hU hW⟩⟩ rfl rfl hl.1 rfl (lv_room (Nat.le_of_ble_eq_true rfl)) dX6_shown_62 ⟨(Nat.le_of_ble_eq_true rfl), (Nat.le_of_ble_eq_true rfl)⟩) hS (fun q9 _ h9 => hF20 q9 h9) hF20 (fun r25 u24 t24 H24 L24 ht24 hvm24 hw24 hB24 hz24 hk24 hS => ?_)
  obtain ⟨hP, hD, hK⟩ := pq_jn (wz := [(h0, ce16 h1 o0 h2), (h2, ce271 h1 h6), (h10, ce287 (z.2.1 0) o2 h10), (h1, ce7 h3 h4 o1 h5), (h6, ce270 kc0), (h3, ce201 h7), (h4, ce201 h8), (h5, ce226 h9), (h7, ce200 kc1 h10 h11 h12 h13 h14), (h8, ce200 kc2 h10 h11 h12 h13 h14), (h9, ce200 kc3 h10 h11 h12 h13 h14), (h11, ce283 (z.2.1 0) o3 h11), (h12, ce284 (z.2.1 0) o4 h12), (h13, ce285 (z.2.1 0) o5 h13), (h14, ce286 (z.2.1 0) o6 h14)]) (tz := [(kc0, .int), (kc1, .object "java/lang/Object"), (kc2, .object "java/lang/Object"), (kc3, .object "java/lang/Object")]) hP hD hK [3, 4, 5, 6, 1, 7, 8, 2, 9, 10, 11, 12, 13, 14] [] rfl hk24 hF20 hB24.1 ht24 hvm24 rfl rfl
  have hG : s.heap.size + 0 ≤ H24.size := Nat.le_trans hG hz24
  refine W.eq (g2 := F0 m 65 ls [.int 0, .int 0]) (by rw [hw24]) ?_
  refine lv_if_eq (tgt := 72) hx hb dX6_shown_65 (by decide) (fun _ => ?_) (fun cz => absurd (by decide) cz)
  refine lv_iconst (v := 0) hx hb dX6_shown_72 (by decide) ?_
  refine lv_iadd hx hb dX6_shown_73 ?_
  refine lv_topi (fun y26 ey26 => ?_)
  obtain rfl : y26 = 0 := ey26.trans (by decide)
  refine lv_istore_n (lv' := [(1, .int 0), (3, .ref h10), (2, .int 0), (0, .ref h0)]) hx hb dX6_shown_74 rfl hl (by decide) rfl (fun ls hl => ?_)
  refine lv_iinc (v := 1) (lv' := [(2, .int 1), (1, .int 0), (3, .ref h10), (0, .ref h0)]) hx hb dX6_shown_75 hl (k := 2) rfl (by decide) (by decide) rfl (fun ls hl => ?_)
  refine lv_goto (tgt := 4) hx hb dX6_shown_78 (by decide) ?_
  refine lv_iload_n hx hb dX6_shown_4 rfl (lv_at hl 0 rfl) ?_
  refine lv_aload_n hx hb dX6_shown_5 rfl (lv_at hl 3 rfl) ?_
  refine va_get (D := (dC, dI)) (ci := 6) (v := .ref h1) (C := RX6) (T := TX6) (N := 3) hx hb hts in_X6 hown hK hP 0 rfl rfl 0 (by decide) (hts _ q_34) (fun _ h9 => h9) rfl dX6_shown_6 ?_
  refine va_get (D := (dC, dI)) (ci := 2) (v := .ref h3) (C := RX0) (T := TX0) (N := 4) hx hb hts in_X0 hown hK hP 3 rfl rfl 0 (by decide) (hts _ q_83) (fun _ h9 => h9) rfl dX6_shown_9 ?_
  have hM29 := k20_size l hl9 dC dI z h3 h7 H24.size 5 5
  obtain ⟨hF27, hC30⟩ := pc_M hM29 hP hD hK hS hX hT hA [5] [] rfl rfl rfl
  refine va_calli (va_runV (As := []) (rest := [.int 1]) ⟨hx, hb, hml, hown, hts⟩ hM29 (cwV 0 hts (gV q_76 q_77 q_78 q_12 q_75) rfl rfl rfl hV_Jx4a65c_size_8abf5 ⟨Nat.le_of_ble_eq_true rfl, Nat.le_of_ble_eq_true rfl⟩) ⟨pc_blind, va_recv hK hP (ci := 0) (q := (RJx4a65c, TJx4a65c, 3)) (q0 := 5) rfl rfl, fun U hU hW => ⟨rfl, hC30 U hU hW⟩⟩ rfl rfl hl.1 rfl (lv_room (Nat.le_of_ble_eq_true rfl)) dX6_shown_12 ⟨(Nat.le_of_ble_eq_true rfl), (Nat.le_of_ble_eq_true rfl)⟩) hS (fun q9 _ h9 => hF27 q9 h9) hF27 (fun r32 u31 t31 H31 L31 ht31 hvm31 hw31 hB31 hz31 hk31 hS => ?_)
  have hP := pq_keep hP hD [5] rfl hk31 hB31.1 ht31
  have hG : s.heap.size + 0 ≤ H31.size := Nat.le_trans hG hz31
  refine W.eq (g2 := F0 m 15 ls [.int 5, .int 1]) (by rw [hw31]) ?_
  refine lv_icmp_ge (tgt := 81) hx hb dX6_shown_15 (by decide) (fun cz => absurd cz (by decide)) (fun _ => ?_)
  refine lv_aload_n hx hb dX6_shown_18 rfl (lv_at hl 3 rfl) ?_
  refine va_get (D := (dC, dI)) (ci := 6) (v := .ref h1) (C := RX6) (T := TX6) (N := 3) hx hb hts in_X6 hown hK hP 0 rfl rfl 0 (by decide) (hts _ q_34) (fun _ h9 => h9) rfl dX6_shown_19 ?_
  refine va_get (D := (dC, dI)) (ci := 2) (v := .ref h3) (C := RX0) (T := TX0) (N := 4) hx hb hts in_X0 hown hK hP 3 rfl rfl 0 (by decide) (hts _ q_83) (fun _ h9 => h9) rfl dX6_shown_22 ?_
  refine lv_iload_n hx hb dX6_shown_25 rfl (lv_at hl 0 rfl) ?_
  have hM35 := k372_get l hl9 dC dI z h3 h7 h10 h11 h12 h13 h14 H31.size kc1
  obtain ⟨hF33, hC36⟩ := pc_M hM35 hP hD hK hS hX hT hA [5, 8] [1] rfl rfl rfl
  refine va_callr (va_runV (As := [.int 1]) (rest := []) ⟨hx, hb, hml, hown, hts⟩ hM35 (cwV 1 hts (gV q_381 q_157 q_158 q_12 q_155) rfl rfl rfl hV_Jx4a65c_get_915e3 ⟨Nat.le_of_ble_eq_true rfl, Nat.le_of_ble_eq_true rfl⟩) ⟨pc_blind, va_recv hK hP (ci := 0) (q := (RJx4a65c, TJx4a65c, 3)) (q0 := 5) rfl rfl, fun U hU hW => ⟨rfl, hC36 U hU hW⟩⟩ rfl rfl hl.1 rfl (lv_room (Nat.le_of_ble_eq_true rfl)) dX6_shown_26 ⟨(Nat.le_of_ble_eq_true rfl), (Nat.le_of_ble_eq_true rfl)⟩) hS (fun q9 _ h9 => hF33 q9 h9) hF33 (fun u37 r38 t37 H37 L37 ht37 hvm37 hw37 hB37 hz37 hk37 hS => ?_)
  obtain ⟨hr37, hB37⟩ := hB37
  have hP := pq_keep hP hD [5, 8] rfl hk37 hB37.1 ht37
  have hG : s.heap.size + 0 ≤ H37.size := Nat.le_trans hG hz37
  refine W.eq (g2 := F0 m 29 ls [.ref h11]) (by rw [hr37]) ?_
  refine va_castE (nm := RX2) hx hb hown (hts _ q_382) (va_recv hK hP (ci := 3) (q := (RX2, TX2, 19)) (q0 := 11) rfl rfl) dX6_shown_29 ?_
  refine lv_astore_n (lv' := [(3, .ref h11), (2, .int 1), (1, .int 0), (0, .ref h0)]) hx hb dX6_shown_32 rfl hl (by decide) rfl (fun ls hl => ?_)
  refine lv_iload_n hx hb dX6_shown_33 rfl (lv_at hl 2 rfl) ?_
  refine lv_aload_n hx hb dX6_shown_34 rfl (lv_at hl 3 rfl) ?_
  refine va_get (D := (dC, dI)) (ci := 6) (v := .ref h2) (C := RX6) (T := TX6) (N := 3) hx hb hts in_X6 hown hK hP 0 rfl rfl 2 (by decide) (hts _ q_54) (fun _ h9 => h9) rfl dX6_shown_35 ?_
  refine lv_aload_n hx hb dX6_shown_38 rfl (lv_at hl 0 rfl) ?_
  refine lv_bipush (v := 48) hx hb dX6_shown_39 (by decide) ?_
  have hM41 := k574_isShownBySomeTest l hl9 dC dI z h2 h11 h1 h6 h4 h5 h8 h9 h10 h12 h13 h14 o3 h3 o1 o2 o4 o5 o6 H37.size kc0 kc2 kc3
  obtain ⟨hF39, hC42⟩ := pc_M hM41 hP hD hK hS hX hT hA [1, 11, 3, 4, 6, 7, 9, 10, 2, 12, 13, 14] [0, 2, 3] rfl rfl rfl
  refine va_calli (va_runV (As := [.ref h11, .int 48]) (rest := [.int 0]) ⟨hx, hb, hml, hown, hts⟩ hM41 (cwV 2 hts (gV q_396 q_397 q_398 q_46 q_395) rfl rfl rfl hV_X4_isShownBySomeTest ⟨Nat.le_of_ble_eq_true rfl, Nat.le_of_ble_eq_true rfl⟩) ⟨pc_blind, va_recv hK hP (ci := 4) (q := (RX4, TX4, 3)) (q0 := 1) rfl rfl, fun U hU hW => ⟨rfl, hC42 U hU hW⟩⟩ rfl rfl hl.1 rfl (lv_room (Nat.le_of_ble_eq_true rfl)) dX6_shown_41 ⟨(Nat.le_of_ble_eq_true rfl), (Nat.le_of_ble_eq_true rfl)⟩) hS (fun q9 _ h9 => hF39 q9 h9) hF39 (fun r44 u43 t43 H43 L43 ht43 hvm43 hw43 hB43 hz43 hk43 hS => ?_)
  obtain ⟨hP, hD, hK⟩ := pq_jn (wz := [(h0, ce16 h1 o0 h2), (h3, ce201 h7), (h7, ce200 kc1 h10 h11 h12 h13 h14), (h2, ce271 h1 h6), (h11, ce283 (z.2.1 0) o3 h11), (h1, ce7 h3 h4 o1 h5), (h6, ce270 kc0), (h4, ce201 h8), (h5, ce226 h9), (h8, ce200 kc2 h10 h11 h12 h13 h14), (h9, ce200 kc3 h10 h11 h12 h13 h14), (h10, ce282 (z.2.1 0) o2 h10), (h12, ce284 (z.2.1 0) o4 h12), (h13, ce285 (z.2.1 0) o5 h13), (h14, ce286 (z.2.1 0) o6 h14)]) (tz := [(kc1, .object "java/lang/Object"), (kc0, .int), (kc2, .object "java/lang/Object"), (kc3, .object "java/lang/Object")]) hP hD hK [1, 11, 3, 4, 6, 7, 9, 10, 2, 12, 13, 14] [1] rfl hk43 hF39 hB43.1 ht43 hvm43 rfl rfl
  have hG : s.heap.size + 0 ≤ H43.size := Nat.le_trans hG hz43
  refine W.eq (g2 := F0 m 44 ls [.int 0, .int 0]) (by rw [hw43]) ?_
  refine lv_if_eq (tgt := 51) hx hb dX6_shown_44 (by decide) (fun _ => ?_) (fun cz => absurd (by decide) cz)
  refine lv_iconst (v := 0) hx hb dX6_shown_51 (by decide) ?_
  refine lv_iadd hx hb dX6_shown_52 ?_
  refine lv_topi (fun y45 ey45 => ?_)
  obtain rfl : y45 = 0 := ey45.trans (by decide)
  refine lv_istore_n (lv' := [(1, .int 0), (3, .ref h11), (2, .int 1), (0, .ref h0)]) hx hb dX6_shown_53 rfl hl (by decide) rfl (fun ls hl => ?_)
  refine lv_iload_n hx hb dX6_shown_54 rfl (lv_at hl 0 rfl) ?_
  refine lv_aload_n hx hb dX6_shown_55 rfl (lv_at hl 3 rfl) ?_
  refine va_get (D := (dC, dI)) (ci := 6) (v := .ref h2) (C := RX6) (T := TX6) (N := 3) hx hb hts in_X6 hown hK hP 0 rfl rfl 2 (by decide) (hts _ q_54) (fun _ h9 => h9) rfl dX6_shown_56 ?_
  refine lv_aload_n hx hb dX6_shown_59 rfl (lv_at hl 1 rfl) ?_
  refine lv_bipush (v := 49) hx hb dX6_shown_60 (by decide) ?_
  have hM48 := k583_isShownBySomeTest l hl9 dC dI z h2 h11 h1 h6 h3 h4 h5 h7 h8 h9 h10 h12 h13 h14 o3 o1 o2 o4 o5 o6 H43.size kc0 kc1 kc2 kc3
  obtain ⟨hF46, hC49⟩ := pc_M hM48 hP hD hK hS hX hT hA [3, 4, 5, 6, 1, 7, 8, 2, 9, 10, 11, 12, 13, 14] [1, 0, 2, 3] rfl rfl rfl
  refine va_calli (va_runV (As := [.ref h11, .int 49]) (rest := [.int 0]) ⟨hx, hb, hml, hown, hts⟩ hM48 (cwV 2 hts (gV q_396 q_397 q_398 q_46 q_395) rfl rfl rfl hV_X4_isShownBySomeTest ⟨Nat.le_of_ble_eq_true rfl, Nat.le_of_ble_eq_true rfl⟩) ⟨pc_blind, va_recv hK hP (ci := 4) (q := (RX4, TX4, 3)) (q0 := 3) rfl rfl, fun U hU hW => ⟨rfl, hC49 U hU hW⟩⟩ rfl rfl hl.1 rfl (lv_room (Nat.le_of_ble_eq_true rfl)) dX6_shown_62 ⟨(Nat.le_of_ble_eq_true rfl), (Nat.le_of_ble_eq_true rfl)⟩) hS (fun q9 _ h9 => hF46 q9 h9) hF46 (fun r51 u50 t50 H50 L50 ht50 hvm50 hw50 hB50 hz50 hk50 hS => ?_)
  obtain ⟨hP, hD, hK⟩ := pq_jn (wz := [(h0, ce16 h1 o0 h2), (h2, ce271 h1 h6), (h11, ce288 (z.2.1 0) o3 h11), (h1, ce7 h3 h4 o1 h5), (h6, ce270 kc0), (h3, ce201 h7), (h4, ce201 h8), (h5, ce226 h9), (h7, ce200 kc1 h10 h11 h12 h13 h14), (h8, ce200 kc2 h10 h11 h12 h13 h14), (h9, ce200 kc3 h10 h11 h12 h13 h14), (h10, ce282 (z.2.1 0) o2 h10), (h12, ce284 (z.2.1 0) o4 h12), (h13, ce285 (z.2.1 0) o5 h13), (h14, ce286 (z.2.1 0) o6 h14)]) (tz := [(kc0, .int), (kc1, .object "java/lang/Object"), (kc2, .object "java/lang/Object"), (kc3, .object "java/lang/Object")]) hP hD hK [3, 4, 5, 6, 1, 7, 8, 2, 9, 10, 11, 12, 13, 14] [] rfl hk50 hF46 hB50.1 ht50 hvm50 rfl rfl
  have hG : s.heap.size + 0 ≤ H50.size := Nat.le_trans hG hz50
  refine W.eq (g2 := F0 m 65 ls [.int 0, .int 0]) (by rw [hw50]) ?_
  refine lv_if_eq (tgt := 72) hx hb dX6_shown_65 (by decide) (fun _ => ?_) (fun cz => absurd (by decide) cz)
  refine lv_iconst (v := 0) hx hb dX6_shown_72 (by decide) ?_
  refine lv_iadd hx hb dX6_shown_73 ?_
  refine lv_topi (fun y52 ey52 => ?_)
  obtain rfl : y52 = 0 := ey52.trans (by decide)
  refine lv_istore_n (lv' := [(1, .int 0), (3, .ref h11), (2, .int 1), (0, .ref h0)]) hx hb dX6_shown_74 rfl hl (by decide) rfl (fun ls hl => ?_)
  refine lv_iinc (v := 2) (lv' := [(2, .int 2), (1, .int 0), (3, .ref h11), (0, .ref h0)]) hx hb dX6_shown_75 hl (k := 2) rfl (by decide) (by decide) rfl (fun ls hl => ?_)
  refine lv_goto (tgt := 4) hx hb dX6_shown_78 (by decide) ?_
  refine lv_iload_n hx hb dX6_shown_4 rfl (lv_at hl 0 rfl) ?_
  refine lv_aload_n hx hb dX6_shown_5 rfl (lv_at hl 3 rfl) ?_
  refine va_get (D := (dC, dI)) (ci := 6) (v := .ref h1) (C := RX6) (T := TX6) (N := 3) hx hb hts in_X6 hown hK hP 0 rfl rfl 0 (by decide) (hts _ q_34) (fun _ h9 => h9) rfl dX6_shown_6 ?_
  refine va_get (D := (dC, dI)) (ci := 2) (v := .ref h3) (C := RX0) (T := TX0) (N := 4) hx hb hts in_X0 hown hK hP 3 rfl rfl 0 (by decide) (hts _ q_83) (fun _ h9 => h9) rfl dX6_shown_9 ?_
  have hM55 := k20_size l hl9 dC dI z h3 h7 H50.size 5 5
  obtain ⟨hF53, hC56⟩ := pc_M hM55 hP hD hK hS hX hT hA [5] [] rfl rfl rfl
  refine va_calli (va_runV (As := []) (rest := [.int 2]) ⟨hx, hb, hml, hown, hts⟩ hM55 (cwV 0 hts (gV q_76 q_77 q_78 q_12 q_75) rfl rfl rfl hV_Jx4a65c_size_8abf5 ⟨Nat.le_of_ble_eq_true rfl, Nat.le_of_ble_eq_true rfl⟩) ⟨pc_blind, va_recv hK hP (ci := 0) (q := (RJx4a65c, TJx4a65c, 3)) (q0 := 5) rfl rfl, fun U hU hW => ⟨rfl, hC56 U hU hW⟩⟩ rfl rfl hl.1 rfl (lv_room (Nat.le_of_ble_eq_true rfl)) dX6_shown_12 ⟨(Nat.le_of_ble_eq_true rfl), (Nat.le_of_ble_eq_true rfl)⟩) hS (fun q9 _ h9 => hF53 q9 h9) hF53 (fun r58 u57 t57 H57 L57 ht57 hvm57 hw57 hB57 hz57 hk57 hS => ?_)
  have hP := pq_keep hP hD [5] rfl hk57 hB57.1 ht57
  have hG : s.heap.size + 0 ≤ H57.size := Nat.le_trans hG hz57
  refine W.eq (g2 := F0 m 15 ls [.int 5, .int 2]) (by rw [hw57]) ?_
  refine lv_icmp_ge (tgt := 81) hx hb dX6_shown_15 (by decide) (fun cz => absurd cz (by decide)) (fun _ => ?_)
  refine lv_aload_n hx hb dX6_shown_18 rfl (lv_at hl 3 rfl) ?_
  refine va_get (D := (dC, dI)) (ci := 6) (v := .ref h1) (C := RX6) (T := TX6) (N := 3) hx hb hts in_X6 hown hK hP 0 rfl rfl 0 (by decide) (hts _ q_34) (fun _ h9 => h9) rfl dX6_shown_19 ?_
  refine va_get (D := (dC, dI)) (ci := 2) (v := .ref h3) (C := RX0) (T := TX0) (N := 4) hx hb hts in_X0 hown hK hP 3 rfl rfl 0 (by decide) (hts _ q_83) (fun _ h9 => h9) rfl dX6_shown_22 ?_
  refine lv_iload_n hx hb dX6_shown_25 rfl (lv_at hl 0 rfl) ?_
  have hM61 := k376_get l hl9 dC dI z h3 h7 h10 h11 h12 h13 h14 H57.size kc1
  obtain ⟨hF59, hC62⟩ := pc_M hM61 hP hD hK hS hX hT hA [5, 8] [1] rfl rfl rfl
  refine va_callr (va_runV (As := [.int 2]) (rest := []) ⟨hx, hb, hml, hown, hts⟩ hM61 (cwV 1 hts (gV q_381 q_157 q_158 q_12 q_155) rfl rfl rfl hV_Jx4a65c_get_915e3 ⟨Nat.le_of_ble_eq_true rfl, Nat.le_of_ble_eq_true rfl⟩) ⟨pc_blind, va_recv hK hP (ci := 0) (q := (RJx4a65c, TJx4a65c, 3)) (q0 := 5) rfl rfl, fun U hU hW => ⟨rfl, hC62 U hU hW⟩⟩ rfl rfl hl.1 rfl (lv_room (Nat.le_of_ble_eq_true rfl)) dX6_shown_26 ⟨(Nat.le_of_ble_eq_true rfl), (Nat.le_of_ble_eq_true rfl)⟩) hS (fun q9 _ h9 => hF59 q9 h9) hF59 (fun u63 r64 t63 H63 L63 ht63 hvm63 hw63 hB63 hz63 hk63 hS => ?_)
  obtain ⟨hr63, hB63⟩ := hB63
  have hP := pq_keep hP hD [5, 8] rfl hk63 hB63.1 ht63
  have hG : s.heap.size + 0 ≤ H63.size := Nat.le_trans hG hz63
  refine W.eq (g2 := F0 m 29 ls [.ref h12]) (by rw [hr63]) ?_
  refine va_castE (nm := RX2) hx hb hown (hts _ q_382) (va_recv hK hP (ci := 3) (q := (RX2, TX2, 19)) (q0 := 12) rfl rfl) dX6_shown_29 ?_
  refine lv_astore_n (lv' := [(3, .ref h12), (2, .int 2), (1, .int 0), (0, .ref h0)]) hx hb dX6_shown_32 rfl hl (by decide) rfl (fun ls hl => ?_)
  refine lv_iload_n hx hb dX6_shown_33 rfl (lv_at hl 2 rfl) ?_
  refine lv_aload_n hx hb dX6_shown_34 rfl (lv_at hl 3 rfl) ?_
  refine va_get (D := (dC, dI)) (ci := 6) (v := .ref h2) (C := RX6) (T := TX6) (N := 3) hx hb hts in_X6 hown hK hP 0 rfl rfl 2 (by decide) (hts _ q_54) (fun _ h9 => h9) rfl dX6_shown_35 ?_
  refine lv_aload_n hx hb dX6_shown_38 rfl (lv_at hl 0 rfl) ?_
  refine lv_bipush (v := 48) hx hb dX6_shown_39 (by decide) ?_
  have hM67 := k586_isShownBySomeTest l hl9 dC dI z h2 h12 h1 h6 h4 h5 h8 h9 h10 h11 h13 h14 o4 h3 o1 o2 o3 o5 o6 H63.size kc0 kc2 kc3
  obtain ⟨hF65, hC68⟩ := pc_M hM67 hP hD hK hS hX hT hA [1, 12, 3, 4, 6, 7, 9, 10, 11, 2, 13, 14] [0, 2, 3] rfl rfl rfl
  refine va_calli (va_runV (As := [.ref h12, .int 48]) (rest := [.int 0]) ⟨hx, hb, hml, hown, hts⟩ hM67 (cwV 2 hts (gV q_396 q_397 q_398 q_46 q_395) rfl rfl rfl hV_X4_isShownBySomeTest ⟨Nat.le_of_ble_eq_true rfl, Nat.le_of_ble_eq_true rfl⟩) ⟨pc_blind, va_recv hK hP (ci := 4) (q := (RX4, TX4, 3)) (q0 := 1) rfl rfl, fun U hU hW => ⟨rfl, hC68 U hU hW⟩⟩ rfl rfl hl.1 rfl (lv_room (Nat.le_of_ble_eq_true rfl)) dX6_shown_41 ⟨(Nat.le_of_ble_eq_true rfl), (Nat.le_of_ble_eq_true rfl)⟩) hS (fun q9 _ h9 => hF65 q9 h9) hF65 (fun r70 u69 t69 H69 L69 ht69 hvm69 hw69 hB69 hz69 hk69 hS => ?_)
  obtain ⟨hP, hD, hK⟩ := pq_jn (wz := [(h0, ce16 h1 o0 h2), (h3, ce201 h7), (h7, ce200 kc1 h10 h11 h12 h13 h14), (h2, ce271 h1 h6), (h12, ce284 (z.2.1 0) o4 h12), (h1, ce7 h3 h4 o1 h5), (h6, ce270 kc0), (h4, ce201 h8), (h5, ce226 h9), (h8, ce200 kc2 h10 h11 h12 h13 h14), (h9, ce200 kc3 h10 h11 h12 h13 h14), (h10, ce282 (z.2.1 0) o2 h10), (h11, ce283 (z.2.1 0) o3 h11), (h13, ce285 (z.2.1 0) o5 h13), (h14, ce286 (z.2.1 0) o6 h14)]) (tz := [(kc1, .object "java/lang/Object"), (kc0, .int), (kc2, .object "java/lang/Object"), (kc3, .object "java/lang/Object")]) hP hD hK [1, 12, 3, 4, 6, 7, 9, 10, 11, 2, 13, 14] [1] rfl hk69 hF65 hB69.1 ht69 hvm69 rfl rfl
  have hG : s.heap.size + 0 ≤ H69.size := Nat.le_trans hG hz69
  refine W.eq (g2 := F0 m 44 ls [.int 0, .int 0]) (by rw [hw69]) ?_
  refine lv_if_eq (tgt := 51) hx hb dX6_shown_44 (by decide) (fun _ => ?_) (fun cz => absurd (by decide) cz)
  refine lv_iconst (v := 0) hx hb dX6_shown_51 (by decide) ?_
  refine lv_iadd hx hb dX6_shown_52 ?_
  refine lv_topi (fun y71 ey71 => ?_)
  obtain rfl : y71 = 0 := ey71.trans (by decide)
  refine lv_istore_n (lv' := [(1, .int 0), (3, .ref h12), (2, .int 2), (0, .ref h0)]) hx hb dX6_shown_53 rfl hl (by decide) rfl (fun ls hl => ?_)
  refine lv_iload_n hx hb dX6_shown_54 rfl (lv_at hl 0 rfl) ?_
  refine lv_aload_n hx hb dX6_shown_55 rfl (lv_at hl 3 rfl) ?_
  refine va_get (D := (dC, dI)) (ci := 6) (v := .ref h2) (C := RX6) (T := TX6) (N := 3) hx hb hts in_X6 hown hK hP 0 rfl rfl 2 (by decide) (hts _ q_54) (fun _ h9 => h9) rfl dX6_shown_56 ?_
  refine lv_aload_n hx hb dX6_shown_59 rfl (lv_at hl 1 rfl) ?_
  refine lv_bipush (v := 49) hx hb dX6_shown_60 (by decide) ?_
  have hM74 := k594_isShownBySomeTest l hl9 dC dI z h2 h12 h1 h6 h3 h4 h5 h7 h8 h9 h10 h11 h13 h14 o4 o1 o2 o3 o5 o6 H69.size kc0 kc1 kc2 kc3
  obtain ⟨hF72, hC75⟩ := pc_M hM74 hP hD hK hS hX hT hA [3, 4, 5, 6, 1, 7, 8, 2, 9, 10, 11, 12, 13, 14] [1, 0, 2, 3] rfl rfl rfl
  refine va_calli (va_runV (As := [.ref h12, .int 49]) (rest := [.int 0]) ⟨hx, hb, hml, hown, hts⟩ hM74 (cwV 2 hts (gV q_396 q_397 q_398 q_46 q_395) rfl rfl rfl hV_X4_isShownBySomeTest ⟨Nat.le_of_ble_eq_true rfl, Nat.le_of_ble_eq_true rfl⟩) ⟨pc_blind, va_recv hK hP (ci := 4) (q := (RX4, TX4, 3)) (q0 := 3) rfl rfl, fun U hU hW => ⟨rfl, hC75 U hU hW⟩⟩ rfl rfl hl.1 rfl (lv_room (Nat.le_of_ble_eq_true rfl)) dX6_shown_62 ⟨(Nat.le_of_ble_eq_true rfl), (Nat.le_of_ble_eq_true rfl)⟩) hS (fun q9 _ h9 => hF72 q9 h9) hF72 (fun r77 u76 t76 H76 L76 ht76 hvm76 hw76 hB76 hz76 hk76 hS => ?_)
  obtain ⟨hP, hD, hK⟩ := pq_jn (wz := [(h0, ce16 h1 o0 h2), (h2, ce271 h1 h6), (h12, ce289 (z.2.1 0) o4 h12), (h1, ce7 h3 h4 o1 h5), (h6, ce270 kc0), (h3, ce201 h7), (h4, ce201 h8), (h5, ce226 h9), (h7, ce200 kc1 h10 h11 h12 h13 h14), (h8, ce200 kc2 h10 h11 h12 h13 h14), (h9, ce200 kc3 h10 h11 h12 h13 h14), (h10, ce282 (z.2.1 0) o2 h10), (h11, ce283 (z.2.1 0) o3 h11), (h13, ce285 (z.2.1 0) o5 h13), (h14, ce286 (z.2.1 0) o6 h14)]) (tz := [(kc0, .int), (kc1, .object "java/lang/Object"), (kc2, .object "java/lang/Object"), (kc3, .object "java/lang/Object")]) hP hD hK [3, 4, 5, 6, 1, 7, 8, 2, 9, 10, 11, 12, 13, 14] [] rfl hk76 hF72 hB76.1 ht76 hvm76 rfl rfl
  have hG : s.heap.size + 0 ≤ H76.size := Nat.le_trans hG hz76
  refine W.eq (g2 := F0 m 65 ls [.int 0, .int 0]) (by rw [hw76]) ?_
  refine lv_if_eq (tgt := 72) hx hb dX6_shown_65 (by decide) (fun _ => ?_) (fun cz => absurd (by decide) cz)
  refine lv_iconst (v := 0) hx hb dX6_shown_72 (by decide) ?_
  refine lv_iadd hx hb dX6_shown_73 ?_
  refine lv_topi (fun y78 ey78 => ?_)
  obtain rfl : y78 = 0 := ey78.trans (by decide)
  refine lv_istore_n (lv' := [(1, .int 0), (3, .ref h12), (2, .int 2), (0, .ref h0)]) hx hb dX6_shown_74 rfl hl (by decide) rfl (fun ls hl => ?_)
  refine lv_iinc (v := 3) (lv' := [(2, .int 3), (1, .int 0), (3, .ref h12), (0, .ref h0)]) hx hb dX6_shown_75 hl (k := 2) rfl (by decide) (by decide) rfl (fun ls hl => ?_)
  refine lv_goto (tgt := 4) hx hb dX6_shown_78 (by decide) ?_
  refine lv_iload_n hx hb dX6_shown_4 rfl (lv_at hl 0 rfl) ?_
  refine lv_aload_n hx hb dX6_shown_5 rfl (lv_at hl 3 rfl) ?_
  refine va_get (D := (dC, dI)) (ci := 6) (v := .ref h1) (C := RX6) (T := TX6) (N := 3) hx hb hts in_X6 hown hK hP 0 rfl rfl 0 (by decide) (hts _ q_34) (fun _ h9 => h9) rfl dX6_shown_6 ?_
  refine va_get (D := (dC, dI)) (ci := 2) (v := .ref h3) (C := RX0) (T := TX0) (N := 4) hx hb hts in_X0 hown hK hP 3 rfl rfl 0 (by decide) (hts _ q_83) (fun _ h9 => h9) rfl dX6_shown_9 ?_
  have hM81 := k20_size l hl9 dC dI z h3 h7 H76.size 5 5
  obtain ⟨hF79, hC82⟩ := pc_M hM81 hP hD hK hS hX hT hA [5] [] rfl rfl rfl
  refine va_calli (va_runV (As := []) (rest := [.int 3]) ⟨hx, hb, hml, hown, hts⟩ hM81 (cwV 0 hts (gV q_76 q_77 q_78 q_12 q_75) rfl rfl rfl hV_Jx4a65c_size_8abf5 ⟨Nat.le_of_ble_eq_true rfl, Nat.le_of_ble_eq_true rfl⟩) ⟨pc_blind, va_recv hK hP (ci := 0) (q := (RJx4a65c, TJx4a65c, 3)) (q0 := 5) rfl rfl, fun U hU hW => ⟨rfl, hC82 U hU hW⟩⟩ rfl rfl hl.1 rfl (lv_room (Nat.le_of_ble_eq_true rfl)) dX6_shown_12 ⟨(Nat.le_of_ble_eq_true rfl), (Nat.le_of_ble_eq_true rfl)⟩) hS (fun q9 _ h9 => hF79 q9 h9) hF79 (fun r84 u83 t83 H83 L83 ht83 hvm83 hw83 hB83 hz83 hk83 hS => ?_)
  have hP := pq_keep hP hD [5] rfl hk83 hB83.1 ht83
  have hG : s.heap.size + 0 ≤ H83.size := Nat.le_trans hG hz83
  refine W.eq (g2 := F0 m 15 ls [.int 5, .int 3]) (by rw [hw83]) ?_
  refine lv_icmp_ge (tgt := 81) hx hb dX6_shown_15 (by decide) (fun cz => absurd cz (by decide)) (fun _ => ?_)
  refine lv_aload_n hx hb dX6_shown_18 rfl (lv_at hl 3 rfl) ?_
  refine va_get (D := (dC, dI)) (ci := 6) (v := .ref h1) (C := RX6) (T := TX6) (N := 3) hx hb hts in_X6 hown hK hP 0 rfl rfl 0 (by decide) (hts _ q_34) (fun _ h9 => h9) rfl dX6_shown_19 ?_
  refine va_get (D := (dC, dI)) (ci := 2) (v := .ref h3) (C := RX0) (T := TX0) (N := 4) hx hb hts in_X0 hown hK hP 3 rfl rfl 0 (by decide) (hts _ q_83) (fun _ h9 => h9) rfl dX6_shown_22 ?_
  refine lv_iload_n hx hb dX6_shown_25 rfl (lv_at hl 0 rfl) ?_
  have hM87 := k380_get l hl9 dC dI z h3 h7 h10 h11 h12 h13 h14 H83.size kc1
  obtain ⟨hF85, hC88⟩ := pc_M hM87 hP hD hK hS hX hT hA [5, 8] [1] rfl rfl rfl
  refine va_callr (va_runV (As := [.int 3]) (rest := []) ⟨hx, hb, hml, hown, hts⟩ hM87 (cwV 1 hts (gV q_381 q_157 q_158 q_12 q_155) rfl rfl rfl hV_Jx4a65c_get_915e3 ⟨Nat.le_of_ble_eq_true rfl, Nat.le_of_ble_eq_true rfl⟩) ⟨pc_blind, va_recv hK hP (ci := 0) (q := (RJx4a65c, TJx4a65c, 3)) (q0 := 5) rfl rfl, fun U hU hW => ⟨rfl, hC88 U hU hW⟩⟩ rfl rfl hl.1 rfl (lv_room (Nat.le_of_ble_eq_true rfl)) dX6_shown_26 ⟨(Nat.le_of_ble_eq_true rfl), (Nat.le_of_ble_eq_true rfl)⟩) hS (fun q9 _ h9 => hF85 q9 h9) hF85 (fun u89 r90 t89 H89 L89 ht89 hvm89 hw89 hB89 hz89 hk89 hS => ?_)
  obtain ⟨hr89, hB89⟩ := hB89
  have hP := pq_keep hP hD [5, 8] rfl hk89 hB89.1 ht89
  have hG : s.heap.size + 0 ≤ H89.size := Nat.le_trans hG hz89
  refine W.eq (g2 := F0 m 29 ls [.ref h13]) (by rw [hr89]) ?_
  refine va_castE (nm := RX2) hx hb hown (hts _ q_382) (va_recv hK hP (ci := 3) (q := (RX2, TX2, 19)) (q0 := 13) rfl rfl) dX6_shown_29 ?_
  refine lv_astore_n (lv' := [(3, .ref h13), (2, .int 3), (1, .int 0), (0, .ref h0)]) hx hb dX6_shown_32 rfl hl (by decide) rfl (fun ls hl => ?_)
  refine lv_iload_n hx hb dX6_shown_33 rfl (lv_at hl 2 rfl) ?_
  refine lv_aload_n hx hb dX6_shown_34 rfl (lv_at hl 3 rfl) ?_
  refine va_get (D := (dC, dI)) (ci := 6) (v := .ref h2) (C := RX6) (T := TX6) (N := 3) hx hb hts in_X6 hown hK hP 0 rfl rfl 2 (by decide) (hts _ q_54) (fun _ h9 => h9) rfl dX6_shown_35 ?_
  refine lv_aload_n hx hb dX6_shown_38 rfl (lv_at hl 0 rfl) ?_
  refine lv_bipush (v := 48) hx hb dX6_shown_39 (by decide) ?_
  have hM93 := k597_isShownBySomeTest l hl9 dC dI z h2 h13 h1 h6 h4 h5 h8 h9 h10 h11 h12 h14 o5 h3 o1 o2 o3 o4 o6 H89.size kc0 kc2 kc3
  obtain ⟨hF91, hC94⟩ := pc_M hM93 hP hD hK hS hX hT hA [1, 13, 3, 4, 6, 7, 9, 10, 11, 12, 2, 14] [0, 2, 3] rfl rfl rfl
  refine va_calli (va_runV (As := [.ref h13, .int 48]) (rest := [.int 0]) ⟨hx, hb, hml, hown, hts⟩ hM93 (cwV 2 hts (gV q_396 q_397 q_398 q_46 q_395) rfl rfl rfl hV_X4_isShownBySomeTest ⟨Nat.le_of_ble_eq_true rfl, Nat.le_of_ble_eq_true rfl⟩) ⟨pc_blind, va_recv hK hP (ci := 4) (q := (RX4, TX4, 3)) (q0 := 1) rfl rfl, fun U hU hW => ⟨rfl, hC94 U hU hW⟩⟩ rfl rfl hl.1 rfl (lv_room (Nat.le_of_ble_eq_true rfl)) dX6_shown_41 ⟨(Nat.le_of_ble_eq_true rfl), (Nat.le_of_ble_eq_true rfl)⟩) hS (fun q9 _ h9 => hF91 q9 h9) hF91 (fun r96 u95 t95 H95 L95 ht95 hvm95 hw95 hB95 hz95 hk95 hS => ?_)
  obtain ⟨hP, hD, hK⟩ := pq_jn (wz := [(h0, ce16 h1 o0 h2), (h3, ce201 h7), (h7, ce200 kc1 h10 h11 h12 h13 h14), (h2, ce271 h1 h6), (h13, ce285 (z.2.1 0) o5 h13), (h1, ce7 h3 h4 o1 h5), (h6, ce270 kc0), (h4, ce201 h8), (h5, ce226 h9), (h8, ce200 kc2 h10 h11 h12 h13 h14), (h9, ce200 kc3 h10 h11 h12 h13 h14), (h10, ce282 (z.2.1 0) o2 h10), (h11, ce283 (z.2.1 0) o3 h11), (h12, ce284 (z.2.1 0) o4 h12), (h14, ce286 (z.2.1 0) o6 h14)]) (tz := [(kc1, .object "java/lang/Object"), (kc0, .int), (kc2, .object "java/lang/Object"), (kc3, .object "java/lang/Object")]) hP hD hK [1, 13, 3, 4, 6, 7, 9, 10, 11, 12, 2, 14] [1] rfl hk95 hF91 hB95.1 ht95 hvm95 rfl rfl
  have hG : s.heap.size + 0 ≤ H95.size := Nat.le_trans hG hz95
  refine W.eq (g2 := F0 m 44 ls [.int 0, .int 0]) (by rw [hw95]) ?_
  refine lv_if_eq (tgt := 51) hx hb dX6_shown_44 (by decide) (fun _ => ?_) (fun cz => absurd (by decide) cz)
  refine lv_iconst (v := 0) hx hb dX6_shown_51 (by decide) ?_
  refine lv_iadd hx hb dX6_shown_52 ?_
  refine lv_topi (fun y97 ey97 => ?_)
  obtain rfl : y97 = 0 := ey97.trans (by decide)
  refine lv_istore_n (lv' := [(1, .int 0), (3, .ref h13), (2, .int 3), (0, .ref h0)]) hx hb dX6_shown_53 rfl hl (by decide) rfl (fun ls hl => ?_)
  refine lv_iload_n hx hb dX6_shown_54 rfl (lv_at hl 0 rfl) ?_
  refine lv_aload_n hx hb dX6_shown_55 rfl (lv_at hl 3 rfl) ?_
  refine va_get (D := (dC, dI)) (ci := 6) (v := .ref h2) (C := RX6) (T := TX6) (N := 3) hx hb hts in_X6 hown hK hP 0 rfl rfl 2 (by decide) (hts _ q_54) (fun _ h9 => h9) rfl dX6_shown_56 ?_
  refine lv_aload_n hx hb dX6_shown_59 rfl (lv_at hl 1 rfl) ?_
  refine lv_bipush (v := 49) hx hb dX6_shown_60 (by decide) ?_
  have hM100 := k605_isShownBySomeTest l hl9 dC dI z h2 h13 h1 h6 h3 h4 h5 h7 h8 h9 h10 h11 h12 h14 o5 o1 o2 o3 o4 o6 H95.size kc0 kc1 kc2 kc3
  obtain ⟨hF98, hC101⟩ := pc_M hM100 hP hD hK hS hX hT hA [3, 4, 5, 6, 1, 7, 8, 2, 9, 10, 11, 12, 13, 14] [1, 0, 2, 3] rfl rfl rfl
  refine va_calli (va_runV (As := [.ref h13, .int 49]) (rest := [.int 0]) ⟨hx, hb, hml, hown, hts⟩ hM100 (cwV 2 hts (gV q_396 q_397 q_398 q_46 q_395) rfl rfl rfl hV_X4_isShownBySomeTest ⟨Nat.le_of_ble_eq_true rfl, Nat.le_of_ble_eq_true rfl⟩) ⟨pc_blind, va_recv hK hP (ci := 4) (q := (RX4, TX4, 3)) (q0 := 3) rfl rfl, fun U hU hW => ⟨rfl, hC101 U hU hW⟩⟩ rfl rfl hl.1 rfl (lv_room (Nat.le_of_ble_eq_true rfl)) dX6_shown_62 ⟨(Nat.le_of_ble_eq_true rfl), (Nat.le_of_ble_eq_true rfl)⟩) hS (fun q9 _ h9 => hF98 q9 h9) hF98 (fun r103 u102 t102 H102 L102 ht102 hvm102 hw102 hB102 hz102 hk102 hS => ?_)
  obtain ⟨hP, hD, hK⟩ := pq_jn (wz := [(h0, ce16 h1 o0 h2), (h2, ce271 h1 h6), (h13, ce290 (z.2.1 0) o5 h13), (h1, ce7 h3 h4 o1 h5), (h6, ce270 kc0), (h3, ce201 h7), (h4, ce201 h8), (h5, ce226 h9), (h7, ce200 kc1 h10 h11 h12 h13 h14), (h8, ce200 kc2 h10 h11 h12 h13 h14), (h9, ce200 kc3 h10 h11 h12 h13 h14), (h10, ce282 (z.2.1 0) o2 h10), (h11, ce283 (z.2.1 0) o3 h11), (h12, ce284 (z.2.1 0) o4 h12), (h14, ce286 (z.2.1 0) o6 h14)]) (tz := [(kc0, .int), (kc1, .object "java/lang/Object"), (kc2, .object "java/lang/Object"), (kc3, .object "java/lang/Object")]) hP hD hK [3, 4, 5, 6, 1, 7, 8, 2, 9, 10, 11, 12, 13, 14] [] rfl hk102 hF98 hB102.1 ht102 hvm102 rfl rfl
  have hG : s.heap.size + 0 ≤ H102.size := Nat.le_trans hG hz102
  refine W.eq (g2 := F0 m 65 ls [.int 0, .int 0]) (by rw [hw102]) ?_
  refine lv_if_eq (tgt := 72) hx hb dX6_shown_65 (by decide) (fun _ => ?_) (fun cz => absurd (by decide) cz)
  refine lv_iconst (v := 0) hx hb dX6_shown_72 (by decide) ?_
  refine lv_iadd hx hb dX6_shown_73 ?_
  refine lv_topi (fun y104 ey104 => ?_)
  obtain rfl : y104 = 0 := ey104.trans (by decide)
  refine lv_istore_n (lv' := [(1, .int 0), (3, .ref h13), (2, .int 3), (0, .ref h0)]) hx hb dX6_shown_74 rfl hl (by decide) rfl (fun ls hl => ?_)
  refine lv_iinc (v := 4) (lv' := [(2, .int 4), (1, .int 0), (3, .ref h13), (0, .ref h0)]) hx hb dX6_shown_75 hl (k := 2) rfl (by decide) (by decide) rfl (fun ls hl => ?_)
  refine lv_goto (tgt := 4) hx hb dX6_shown_78 (by decide) ?_
  refine lv_iload_n hx hb dX6_shown_4 rfl (lv_at hl 0 rfl) ?_
  refine lv_aload_n hx hb dX6_shown_5 rfl (lv_at hl 3 rfl) ?_
  refine va_get (D := (dC, dI)) (ci := 6) (v := .ref h1) (C := RX6) (T := TX6) (N := 3) hx hb hts in_X6 hown hK hP 0 rfl rfl 0 (by decide) (hts _ q_34) (fun _ h9 => h9) rfl dX6_shown_6 ?_
  refine va_get (D := (dC, dI)) (ci := 2) (v := .ref h3) (C := RX0) (T := TX0) (N := 4) hx hb hts in_X0 hown hK hP 3 rfl rfl 0 (by decide) (hts _ q_83) (fun _ h9 => h9) rfl dX6_shown_9 ?_
  have hM107 := k20_size l hl9 dC dI z h3 h7 H102.size 5 5
  obtain ⟨hF105, hC108⟩ := pc_M hM107 hP hD hK hS hX hT hA [5] [] rfl rfl rfl
  refine va_calli (va_runV (As := []) (rest := [.int 4]) ⟨hx, hb, hml, hown, hts⟩ hM107 (cwV 0 hts (gV q_76 q_77 q_78 q_12 q_75) rfl rfl rfl hV_Jx4a65c_size_8abf5 ⟨Nat.le_of_ble_eq_true rfl, Nat.le_of_ble_eq_true rfl⟩) ⟨pc_blind, va_recv hK hP (ci := 0) (q := (RJx4a65c, TJx4a65c, 3)) (q0 := 5) rfl rfl, fun U hU hW => ⟨rfl, hC108 U hU hW⟩⟩ rfl rfl hl.1 rfl (lv_room (Nat.le_of_ble_eq_true rfl)) dX6_shown_12 ⟨(Nat.le_of_ble_eq_true rfl), (Nat.le_of_ble_eq_true rfl)⟩) hS (fun q9 _ h9 => hF105 q9 h9) hF105 (fun r110 u109 t109 H109 L109 ht109 hvm109 hw109 hB109 hz109 hk109 hS => ?_)
  have hP := pq_keep hP hD [5] rfl hk109 hB109.1 ht109
  have hG : s.heap.size + 0 ≤ H109.size := Nat.le_trans hG hz109
  refine W.eq (g2 := F0 m 15 ls [.int 5, .int 4]) (by rw [hw109]) ?_
  refine lv_icmp_ge (tgt := 81) hx hb dX6_shown_15 (by decide) (fun cz => absurd cz (by decide)) (fun _ => ?_)
  refine lv_aload_n hx hb dX6_shown_18 rfl (lv_at hl 3 rfl) ?_
  refine va_get (D := (dC, dI)) (ci := 6) (v := .ref h1) (C := RX6) (T := TX6) (N := 3) hx hb hts in_X6 hown hK hP 0 rfl rfl 0 (by decide) (hts _ q_34) (fun _ h9 => h9) rfl dX6_shown_19 ?_
  refine va_get (D := (dC, dI)) (ci := 2) (v := .ref h3) (C := RX0) (T := TX0) (N := 4) hx hb hts in_X0 hown hK hP 3 rfl rfl 0 (by decide) (hts _ q_83) (fun _ h9 => h9) rfl dX6_shown_22 ?_
  refine lv_iload_n hx hb dX6_shown_25 rfl (lv_at hl 0 rfl) ?_
  have hM113 := k384_get l hl9 dC dI z h3 h7 h10 h11 h12 h13 h14 H109.size kc1
  obtain ⟨hF111, hC114⟩ := pc_M hM113 hP hD hK hS hX hT hA [5, 8] [1] rfl rfl rfl
  refine va_callr (va_runV (As := [.int 4]) (rest := []) ⟨hx, hb, hml, hown, hts⟩ hM113 (cwV 1 hts (gV q_381 q_157 q_158 q_12 q_155) rfl rfl rfl hV_Jx4a65c_get_915e3 ⟨Nat.le_of_ble_eq_true rfl, Nat.le_of_ble_eq_true rfl⟩) ⟨pc_blind, va_recv hK hP (ci := 0) (q := (RJx4a65c, TJx4a65c, 3)) (q0 := 5) rfl rfl, fun U hU hW => ⟨rfl, hC114 U hU hW⟩⟩ rfl rfl hl.1 rfl (lv_room (Nat.le_of_ble_eq_true rfl)) dX6_shown_26 ⟨(Nat.le_of_ble_eq_true rfl), (Nat.le_of_ble_eq_true rfl)⟩) hS (fun q9 _ h9 => hF111 q9 h9) hF111 (fun u115 r116 t115 H115 L115 ht115 hvm115 hw115 hB115 hz115 hk115 hS => ?_)
  obtain ⟨hr115, hB115⟩ := hB115
  have hP := pq_keep hP hD [5, 8] rfl hk115 hB115.1 ht115
  have hG : s.heap.size + 0 ≤ H115.size := Nat.le_trans hG hz115
  refine W.eq (g2 := F0 m 29 ls [.ref h14]) (by rw [hr115]) ?_
  refine va_castE (nm := RX2) hx hb hown (hts _ q_382) (va_recv hK hP (ci := 3) (q := (RX2, TX2, 19)) (q0 := 14) rfl rfl) dX6_shown_29 ?_
  refine lv_astore_n (lv' := [(3, .ref h14), (2, .int 4), (1, .int 0), (0, .ref h0)]) hx hb dX6_shown_32 rfl hl (by decide) rfl (fun ls hl => ?_)
  refine lv_iload_n hx hb dX6_shown_33 rfl (lv_at hl 2 rfl) ?_
  refine lv_aload_n hx hb dX6_shown_34 rfl (lv_at hl 3 rfl) ?_
  refine va_get (D := (dC, dI)) (ci := 6) (v := .ref h2) (C := RX6) (T := TX6) (N := 3) hx hb hts in_X6 hown hK hP 0 rfl rfl 2 (by decide) (hts _ q_54) (fun _ h9 => h9) rfl dX6_shown_35 ?_
  refine lv_aload_n hx hb dX6_shown_38 rfl (lv_at hl 0 rfl) ?_
  refine lv_bipush (v := 48) hx hb dX6_shown_39 (by decide) ?_
  have hM119 := k608_isShownBySomeTest l hl9 dC dI z h2 h14 h1 h6 h4 h5 h8 h9 h10 h11 h12 h13 o6 h3 o1 o2 o3 o4 o5 H115.size kc0 kc2 kc3
  obtain ⟨hF117, hC120⟩ := pc_M hM119 hP hD hK hS hX hT hA [1, 14, 3, 4, 6, 7, 9, 10, 11, 12, 13, 2] [0, 2, 3] rfl rfl rfl
  refine va_calli (va_runV (As := [.ref h14, .int 48]) (rest := [.int 0]) ⟨hx, hb, hml, hown, hts⟩ hM119 (cwV 2 hts (gV q_396 q_397 q_398 q_46 q_395) rfl rfl rfl hV_X4_isShownBySomeTest ⟨Nat.le_of_ble_eq_true rfl, Nat.le_of_ble_eq_true rfl⟩) ⟨pc_blind, va_recv hK hP (ci := 4) (q := (RX4, TX4, 3)) (q0 := 1) rfl rfl, fun U hU hW => ⟨rfl, hC120 U hU hW⟩⟩ rfl rfl hl.1 rfl (lv_room (Nat.le_of_ble_eq_true rfl)) dX6_shown_41 ⟨(Nat.le_of_ble_eq_true rfl), (Nat.le_of_ble_eq_true rfl)⟩) hS (fun q9 _ h9 => hF117 q9 h9) hF117 (fun r122 u121 t121 H121 L121 ht121 hvm121 hw121 hB121 hz121 hk121 hS => ?_)
  obtain ⟨hP, hD, hK⟩ := pq_jn (wz := [(h0, ce16 h1 o0 h2), (h3, ce201 h7), (h7, ce200 kc1 h10 h11 h12 h13 h14), (h2, ce271 h1 h6), (h14, ce286 (z.2.1 0) o6 h14), (h1, ce7 h3 h4 o1 h5), (h6, ce270 kc0), (h4, ce201 h8), (h5, ce226 h9), (h8, ce200 kc2 h10 h11 h12 h13 h14), (h9, ce200 kc3 h10 h11 h12 h13 h14), (h10, ce282 (z.2.1 0) o2 h10), (h11, ce283 (z.2.1 0) o3 h11), (h12, ce284 (z.2.1 0) o4 h12), (h13, ce285 (z.2.1 0) o5 h13)]) (tz := [(kc1, .object "java/lang/Object"), (kc0, .int), (kc2, .object "java/lang/Object"), (kc3, .object "java/lang/Object")]) hP hD hK [1, 14, 3, 4, 6, 7, 9, 10, 11, 12, 13, 2] [1] rfl hk121 hF117 hB121.1 ht121 hvm121 rfl rfl
  have hG : s.heap.size + 0 ≤ H121.size := Nat.le_trans hG hz121
  refine W.eq (g2 := F0 m 44 ls [.int 0, .int 0]) (by rw [hw121]) ?_
  refine lv_if_eq (tgt := 51) hx hb dX6_shown_44 (by decide) (fun _ => ?_) (fun cz => absurd (by decide) cz)
  refine lv_iconst (v := 0) hx hb dX6_shown_51 (by decide) ?_
  refine lv_iadd hx hb dX6_shown_52 ?_
  refine lv_topi (fun y123 ey123 => ?_)
  obtain rfl : y123 = 0 := ey123.trans (by decide)
  refine lv_istore_n (lv' := [(1, .int 0), (3, .ref h14), (2, .int 4), (0, .ref h0)]) hx hb dX6_shown_53 rfl hl (by decide) rfl (fun ls hl => ?_)
  refine lv_iload_n hx hb dX6_shown_54 rfl (lv_at hl 0 rfl) ?_
  refine lv_aload_n hx hb dX6_shown_55 rfl (lv_at hl 3 rfl) ?_
  refine va_get (D := (dC, dI)) (ci := 6) (v := .ref h2) (C := RX6) (T := TX6) (N := 3) hx hb hts in_X6 hown hK hP 0 rfl rfl 2 (by decide) (hts _ q_54) (fun _ h9 => h9) rfl dX6_shown_56 ?_
  refine lv_aload_n hx hb dX6_shown_59 rfl (lv_at hl 1 rfl) ?_
  refine lv_bipush (v := 49) hx hb dX6_shown_60 (by decide) ?_
  have hM126 := k616_isShownBySomeTest l hl9 dC dI z h2 h14 h1 h6 h3 h4 h5 h7 h8 h9 h10 h11 h12 h13 o6 o1 o2 o3 o4 o5 H121.size kc0 kc1 kc2 kc3
  obtain ⟨hF124, hC127⟩ := pc_M hM126 hP hD hK hS hX hT hA [3, 4, 5, 6, 1, 7, 8, 2, 9, 10, 11, 12, 13, 14] [1, 0, 2, 3] rfl rfl rfl
  refine va_calli (va_runV (As := [.ref h14, .int 49]) (rest := [.int 0]) ⟨hx, hb, hml, hown, hts⟩ hM126 (cwV 2 hts (gV q_396 q_397 q_398 q_46 q_395) rfl rfl rfl hV_X4_isShownBySomeTest ⟨Nat.le_of_ble_eq_true rfl, Nat.le_of_ble_eq_true rfl⟩) ⟨pc_blind, va_recv hK hP (ci := 4) (q := (RX4, TX4, 3)) (q0 := 3) rfl rfl, fun U hU hW => ⟨rfl, hC127 U hU hW⟩⟩ rfl rfl hl.1 rfl (lv_room (Nat.le_of_ble_eq_true rfl)) dX6_shown_62 ⟨(Nat.le_of_ble_eq_true rfl), (Nat.le_of_ble_eq_true rfl)⟩) hS (fun q9 _ h9 => hF124 q9 h9) hF124 (fun r129 u128 t128 H128 L128 ht128 hvm128 hw128 hB128 hz128 hk128 hS => ?_)
  obtain ⟨hP, hD, hK⟩ := pq_jn (wz := [(h0, ce16 h1 o0 h2), (h2, ce271 h1 h6), (h14, ce291 (z.2.1 0) o6 h14), (h1, ce7 h3 h4 o1 h5), (h6, ce270 kc0), (h3, ce201 h7), (h4, ce201 h8), (h5, ce226 h9), (h7, ce200 kc1 h10 h11 h12 h13 h14), (h8, ce200 kc2 h10 h11 h12 h13 h14), (h9, ce200 kc3 h10 h11 h12 h13 h14), (h10, ce282 (z.2.1 0) o2 h10), (h11, ce283 (z.2.1 0) o3 h11), (h12, ce284 (z.2.1 0) o4 h12), (h13, ce285 (z.2.1 0) o5 h13)]) (tz := [(kc0, .int), (kc1, .object "java/lang/Object"), (kc2, .object "java/lang/Object"), (kc3, .object "java/lang/Object")]) hP hD hK [3, 4, 5, 6, 1, 7, 8, 2, 9, 10, 11, 12, 13, 14] [] rfl hk128 hF124 hB128.1 ht128 hvm128 rfl rfl
  have hG : s.heap.size + 0 ≤ H128.size := Nat.le_trans hG hz128
  refine W.eq (g2 := F0 m 65 ls [.int 0, .int 0]) (by rw [hw128]) ?_
  refine lv_if_eq (tgt := 72) hx hb dX6_shown_65 (by decide) (fun _ => ?_) (fun cz => absurd (by decide) cz)
  refine lv_iconst (v := 0) hx hb dX6_shown_72 (by decide) ?_
  refine lv_iadd hx hb dX6_shown_73 ?_
  refine lv_topi (fun y130 ey130 => ?_)
  obtain rfl : y130 = 0 := ey130.trans (by decide)
  refine lv_istore_n (lv' := [(1, .int 0), (3, .ref h14), (2, .int 4), (0, .ref h0)]) hx hb dX6_shown_74 rfl hl (by decide) rfl (fun ls hl => ?_)
  refine lv_iinc (v := 5) (lv' := [(2, .int 5), (1, .int 0), (3, .ref h14), (0, .ref h0)]) hx hb dX6_shown_75 hl (k := 2) rfl (by decide) (by decide) rfl (fun ls hl => ?_)
  refine lv_goto (tgt := 4) hx hb dX6_shown_78 (by decide) ?_
  refine lv_iload_n hx hb dX6_shown_4 rfl (lv_at hl 0 rfl) ?_
  refine lv_aload_n hx hb dX6_shown_5 rfl (lv_at hl 3 rfl) ?_
  refine va_get (D := (dC, dI)) (ci := 6) (v := .ref h1) (C := RX6) (T := TX6) (N := 3) hx hb hts in_X6 hown hK hP 0 rfl rfl 0 (by decide) (hts _ q_34) (fun _ h9 => h9) rfl dX6_shown_6 ?_
  refine va_get (D := (dC, dI)) (ci := 2) (v := .ref h3) (C := RX0) (T := TX0) (N := 4) hx hb hts in_X0 hown hK hP 3 rfl rfl 0 (by decide) (hts _ q_83) (fun _ h9 => h9) rfl dX6_shown_9 ?_
  have hM133 := k20_size l hl9 dC dI z h3 h7 H128.size 5 5
  obtain ⟨hF131, hC134⟩ := pc_M hM133 hP hD hK hS hX hT hA [5] [] rfl rfl rfl
  refine va_calli (va_runV (As := []) (rest := [.int 5]) ⟨hx, hb, hml, hown, hts⟩ hM133 (cwV 0 hts (gV q_76 q_77 q_78 q_12 q_75) rfl rfl rfl hV_Jx4a65c_size_8abf5 ⟨Nat.le_of_ble_eq_true rfl, Nat.le_of_ble_eq_true rfl⟩) ⟨pc_blind, va_recv hK hP (ci := 0) (q := (RJx4a65c, TJx4a65c, 3)) (q0 := 5) rfl rfl, fun U hU hW => ⟨rfl, hC134 U hU hW⟩⟩ rfl rfl hl.1 rfl (lv_room (Nat.le_of_ble_eq_true rfl)) dX6_shown_12 ⟨(Nat.le_of_ble_eq_true rfl), (Nat.le_of_ble_eq_true rfl)⟩) hS (fun q9 _ h9 => hF131 q9 h9) hF131 (fun r136 u135 t135 H135 L135 ht135 hvm135 hw135 hB135 hz135 hk135 hS => ?_)
  have hP := pq_keep hP hD [5] rfl hk135 hB135.1 ht135
  have hG : s.heap.size + 0 ≤ H135.size := Nat.le_trans hG hz135
  refine W.eq (g2 := F0 m 15 ls [.int 5, .int 5]) (by rw [hw135]) ?_
  refine lv_icmp_ge (tgt := 81) hx hb dX6_shown_15 (by decide) (fun _ => ?_) (fun cz => absurd (by decide) cz)
  refine lv_iload_n hx hb dX6_shown_81 rfl (lv_at hl 1 rfl) ?_
  exact W.iret (v := 0) hx hb hr (fun t9 ht9 hW9 => ⟨⟨0, (), rfl, rfl, ⟨pq_mk2 hP hD hK [0, 3, 1, 5, 6, 7, 4, 8, 9, 10, 11, 12, 13, 14, 2] [0, 1, 2, 3] rfl rfl rfl ht9 hW9, by rw [ht9]; exact Nat.le_trans (Nat.add_le_add_left (Nat.le_of_ble_eq_true rfl) _) hG⟩⟩, hS.F ht9⟩) hS.2.2 dX6_shown_82
