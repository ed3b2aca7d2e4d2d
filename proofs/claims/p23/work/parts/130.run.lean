set_option maxHeartbeats 4000000 in
set_option maxRecDepth 100000 in
theorem k835_addTest (l : Launch) (hl9 : l.stackTraces = false) (dC : Nat → ClassId) (dI : Nat → Nat → Nat) (z : XZ) (h0 h1 h2 h3 h4 h5 h6 h7 h8 h9 h10 h11 : Nat) (o0 o1 : Nat) (sz : Nat) (kc0 kc1 : ClassId) : Met l yX9_addTest (.code yX9_addTest cX9_addTest 2 (some .int) :: wsL_law) ({ frames := 5, cells := 1, slots := 4, locals := 100 }) (va_Pc [.ref h0, .int 0] (PC (dC, dI) [(h0, ce21 h1 o0 h2 o1), (h1, ce331 h3), (h2, ce259 h4), (h3, ce330 kc0 h5 h6 h7 h8 h9 h10 h11), (h4, ce258 kc1 (z.2.2.1 128) (z.2.2.1 128) (z.2.2.1 128) (z.2.2.1 128) (z.2.2.1 128) (z.2.2.1 128)), (h5, ce49), (h6, ce49), (h7, ce49), (h8, ce49), (h9, ce49), (h10, ce49), (h11, ce49)] [(kc0, .object "java/lang/Object"), (kc1, .object "java/lang/Object")] sz z)) (va_Qi (fun (r : Int32) (_ : Unit) => r = 7) (fun (_ : Unit) (t : State) => PG (dC, dI) [(h0, ce21 h1 o0 h2 o1), (h1, ce331 h3), (h2, ce331 h4), (h3, ce330 kc0 h5 h6 h7 h8 h9 h10 h11), (h4, ce330 kc1 (z.2.2.1 128) (z.2.2.1 128) (z.2.2.1 128) (z.2.2.1 128) (z.2.2.1 128) (z.2.2.1 128) (z.2.2.1 128)), (h5, ce49), (h6, ce49), (h7, ce49), (h8, ce49), (h9, ce49), (h10, ce49), (h11, ce49)] [(kc0, .object "java/lang/Object"), (kc1, .object "java/lang/Object")] (va_A [(h0, ce21 h1 o0 h2 o1), (h1, ce331 h3), (h2, ce259 h4), (h3, ce330 kc0 h5 h6 h7 h8 h9 h10 h11), (h4, ce258 kc1 (z.2.2.1 128) (z.2.2.1 128) (z.2.2.1 128) (z.2.2.1 128) (z.2.2.1 128) (z.2.2.1 128)), (h5, ce49), (h6, ce49), (h7, ce49), (h8, ce49), (h9, ce49), (h10, ce49), (h11, ce49)] sz) sz 1 t) (va_A [(h0, ce21 h1 o0 h2 o1), (h1, ce331 h3), (h2, ce259 h4), (h3, ce330 kc0 h5 h6 h7 h8 h9 h10 h11), (h4, ce258 kc1 (z.2.2.1 128) (z.2.2.1 128) (z.2.2.1 128) (z.2.2.1 128) (z.2.2.1 128) (z.2.2.1 128)), (h5, ce49), (h6, ce49), (h7, ce49), (h8, ce49), (h9, ce49), (h10, ce49), (h11, ce49)] sz)) 1 4 (va_A [(h0, ce21 h1 o0 h2 o1), (h1, ce331 h3), (h2, ce259 h4), (h3, ce330 kc0 h5 h6 h7 h8 h9 h10 h11), (h4, ce258 kc1 (z.2.2.1 128) (z.2.2.1 128) (z.2.2.1 128) (z.2.2.1 128) (z.2.2.1 128) (z.2.2.1 128)), (h5, ce49), (h6, ce49), (h7, ce49), (h8, ce49), (h9, ce49), (h10, ce49), (h11, ce49)] sz) := by
  refine Met.ofW (cc := cX9_addTest) (maxL := 2) (ret := (some .int)) (by decide) rfl ?_
  intro p e s m args below meth c s₁ B hml hv
  obtain ⟨rfl, hsz, hP, hK, hD0, hX, hT⟩ := hv
  have hx := B.exec
  have hb := B.bytes
  have hr := B.returns
  have hts0 := atoms_spec (ws := .code yX9_addTest cX9_addTest 2 (some .int) :: wsL_law) B.pre
  have hts := xTail hts0
  have hown : s.vm.findClass RX9 = some m.cls := xown B.named rfl
  have hlocks := B.notSynchronized
  subst hsz
  have hD := hD0.self (sz := s.heap.size)
  generalize hAe : va_A [(h0, ce21 h1 o0 h2 o1), (h1, ce331 h3), (h2, ce259 h4), (h3, ce330 kc0 h5 h6 h7 h8 h9 h10 h11), (h4, ce258 kc1 (z.2.2.1 128) (z.2.2.1 128) (z.2.2.1 128) (z.2.2.1 128) (z.2.2.1 128) (z.2.2.1 128)), (h5, ce49), (h6, ce49), (h7, ce49), (h8, ce49), (h9, ce49), (h10, ce49), (h11, ce49)] s.heap.size = A at hD hX ⊢
  have hA : ∀ q : Nat, s.heap.size ≤ q → A q := fun q h => by rw [← hAe]; exact Or.inr h
  have hS : va_S A s.heap s.heap [] := va_S.rf
  have hG : s.heap.size + 0 ≤ s.heap.size := Nat.le_refl _
  have hl := lv_entry ([.ref h0, .int 0]) (n := 2) (Nat.le_of_ble_eq_true rfl)
  rw [lg_entry_eq]
  generalize (lg_sl ([.ref h0, .int 0]) ++ List.replicate (2 - (lg_sl ([.ref h0, .int 0])).length) Slot.unset).toArray = ls at hl ⊢
  have hl : lv_has ls 2 [(0, .ref h0), (1, .int 0)] := hl
  refine lv_aload_n hx hb dX9_addTest_0 rfl (lv_at hl 0 rfl) ?_
  refine lv_iconst (v := 0) hx hb dX9_addTest_1 (by decide) ?_
  refine va_put (D := (dC, dI)) (ci := 8) (v := .int 0) (ty := .int) (C := RX9) (T := TX9) (N := 6) hx hb hts in_X9 tyX9 tyX9_ok nmX9 hown hK hP hD (va_Sre hS) 0 rfl rfl 0 (by decide) (hts _ q_243) (fun _ h9 => h9) rfl (by decide +kernel) rfl rfl (Nat.le_of_ble_eq_true rfl) dX9_addTest_2 (fun H1 _ hP hD hS' => ?_)
  have hG : s.heap.size + 0 ≤ H1.size := Nat.le_trans hG hS'.1
  have hS := va_Str hS hS'
  have hP : va_P (dC, dI) xCl [(h0, ce21 h1 o0 h2 o1), (h1, ce331 h3), (h2, ce259 h4), (h3, ce330 kc0 h5 h6 h7 h8 h9 h10 h11), (h4, ce258 kc1 (z.2.2.1 128) (z.2.2.1 128) (z.2.2.1 128) (z.2.2.1 128) (z.2.2.1 128) (z.2.2.1 128)), (h5, ce49), (h6, ce49), (h7, ce49), (h8, ce49), (h9, ce49), (h10, ce49), (h11, ce49)] H1 := hP
  have hD := vd_as hP hD rfl
  refine lv_aload_n hx hb dX9_addTest_5 rfl (lv_at hl 0 rfl) ?_
  refine lv_iload_n hx hb dX9_addTest_6 rfl (lv_at hl 1 rfl) ?_
  refine lv_iconst (v := 0) hx hb dX9_addTest_7 (by decide) ?_
  refine lv_aload_n hx hb dX9_addTest_8 rfl (lv_at hl 0 rfl) ?_
  have hM4 := k783_rows l hl9 dC dI z h0 h1 h3 h5 h6 h7 h8 h9 h10 h11 o0 h2 o1 H1.size kc0
  obtain ⟨hF2, hC5⟩ := pc_M hM4 hP hD hK hS hX hT hA [0, 1, 3, 5, 6, 7, 8, 9, 10, 11] [0] rfl rfl rfl
  refine va_calli (va_runV (As := []) (rest := [.int 0, .int 0, .ref h0]) ⟨hx, hb, hml, hown, hts⟩ hM4 (cwV 0 hts (gV q_371 q_372 q_373 q_60 q_370) rfl rfl rfl hV_X9_rows ⟨Nat.le_of_ble_eq_true rfl, Nat.le_of_ble_eq_true rfl⟩) ⟨pc_blind, va_recv hK hP (ci := 8) (q := (RX9, TX9, 6)) (q0 := 0) rfl rfl, fun U hU hW => ⟨rfl, hC5 U hU hW⟩⟩ rfl rfl hl.1 rfl (lv_room (Nat.le_of_ble_eq_true rfl)) dX9_addTest_9 ⟨(Nat.le_of_ble_eq_true rfl), (Nat.le_of_ble_eq_true rfl)⟩) hS (fun q9 _ h9 => hF2 q9 h9) hF2 (fun r7 u6 t6 H6 L6 ht6 hvm6 hw6 hB6 hz6 hk6 hS => ?_)
  have hP := pq_keep hP hD [0, 1, 3, 5, 6, 7, 8, 9, 10, 11] rfl hk6 hB6.1 ht6
  have hG : s.heap.size + 1 ≤ H6.size := va_gr (g := 0) (g1 := 1) hG (by rw [← ht6]; exact hB6.2)
  refine W.eq (g2 := F0 m 12 ls [.int 128, .int 0, .int 0, .ref h0]) (by rw [hw6]) ?_
  refine W.widen (k := 1) (n := 4) (by decide) (by decide) ?_
  refine lv_iconst (v := 1) hx hb dX9_addTest_12 (by decide) ?_
  refine lv_isub hx hb dX9_addTest_13 ?_
  refine lv_topi (fun y8 ey8 => ?_)
  obtain rfl : y8 = 127 := ey8.trans (by decide)
  have hM11 := k784_in l hl9 dC dI z H6.size
  obtain ⟨hF9, hC12⟩ := pc_M hM11 hP hD hK hS hX hT hA [] [] rfl rfl rfl
  refine va_calli (va_runS (As := [.int 0, .int 0, .int 127]) (rest := [.ref h0]) ⟨hx, hb, hml, hown, hts⟩ hM11 (va_cwS 3 hts (gS q_375 q_376 q_60 q_374) rfl rfl rfl hS_X9_in ⟨Nat.le_of_ble_eq_true rfl, Nat.le_of_ble_eq_true rfl⟩) ⟨pc_blind, fun U hU hW => ⟨rfl, hC12 U hU hW⟩⟩ rfl rfl hl.1 rfl (lv_room (Nat.le_of_ble_eq_true rfl)) dX9_addTest_14 ⟨(Nat.le_of_ble_eq_true rfl), (Nat.le_of_ble_eq_true rfl)⟩) hS (fun q9 _ h9 => hF9 q9 h9) hF9 (fun r14 u13 t13 H13 L13 ht13 hvm13 hw13 hB13 hz13 hk13 hS => ?_)
  have hP := pq_keep hP hD [] rfl hk13 hB13.1 ht13
  have hG : s.heap.size + 1 ≤ H13.size := Nat.le_trans hG hz13
  refine W.eq (g2 := F0 m 17 ls [.int 1, .ref h0]) (by rw [hw13]) ?_
  refine lv_if_ne (tgt := 24) hx hb dX9_addTest_17 (by decide) (fun _ => ?_) (fun cz => absurd cz (by decide))
  refine lv_iconst (v := 0) hx hb dX9_addTest_24 (by decide) ?_
  refine lv_iconst (v := 1) hx hb dX9_addTest_25 (by decide) ?_
  have hM17 := k52_fails l hl9 dC dI z h0 h1 o0 h2 o1 H13.size
  obtain ⟨hF15, hC18⟩ := pc_M hM17 hP hD hK hS hX hT hA [0] [] rfl rfl rfl
  refine va_calli (va_runV (As := [.int 0, .int 1]) (rest := []) ⟨hx, hb, hml, hown, hts⟩ hM17 (cwV 2 hts (gV q_269 q_270 q_271 q_60 q_268) rfl rfl rfl hV_X9_fails ⟨Nat.le_of_ble_eq_true rfl, Nat.le_of_ble_eq_true rfl⟩) ⟨pc_blind, va_recv hK hP (ci := 8) (q := (RX9, TX9, 6)) (q0 := 0) rfl rfl, fun U hU hW => ⟨rfl, hC18 U hU hW⟩⟩ rfl rfl hl.1 rfl (lv_room (Nat.le_of_ble_eq_true rfl)) dX9_addTest_26 ⟨(Nat.le_of_ble_eq_true rfl), (Nat.le_of_ble_eq_true rfl)⟩) hS (fun q9 _ h9 => hF15 q9 h9) hF15 (fun r20 u19 t19 H19 L19 ht19 hvm19 hw19 hB19 hz19 hk19 hS => ?_)
  have hP := pq_keep hP hD [0] rfl hk19 hB19.1 ht19
  have hG : s.heap.size + 1 ≤ H19.size := Nat.le_trans hG hz19
  refine W.eq (g2 := F0 m 29 ls [.int 0]) (by rw [hw19]) ?_
  refine lv_if_ne (tgt := 57) hx hb dX9_addTest_29 (by decide) (fun cz => absurd (by decide) cz) (fun _ => ?_)
  refine lv_aload_n hx hb dX9_addTest_32 rfl (lv_at hl 0 rfl) ?_
  refine lv_aload_n hx hb dX9_addTest_33 rfl (lv_at hl 0 rfl) ?_
  refine va_get (D := (dC, dI)) (ci := 8) (v := .ref h2) (C := RX9) (T := TX9) (N := 6) hx hb hts in_X9 hown hK hP 0 rfl rfl 3 (by decide) (hts _ q_66) (fun _ h9 => h9) rfl dX9_addTest_34 ?_
  have hM23 := k20_size l hl9 dC dI z h2 h4 H19.size 6 6
  obtain ⟨hF21, hC24⟩ := pc_M hM23 hP hD hK hS hX hT hA [2] [] rfl rfl rfl
  refine va_calli (va_runV (As := []) (rest := [.ref h0]) ⟨hx, hb, hml, hown, hts⟩ hM23 (cwV 0 hts (gV q_272 q_77 q_78 q_12 q_75) rfl rfl rfl hV_Jx4a65c_size_8abf5 ⟨Nat.le_of_ble_eq_true rfl, Nat.le_of_ble_eq_true rfl⟩) ⟨pc_blind, va_recv hK hP (ci := 0) (q := (RJx4a65c, TJx4a65c, 3)) (q0 := 2) rfl rfl, fun U hU hW => ⟨rfl, hC24 U hU hW⟩⟩ rfl rfl hl.1 rfl (lv_room (Nat.le_of_ble_eq_true rfl)) dX9_addTest_37 ⟨(Nat.le_of_ble_eq_true rfl), (Nat.le_of_ble_eq_true rfl)⟩) hS (fun q9 _ h9 => hF21 q9 h9) hF21 (fun r26 u25 t25 H25 L25 ht25 hvm25 hw25 hB25 hz25 hk25 hS => ?_)
  have hP := pq_keep hP hD [2] rfl hk25 hB25.1 ht25
  have hG : s.heap.size + 1 ≤ H25.size := Nat.le_trans hG hz25
  refine W.eq (g2 := F0 m 40 ls [.int 6, .ref h0]) (by rw [hw25]) ?_
  refine lv_bipush (v := 8) hx hb dX9_addTest_40 (by decide) ?_
  refine lv_icmp_ne (tgt := 49) hx hb dX9_addTest_42 (by decide) (fun _ => ?_) (fun cz => absurd cz (by decide))
  refine lv_iconst (v := 0) hx hb dX9_addTest_49 (by decide) ?_
  refine lv_iconst (v := 2) hx hb dX9_addTest_50 (by decide) ?_
  have hM29 := k53_fails l hl9 dC dI z h0 h1 o0 h2 o1 H25.size
  obtain ⟨hF27, hC30⟩ := pc_M hM29 hP hD hK hS hX hT hA [0] [] rfl rfl rfl
  refine va_calli (va_runV (As := [.int 0, .int 2]) (rest := []) ⟨hx, hb, hml, hown, hts⟩ hM29 (cwV 2 hts (gV q_269 q_270 q_271 q_60 q_268) rfl rfl rfl hV_X9_fails ⟨Nat.le_of_ble_eq_true rfl, Nat.le_of_ble_eq_true rfl⟩) ⟨pc_blind, va_recv hK hP (ci := 8) (q := (RX9, TX9, 6)) (q0 := 0) rfl rfl, fun U hU hW => ⟨rfl, hC30 U hU hW⟩⟩ rfl rfl hl.1 rfl (lv_room (Nat.le_of_ble_eq_true rfl)) dX9_addTest_51 ⟨(Nat.le_of_ble_eq_true rfl), (Nat.le_of_ble_eq_true rfl)⟩) hS (fun q9 _ h9 => hF27 q9 h9) hF27 (fun r32 u31 t31 H31 L31 ht31 hvm31 hw31 hB31 hz31 hk31 hS => ?_)
  have hP := pq_keep hP hD [0] rfl hk31 hB31.1 ht31
  have hG : s.heap.size + 1 ≤ H31.size := Nat.le_trans hG hz31
  refine W.eq (g2 := F0 m 54 ls [.int 0]) (by rw [hw31]) ?_
  refine lv_if_eq (tgt := 59) hx hb dX9_addTest_54 (by decide) (fun _ => ?_) (fun cz => absurd (by decide) cz)
  refine lv_aload_n hx hb dX9_addTest_59 rfl (lv_at hl 0 rfl) ?_
  refine va_get (D := (dC, dI)) (ci := 8) (v := .ref h2) (C := RX9) (T := TX9) (N := 6) hx hb hts in_X9 hown hK hP 0 rfl rfl 3 (by decide) (hts _ q_66) (fun _ h9 => h9) rfl dX9_addTest_60 ?_
  refine lv_iload_n hx hb dX9_addTest_63 rfl (lv_at hl 1 rfl) ?_
  have hM35 := k58_valueOf l hl9 dC dI z H31.size
  obtain ⟨hF33, hC36⟩ := pc_M hM35 hP hD hK hS hX hT hA [] [] rfl rfl rfl
  refine va_callr (va_runS (As := [.int 0]) (rest := [.ref h2]) ⟨hx, hb, hml, hown, hts⟩ hM35 (va_cwS 1 hts (gS q_295 q_296 q_297 q_294) rfl rfl rfl hS_J6_valueOf_2dffe ⟨Nat.le_of_ble_eq_true rfl, Nat.le_of_ble_eq_true rfl⟩) ⟨pc_blind, fun U hU hW => ⟨rfl, hC36 U hU hW⟩⟩ rfl rfl hl.1 rfl (lv_room (Nat.le_of_ble_eq_true rfl)) dX9_addTest_64 ⟨(Nat.le_of_ble_eq_true rfl), (Nat.le_of_ble_eq_true rfl)⟩) hS (fun q9 _ h9 => hF33 q9 h9) hF33 (fun u37 r38 t37 H37 L37 ht37 hvm37 hw37 hB37 hz37 hk37 hS => ?_)
  obtain ⟨hr37, hB37⟩ := hB37
  have hP := pq_keep hP hD [] rfl hk37 hB37.1 ht37
  have hG : s.heap.size + 1 ≤ H37.size := Nat.le_trans hG hz37
  refine W.eq (g2 := F0 m 67 ls [.ref (z.2.2.1 128), .ref h2]) (by rw [hr37]) ?_
  have hM41 := k834_add l hl9 dC dI z h2 h4 H37.size kc1
  obtain ⟨hF39, hC42⟩ := pc_M hM41 hP hD hK hS hX hT hA [2, 4] [1] rfl rfl rfl
  refine va_calli (va_runV (As := [.ref (z.2.2.1 128)]) (rest := []) ⟨hx, hb, hml, hown, hts⟩ hM41 (cwV 1 hts (gV q_284 q_128 q_129 q_12 q_126) rfl rfl rfl hV_Jx4a65c_add_9ea2d ⟨Nat.le_of_ble_eq_true rfl, Nat.le_of_ble_eq_true rfl⟩) ⟨pc_blind, va_recv hK hP (ci := 0) (q := (RJx4a65c, TJx4a65c, 3)) (q0 := 2) rfl rfl, fun U hU hW => ⟨rfl, hC42 U hU hW⟩⟩ rfl rfl hl.1 rfl (lv_room (Nat.le_of_ble_eq_true rfl)) dX9_addTest_67 ⟨(Nat.le_of_ble_eq_true rfl), (Nat.le_of_ble_eq_true rfl)⟩) hS (fun q9 _ h9 => hF39 q9 h9) hF39 (fun r44 u43 t43 H43 L43 ht43 hvm43 hw43 hB43 hz43 hk43 hS => ?_)
  obtain ⟨hP, hD, hK⟩ := pq_jn (wz := [(h0, ce21 h1 o0 h2 o1), (h1, ce331 h3), (h3, ce330 kc0 h5 h6 h7 h8 h9 h10 h11), (h5, ce49), (h6, ce49), (h7, ce49), (h8, ce49), (h9, ce49), (h10, ce49), (h11, ce49), (h2, ce331 h4), (h4, ce330 kc1 (z.2.2.1 128) (z.2.2.1 128) (z.2.2.1 128) (z.2.2.1 128) (z.2.2.1 128) (z.2.2.1 128) (z.2.2.1 128))]) (tz := [(kc0, .object "java/lang/Object"), (kc1, .object "java/lang/Object")]) hP hD hK [2, 4] [0] rfl hk43 hF39 hB43.1 ht43 hvm43 rfl rfl
  have hG : s.heap.size + 1 ≤ H43.size := Nat.le_trans hG hz43
  refine W.eq (g2 := F0 m 70 ls [.int 1]) (by rw [hw43]) ?_
  refine lv_pop hx hb dX9_addTest_70 rfl ?_
  refine lv_aload_n hx hb dX9_addTest_71 rfl (lv_at hl 0 rfl) ?_
  refine va_get (D := (dC, dI)) (ci := 8) (v := .ref h2) (C := RX9) (T := TX9) (N := 6) hx hb hts in_X9 hown hK hP 0 rfl rfl 3 (by decide) (hts _ q_66) (fun _ h9 => h9) rfl dX9_addTest_72 ?_
  have hM47 := k20_size l hl9 dC dI z h2 h4 H43.size 7 7
  obtain ⟨hF45, hC48⟩ := pc_M hM47 hP hD hK hS hX hT hA [10] [] rfl rfl rfl
  refine va_calli (va_runV (As := []) (rest := []) ⟨hx, hb, hml, hown, hts⟩ hM47 (cwV 0 hts (gV q_272 q_77 q_78 q_12 q_75) rfl rfl rfl hV_Jx4a65c_size_8abf5 ⟨Nat.le_of_ble_eq_true rfl, Nat.le_of_ble_eq_true rfl⟩) ⟨pc_blind, va_recv hK hP (ci := 0) (q := (RJx4a65c, TJx4a65c, 3)) (q0 := 10) rfl rfl, fun U hU hW => ⟨rfl, hC48 U hU hW⟩⟩ rfl rfl hl.1 rfl (lv_room (Nat.le_of_ble_eq_true rfl)) dX9_addTest_75 ⟨(Nat.le_of_ble_eq_true rfl), (Nat.le_of_ble_eq_true rfl)⟩) hS (fun q9 _ h9 => hF45 q9 h9) hF45 (fun r50 u49 t49 H49 L49 ht49 hvm49 hw49 hB49 hz49 hk49 hS => ?_)
  have hP := pq_keep hP hD [10] rfl hk49 hB49.1 ht49
  have hG : s.heap.size + 1 ≤ H49.size := Nat.le_trans hG hz49
  refine W.eq (g2 := F0 m 78 ls [.int 7]) (by rw [hw49]) ?_
  exact W.iret (v := 7) hx hb hr (fun t9 ht9 hW9 => ⟨⟨7, (), rfl, rfl, ⟨pq_mk2 hP hD hK [0, 1, 10, 2, 11, 3, 4, 5, 6, 7, 8, 9] [0, 1] rfl rfl rfl ht9 hW9, by rw [ht9]; exact Nat.le_trans (Nat.add_le_add_left (Nat.le_of_ble_eq_true rfl) _) hG⟩⟩, hS.F ht9⟩) hS.2.2 dX9_addTest_78

set_option maxHeartbeats 4000000 in
set_option maxRecDepth 100000 in
theorem k836_isSource (l : Launch) (hl9 : l.stackTraces = false) (dC : Nat → ClassId) (dI : Nat → Nat → Nat) (z : XZ) (h0 : Nat) (o0 : Nat) (sz : Nat) : Met l yX2_isSource (.code yX2_isSource cX2_isSource 1 (some .boolean) :: wsL_law) ({ frames := 0, cells := 0, slots := 0, locals := 0 }) (va_Pc [.ref h0] (PC (dC, dI) [(h0, ce420 (z.2.1 0) o0 h0)] [] sz z)) (va_Qi (fun (r : Int32) (_ : Unit) => r = 1) (fun (_ : Unit) (t : State) => PG (dC, dI) [(h0, ce420 (z.2.1 0) o0 h0)] [] (va_A [(h0, ce420 (z.2.1 0) o0 h0)] sz) sz 0 t) (va_A [(h0, ce420 (z.2.1 0) o0 h0)] sz)) 0 0 (va_A [(h0, ce420 (z.2.1 0) o0 h0)] sz) := by
  refine Met.ofW (cc := cX2_isSource) (maxL := 1) (ret := (some .boolean)) (by decide) rfl ?_
  intro p e s m args below meth c s₁ B hml hv
  obtain ⟨rfl, hsz, hP, hK, hD0, hX, hT⟩ := hv
  have hx := B.exec
  have hb := B.bytes
  have hr := B.returns
  have hts0 := atoms_spec (ws := .code yX2_isSource cX2_isSource 1 (some .boolean) :: wsL_law) B.pre
  have hts := xTail hts0
  have hown : s.vm.findClass RX2 = some m.cls := xown B.named rfl
  have hlocks := B.notSynchronized
  subst hsz
  have hD := hD0.self (sz := s.heap.size)
  generalize hAe : va_A [(h0, ce420 (z.2.1 0) o0 h0)] s.heap.size = A at hD hX ⊢
  have hA : ∀ q : Nat, s.heap.size ≤ q → A q := fun q h => by rw [← hAe]; exact Or.inr h
  have hS : va_S A s.heap s.heap [] := va_S.rf
  have hG : s.heap.size + 0 ≤ s.heap.size := Nat.le_refl _
  have hl := lv_entry ([.ref h0]) (n := 1) (Nat.le_of_ble_eq_true rfl)
  rw [lg_entry_eq]
  generalize (lg_sl ([.ref h0]) ++ List.replicate (1 - (lg_sl ([.ref h0])).length) Slot.unset).toArray = ls at hl ⊢
  have hl : lv_has ls 1 [(0, .ref h0)] := hl
  refine lv_aload_n hx hb dX2_isSource_0 rfl (lv_at hl 0 rfl) ?_
  refine va_get (D := (dC, dI)) (ci := 3) (v := .ref (z.2.1 0)) (C := RX2) (T := TX2) (N := 19) hx hb hts in_X2 hown hK hP 0 rfl rfl 1 (by decide) (hts _ q_98) (fun _ h9 => h9) rfl dX2_isSource_1 ?_
  refine va_gets (own := RX2) (ref := "Deltacycle$NetKind") hx hb (hX.2.1.1 0 (by decide)).1 hS hown (hts _ q_130) (fun _ h9 => h9) dX2_isSource_4 ?_
  refine lv_acmp_eq (rx := (some (z.2.1 0))) (ry := (some (z.2.1 0))) (tgt := 20) hx hb dX2_isSource_7 (by decide) (fun _ => ?_) (fun cz => absurd rfl cz)
  refine lv_iconst (v := 1) hx hb dX2_isSource_20 (by decide) ?_
  refine lv_goto (tgt := 25) hx hb dX2_isSource_21 (by decide) ?_
  exact W.zret (v := 1) (ty := .boolean) hx hb hr rfl (fun t9 ht9 hW9 => ⟨⟨1, (), rfl, rfl, ⟨pq_mk2 hP hD hK [0] [] rfl rfl rfl ht9 hW9, by rw [ht9]; exact Nat.le_trans (Nat.add_le_add_left (Nat.le_of_ble_eq_true rfl) _) hG⟩⟩, hS.F ht9⟩) hS.2.2 dX2_isSource_25

set_option maxHeartbeats 4000000 in
set_option maxRecDepth 100000 in
theorem k837_isSource (l : Launch) (hl9 : l.stackTraces = false) (dC : Nat → ClassId) (dI : Nat → Nat → Nat) (z : XZ) (h0 : Nat) (o0 : Nat) (sz : Nat) : Met l yX2_isSource (.code yX2_isSource cX2_isSource 1 (some .boolean) :: wsL_law) ({ frames := 0, cells := 0, slots := 0, locals := 0 }) (va_Pc [.ref h0] (PC (dC, dI) [(h0, ce421 (z.2.1 0) o0 h0)] [] sz z)) (va_Qi (fun (r : Int32) (_ : Unit) => r = 1) (fun (_ : Unit) (t : State) => PG (dC, dI) [(h0, ce421 (z.2.1 0) o0 h0)] [] (va_A [(h0, ce421 (z.2.1 0) o0 h0)] sz) sz 0 t) (va_A [(h0, ce421 (z.2.1 0) o0 h0)] sz)) 0 0 (va_A [(h0, ce421 (z.2.1 0) o0 h0)] sz) := by
  refine Met.ofW (cc := cX2_isSource) (maxL := 1) (ret := (some .boolean)) (by decide) rfl ?_
  intro p e s m args below meth c s₁ B hml hv
  obtain ⟨rfl, hsz, hP, hK, hD0, hX, hT⟩ := hv
  have hx := B.exec
  have hb := B.bytes
  have hr := B.returns
  have hts0 := atoms_spec (ws := .code yX2_isSource cX2_isSource 1 (some .boolean) :: wsL_law) B.pre
  have hts := xTail hts0
  have hown : s.vm.findClass RX2 = some m.cls := xown B.named rfl
  have hlocks := B.notSynchronized
  subst hsz
  have hD := hD0.self (sz := s.heap.size)
  generalize hAe : va_A [(h0, ce421 (z.2.1 0) o0 h0)] s.heap.size = A at hD hX ⊢
  have hA : ∀ q : Nat, s.heap.size ≤ q → A q := fun q h => by rw [← hAe]; exact Or.inr h
  have hS : va_S A s.heap s.heap [] := va_S.rf
  have hG : s.heap.size + 0 ≤ s.heap.size := Nat.le_refl _
  have hl := lv_entry ([.ref h0]) (n := 1) (Nat.le_of_ble_eq_true rfl)
  rw [lg_entry_eq]
  generalize (lg_sl ([.ref h0]) ++ List.replicate (1 - (lg_sl ([.ref h0])).length) Slot.unset).toArray = ls at hl ⊢
  have hl : lv_has ls 1 [(0, .ref h0)] := hl
  refine lv_aload_n hx hb dX2_isSource_0 rfl (lv_at hl 0 rfl) ?_
  refine va_get (D := (dC, dI)) (ci := 3) (v := .ref (z.2.1 0)) (C := RX2) (T := TX2) (N := 19) hx hb hts in_X2 hown hK hP 0 rfl rfl 1 (by decide) (hts _ q_98) (fun _ h9 => h9) rfl dX2_isSource_1 ?_
  refine va_gets (own := RX2) (ref := "Deltacycle$NetKind") hx hb (hX.2.1.1 0 (by decide)).1 hS hown (hts _ q_130) (fun _ h9 => h9) dX2_isSource_4 ?_
  refine lv_acmp_eq (rx := (some (z.2.1 0))) (ry := (some (z.2.1 0))) (tgt := 20) hx hb dX2_isSource_7 (by decide) (fun _ => ?_) (fun cz => absurd rfl cz)
  refine lv_iconst (v := 1) hx hb dX2_isSource_20 (by decide) ?_
  refine lv_goto (tgt := 25) hx hb dX2_isSource_21 (by decide) ?_
  exact W.zret (v := 1) (ty := .boolean) hx hb hr rfl (fun t9 ht9 hW9 => ⟨⟨1, (), rfl, rfl, ⟨pq_mk2 hP hD hK [0] [] rfl rfl rfl ht9 hW9, by rw [ht9]; exact Nat.le_trans (Nat.add_le_add_left (Nat.le_of_ble_eq_true rfl) _) hG⟩⟩, hS.F ht9⟩) hS.2.2 dX2_isSource_25

set_option maxHeartbeats 4000000 in
set_option maxRecDepth 100000 in
theorem k838_isSource (l : Launch) (hl9 : l.stackTraces = false) (dC : Nat → ClassId) (dI : Nat → Nat → Nat) (z : XZ) (h0 : Nat) (o0 : Nat) (sz : Nat) : Met l yX2_isSource (.code yX2_isSource cX2_isSource 1 (some .boolean) :: wsL_law) ({ frames := 0, cells := 0, slots := 0, locals := 0 }) (va_Pc [.ref h0] (PC (dC, dI) [(h0, ce422 (z.2.1 0) o0 h0)] [] sz z)) (va_Qi (fun (r : Int32) (_ : Unit) => r = 1) (fun (_ : Unit) (t : State) => PG (dC, dI) [(h0, ce422 (z.2.1 0) o0 h0)] [] (va_A [(h0, ce422 (z.2.1 0) o0 h0)] sz) sz 0 t) (va_A [(h0, ce422 (z.2.1 0) o0 h0)] sz)) 0 0 (va_A [(h0, ce422 (z.2.1 0) o0 h0)] sz) := by
  refine Met.ofW (cc := cX2_isSource) (maxL := 1) (ret := (some .boolean)) (by decide) rfl ?_
  intro p e s m args below meth c s₁ B hml hv
  obtain ⟨rfl, hsz, hP, hK, hD0, hX, hT⟩ := hv
  have hx := B.exec
  have hb := B.bytes
  have hr := B.returns
  have hts0 := atoms_spec (ws := .code yX2_isSource cX2_isSource 1 (some .boolean) :: wsL_law) B.pre
  have hts := xTail hts0
  have hown : s.vm.findClass RX2 = some m.cls := xown B.named rfl
  have hlocks := B.notSynchronized
  subst hsz
  have hD := hD0.self (sz := s.heap.size)
  generalize hAe : va_A [(h0, ce422 (z.2.1 0) o0 h0)] s.heap.size = A at hD hX ⊢
  have hA : ∀ q : Nat, s.heap.size ≤ q → A q := fun q h => by rw [← hAe]; exact Or.inr h
  have hS : va_S A s.heap s.heap [] := va_S.rf
  have hG : s.heap.size + 0 ≤ s.heap.size := Nat.le_refl _
  have hl := lv_entry ([.ref h0]) (n := 1) (Nat.le_of_ble_eq_true rfl)
  rw [lg_entry_eq]
  generalize (lg_sl ([.ref h0]) ++ List.replicate (1 - (lg_sl ([.ref h0])).length) Slot.unset).toArray = ls at hl ⊢
  have hl : lv_has ls 1 [(0, .ref h0)] := hl
  refine lv_aload_n hx hb dX2_isSource_0 rfl (lv_at hl 0 rfl) ?_
  refine va_get (D := (dC, dI)) (ci := 3) (v := .ref (z.2.1 0)) (C := RX2) (T := TX2) (N := 19) hx hb hts in_X2 hown hK hP 0 rfl rfl 1 (by decide) (hts _ q_98) (fun _ h9 => h9) rfl dX2_isSource_1 ?_
  refine va_gets (own := RX2) (ref := "Deltacycle$NetKind") hx hb (hX.2.1.1 0 (by decide)).1 hS hown (hts _ q_130) (fun _ h9 => h9) dX2_isSource_4 ?_
  refine lv_acmp_eq (rx := (some (z.2.1 0))) (ry := (some (z.2.1 0))) (tgt := 20) hx hb dX2_isSource_7 (by decide) (fun _ => ?_) (fun cz => absurd rfl cz)
  refine lv_iconst (v := 1) hx hb dX2_isSource_20 (by decide) ?_
  refine lv_goto (tgt := 25) hx hb dX2_isSource_21 (by decide) ?_
  exact W.zret (v := 1) (ty := .boolean) hx hb hr rfl (fun t9 ht9 hW9 => ⟨⟨1, (), rfl, rfl, ⟨pq_mk2 hP hD hK [0] [] rfl rfl rfl ht9 hW9, by rw [ht9]; exact Nat.le_trans (Nat.add_le_add_left (Nat.le_of_ble_eq_true rfl) _) hG⟩⟩, hS.F ht9⟩) hS.2.2 dX2_isSource_25

set_option maxHeartbeats 4000000 in
set_option maxRecDepth 100000 in
theorem k839_isSource (l : Launch) (hl9 : l.stackTraces = false) (dC : Nat → ClassId) (dI : Nat → Nat → Nat) (z : XZ) (h0 : Nat) (o0 : Nat) (sz : Nat) : Met l yX2_isSource (.code yX2_isSource cX2_isSource 1 (some .boolean) :: wsL_law) ({ frames := 0, cells := 0, slots := 0, locals := 0 }) (va_Pc [.ref h0] (PC (dC, dI) [(h0, ce423 (z.2.1 0) o0 h0)] [] sz z)) (va_Qi (fun (r : Int32) (_ : Unit) => r = 1) (fun (_ : Unit) (t : State) => PG (dC, dI) [(h0, ce423 (z.2.1 0) o0 h0)] [] (va_A [(h0, ce423 (z.2.1 0) o0 h0)] sz) sz 0 t) (va_A [(h0, ce423 (z.2.1 0) o0 h0)] sz)) 0 0 (va_A [(h0, ce423 (z.2.1 0) o0 h0)] sz) := by
  refine Met.ofW (cc := cX2_isSource) (maxL := 1) (ret := (some .boolean)) (by decide) rfl ?_
  intro p e s m args below meth c s₁ B hml hv
  obtain ⟨rfl, hsz, hP, hK, hD0, hX, hT⟩ := hv
  have hx := B.exec
  have hb := B.bytes
  have hr := B.returns
  have hts0 := atoms_spec (ws := .code yX2_isSource cX2_isSource 1 (some .boolean) :: wsL_law) B.pre
  have hts := xTail hts0
  have hown : s.vm.findClass RX2 = some m.cls := xown B.named rfl
  have hlocks := B.notSynchronized
  subst hsz
  have hD := hD0.self (sz := s.heap.size)
  generalize hAe : va_A [(h0, ce423 (z.2.1 0) o0 h0)] s.heap.size = A at hD hX ⊢
  have hA : ∀ q : Nat, s.heap.size ≤ q → A q := fun q h => by rw [← hAe]; exact Or.inr h
  have hS : va_S A s.heap s.heap [] := va_S.rf
  have hG : s.heap.size + 0 ≤ s.heap.size := Nat.le_refl _
  have hl := lv_entry ([.ref h0]) (n := 1) (Nat.le_of_ble_eq_true rfl)
  rw [lg_entry_eq]
  generalize (lg_sl ([.ref h0]) ++ List.replicate (1 - (lg_sl ([.ref h0])).length) Slot.unset).toArray = ls at hl ⊢
  have hl : lv_has ls 1 [(0, .ref h0)] := hl
  refine lv_aload_n hx hb dX2_isSource_0 rfl (lv_at hl 0 rfl) ?_
  refine va_get (D := (dC, dI)) (ci := 3) (v := .ref (z.2.1 0)) (C := RX2) (T := TX2) (N := 19) hx hb hts in_X2 hown hK hP 0 rfl rfl 1 (by decide) (hts _ q_98) (fun _ h9 => h9) rfl dX2_isSource_1 ?_
  refine va_gets (own := RX2) (ref := "Deltacycle$NetKind") hx hb (hX.2.1.1 0 (by decide)).1 hS hown (hts _ q_130) (fun _ h9 => h9) dX2_isSource_4 ?_
  refine lv_acmp_eq (rx := (some (z.2.1 0))) (ry := (some (z.2.1 0))) (tgt := 20) hx hb dX2_isSource_7 (by decide) (fun _ => ?_) (fun cz => absurd rfl cz)
  refine lv_iconst (v := 1) hx hb dX2_isSource_20 (by decide) ?_
  refine lv_goto (tgt := 25) hx hb dX2_isSource_21 (by decide) ?_
  exact W.zret (v := 1) (ty := .boolean) hx hb hr rfl (fun t9 ht9 hW9 => ⟨⟨1, (), rfl, rfl, ⟨pq_mk2 hP hD hK [0] [] rfl rfl rfl ht9 hW9, by rw [ht9]; exact Nat.le_trans (Nat.add_le_add_left (Nat.le_of_ble_eq_true rfl) _) hG⟩⟩, hS.F ht9⟩) hS.2.2 dX2_isSource_25

set_option maxHeartbeats 4000000 in
set_option maxRecDepth 100000 in
theorem k840_isSource (l : Launch) (hl9 : l.stackTraces = false) (dC : Nat → ClassId) (dI : Nat → Nat → Nat) (z : XZ) (h0 : Nat) (o0 : Nat) (sz : Nat) : Met l yX2_isSource (.code yX2_isSource cX2_isSource 1 (some .boolean) :: wsL_law) ({ frames := 0, cells := 0, slots := 0, locals := 0 }) (va_Pc [.ref h0] (PC (dC, dI) [(h0, ce424 (z.2.1 0) o0 h0)] [] sz z)) (va_Qi (fun (r : Int32) (_ : Unit) => r = 1) (fun (_ : Unit) (t : State) => PG (dC, dI) [(h0, ce424 (z.2.1 0) o0 h0)] [] (va_A [(h0, ce424 (z.2.1 0) o0 h0)] sz) sz 0 t) (va_A [(h0, ce424 (z.2.1 0) o0 h0)] sz)) 0 0 (va_A [(h0, ce424 (z.2.1 0) o0 h0)] sz) := by
  refine Met.ofW (cc := cX2_isSource) (maxL := 1) (ret := (some .boolean)) (by decide) rfl ?_
  intro p e s m args below meth c s₁ B hml hv
  obtain ⟨rfl, hsz, hP, hK, hD0, hX, hT⟩ := hv
  have hx := B.exec
  have hb := B.bytes
  have hr := B.returns
  have hts0 := atoms_spec (ws := .code yX2_isSource cX2_isSource 1 (some .boolean) :: wsL_law) B.pre
  have hts := xTail hts0
  have hown : s.vm.findClass RX2 = some m.cls := xown B.named rfl
  have hlocks := B.notSynchronized
  subst hsz
  have hD := hD0.self (sz := s.heap.size)
  generalize hAe : va_A [(h0, ce424 (z.2.1 0) o0 h0)] s.heap.size = A at hD hX ⊢
  have hA : ∀ q : Nat, s.heap.size ≤ q → A q := fun q h => by rw [← hAe]; exact Or.inr h
  have hS : va_S A s.heap s.heap [] := va_S.rf
  have hG : s.heap.size + 0 ≤ s.heap.size := Nat.le_refl _
  have hl := lv_entry ([.ref h0]) (n := 1) (Nat.le_of_ble_eq_true rfl)
  rw [lg_entry_eq]
  generalize (lg_sl ([.ref h0]) ++ List.replicate (1 - (lg_sl ([.ref h0])).length) Slot.unset).toArray = ls at hl ⊢
  have hl : lv_has ls 1 [(0, .ref h0)] := hl
  refine lv_aload_n hx hb dX2_isSource_0 rfl (lv_at hl 0 rfl) ?_
  refine va_get (D := (dC, dI)) (ci := 3) (v := .ref (z.2.1 0)) (C := RX2) (T := TX2) (N := 19) hx hb hts in_X2 hown hK hP 0 rfl rfl 1 (by decide) (hts _ q_98) (fun _ h9 => h9) rfl dX2_isSource_1 ?_
  refine va_gets (own := RX2) (ref := "Deltacycle$NetKind") hx hb (hX.2.1.1 0 (by decide)).1 hS hown (hts _ q_130) (fun _ h9 => h9) dX2_isSource_4 ?_
  refine lv_acmp_eq (rx := (some (z.2.1 0))) (ry := (some (z.2.1 0))) (tgt := 20) hx hb dX2_isSource_7 (by decide) (fun _ => ?_) (fun cz => absurd rfl cz)
  refine lv_iconst (v := 1) hx hb dX2_isSource_20 (by decide) ?_
  refine lv_goto (tgt := 25) hx hb dX2_isSource_21 (by decide) ?_
  exact W.zret (v := 1) (ty := .boolean) hx hb hr rfl (fun t9 ht9 hW9 => ⟨⟨1, (), rfl, rfl, ⟨pq_mk2 hP hD hK [0] [] rfl rfl rfl ht9 hW9, by rw [ht9]; exact Nat.le_trans (Nat.add_le_add_left (Nat.le_of_ble_eq_true rfl) _) hG⟩⟩, hS.F ht9⟩) hS.2.2 dX2_isSource_25

set_option maxHeartbeats 4000000 in
set_option maxRecDepth 100000 in
theorem k841_isSource (l : Launch) (hl9 : l.stackTraces = false) (dC : Nat → ClassId) (dI : Nat → Nat → Nat) (z : XZ) (h0 : Nat) (o0 : Nat) (sz : Nat) : Met l yX2_isSource (.code yX2_isSource cX2_isSource 1 (some .boolean) :: wsL_law) ({ frames := 0, cells := 0, slots := 0, locals := 0 }) (va_Pc [.ref h0] (PC (dC, dI) [(h0, ce425 (z.2.1 0) o0 h0)] [] sz z)) (va_Qi (fun (r : Int32) (_ : Unit) => r = 1) (fun (_ : Unit) (t : State) => PG (dC, dI) [(h0, ce425 (z.2.1 0) o0 h0)] [] (va_A [(h0, ce425 (z.2.1 0) o0 h0)] sz) sz 0 t) (va_A [(h0, ce425 (z.2.1 0) o0 h0)] sz)) 0 0 (va_A [(h0, ce425 (z.2.1 0) o0 h0)] sz) := by
  refine Met.ofW (cc := cX2_isSource) (maxL := 1) (ret := (some .boolean)) (by decide) rfl ?_
  intro p e s m args below meth c s₁ B hml hv
  obtain ⟨rfl, hsz, hP, hK, hD0, hX, hT⟩ := hv
  have hx := B.exec
  have hb := B.bytes
  have hr := B.returns
  have hts0 := atoms_spec (ws := .code yX2_isSource cX2_isSource 1 (some .boolean) :: wsL_law) B.pre
  have hts := xTail hts0
  have hown : s.vm.findClass RX2 = some m.cls := xown B.named rfl
  have hlocks := B.notSynchronized
  subst hsz
  have hD := hD0.self (sz := s.heap.size)
  generalize hAe : va_A [(h0, ce425 (z.2.1 0) o0 h0)] s.heap.size = A at hD hX ⊢
  have hA : ∀ q : Nat, s.heap.size ≤ q → A q := fun q h => by rw [← hAe]; exact Or.inr h
  have hS : va_S A s.heap s.heap [] := va_S.rf
  have hG : s.heap.size + 0 ≤ s.heap.size := Nat.le_refl _
  have hl := lv_entry ([.ref h0]) (n := 1) (Nat.le_of_ble_eq_true rfl)
  rw [lg_entry_eq]
  generalize (lg_sl ([.ref h0]) ++ List.replicate (1 - (lg_sl ([.ref h0])).length) Slot.unset).toArray = ls at hl ⊢
  have hl : lv_has ls 1 [(0, .ref h0)] := hl
  refine lv_aload_n hx hb dX2_isSource_0 rfl (lv_at hl 0 rfl) ?_
  refine va_get (D := (dC, dI)) (ci := 3) (v := .ref (z.2.1 0)) (C := RX2) (T := TX2) (N := 19) hx hb hts in_X2 hown hK hP 0 rfl rfl 1 (by decide) (hts _ q_98) (fun _ h9 => h9) rfl dX2_isSource_1 ?_
  refine va_gets (own := RX2) (ref := "Deltacycle$NetKind") hx hb (hX.2.1.1 0 (by decide)).1 hS hown (hts _ q_130) (fun _ h9 => h9) dX2_isSource_4 ?_
  refine lv_acmp_eq (rx := (some (z.2.1 0))) (ry := (some (z.2.1 0))) (tgt := 20) hx hb dX2_isSource_7 (by decide) (fun _ => ?_) (fun cz => absurd rfl cz)
  refine lv_iconst (v := 1) hx hb dX2_isSource_20 (by decide) ?_
  refine lv_goto (tgt := 25) hx hb dX2_isSource_21 (by decide) ?_
  exact W.zret (v := 1) (ty := .boolean) hx hb hr rfl (fun t9 ht9 hW9 => ⟨⟨1, (), rfl, rfl, ⟨pq_mk2 hP hD hK [0] [] rfl rfl rfl ht9 hW9, by rw [ht9]; exact Nat.le_trans (Nat.add_le_add_left (Nat.le_of_ble_eq_true rfl) _) hG⟩⟩, hS.F ht9⟩) hS.2.2 dX2_isSource_25

set_option maxHeartbeats 4000000 in
set_option maxRecDepth 100000 in
theorem k842_isSource (l : Launch) (hl9 : l.stackTraces = false) (dC : Nat → ClassId) (dI : Nat → Nat → Nat) (z : XZ) (h0 : Nat) (o0 : Nat) (sz : Nat) : Met l yX2_isSource (.code yX2_isSource cX2_isSource 1 (some .boolean) :: wsL_law) ({ frames := 0, cells := 0, slots := 0, locals := 0 }) (va_Pc [.ref h0] (PC (dC, dI) [(h0, ce426 (z.2.1 0) o0 h0)] [] sz z)) (va_Qi (fun (r : Int32) (_ : Unit) => r = 1) (fun (_ : Unit) (t : State) => PG (dC, dI) [(h0, ce426 (z.2.1 0) o0 h0)] [] (va_A [(h0, ce426 (z.2.1 0) o0 h0)] sz) sz 0 t) (va_A [(h0, ce426 (z.2.1 0) o0 h0)] sz)) 0 0 (va_A [(h0, ce426 (z.2.1 0) o0 h0)] sz) := by
  refine Met.ofW (cc := cX2_isSource) (maxL := 1) (ret := (some .boolean)) (by decide) rfl ?_
  intro p e s m args below meth c s₁ B hml hv
  obtain ⟨rfl, hsz, hP, hK, hD0, hX, hT⟩ := hv
  have hx := B.exec
  have hb := B.bytes
  have hr := B.returns
  have hts0 := atoms_spec (ws := .code yX2_isSource cX2_isSource 1 (some .boolean) :: wsL_law) B.pre
  have hts := xTail hts0
  have hown : s.vm.findClass RX2 = some m.cls := xown B.named rfl
  have hlocks := B.notSynchronized
  subst hsz
  have hD := hD0.self (sz := s.heap.size)
  generalize hAe : va_A [(h0, ce426 (z.2.1 0) o0 h0)] s.heap.size = A at hD hX ⊢
  have hA : ∀ q : Nat, s.heap.size ≤ q → A q := fun q h => by rw [← hAe]; exact Or.inr h
  have hS : va_S A s.heap s.heap [] := va_S.rf
  have hG : s.heap.size + 0 ≤ s.heap.size := Nat.le_refl _
  have hl := lv_entry ([.ref h0]) (n := 1) (Nat.le_of_ble_eq_true rfl)
  rw [lg_entry_eq]
  generalize (lg_sl ([.ref h0]) ++ List.replicate (1 - (lg_sl ([.ref h0])).length) Slot.unset).toArray = ls at hl ⊢
  have hl : lv_has ls 1 [(0, .ref h0)] := hl
  refine lv_aload_n hx hb dX2_isSource_0 rfl (lv_at hl 0 rfl) ?_
  refine va_get (D := (dC, dI)) (ci := 3) (v := .ref (z.2.1 0)) (C := RX2) (T := TX2) (N := 19) hx hb hts in_X2 hown hK hP 0 rfl rfl 1 (by decide) (hts _ q_98) (fun _ h9 => h9) rfl dX2_isSource_1 ?_
  refine va_gets (own := RX2) (ref := "Deltacycle$NetKind") hx hb (hX.2.1.1 0 (by decide)).1 hS hown (hts _ q_130) (fun _ h9 => h9) dX2_isSource_4 ?_
  refine lv_acmp_eq (rx := (some (z.2.1 0))) (ry := (some (z.2.1 0))) (tgt := 20) hx hb dX2_isSource_7 (by decide) (fun _ => ?_) (fun cz => absurd rfl cz)
  refine lv_iconst (v := 1) hx hb dX2_isSource_20 (by decide) ?_
  refine lv_goto (tgt := 25) hx hb dX2_isSource_21 (by decide) ?_
  exact W.zret (v := 1) (ty := .boolean) hx hb hr rfl (fun t9 ht9 hW9 => ⟨⟨1, (), rfl, rfl, ⟨pq_mk2 hP hD hK [0] [] rfl rfl rfl ht9 hW9, by rw [ht9]; exact Nat.le_trans (Nat.add_le_add_left (Nat.le_of_ble_eq_true rfl) _) hG⟩⟩, hS.F ht9⟩) hS.2.2 dX2_isSource_25

set_option maxHeartbeats 4000000 in
set_option maxRecDepth 100000 in
theorem k843_settle (l : Launch) (hl9 : l.stackTraces = false) (dC : Nat → ClassId) (dI : Nat → Nat → Nat) (z : XZ) (h0 h1 h2 h3 h4 h5 h6 h7 h8 h9 : Nat) (o0 o1 o2 o3 o4 o5 o6 o7 o8 o9 : Nat) (sz : Nat) (kc0 : ClassId) : Met l yX0_settle (.code yX0_settle cX0_settle 5 none :: wsL_law) ({ frames := 3, cells := 0, slots := 0, locals := 64 }) (va_Pc [.ref h0, .null, .int 120] (PC (dC, dI) [(h0, ce7 o0 o1 o2 h1), (h1, ce366 h2), (h2, ce330 kc0 h3 h4 h5 h6 h7 h8 h9), (h3, ce420 (z.2.1 0) o3 h3), (h4, ce421 (z.2.1 0) o4 h4), (h5, ce422 (z.2.1 0) o5 h5), (h6, ce423 (z.2.1 0) o6 h6), (h7, ce424 (z.2.1 0) o7 h7), (h8, ce425 (z.2.1 0) o8 h8), (h9, ce426 (z.2.1 0) o9 h9)] [(kc0, .object "java/lang/Object")] sz z)) (va_Qv (fun (_ : Unit) => True) (fun (_ : Unit) (t : State) => PG (dC, dI) [(h0, ce7 o0 o1 o2 h1), (h1, ce366 h2), (h2, ce330 kc0 h3 h4 h5 h6 h7 h8 h9), (h3, ce420 (z.2.1 0) o3 h3), (h4, ce421 (z.2.1 0) o4 h4), (h5, ce422 (z.2.1 0) o5 h5), (h6, ce423 (z.2.1 0) o6 h6), (h7, ce424 (z.2.1 0) o7 h7), (h8, ce425 (z.2.1 0) o8 h8), (h9, ce426 (z.2.1 0) o9 h9)] [(kc0, .object "java/lang/Object")] (va_A [(h0, ce7 o0 o1 o2 h1), (h1, ce366 h2), (h2, ce330 kc0 h3 h4 h5 h6 h7 h8 h9), (h3, ce420 (z.2.1 0) o3 h3), (h4, ce421 (z.2.1 0) o4 h4), (h5, ce422 (z.2.1 0) o5 h5), (h6, ce423 (z.2.1 0) o6 h6), (h7, ce424 (z.2.1 0) o7 h7), (h8, ce425 (z.2.1 0) o8 h8), (h9, ce426 (z.2.1 0) o9 h9)] sz) sz 0 t) (va_A [(h0, ce7 o0 o1 o2 h1), (h1, ce366 h2), (h2, ce330 kc0 h3 h4 h5 h6 h7 h8 h9), (h3, ce420 (z.2.1 0) o3 h3), (h4, ce421 (z.2.1 0) o4 h4), (h5, ce422 (z.2.1 0) o5 h5), (h6, ce423 (z.2.1 0) o6 h6), (h7, ce424 (z.2.1 0) o7 h7), (h8, ce425 (z.2.1 0) o8 h8), (h9, ce426 (z.2.1 0) o9 h9)] sz)) 0 0 (va_A [(h0, ce7 o0 o1 o2 h1), (h1, ce366 h2), (h2, ce330 kc0 h3 h4 h5 h6 h7 h8 h9), (h3, ce420 (z.2.1 0) o3 h3), (h4, ce421 (z.2.1 0) o4 h4), (h5, ce422 (z.2.1 0) o5 h5), (h6, ce423 (z.2.1 0) o6 h6), (h7, ce424 (z.2.1 0) o7 h7), (h8, ce425 (z.2.1 0) o8 h8), (h9, ce426 (z.2.1 0) o9 h9)] sz) := by
  refine Met.ofW (cc := cX0_settle) (maxL := 5) (ret := none) (by decide) rfl ?_
  intro p e s m args below meth c s₁ B hml hv
  obtain ⟨rfl, hsz, hP, hK, hD0, hX, hT⟩ := hv
  have hx := B.exec
  have hb := B.bytes
  have hr := B.returns
  have hts0 := atoms_spec (ws := .code yX0_settle cX0_settle 5 none :: wsL_law) B.pre
  have hts := xTail hts0
  have hown : s.vm.findClass RX0 = some m.cls := xown B.named rfl
  have hlocks := B.notSynchronized
  subst hsz
  have hD := hD0.self (sz := s.heap.size)
  generalize hAe : va_A [(h0, ce7 o0 o1 o2 h1), (h1, ce366 h2), (h2, ce330 kc0 h3 h4 h5 h6 h7 h8 h9), (h3, ce420 (z.2.1 0) o3 h3), (h4, ce421 (z.2.1 0) o4 h4), (h5, ce422 (z.2.1 0) o5 h5), (h6, ce423 (z.2.1 0) o6 h6), (h7, ce424 (z.2.1 0) o7 h7), (h8, ce425 (z.2.1 0) o8 h8), (h9, ce426 (z.2.1 0) o9 h9)] s.heap.size = A at hD hX ⊢
  have hA : ∀ q : Nat, s.heap.size ≤ q → A q := fun q h => by rw [← hAe]; exact Or.inr h
  have hS : va_S A s.heap s.heap [] := va_S.rf
  have hG : s.heap.size + 0 ≤ s.heap.size := Nat.le_refl _
  have hl := lv_entry ([.ref h0, .null, .int 120]) (n := 5) (Nat.le_of_ble_eq_true rfl)
  rw [lg_entry_eq]
  generalize (lg_sl ([.ref h0, .null, .int 120]) ++ List.replicate (5 - (lg_sl ([.ref h0, .null, .int 120])).length) Slot.unset).toArray = ls at hl ⊢
  have hl : lv_has ls 5 [(0, .ref h0), (1, .null), (2, .int 120)] := hl
  refine lv_iconst (v := 0) hx hb dX0_settle_0 (by decide) ?_
  refine lv_istore_n (lv' := [(3, .int 0), (0, .ref h0), (1, .null), (2, .int 120)]) hx hb dX0_settle_1 rfl hl (by decide) rfl (fun ls hl => ?_)
  refine lv_iload_n hx hb dX0_settle_2 rfl (lv_at hl 0 rfl) ?_
  refine lv_aload_n hx hb dX0_settle_3 rfl (lv_at hl 1 rfl) ?_
  refine va_get (D := (dC, dI)) (ci := 2) (v := .ref h1) (C := RX0) (T := TX0) (N := 4) hx hb hts in_X0 hown hK hP 0 rfl rfl 3 (by decide) (hts _ q_31) (fun _ h9 => h9) rfl dX0_settle_4 ?_
  have hM3 := k20_size l hl9 dC dI z h1 h2 s.heap.size 35 7
  obtain ⟨hF1, hC4⟩ := pc_M hM3 hP hD hK hS hX hT hA [1] [] rfl rfl rfl
  refine va_calli (va_runV (As := []) (rest := [.int 0]) ⟨hx, hb, hml, hown, hts⟩ hM3 (cwV 0 hts (gV q_92 q_77 q_78 q_12 q_75) rfl rfl rfl hV_Jx4a65c_size_8abf5 ⟨Nat.le_of_ble_eq_true rfl, Nat.le_of_ble_eq_true rfl⟩) ⟨pc_blind, va_recv hK hP (ci := 0) (q := (RJx4a65c, TJx4a65c, 3)) (q0 := 1) rfl rfl, fun U hU hW => ⟨rfl, hC4 U hU hW⟩⟩ rfl rfl hl.1 rfl (lv_room (Nat.le_of_ble_eq_true rfl)) dX0_settle_7 ⟨(Nat.le_of_ble_eq_true rfl), (Nat.le_of_ble_eq_true rfl)⟩) hS (fun q9 _ h9 => hF1 q9 h9) hF1 (fun r6 u5 t5 H5 L5 ht5 hvm5 hw5 hB5 hz5 hk5 hS => ?_)
  have hP := pq_keep hP hD [1] rfl hk5 hB5.1 ht5
  have hG : s.heap.size + 0 ≤ H5.size := Nat.le_trans hG hz5
  refine W.eq (g2 := F0 m 10 ls [.int 7, .int 0]) (by rw [hw5]) ?_
  refine lv_icmp_ge (tgt := 65) hx hb dX0_settle_10 (by decide) (fun cz => absurd cz (by decide)) (fun _ => ?_)
  refine lv_aload_n hx hb dX0_settle_13 rfl (lv_at hl 1 rfl) ?_
  refine va_get (D := (dC, dI)) (ci := 2) (v := .ref h1) (C := RX0) (T := TX0) (N := 4) hx hb hts in_X0 hown hK hP 0 rfl rfl 3 (by decide) (hts _ q_31) (fun _ h9 => h9) rfl dX0_settle_14 ?_
  refine lv_iload_n hx hb dX0_settle_17 rfl (lv_at hl 0 rfl) ?_
  have hM9 := k676_get l hl9 dC dI z h1 h2 h3 h4 h5 h6 h7 h8 h9 H5.size kc0
  obtain ⟨hF7, hC10⟩ := pc_M hM9 hP hD hK hS hX hT hA [1, 2] [0] rfl rfl rfl
  refine va_callr (va_runV (As := [.int 0]) (rest := []) ⟨hx, hb, hml, hown, hts⟩ hM9 (cwV 1 hts (gV q_156 q_157 q_158 q_12 q_155) rfl rfl rfl hV_Jx4a65c_get_915e3 ⟨Nat.le_of_ble_eq_true rfl, Nat.le_of_ble_eq_true rfl⟩) ⟨pc_blind, va_recv hK hP (ci := 0) (q := (RJx4a65c, TJx4a65c, 3)) (q0 := 1) rfl rfl, fun U hU hW => ⟨rfl, hC10 U hU hW⟩⟩ rfl rfl hl.1 rfl (lv_room (Nat.le_of_ble_eq_true rfl)) dX0_settle_18 ⟨(Nat.le_of_ble_eq_true rfl), (Nat.le_of_ble_eq_true rfl)⟩) hS (fun q9 _ h9 => hF7 q9 h9) hF7 (fun u11 r12 t11 H11 L11 ht11 hvm11 hw11 hB11 hz11 hk11 hS => ?_)
  obtain ⟨hr11, hB11⟩ := hB11
  have hP := pq_keep hP hD [1, 2] rfl hk11 hB11.1 ht11
  have hG : s.heap.size + 0 ≤ H11.size := Nat.le_trans hG hz11
  refine W.eq (g2 := F0 m 21 ls [.ref h3]) (by rw [hr11]) ?_
  refine va_castE (nm := RX2) hx hb hown (hts _ q_89) (va_recv hK hP (ci := 3) (q := (RX2, TX2, 19)) (q0 := 3) rfl rfl) dX0_settle_21 ?_
  refine lv_astore (lv' := [(4, .ref h3), (3, .int 0), (0, .ref h0), (1, .null), (2, .int 120)]) hx hb dX0_settle_24 hl (by decide) rfl (fun ls hl => ?_)
  refine lv_aload hx hb dX0_settle_26 (lv_at hl 0 rfl) ?_
  refine lv_aload_nN hx hb dX0_settle_28 rfl (lv_at hl 3 rfl) ?_
  refine lv_acmp_ne (rx := (some h3)) (ry := none) (tgt := 41) hx hb dX0_settle_29 (by decide) (fun _ => ?_) (fun cz => absurd cz (by simp))
  refine lv_aload hx hb dX0_settle_41 (lv_at hl 0 rfl) ?_
  have hM15 := k836_isSource l hl9 dC dI z h3 o3 H11.size
  obtain ⟨hF13, hC16⟩ := pc_M hM15 hP hD hK hS hX hT hA [3] [] rfl rfl rfl
  refine va_calli (va_runV (As := []) (rest := []) ⟨hx, hb, hml, hown, hts⟩ hM15 (cwV 0 hts (gV q_132 q_133 q_134 q_91 q_131) rfl rfl rfl hV_X2_isSource ⟨Nat.le_of_ble_eq_true rfl, Nat.le_of_ble_eq_true rfl⟩) ⟨pc_blind, va_recv hK hP (ci := 3) (q := (RX2, TX2, 19)) (q0 := 3) rfl rfl, fun U hU hW => ⟨rfl, hC16 U hU hW⟩⟩ rfl rfl hl.1 rfl (lv_room (Nat.le_of_ble_eq_true rfl)) dX0_settle_43 ⟨(Nat.le_of_ble_eq_true rfl), (Nat.le_of_ble_eq_true rfl)⟩) hS (fun q9 _ h9 => hF13 q9 h9) hF13 (fun r18 u17 t17 H17 L17 ht17 hvm17 hw17 hB17 hz17 hk17 hS => ?_)
  have hP := pq_keep hP hD [3] rfl hk17 hB17.1 ht17
  have hG : s.heap.size + 0 ≤ H17.size := Nat.le_trans hG hz17
  refine W.eq (g2 := F0 m 46 ls [.int 1]) (by rw [hw17]) ?_
  refine lv_if_ne (tgt := 59) hx hb dX0_settle_46 (by decide) (fun _ => ?_) (fun cz => absurd cz (by decide))
  refine lv_iinc (v := 1) (lv' := [(3, .int 1), (4, .ref h3), (0, .ref h0), (1, .null), (2, .int 120)]) hx hb dX0_settle_59 hl (k := 1) rfl (by decide) (by decide) rfl (fun ls hl => ?_)
  refine lv_goto (tgt := 2) hx hb dX0_settle_62 (by decide) ?_
  refine lv_iload_n hx hb dX0_settle_2 rfl (lv_at hl 0 rfl) ?_
  refine lv_aload_n hx hb dX0_settle_3 rfl (lv_at hl 2 rfl) ?_
  refine va_get (D := (dC, dI)) (ci := 2) (v := .ref h1) (C := RX0) (T := TX0) (N := 4) hx hb hts in_X0 hown hK hP 0 rfl rfl 3 (by decide) (hts _ q_31) (fun _ h9 => h9) rfl dX0_settle_4 ?_
  have hM21 := k20_size l hl9 dC dI z h1 h2 H17.size 35 7
  obtain ⟨hF19, hC22⟩ := pc_M hM21 hP hD hK hS hX hT hA [1] [] rfl rfl rfl
  refine va_calli (va_runV (As := []) (rest := [.int 1]) ⟨hx, hb, hml, hown, hts⟩ hM21 (cwV 0 hts (gV q_92 q_77 q_78 q_12 q_75) rfl rfl rfl hV_Jx4a65c_size_8abf5 ⟨Nat.le_of_ble_eq_true rfl, Nat.le_of_ble_eq_true rfl⟩) ⟨pc_blind, va_recv hK hP (ci := 0) (q := (RJx4a65c, TJx4a65c, 3)) (q0 := 1) rfl rfl, fun U hU hW => ⟨rfl, hC22 U hU hW⟩⟩ rfl rfl hl.1 rfl (lv_room (Nat.le_of_ble_eq_true rfl)) dX0_settle_7 ⟨(Nat.le_of_ble_eq_true rfl), (Nat.le_of_ble_eq_true rfl)⟩) hS (fun q9 _ h9 => hF19 q9 h9) hF19 (fun r24 u23 t23 H23 L23 ht23 hvm23 hw23 hB23 hz23 hk23 hS => ?_)
  have hP := pq_keep hP hD [1] rfl hk23 hB23.1 ht23
  have hG : s.heap.size + 0 ≤ H23.size := Nat.le_trans hG hz23
  refine W.eq (g2 := F0 m 10 ls [.int 7, .int 1]) (by rw [hw23]) ?_
  refine lv_icmp_ge (tgt := 65) hx hb dX0_settle_10 (by decide) (fun cz => absurd cz (by decide)) (fun _ => ?_)
  refine lv_aload_n hx hb dX0_settle_13 rfl (lv_at hl 2 rfl) ?_
  refine va_get (D := (dC, dI)) (ci := 2) (v := .ref h1) (C := RX0) (T := TX0) (N := 4) hx hb hts in_X0 hown hK hP 0 rfl rfl 3 (by decide) (hts _ q_31) (fun _ h9 => h9) rfl dX0_settle_14 ?_
  refine lv_iload_n hx hb dX0_settle_17 rfl (lv_at hl 0 rfl) ?_
  have hM27 := k678_get l hl9 dC dI z h1 h2 h3 h4 h5 h6 h7 h8 h9 H23.size kc0
  obtain ⟨hF25, hC28⟩ := pc_M hM27 hP hD hK hS hX hT hA [1, 2] [0] rfl rfl rfl
  refine va_callr (va_runV (As := [.int 1]) (rest := []) ⟨hx, hb, hml, hown, hts⟩ hM27 (cwV 1 hts (gV q_156 q_157 q_158 q_12 q_155) rfl rfl rfl hV_Jx4a65c_get_915e3 ⟨Nat.le_of_ble_eq_true rfl, Nat.le_of_ble_eq_true rfl⟩) ⟨pc_blind, va_recv hK hP (ci := 0) (q := (RJx4a65c, TJx4a65c, 3)) (q0 := 1) rfl rfl, fun U hU hW => ⟨rfl, hC28 U hU hW⟩⟩ rfl rfl hl.1 rfl (lv_room (Nat.le_of_ble_eq_true rfl)) dX0_settle_18 ⟨(Nat.le_of_ble_eq_true rfl), (Nat.le_of_ble_eq_true rfl)⟩) hS (fun q9 _ h9 => hF25 q9 h9) hF25 (fun u29 r30 t29 H29 L29 ht29 hvm29 hw29 hB29 hz29 hk29 hS => ?_)
  obtain ⟨hr29, hB29⟩ := hB29
  have hP := pq_keep hP hD [1, 2] rfl hk29 hB29.1 ht29
  have hG : s.heap.size + 0 ≤ H29.size := Nat.le_trans hG hz29
  refine W.eq (g2 := F0 m 21 ls [.ref h4]) (by rw [hr29]) ?_
  refine va_castE (nm := RX2) hx hb hown (hts _ q_89) (va_recv hK hP (ci := 3) (q := (RX2, TX2, 19)) (q0 := 4) rfl rfl) dX0_settle_21 ?_
  refine lv_astore (lv' := [(4, .ref h4), (3, .int 1), (0, .ref h0), (1, .null), (2, .int 120)]) hx hb dX0_settle_24 hl (by decide) rfl (fun ls hl => ?_)
  refine lv_aload hx hb dX0_settle_26 (lv_at hl 0 rfl) ?_
  refine lv_aload_nN hx hb dX0_settle_28 rfl (lv_at hl 3 rfl) ?_
  refine lv_acmp_ne (rx := (some h4)) (ry := none) (tgt := 41) hx hb dX0_settle_29 (by decide) (fun _ => ?_) (fun cz => absurd cz (by simp))
  refine lv_aload hx hb dX0_settle_41 (lv_at hl 0 rfl) ?_
  have hM33 := k837_isSource l hl9 dC dI z h4 o4 H29.size
  obtain ⟨hF31, hC34⟩ := pc_M hM33 hP hD hK hS hX hT hA [4] [] rfl rfl rfl
  refine va_calli (va_runV (As := []) (rest := []) ⟨hx, hb, hml, hown, hts⟩ hM33 (cwV 0 hts (gV q_132 q_133 q_134 q_91 q_131) rfl rfl rfl hV_X2_isSource ⟨Nat.le_of_ble_eq_true rfl, Nat.le_of_ble_eq_true rfl⟩) ⟨pc_blind, va_recv hK hP (ci := 3) (q := (RX2, TX2, 19)) (q0 := 4) rfl rfl, fun U hU hW => ⟨rfl, hC34 U hU hW⟩⟩ rfl rfl hl.1 rfl (lv_room (Nat.le_of_ble_eq_true rfl)) dX0_settle_43 ⟨(Nat.le_of_ble_eq_true rfl), (Nat.le_of_ble_eq_true rfl)⟩) hS (fun q9 _ h9 => hF31 q9 h9) hF31 (fun r36 u35 t35 H35 L35 ht35 hvm35 hw35 hB35 hz35 hk35 hS => ?_)
  have hP := pq_keep hP hD [4] rfl hk35 hB35.1 ht35
  have hG : s.heap.size + 0 ≤ H35.size := Nat.le_trans hG hz35
  refine W.eq (g2 := F0 m 46 ls [.int 1]) (by rw [hw35]) ?_
  refine lv_if_ne (tgt := 59) hx hb dX0_settle_46 (by decide) (fun _ => ?_) (fun cz => absurd cz (by decide))
  refine lv_iinc (v := 2) (lv' := [(3, .int 2), (4, .ref h4), (0, .ref h0), (1, .null), (2, .int 120)]) hx hb dX0_settle_59 hl (k := 1) rfl (by decide) (by decide) rfl (fun ls hl => ?_)
  refine lv_goto (tgt := 2) hx hb dX0_settle_62 (by decide) ?_
  refine lv_iload_n hx hb dX0_settle_2 rfl (lv_at hl 0 rfl) ?_
  refine lv_aload_n hx hb dX0_settle_3 rfl (lv_at hl 2 rfl) ?_
  refine va_get (D := (dC, dI)) (ci := 2) (v := .ref h1) (C := RX0) (T := TX0) (N := 4) hx hb hts in_X0 hown hK hP 0 rfl rfl 3 (by decide) (hts _ q_31) (fun _ h9 => h9) rfl dX0_settle_4 ?_
  have hM39 := k20_size l hl9 dC dI z h1 h2 H35.size 35 7
  obtain ⟨hF37, hC40⟩ := pc_M hM39 hP hD hK hS hX hT hA [1] [] rfl rfl rfl
  refine va_calli (va_runV (As := []) (rest := [.int 2]) ⟨hx, hb, hml, hown, hts⟩ hM39 (cwV 0 hts (gV q_92 q_77 q_78 q_12 q_75) rfl rfl rfl hV_Jx4a65c_size_8abf5 ⟨Nat.le_of_ble_eq_true rfl, Nat.le_of_ble_eq_true rfl⟩) ⟨pc_blind, va_recv hK hP (ci := 0) (q := (RJx4a65c, TJx4a65c, 3)) (q0 := 1) rfl rfl, fun U hU hW => ⟨rfl, hC40 U hU hW⟩⟩ rfl rfl hl.1 rfl (lv_room (Nat.le_of_ble_eq_true rfl)) dX0_settle_7 ⟨(Nat.le_of_ble_eq_true rfl), (Nat.le_of_ble_eq_true rfl)⟩) hS (fun q9 _ h9 => hF37 q9 h9) hF37 (fun r42 u41 t41 H41 L41 ht41 hvm41 hw41 hB41 hz41 hk41 hS => ?_)
  have hP := pq_keep hP hD [1] rfl hk41 hB41.1 ht41
  have hG : s.heap.size + 0 ≤ H41.size := Nat.le_trans hG hz41
  refine W.eq (g2 := F0 m 10 ls [.int 7, .int 2]) (by rw [hw41]) ?_
  refine lv_icmp_ge (tgt := 65) hx hb dX0_settle_10 (by decide) (fun cz => absurd cz (by decide)) (fun _ => ?_)
  refine lv_aload_n hx hb dX0_settle_13 rfl (lv_at hl 2 rfl) ?_
  refine va_get (D := (dC, dI)) (ci := 2) (v := .ref h1) (C := RX0) (T := TX0) (N := 4) hx hb hts in_X0 hown hK hP 0 rfl rfl 3 (by decide) (hts _ q_31) (fun _ h9 => h9) rfl dX0_settle_14 ?_
  refine lv_iload_n hx hb dX0_settle_17 rfl (lv_at hl 0 rfl) ?_
  have hM45 := k680_get l hl9 dC dI z h1 h2 h3 h4 h5 h6 h7 h8 h9 H41.size kc0
  obtain ⟨hF43, hC46⟩ := pc_M hM45 hP hD hK hS hX hT hA [1, 2] [0] rfl rfl rfl
  refine va_callr (va_runV (As := [.int 2]) (rest := []) ⟨hx, hb, hml, hown, hts⟩ hM45 (cwV 1 hts (gV q_156 q_157 q_158 q_12 q_155) rfl rfl rfl hV_Jx4a65c_get_915e3 ⟨Nat.le_of_ble_eq_true rfl, Nat.le_of_ble_eq_true rfl⟩) ⟨pc_blind, va_recv hK hP (ci := 0) (q := (RJx4a65c, TJx4a65c, 3)) (q0 := 1) rfl rfl, fun U hU hW => ⟨rfl, hC46 U hU hW⟩⟩ rfl rfl hl.1 rfl (lv_room (Nat.le_of_ble_eq_true rfl)) dX0_settle_18 ⟨(Nat.le_of_ble_eq_true rfl), (Nat.le_of_ble_eq_true rfl)⟩) hS (fun q9 _ h9 => hF43 q9 h9) hF43 (fun u47 r48 t47 H47 L47 ht47 hvm47 hw47 hB47 hz47 hk47 hS => ?_)
  obtain ⟨hr47, hB47⟩ := hB47
  have hP := pq_keep hP hD [1, 2] rfl hk47 hB47.1 ht47
  have hG : s.heap.size + 0 ≤ H47.size := Nat.le_trans hG hz47
  refine W.eq (g2 := F0 m 21 ls [.ref h5]) (by rw [hr47]) ?_
  refine va_castE (nm := RX2) hx hb hown (hts _ q_89) (va_recv hK hP (ci := 3) (q := (RX2, TX2, 19)) (q0 := 5) rfl rfl) dX0_settle_21 ?_
  refine lv_astore (lv' := [(4, .ref h5), (3, .int 2), (0, .ref h0), (1, .null), (2, .int 120)]) hx hb dX0_settle_24 hl (by decide) rfl (fun ls hl => ?_)
  refine lv_aload hx hb dX0_settle_26 (lv_at hl 0 rfl) ?_
  refine lv_aload_nN hx hb dX0_settle_28 rfl (lv_at hl 3 rfl) ?_
  refine lv_acmp_ne (rx := (some h5)) (ry := none) (tgt := 41) hx hb dX0_settle_29 (by decide) (fun _ => ?_) (fun cz => absurd cz (by simp))
  refine lv_aload hx hb dX0_settle_41 (lv_at hl 0 rfl) ?_
  have hM51 := k838_isSource l hl9 dC dI z h5 o5 H47.size
  obtain ⟨hF49, hC52⟩ := pc_M hM51 hP hD hK hS hX hT hA [5] [] rfl rfl rfl
  refine va_calli (va_runV (As := []) (rest := []) ⟨hx, hb, hml, hown, hts⟩ hM51 (cwV 0 hts (gV q_132 q_133 q_134 q_91 q_131) rfl rfl rfl hV_X2_isSource ⟨Nat.le_of_ble_eq_true rfl, Nat.le_of_ble_eq_true rfl⟩) ⟨pc_blind, va_recv hK hP (ci := 3) (q := (RX2, TX2, 19)) (q0 := 5) rfl rfl, fun U hU hW => ⟨rfl, hC52 U hU hW⟩⟩ rfl rfl hl.1 rfl (lv_room (Nat.le_of_ble_eq_true rfl)) dX0_settle_43 ⟨(Nat.le_of_ble_eq_true rfl), (Nat.le_of_ble_eq_true rfl)⟩) hS (fun q9 _ h9 => hF49 q9 h9) hF49 (fun r54 u53 t53 H53 L53 ht53 hvm53 hw53 hB53 hz53 hk53 hS => ?_)
  have hP := pq_keep hP hD [5] rfl hk53 hB53.1 ht53
  have hG : s.heap.size + 0 ≤ H53.size := Nat.le_trans hG hz53
  refine W.eq (g2 := F0 m 46 ls [.int 1]) (by rw [hw53]) ?_
  refine lv_if_ne (tgt := 59) hx hb dX0_settle_46 (by decide) (fun _ => ?_) (fun cz => absurd cz (by decide))
  refine lv_iinc (v := 3) (lv' := [(3, .int 3), (4, .ref h5), (0, .ref h0), (1, .null), (2, .int 120)]) hx hb dX0_settle_59 hl (k := 1) rfl (by decide) (by decide) rfl (fun ls hl => ?_)
  refine lv_goto (tgt := 2) hx hb dX0_settle_62 (by decide) ?_
  refine lv_iload_n hx hb dX0_settle_2 rfl (lv_at hl 0 rfl) ?_
  refine lv_aload_n hx hb dX0_settle_3 rfl (lv_at hl 2 rfl) ?_
  refine va_get (D := (dC, dI)) (ci := 2) (v := .ref h1) (C := RX0) (T := TX0) (N := 4) hx hb hts in_X0 hown hK hP 0 rfl rfl 3 (by decide) (hts _ q_31) (fun _ h9 => h9) rfl dX0_settle_4 ?_
  have hM57 := k20_size l hl9 dC dI z h1 h2 H53.size 35 7
  obtain ⟨hF55, hC58⟩ := pc_M hM57 hP hD hK hS hX hT hA [1] [] rfl rfl rfl
  refine va_calli (va_runV (As := []) (rest := [.int 3]) ⟨hx, hb, hml, hown, hts⟩ hM57 (cwV 0 hts (gV q_92 q_77 q_78 q_12 q_75) rfl rfl rfl hV_Jx4a65c_size_8abf5 ⟨Nat.le_of_ble_eq_true rfl, Nat.le_of_ble_eq_true rfl⟩) ⟨pc_blind, va_recv hK hP (ci := 0) (q := (RJx4a65c, TJx4a65c, 3)) (q0 := 1) rfl rfl, fun U hU hW => ⟨rfl, hC58 U hU hW⟩⟩ rfl rfl hl.1 rfl (lv_room (Nat.le_of_ble_eq_true rfl)) dX0_settle_7 ⟨(Nat.le_of_ble_eq_true rfl), (Nat.le_of_ble_eq_true rfl)⟩) hS (fun q9 _ h9 => hF55 q9 h9) hF55 (fun r60 u59 t59 H59 L59 ht59 hvm59 hw59 hB59 hz59 hk59 hS => ?_)
  have hP := pq_keep hP hD [1] rfl hk59 hB59.1 ht59
  have hG : s.heap.size + 0 ≤ H59.size := Nat.le_trans hG hz59
  refine W.eq (g2 := F0 m 10 ls [.int 7, .int 3]) (by rw [hw59]) ?_
  refine lv_icmp_ge (tgt := 65) hx hb dX0_settle_10 (by decide) (fun cz => absurd cz (by decide)) (fun _ => ?_)
  refine lv_aload_n hx hb dX0_settle_13 rfl (lv_at hl 2 rfl) ?_
  refine va_get (D := (dC, dI)) (ci := 2) (v := .ref h1) (C := RX0) (T := TX0) (N := 4) hx hb hts in_X0 hown hK hP 0 rfl rfl 3 (by decide) (hts _ q_31) (fun _ h9 => h9) rfl dX0_settle_14 ?_
  refine lv_iload_n hx hb dX0_settle_17 rfl (lv_at hl 0 rfl) ?_
  have hM63 := k682_get l hl9 dC dI z h1 h2 h3 h4 h5 h6 h7 h8 h9 H59.size kc0
  obtain ⟨hF61, hC64⟩ := pc_M hM63 hP hD hK hS hX hT hA [1, 2] [0] rfl rfl rfl
  refine va_callr (va_runV (As := [.int 3]) (rest := []) ⟨hx, hb, hml, hown, hts⟩ hM63 (cwV 1 hts (gV q_156 q_157 q_158 q_12 q_155) rfl rfl rfl hV_Jx4a65c_get_915e3 ⟨Nat.le_of_ble_eq_true rfl, Nat.le_of_ble_eq_true rfl⟩) ⟨pc_blind, va_recv hK hP (ci := 0) (q := (RJx4a65c, TJx4a65c, 3)) (q0 := 1) rfl rfl, fun U hU hW => ⟨rfl, hC64 U hU hW⟩⟩ rfl rfl hl.1 rfl (lv_room (Nat.le_of_ble_eq_true rfl)) dX0_settle_18 ⟨(Nat.le_of_ble_eq_true rfl), (Nat.le_of_ble_eq_true rfl)⟩) hS (fun q9 _ h9 => hF61 q9 h9) hF61 (fun u65 r66 t65 H65 L65 ht65 hvm65 hw65 hB65 hz65 hk65 hS => ?_)
  obtain ⟨hr65, hB65⟩ := hB65
  have hP := pq_keep hP hD [1, 2] rfl hk65 hB65.1 ht65
  have hG : s.heap.size + 0 ≤ H65.size := Nat.le_trans hG hz65
  refine W.eq (g2 := F0 m 21 ls [.ref h6]) (by rw [hr65]) ?_
  refine va_castE (nm := RX2) hx hb hown (hts _ q_89) (va_recv hK hP (ci := 3) (q := (RX2, TX2, 19)) (q0 := 6) rfl rfl) dX0_settle_21 ?_
  refine lv_astore (lv' := [(4, .ref h6), (3, .int 3), (0, .ref h0), (1, .null), (2, .int 120)]) hx hb dX0_settle_24 hl (by decide) rfl (fun ls hl => ?_)
  refine lv_aload hx hb dX0_settle_26 (lv_at hl 0 rfl) ?_
  refine lv_aload_nN hx hb dX0_settle_28 rfl (lv_at hl 3 rfl) ?_
  refine lv_acmp_ne (rx := (some h6)) (ry := none) (tgt := 41) hx hb dX0_settle_29 (by decide) (fun _ => ?_) (fun cz => absurd cz (by simp))
  refine lv_aload hx hb dX0_settle_41 (lv_at hl 0 rfl) ?_
  have hM69 := k839_isSource l hl9 dC dI z h6 o6 H65.size
  obtain ⟨hF67, hC70⟩ := pc_M hM69 hP hD hK hS hX hT hA [6] [] rfl rfl rfl
  refine va_calli (va_runV (As := []) (rest := []) ⟨hx, hb, hml, hown, hts⟩ hM69 (cwV 0 hts (gV q_132 q_133 q_134 q_91 q_131) rfl rfl rfl hV_X2_isSource ⟨Nat.le_of_ble_eq_true rfl, Nat.le_of_ble_eq_true rfl⟩) ⟨pc_blind, va_recv hK hP (ci := 3) (q := (RX2, TX2, 19)) (q0 := 6) rfl rfl, fun U hU hW => ⟨rfl, hC70 U hU hW⟩⟩ rfl rfl hl.1 rfl (lv_room (Nat.le_of_ble_eq_true rfl)) dX0_settle_43 ⟨(Nat.le_of_ble_eq_true rfl), (Nat.le_of_ble_eq_true rfl)⟩) hS (fun q9 _ h9 => hF67 q9 h9) hF67 (fun r72 u71 t71 H71 L71 ht71 hvm71 hw71 hB71 hz71 hk71 hS => ?_)
  have hP := pq_keep hP hD [6] rfl hk71 hB71.1 ht71
  have hG : s.heap.size + 0 ≤ H71.size := Nat.le_trans hG hz71
  refine W.eq (g2 := F0 m 46 ls [.int 1]) (by rw [hw71]) ?_
  refine lv_if_ne (tgt := 59) hx hb dX0_settle_46 (by decide) (fun _ => ?_) (fun cz => absurd cz (by decide))
  refine lv_iinc (v := 4) (lv' := [(3, .int 4), (4, .ref h6), (0, .ref h0), (1, .null), (2, .int 120)]) hx hb dX0_settle_59 hl (k := 1) rfl (by decide) (by decide) rfl (fun ls hl => ?_)
  refine lv_goto (tgt := 2) hx hb dX0_settle_62 (by decide) ?_
  refine lv_iload_n hx hb dX0_settle_2 rfl (lv_at hl 0 rfl) ?_
  refine lv_aload_n hx hb dX0_settle_3 rfl (lv_at hl 2 rfl) ?_
  refine va_get (D := (dC, dI)) (ci := 2) (v := .ref h1) (C := RX0) (T := TX0) (N := 4) hx hb hts in_X0 hown hK hP 0 rfl rfl 3 (by decide) (hts _ q_31) (fun _ h9 => h9) rfl dX0_settle_4 ?_
  have hM75 := k20_size l hl9 dC dI z h1 h2 H71.size 35 7
  obtain ⟨hF73, hC76⟩ := pc_M hM75 hP hD hK hS hX hT hA [1] [] rfl rfl rfl
  refine va_calli (va_runV (As := []) (rest := [.int 4]) ⟨hx, hb, hml, hown, hts⟩ hM75 (cwV 0 hts (gV q_92 q_77 q_78 q_12 q_75) rfl rfl rfl hV_Jx4a65c_size_8abf5 ⟨Nat.le_of_ble_eq_true rfl, Nat.le_of_ble_eq_true rfl⟩) ⟨pc_blind, va_recv hK hP (ci := 0) (q := (RJx4a65c, TJx4a65c, 3)) (q0 := 1) rfl rfl, fun U hU hW => ⟨rfl, hC76 U hU hW⟩⟩ rfl rfl hl.1 rfl (lv_room (Nat.le_of_ble_eq_true rfl)) dX0_settle_7 ⟨(Nat.le_of_ble_eq_true rfl), (Nat.le_of_ble_eq_true rfl)⟩) hS (fun q9 _ h9 => hF73 q9 h9) hF73 (fun r78 u77 t77 H77 L77 ht77 hvm77 hw77 hB77 hz77 hk77 hS => ?_)
  have hP := pq_keep hP hD [1] rfl hk77 hB77.1 ht77
  have hG : s.heap.size + 0 ≤ H77.size := Nat.le_trans hG hz77
  refine W.eq (g2 := F0 m 10 ls [.int 7, .int 4]) (by rw [hw77]) ?_
  refine lv_icmp_ge (tgt := 65) hx hb dX0_settle_10 (by decide) (fun cz => absurd cz (by decide)) (fun _ => ?_)
  refine lv_aload_n hx hb dX0_settle_13 rfl (lv_at hl 2 rfl) ?_
  refine va_get (D := (dC, dI)) (ci := 2) (v := .ref h1) (C := RX0) (T := TX0) (N := 4) hx hb hts in_X0 hown hK hP 0 rfl rfl 3 (by decide) (hts _ q_31) (fun _ h9 => h9) rfl dX0_settle_14 ?_
  refine lv_iload_n hx hb dX0_settle_17 rfl (lv_at hl 0 rfl) ?_
  have hM81 := k684_get l hl9 dC dI z h1 h2 h3 h4 h5 h6 h7 h8 h9 H77.size kc0
  obtain ⟨hF79, hC82⟩ := pc_M hM81 hP hD hK hS hX hT hA [1, 2] [0] rfl rfl rfl
  refine va_callr (va_runV (As := [.int 4]) (rest := []) ⟨hx, hb, hml, hown, hts⟩ hM81 (cwV 1 hts (gV q_156 q_157 q_158 q_12 q_155) rfl rfl rfl hV_Jx4a65c_get_915e3 ⟨Nat.le_of_ble_eq_true rfl, Nat.le_of_ble_eq_true rfl⟩) ⟨pc_blind, va_recv hK hP (ci := 0) (q := (RJx4a65c, TJx4a65c, 3)) (q0 := 1) rfl rfl, fun U hU hW => ⟨rfl, hC82 U hU hW⟩⟩ rfl rfl hl.1 rfl (lv_room (Nat.le_of_ble_eq_true rfl)) dX0_settle_18 ⟨(Nat.le_of_ble_eq_true rfl), (Nat.le_of_ble_eq_true rfl)⟩) hS (fun q9 _ h9 => hF79 q9 h9) hF79 (fun u83 r84 t83 H83 L83 ht83 hvm83 hw83 hB83 hz83 hk83 hS => ?_)
  obtain ⟨hr83, hB83⟩ := hB83
  have hP := pq_keep hP hD [1, 2] rfl hk83 hB83.1 ht83
  have hG : s.heap.size + 0 ≤ H83.size := Nat.le_trans hG hz83
  refine W.eq (g2 := F0 m 21 ls [.ref h7]) (by rw [hr83]) ?_
  refine va_castE (nm := RX2) hx hb hown (hts _ q_89) (va_recv hK hP (ci := 3) (q := (RX2, TX2, 19)) (q0 := 7) rfl rfl) dX0_settle_21 ?_
  refine lv_astore (lv' := [(4, .ref h7), (3, .int 4), (0, .ref h0), (1, .null), (2, .int 120)]) hx hb dX0_settle_24 hl (by decide) rfl (fun ls hl => ?_)
  refine lv_aload hx hb dX0_settle_26 (lv_at hl 0 rfl) ?_
  refine lv_aload_nN hx hb dX0_settle_28 rfl (lv_at hl 3 rfl) ?_
  refine lv_acmp_ne (rx := (some h7)) (ry := none) (tgt := 41) hx hb dX0_settle_29 (by decide) (fun _ => ?_) (fun cz => absurd cz (by simp))
  refine lv_aload hx hb dX0_settle_41 (lv_at hl 0 rfl) ?_
  have hM87 := k840_isSource l hl9 dC dI z h7 o7 H83.size
  obtain ⟨hF85, hC88⟩ := pc_M hM87 hP hD hK hS hX hT hA [7] [] rfl rfl rfl
  refine va_calli (va_runV (As := []) (rest := []) ⟨hx, hb, hml, hown, hts⟩ hM87 (cwV 0 hts (gV q_132 q_133 q_134 q_91 q_131) rfl rfl rfl hV_X2_isSource ⟨Nat.le_of_ble_eq_true rfl, Nat.le_of_ble_eq_true rfl⟩) ⟨pc_blind, va_recv hK hP (ci := 3) (q := (RX2, TX2, 19)) (q0 := 7) rfl rfl, fun U hU hW => ⟨rfl, hC88 U hU hW⟩⟩ rfl rfl hl.1 rfl (lv_room (Nat.le_of_ble_eq_true rfl)) dX0_settle_43 ⟨(Nat.le_of_ble_eq_true rfl), (Nat.le_of_ble_eq_true rfl)⟩) hS (fun q9 _ h9 => hF85 q9 h9) hF85 (fun r90 u89 t89 H89 L89 ht89 hvm89 hw89 hB89 hz89 hk89 hS => ?_)
  have hP := pq_keep hP hD [7] rfl hk89 hB89.1 ht89
  have hG : s.heap.size + 0 ≤ H89.size := Nat.le_trans hG hz89
  refine W.eq (g2 := F0 m 46 ls [.int 1]) (by rw [hw89]) ?_
  refine lv_if_ne (tgt := 59) hx hb dX0_settle_46 (by decide) (fun _ => ?_) (fun cz => absurd cz (by decide))
  refine lv_iinc (v := 5) (lv' := [(3, .int 5), (4, .ref h7), (0, .ref h0), (1, .null), (2, .int 120)]) hx hb dX0_settle_59 hl (k := 1) rfl (by decide) (by decide) rfl (fun ls hl => ?_)
  refine lv_goto (tgt := 2) hx hb dX0_settle_62 (by decide) ?_
  refine lv_iload_n hx hb dX0_settle_2 rfl (lv_at hl 0 rfl) ?_
  refine lv_aload_n hx hb dX0_settle_3 rfl (lv_at hl 2 rfl) ?_
  refine va_get (D := (dC, dI)) (ci := 2) (v := .ref h1) (C := RX0) (T := TX0) (N := 4) hx hb hts in_X0 hown hK hP 0 rfl rfl 3 (by decide) (hts _ q_31) (fun _ h9 => h9) rfl dX0_settle_4 ?_
  have hM93 := k20_size l hl9 dC dI z h1 h2 H89.size 35 7
  obtain ⟨hF91, hC94⟩ := pc_M hM93 hP hD hK hS hX hT hA [1] [] rfl rfl rfl
  refine va_calli (va_runV (As := []) (rest := [.int 5]) ⟨hx, hb, hml, hown, hts⟩ hM93 (cwV 0 hts (gV q_92 q_77 q_78 q_12 q_75) rfl rfl rfl hV_Jx4a65c_size_8abf5 ⟨Nat.le_of_ble_eq_true rfl, Nat.le_of_ble_eq_true rfl⟩) ⟨pc_blind, va_recv hK hP (ci := 0) (q := (RJx4a65c, TJx4a65c, 3)) (q0 := 1) rfl rfl, fun U hU hW => ⟨rfl, hC94 U hU hW⟩⟩ rfl rfl hl.1 rfl (lv_room (Nat.le_of_ble_eq_true rfl)) dX0_settle_7 ⟨(Nat.le_of_ble_eq_true rfl), (Nat.le_of_ble_eq_true rfl)⟩) hS (fun q9 _ h9 => hF91 q9 h9) hF91 (fun r96 u95 t95 H95 L95 ht95 hvm95 hw95 hB95 hz95 hk95 hS => ?_)
  have hP := pq_keep hP hD [1] rfl hk95 hB95.1 ht95
  have hG : s.heap.size + 0 ≤ H95.size := Nat.le_trans hG hz95
  refine W.eq (g2 := F0 m 10 ls [.int 7, .int 5]) (by rw [hw95]) ?_
  refine lv_icmp_ge (tgt := 65) hx hb dX0_settle_10 (by decide) (fun cz => absurd cz (by decide)) (fun _ => ?_)
  refine lv_aload_n hx hb dX0_settle_13 rfl (lv_at hl 2 rfl) ?_
  refine va_get (D := (dC, dI)) (ci := 2) (v := .ref h1) (C := RX0) (T := TX0) (N := 4) hx hb hts in_X0 hown hK hP 0 rfl rfl 3 (by decide) (hts _ q_31) (fun _ h9 => h9) rfl dX0_settle_14 ?_
  refine lv_iload_n hx hb dX0_settle_17 rfl (lv_at hl 0 rfl) ?_
  have hM99 := k686_get l hl9 dC dI z h1 h2 h3 h4 h5 h6 h7 h8 h9 H95.size kc0
  obtain ⟨hF97, hC100⟩ := pc_M hM99 hP hD hK hS hX hT hA [1, 2] [0] rfl rfl rfl
  refine va_callr (va_runV (As := [.int 5]) (rest := []) ⟨hx, hb, hml, hown, hts⟩ hM99 (cwV 1 hts (gV q_156 q_157 q_158 q_12 q_155) rfl rfl rfl hV_Jx4a65c_get_915e3 ⟨Nat.le_of_ble_eq_true rfl, Nat.le_of_ble_eq_true rfl⟩) ⟨pc_blind, va_recv hK hP (ci := 0) (q := (RJx4a65c, TJx4a65c, 3)) (q0 := 1) rfl rfl, fun U hU hW => ⟨rfl, hC100 U hU hW⟩⟩ rfl rfl hl.1 rfl (lv_room (Nat.le_of_ble_eq_true rfl)) dX0_settle_18 ⟨(Nat.le_of_ble_eq_true rfl), (Nat.le_of_ble_eq_true rfl)⟩) hS (fun q9 _ h9 => hF97 q9 h9) hF97 (fun u101 r102 t101 H101 L101 ht101 hvm101 hw101 hB101 hz101 hk101 hS => ?_)
  obtain ⟨hr101, hB101⟩ := hB101
  have hP := pq_keep hP hD [1, 2] rfl hk101 hB101.1 ht101
  have hG : s.heap.size + 0 ≤ H101.size := Nat.le_trans hG hz101
  refine W.eq (g2 := F0 m 21 ls [.ref h8]) (by rw [hr101]) ?_
  refine va_castE (nm := RX2) hx hb hown (hts _ q_89) (va_recv hK hP (ci := 3) (q := (RX2, TX2, 19)) (q0 := 8) rfl rfl) dX0_settle_21 ?_
  refine lv_astore (lv' := [(4, .ref h8), (3, .int 5), (0, .ref h0), (1, .null), (2, .int 120)]) hx hb dX0_settle_24 hl (by decide) rfl (fun ls hl => ?_)
  refine lv_aload hx hb dX0_settle_26 (lv_at hl 0 rfl) ?_
  refine lv_aload_nN hx hb dX0_settle_28 rfl (lv_at hl 3 rfl) ?_
  refine lv_acmp_ne (rx := (some h8)) (ry := none) (tgt := 41) hx hb dX0_settle_29 (by decide) (fun _ => ?_) (fun cz => absurd cz (by simp))
  refine lv_aload hx hb dX0_settle_41 (lv_at hl 0 rfl) ?_
  have hM105 := k841_isSource l hl9 dC dI z h8 o8 H101.size
  obtain ⟨hF103, hC106⟩ := pc_M hM105 hP hD hK hS hX hT hA [8] [] rfl rfl rfl
  refine va_calli (va_runV (As := []) (rest := []) ⟨hx, hb, hml, hown, hts⟩ hM105 (cwV 0 hts (gV q_132 q_133 q_134 q_91 q_131) rfl rfl rfl hV_X2_isSource ⟨Nat.le_of_ble_eq_true rfl, Nat.le_of_ble_eq_true rfl⟩) ⟨pc_blind, va_recv hK hP (ci := 3) (q := (RX2, TX2, 19)) (q0 := 8) rfl rfl, fun U hU hW => ⟨rfl, hC106 U hU hW⟩⟩ rfl rfl hl.1 rfl (lv_room (Nat.le_of_ble_eq_true rfl)) dX0_settle_43 ⟨(Nat.le_of_ble_eq_true rfl), (Nat.le_of_ble_eq_true rfl)⟩) hS (fun q9 _ h9 => hF103 q9 h9) hF103 (fun r108 u107 t107 H107 L107 ht107 hvm107 hw107 hB107 hz107 hk107 hS => ?_)
  have hP := pq_keep hP hD [8] rfl hk107 hB107.1 ht107
  have hG : s.heap.size + 0 ≤ H107.size := Nat.le_trans hG hz107
  refine W.eq (g2 := F0 m 46 ls [.int 1]) (by rw [hw107]) ?_
  refine lv_if_ne (tgt := 59) hx hb dX0_settle_46 (by decide) (fun _ => ?_) (fun cz => absurd cz (by decide))
  refine lv_iinc (v := 6) (lv' := [(3, .int 6), (4, .ref h8), (0, .ref h0), (1, .null), (2, .int 120)]) hx hb dX0_settle_59 hl (k := 1) rfl (by decide) (by decide) rfl (fun ls hl => ?_)
  refine lv_goto (tgt := 2) hx hb dX0_settle_62 (by decide) ?_
  refine lv_iload_n hx hb dX0_settle_2 rfl (lv_at hl 0 rfl) ?_
  refine lv_aload_n hx hb dX0_settle_3 rfl (lv_at hl 2 rfl) ?_
  refine va_get (D := (dC, dI)) (ci := 2) (v := .ref h1) (C := RX0) (T := TX0) (N := 4) hx hb hts in_X0 hown hK hP 0 rfl rfl 3 (by decide) (hts _ q_31) (fun _ h9 => h9) rfl dX0_settle_4 ?_
  have hM111 := k20_size l hl9 dC dI z h1 h2 H107.size 35 7
  obtain ⟨hF109, hC112⟩ := pc_M hM111 hP hD hK hS hX hT hA [1] [] rfl rfl rfl
  refine va_calli (va_runV (As := []) (rest := [.int 6]) ⟨hx, hb, hml, hown, hts⟩ hM111 (cwV 0 hts (gV q_92 q_77 q_78 q_12 q_75) rfl rfl rfl hV_Jx4a65c_size_8abf5 ⟨Nat.le_of_ble_eq_true rfl, Nat.le_of_ble_eq_true rfl⟩) ⟨pc_blind, va_recv hK hP (ci := 0) (q := (RJx4a65c, TJx4a65c, 3)) (q0 := 1) rfl rfl, fun U hU hW => ⟨rfl, hC112 U hU hW⟩⟩ rfl rfl hl.1 rfl (lv_room (Nat.le_of_ble_eq_true rfl)) dX0_settle_7 ⟨(Nat.le_of_ble_eq_true rfl), (Nat.le_of_ble_eq_true rfl)⟩) hS (fun q9 _ h9 => hF109 q9 h9) hF109 (fun r114 u113 t113 H113 L113 ht113 hvm113 hw113 hB113 hz113 hk113 hS => ?_)
  have hP := pq_keep hP hD [1] rfl hk113 hB113.1 ht113
  have hG : s.heap.size + 0 ≤ H113.size := Nat.le_trans hG hz113
  refine W.eq (g2 := F0 m 10 ls [.int 7, .int 6]) (by rw [hw113]) ?_
  refine lv_icmp_ge (tgt := 65) hx hb dX0_settle_10 (by decide) (fun cz => absurd cz (by decide)) (fun _ => ?_)
  refine lv_aload_n hx hb dX0_settle_13 rfl (lv_at hl 2 rfl) ?_
  refine va_get (D := (dC, dI)) (ci := 2) (v := .ref h1) (C := RX0) (T := TX0) (N := 4) hx hb hts in_X0 hown hK hP 0 rfl rfl 3 (by decide) (hts _ q_31) (fun _ h9 => h9) rfl dX0_settle_14 ?_
  refine lv_iload_n hx hb dX0_settle_17 rfl (lv_at hl 0 rfl) ?_
  have hM117 := k688_get l hl9 dC dI z h1 h2 h3 h4 h5 h6 h7 h8 h9 H113.size kc0
  obtain ⟨hF115, hC118⟩ := pc_M hM117 hP hD hK hS hX hT hA [1, 2] [0] rfl rfl rfl
  refine va_callr (va_runV (As := [.int 6]) (rest := []) ⟨hx, hb, hml, hown, hts⟩ hM117 (cwV 1 hts (gV q_156 q_157 q_158 q_12 q_155) rfl rfl rfl hV_Jx4a65c_get_915e3 ⟨Nat.le_of_ble_eq_true rfl, Nat.le_of_ble_eq_true rfl⟩) ⟨pc_blind, va_recv hK hP (ci := 0) (q := (RJx4a65c, TJx4a65c, 3)) (q0 := 1) rfl rfl, fun U hU hW => ⟨rfl, hC118 U hU hW⟩⟩ rfl rfl hl.1 rfl (lv_room (Nat.le_of_ble_eq_true rfl)) dX0_settle_18 ⟨(Nat.le_of_ble_eq_true rfl), (Nat.le_of_ble_eq_true rfl)⟩) hS (fun q9 _ h9 => hF115 q9 h9) hF115 (fun u119 r120 t119 H119 L119 ht119 hvm119 hw119 hB119 hz119 hk119 hS => ?_)
  obtain ⟨hr119, hB119⟩ := hB119
  have hP := pq_keep hP hD [1, 2] rfl hk119 hB119.1 ht119
  have hG : s.heap.size + 0 ≤ H119.size := Nat.le_trans hG hz119
  refine W.eq (g2 := F0 m 21 ls [.ref h9]) (by rw [hr119]) ?_
  refine va_castE (nm := RX2) hx hb hown (hts _ q_89) (va_recv hK hP (ci := 3) (q := (RX2, TX2, 19)) (q0 := 9) rfl rfl) dX0_settle_21 ?_
  refine lv_astore (lv' := [(4, .ref h9), (3, .int 6), (0, .ref h0), (1, .null), (2, .int 120)]) hx hb dX0_settle_24 hl (by decide) rfl (fun ls hl => ?_)
  refine lv_aload hx hb dX0_settle_26 (lv_at hl 0 rfl) ?_
  refine lv_aload_nN hx hb dX0_settle_28 rfl (lv_at hl 3 rfl) ?_
  refine lv_acmp_ne (rx := (some h9)) (ry := none) (tgt := 41) hx hb dX0_settle_29 (by decide) (fun _ => ?_) (fun cz => absurd cz (by simp))
  refine lv_aload hx hb dX0_settle_41 (lv_at hl 0 rfl) ?_
  have hM123 := k842_isSource l hl9 dC dI z h9 o9 H119.size
  obtain ⟨hF121, hC124⟩ := pc_M hM123 hP hD hK hS hX hT hA [9] [] rfl rfl rfl
  refine va_calli (va_runV (As := []) (rest := []) ⟨hx, hb, hml, hown, hts⟩ hM123 (cwV 0 hts (gV q_132 q_133 q_134 q_91 q_131) rfl rfl rfl hV_X2_isSource ⟨Nat.le_of_ble_eq_true rfl, Nat.le_of_ble_eq_true rfl⟩) ⟨pc_blind, va_recv hK hP (ci := 3) (q := (RX2, TX2, 19)) (q0 := 9) rfl rfl, fun U hU hW => ⟨rfl, hC124 U hU hW⟩⟩ rfl rfl hl.1 rfl (lv_room (Nat.le_of_ble_eq_true rfl)) dX0_settle_43 ⟨(Nat.le_of_ble_eq_true rfl), (Nat.le_of_ble_eq_true rfl)⟩) hS (fun q9 _ h9 => hF121 q9 h9) hF121 (fun r126 u125 t125 H125 L125 ht125 hvm125 hw125 hB125 hz125 hk125 hS => ?_)
  have hP := pq_keep hP hD [9] rfl hk125 hB125.1 ht125
  have hG : s.heap.size + 0 ≤ H125.size := Nat.le_trans hG hz125
  refine W.eq (g2 := F0 m 46 ls [.int 1]) (by rw [hw125]) ?_
  refine lv_if_ne (tgt := 59) hx hb dX0_settle_46 (by decide) (fun _ => ?_) (fun cz => absurd cz (by decide))
  refine lv_iinc (v := 7) (lv' := [(3, .int 7), (4, .ref h9), (0, .ref h0), (1, .null), (2, .int 120)]) hx hb dX0_settle_59 hl (k := 1) rfl (by decide) (by decide) rfl (fun ls hl => ?_)
  refine lv_goto (tgt := 2) hx hb dX0_settle_62 (by decide) ?_
  refine lv_iload_n hx hb dX0_settle_2 rfl (lv_at hl 0 rfl) ?_
  refine lv_aload_n hx hb dX0_settle_3 rfl (lv_at hl 2 rfl) ?_
  refine va_get (D := (dC, dI)) (ci := 2) (v := .ref h1) (C := RX0) (T := TX0) (N := 4) hx hb hts in_X0 hown hK hP 0 rfl rfl 3 (by decide) (hts _ q_31) (fun _ h9 => h9) rfl dX0_settle_4 ?_
  have hM129 := k20_size l hl9 dC dI z h1 h2 H125.size 35 7
  obtain ⟨hF127, hC130⟩ := pc_M hM129 hP hD hK hS hX hT hA [1] [] rfl rfl rfl
  refine va_calli (va_runV (As := []) (rest := [.int 7]) ⟨hx, hb, hml, hown, hts⟩ hM129 (cwV 0 hts (gV q_92 q_77 q_78 q_12 q_75) rfl rfl rfl hV_Jx4a65c_size_8abf5 ⟨Nat.le_of_ble_eq_true rfl, Nat.le_of_ble_eq_true rfl⟩) ⟨pc_blind, va_recv hK hP (ci := 0) (q := (RJx4a65c, TJx4a65c, 3)) (q0 := 1) rfl rfl, fun U hU hW => ⟨rfl, hC130 U hU hW⟩⟩ rfl rfl hl.1 rfl (lv_room (Nat.le_of_ble_eq_true rfl)) dX0_settle_7 ⟨(Nat.le_of_ble_eq_true rfl), (Nat.le_of_ble_eq_true rfl)⟩) hS (fun q9 _ h9 => hF127 q9 h9) hF127 (fun r132 u131 t131 H131 L131 ht131 hvm131 hw131 hB131 hz131 hk131 hS => ?_)
  have hP := pq_keep hP hD [1] rfl hk131 hB131.1 ht131
  have hG : s.heap.size + 0 ≤ H131.size := Nat.le_trans hG hz131
  refine W.eq (g2 := F0 m 10 ls [.int 7, .int 7]) (by rw [hw131]) ?_
  refine lv_icmp_ge (tgt := 65) hx hb dX0_settle_10 (by decide) (fun _ => ?_) (fun cz => absurd (by decide) cz)
  exact W.vret hx hb hr (fun t9 ht9 hW9 => ⟨⟨(), rfl, trivial, ⟨pq_mk2 hP hD hK [0, 1, 2, 3, 4, 5, 6, 7, 8, 9] [0] rfl rfl rfl ht9 hW9, by rw [ht9]; exact Nat.le_trans (Nat.add_le_add_left (Nat.le_of_ble_eq_true rfl) _) hG⟩⟩, hS.F ht9⟩) hS.2.2 dX0_settle_65

set_option maxHeartbeats 4000000 in
set_option maxRecDepth 100000 in
theorem k844_tryRow (l : Launch) (hl9 : l.stackTraces = false) (dC : Nat → ClassId) (dI : Nat → Nat → Nat) (z : XZ) (h0 h1 h2 h3 h4 h5 h6 h7 h8 h9 h10 h11 h12 : Nat) (o0 o1 o2 o3 o4 o5 o6 o7 o8 o9 : Nat) (sz : Nat) (kc0 kc1 : ClassId) : Met l yX4_tryRow (.code yX4_tryRow cX4_tryRow 5 none :: wsL_law) ({ frames := 4, cells := 0, slots := 0, locals := 88 }) (va_Pc [.ref h0, .int 0, .null, .int 120] (PC (dC, dI) [(h0, ce417 h1 o0), (h1, ce7 o1 h2 o2 h3), (h2, ce331 h4), (h3, ce366 h5), (h4, ce330 kc0 h6 h7 h8 h9 h10 h11 h12), (h5, ce330 kc1 h6 h7 h8 h9 h10 h11 h12), (h6, ce38 (z.2.1 0) o3 h6), (h7, ce77 (z.2.1 0) o4 h7), (h8, ce115 (z.2.1 0) o5 h8), (h9, ce165 (z.2.1 0) o6 h9), (h10, ce224 (z.2.1 0) o7 h10), (h11, ce287 (z.2.1 0) o8 h11), (h12, ce364 (z.2.1 0) o9 h12)] [(kc0, .object "java/lang/Object"), (kc1, .object "java/lang/Object")] sz z)) (va_Qv (fun (_ : Unit) => True) (fun (_ : Unit) (t : State) => PG (dC, dI) [(h0, ce417 h1 o0), (h1, ce7 o1 h2 o2 h3), (h2, ce331 h4), (h3, ce366 h5), (h4, ce330 kc0 h6 h7 h8 h9 h10 h11 h12), (h5, ce330 kc1 h6 h7 h8 h9 h10 h11 h12), (h6, ce420 (z.2.1 0) o3 h6), (h7, ce421 (z.2.1 0) o4 h7), (h8, ce422 (z.2.1 0) o5 h8), (h9, ce423 (z.2.1 0) o6 h9), (h10, ce424 (z.2.1 0) o7 h10), (h11, ce425 (z.2.1 0) o8 h11), (h12, ce426 (z.2.1 0) o9 h12)] [(kc0, .object "java/lang/Object"), (kc1, .object "java/lang/Object")] (va_A [(h0, ce417 h1 o0), (h1, ce7 o1 h2 o2 h3), (h2, ce331 h4), (h3, ce366 h5), (h4, ce330 kc0 h6 h7 h8 h9 h10 h11 h12), (h5, ce330 kc1 h6 h7 h8 h9 h10 h11 h12), (h6, ce38 (z.2.1 0) o3 h6), (h7, ce77 (z.2.1 0) o4 h7), (h8, ce115 (z.2.1 0) o5 h8), (h9, ce165 (z.2.1 0) o6 h9), (h10, ce224 (z.2.1 0) o7 h10), (h11, ce287 (z.2.1 0) o8 h11), (h12, ce364 (z.2.1 0) o9 h12)] sz) sz 0 t) (va_A [(h0, ce417 h1 o0), (h1, ce7 o1 h2 o2 h3), (h2, ce331 h4), (h3, ce366 h5), (h4, ce330 kc0 h6 h7 h8 h9 h10 h11 h12), (h5, ce330 kc1 h6 h7 h8 h9 h10 h11 h12), (h6, ce38 (z.2.1 0) o3 h6), (h7, ce77 (z.2.1 0) o4 h7), (h8, ce115 (z.2.1 0) o5 h8), (h9, ce165 (z.2.1 0) o6 h9), (h10, ce224 (z.2.1 0) o7 h10), (h11, ce287 (z.2.1 0) o8 h11), (h12, ce364 (z.2.1 0) o9 h12)] sz)) 0 0 (va_A [(h0, ce417 h1 o0), (h1, ce7 o1 h2 o2 h3), (h2, ce331 h4), (h3, ce366 h5), (h4, ce330 kc0 h6 h7 h8 h9 h10 h11 h12), (h5, ce330 kc1 h6 h7 h8 h9 h10 h11 h12), (h6, ce38 (z.2.1 0) o3 h6), (h7, ce77 (z.2.1 0) o4 h7), (h8, ce115 (z.2.1 0) o5 h8), (h9, ce165 (z.2.1 0) o6 h9), (h10, ce224 (z.2.1 0) o7 h10), (h11, ce287 (z.2.1 0) o8 h11), (h12, ce364 (z.2.1 0) o9 h12)] sz) := by
  refine Met.ofW (cc := cX4_tryRow) (maxL := 5) (ret := none) (by decide) rfl ?_
  intro p e s m args below meth c s₁ B hml hv
  obtain ⟨rfl, hsz, hP, hK, hD0, hX, hT⟩ := hv
  have hx := B.exec
  have hb := B.bytes
  have hr := B.returns
  have hts0 := atoms_spec (ws := .code yX4_tryRow cX4_tryRow 5 none :: wsL_law) B.pre
  have hts := xTail hts0
  have hown : s.vm.findClass RX4 = some m.cls := xown B.named rfl
  have hlocks := B.notSynchronized
  subst hsz
  have hD := hD0.self (sz := s.heap.size)
  generalize hAe : va_A [(h0, ce417 h1 o0), (h1, ce7 o1 h2 o2 h3), (h2, ce331 h4), (h3, ce366 h5), (h4, ce330 kc0 h6 h7 h8 h9 h10 h11 h12), (h5, ce330 kc1 h6 h7 h8 h9 h10 h11 h12), (h6, ce38 (z.2.1 0) o3 h6), (h7, ce77 (z.2.1 0) o4 h7), (h8, ce115 (z.2.1 0) o5 h8), (h9, ce165 (z.2.1 0) o6 h9), (h10, ce224 (z.2.1 0) o7 h10), (h11, ce287 (z.2.1 0) o8 h11), (h12, ce364 (z.2.1 0) o9 h12)] s.heap.size = A at hD hX ⊢
  have hA : ∀ q : Nat, s.heap.size ≤ q → A q := fun q h => by rw [← hAe]; exact Or.inr h
  have hS : va_S A s.heap s.heap [] := va_S.rf
  have hG : s.heap.size + 0 ≤ s.heap.size := Nat.le_refl _
  have hl := lv_entry ([.ref h0, .int 0, .null, .int 120]) (n := 5) (Nat.le_of_ble_eq_true rfl)
  rw [lg_entry_eq]
  generalize (lg_sl ([.ref h0, .int 0, .null, .int 120]) ++ List.replicate (5 - (lg_sl ([.ref h0, .int 0, .null, .int 120])).length) Slot.unset).toArray = ls at hl ⊢
  have hl : lv_has ls 5 [(0, .ref h0), (1, .int 0), (2, .null), (3, .int 120)] := hl
  refine lv_iconst (v := 0) hx hb dX4_tryRow_0 (by decide) ?_
  refine lv_istore (lv' := [(4, .int 0), (0, .ref h0), (1, .int 0), (2, .null), (3, .int 120)]) hx hb dX4_tryRow_1 hl (by decide) rfl (fun ls hl => ?_)
  refine lv_iload hx hb dX4_tryRow_3 (lv_at hl 0 rfl) ?_
  refine lv_aload_n hx hb dX4_tryRow_5 rfl (lv_at hl 1 rfl) ?_
  refine va_get (D := (dC, dI)) (ci := 4) (v := .ref h1) (C := RX4) (T := TX4) (N := 3) hx hb hts in_X4 hown hK hP 0 rfl rfl 0 (by decide) (hts _ q_50) (fun _ h9 => h9) rfl dX4_tryRow_6 ?_
  refine va_get (D := (dC, dI)) (ci := 2) (v := .ref h2) (C := RX0) (T := TX0) (N := 4) hx hb hts in_X0 hown hK hP 1 rfl rfl 1 (by decide) (hts _ q_347) (fun _ h9 => h9) rfl dX4_tryRow_9 ?_
  have hM3 := k20_size l hl9 dC dI z h2 h4 s.heap.size 7 7
  obtain ⟨hF1, hC4⟩ := pc_M hM3 hP hD hK hS hX hT hA [2] [] rfl rfl rfl
  refine va_calli (va_runV (As := []) (rest := [.int 0]) ⟨hx, hb, hml, hown, hts⟩ hM3 (cwV 0 hts (gV q_348 q_77 q_78 q_12 q_75) rfl rfl rfl hV_Jx4a65c_size_8abf5 ⟨Nat.le_of_ble_eq_true rfl, Nat.le_of_ble_eq_true rfl⟩) ⟨pc_blind, va_recv hK hP (ci := 0) (q := (RJx4a65c, TJx4a65c, 3)) (q0 := 2) rfl rfl, fun U hU hW => ⟨rfl, hC4 U hU hW⟩⟩ rfl rfl hl.1 rfl (lv_room (Nat.le_of_ble_eq_true rfl)) dX4_tryRow_12 ⟨(Nat.le_of_ble_eq_true rfl), (Nat.le_of_ble_eq_true rfl)⟩) hS (fun q9 _ h9 => hF1 q9 h9) hF1 (fun r6 u5 t5 H5 L5 ht5 hvm5 hw5 hB5 hz5 hk5 hS => ?_)
  have hP := pq_keep hP hD [2] rfl hk5 hB5.1 ht5
  have hG : s.heap.size + 0 ≤ H5.size := Nat.le_trans hG hz5
  refine W.eq (g2 := F0 m 15 ls [.int 7, .int 0]) (by rw [hw5]) ?_
  refine lv_icmp_ge (tgt := 59) hx hb dX4_tryRow_15 (by decide) (fun cz => absurd cz (by decide)) (fun _ => ?_)
  refine lv_aload_n hx hb dX4_tryRow_18 rfl (lv_at hl 1 rfl) ?_
  refine va_get (D := (dC, dI)) (ci := 4) (v := .ref h1) (C := RX4) (T := TX4) (N := 3) hx hb hts in_X4 hown hK hP 0 rfl rfl 0 (by decide) (hts _ q_50) (fun _ h9 => h9) rfl dX4_tryRow_19 ?_
  refine va_get (D := (dC, dI)) (ci := 2) (v := .ref h2) (C := RX0) (T := TX0) (N := 4) hx hb hts in_X0 hown hK hP 1 rfl rfl 1 (by decide) (hts _ q_347) (fun _ h9 => h9) rfl dX4_tryRow_22 ?_
  refine lv_iload hx hb dX4_tryRow_25 (lv_at hl 0 rfl) ?_
  have hM9 := k632_get l hl9 dC dI z h2 h4 h6 h7 h8 h9 h10 h11 h12 H5.size kc0
  obtain ⟨hF7, hC10⟩ := pc_M hM9 hP hD hK hS hX hT hA [2, 4] [0] rfl rfl rfl
  refine va_callr (va_runV (As := [.int 0]) (rest := []) ⟨hx, hb, hml, hown, hts⟩ hM9 (cwV 1 hts (gV q_383 q_157 q_158 q_12 q_155) rfl rfl rfl hV_Jx4a65c_get_915e3 ⟨Nat.le_of_ble_eq_true rfl, Nat.le_of_ble_eq_true rfl⟩) ⟨pc_blind, va_recv hK hP (ci := 0) (q := (RJx4a65c, TJx4a65c, 3)) (q0 := 2) rfl rfl, fun U hU hW => ⟨rfl, hC10 U hU hW⟩⟩ rfl rfl hl.1 rfl (lv_room (Nat.le_of_ble_eq_true rfl)) dX4_tryRow_27 ⟨(Nat.le_of_ble_eq_true rfl), (Nat.le_of_ble_eq_true rfl)⟩) hS (fun q9 _ h9 => hF7 q9 h9) hF7 (fun u11 r12 t11 H11 L11 ht11 hvm11 hw11 hB11 hz11 hk11 hS => ?_)
  obtain ⟨hr11, hB11⟩ := hB11
  have hP := pq_keep hP hD [2, 4] rfl hk11 hB11.1 ht11
  have hG : s.heap.size + 0 ≤ H11.size := Nat.le_trans hG hz11
  refine W.eq (g2 := F0 m 30 ls [.ref h6]) (by rw [hr11]) ?_
  refine va_castE (nm := RX2) hx hb hown (hts _ q_384) (va_recv hK hP (ci := 3) (q := (RX2, TX2, 19)) (q0 := 6) rfl rfl) dX4_tryRow_30 ?_
  refine lv_iload_n hx hb dX4_tryRow_33 rfl (lv_at hl 2 rfl) ?_
  refine lv_iload hx hb dX4_tryRow_34 (lv_at hl 0 rfl) ?_
  refine lv_ishr hx hb dX4_tryRow_36 ?_
  refine lv_topi (fun y13 ey13 => ?_)
  obtain rfl : y13 = 0 := ey13.trans (by decide)
  refine lv_iconst (v := 1) hx hb dX4_tryRow_37 (by decide) ?_
  refine lv_iand hx hb dX4_tryRow_38 ?_
  refine lv_topi (fun y14 ey14 => ?_)
  obtain rfl : y14 = 0 := ey14.trans (by decide)
  refine lv_iconst (v := 1) hx hb dX4_tryRow_39 (by decide) ?_
  refine lv_icmp_ne (tgt := 48) hx hb dX4_tryRow_40 (by decide) (fun _ => ?_) (fun cz => absurd cz (by decide))
  refine lv_bipush (v := 48) hx hb dX4_tryRow_48 (by decide) ?_
  refine va_put (D := (dC, dI)) (ci := 3) (v := .int 48) (ty := .char) (C := RX2) (T := TX2) (N := 19) hx hb hts in_X2 tyX2 tyX2_ok nmX2 hown hK hP hD (va_Sre hS) 6 rfl rfl 11 (by decide) (hts _ q_385) (fun _ h9 => h9) rfl (by decide +kernel) rfl rfl (Nat.le_of_ble_eq_true rfl) dX4_tryRow_50 (fun H15 _ hP hD hS' => ?_)
  have hG : s.heap.size + 0 ≤ H15.size := Nat.le_trans hG hS'.1
  have hS := va_Str hS hS'
  have hP : va_P (dC, dI) xCl [(h0, ce417 h1 o0), (h1, ce7 o1 h2 o2 h3), (h2, ce331 h4), (h3, ce366 h5), (h4, ce330 kc0 h6 h7 h8 h9 h10 h11 h12), (h5, ce330 kc1 h6 h7 h8 h9 h10 h11 h12), (h6, ce420 (z.2.1 0) o3 h6), (h7, ce77 (z.2.1 0) o4 h7), (h8, ce115 (z.2.1 0) o5 h8), (h9, ce165 (z.2.1 0) o6 h9), (h10, ce224 (z.2.1 0) o7 h10), (h11, ce287 (z.2.1 0) o8 h11), (h12, ce364 (z.2.1 0) o9 h12)] H15 := hP
  have hD := vd_as hP hD rfl
  refine lv_iinc (v := 1) (lv' := [(4, .int 1), (0, .ref h0), (1, .int 0), (2, .null), (3, .int 120)]) hx hb dX4_tryRow_53 hl (k := 0) rfl (by decide) (by decide) rfl (fun ls hl => ?_)
  refine lv_goto (tgt := 3) hx hb dX4_tryRow_56 (by decide) ?_
  refine lv_iload hx hb dX4_tryRow_3 (lv_at hl 0 rfl) ?_
  refine lv_aload_n hx hb dX4_tryRow_5 rfl (lv_at hl 1 rfl) ?_
  refine va_get (D := (dC, dI)) (ci := 4) (v := .ref h1) (C := RX4) (T := TX4) (N := 3) hx hb hts in_X4 hown hK hP 0 rfl rfl 0 (by decide) (hts _ q_50) (fun _ h9 => h9) rfl dX4_tryRow_6 ?_
  refine va_get (D := (dC, dI)) (ci := 2) (v := .ref h2) (C := RX0) (T := TX0) (N := 4) hx hb hts in_X0 hown hK hP 1 rfl rfl 1 (by decide) (hts _ q_347) (fun _ h9 => h9) rfl dX4_tryRow_9 ?_
  have hM18 := k20_size l hl9 dC dI z h2 h4 H15.size 7 7
  obtain ⟨hF16, hC19⟩ := pc_M hM18 hP hD hK hS hX hT hA [2] [] rfl rfl rfl
  refine va_calli (va_runV (As := []) (rest := [.int 1]) ⟨hx, hb, hml, hown, hts⟩ hM18 (cwV 0 hts (gV q_348 q_77 q_78 q_12 q_75) rfl rfl rfl hV_Jx4a65c_size_8abf5 ⟨Nat.le_of_ble_eq_true rfl, Nat.le_of_ble_eq_true rfl⟩) ⟨pc_blind, va_recv hK hP (ci := 0) (q := (RJx4a65c, TJx4a65c, 3)) (q0 := 2) rfl rfl, fun U hU hW => ⟨rfl, hC19 U hU hW⟩⟩ rfl rfl hl.1 rfl (lv_room (Nat.le_of_ble_eq_true rfl)) dX4_tryRow_12 ⟨(Nat.le_of_ble_eq_true rfl), (Nat.le_of_ble_eq_true rfl)⟩) hS (fun q9 _ h9 => hF16 q9 h9) hF16 (fun r21 u20 t20 H20 L20 ht20 hvm20 hw20 hB20 hz20 hk20 hS => ?_)
  have hP := pq_keep hP hD [2] rfl hk20 hB20.1 ht20
  have hG : s.heap.size + 0 ≤ H20.size := Nat.le_trans hG hz20
  refine W.eq (g2 := F0 m 15 ls [.int 7, .int 1]) (by rw [hw20]) ?_
  refine lv_icmp_ge (tgt := 59) hx hb dX4_tryRow_15 (by decide) (fun cz => absurd cz (by decide)) (fun _ => ?_)
  refine lv_aload_n hx hb dX4_tryRow_18 rfl (lv_at hl 1 rfl) ?_
  refine va_get (D := (dC, dI)) (ci := 4) (v := .ref h1) (C := RX4) (T := TX4) (N := 3) hx hb hts in_X4 hown hK hP 0 rfl rfl 0 (by decide) (hts _ q_50) (fun _ h9 => h9) rfl dX4_tryRow_19 ?_
  refine va_get (D := (dC, dI)) (ci := 2) (v := .ref h2) (C := RX0) (T := TX0) (N := 4) hx hb hts in_X0 hown hK hP 1 rfl rfl 1 (by decide) (hts _ q_347) (fun _ h9 => h9) rfl dX4_tryRow_22 ?_
  refine lv_iload hx hb dX4_tryRow_25 (lv_at hl 0 rfl) ?_
  have hM24 := k636_get l hl9 dC dI z h2 h4 h6 h7 h8 h9 h10 h11 h12 H20.size kc0
  obtain ⟨hF22, hC25⟩ := pc_M hM24 hP hD hK hS hX hT hA [2, 4] [0] rfl rfl rfl
  refine va_callr (va_runV (As := [.int 1]) (rest := []) ⟨hx, hb, hml, hown, hts⟩ hM24 (cwV 1 hts (gV q_383 q_157 q_158 q_12 q_155) rfl rfl rfl hV_Jx4a65c_get_915e3 ⟨Nat.le_of_ble_eq_true rfl, Nat.le_of_ble_eq_true rfl⟩) ⟨pc_blind, va_recv hK hP (ci := 0) (q := (RJx4a65c, TJx4a65c, 3)) (q0 := 2) rfl rfl, fun U hU hW => ⟨rfl, hC25 U hU hW⟩⟩ rfl rfl hl.1 rfl (lv_room (Nat.le_of_ble_eq_true rfl)) dX4_tryRow_27 ⟨(Nat.le_of_ble_eq_true rfl), (Nat.le_of_ble_eq_true rfl)⟩) hS (fun q9 _ h9 => hF22 q9 h9) hF22 (fun u26 r27 t26 H26 L26 ht26 hvm26 hw26 hB26 hz26 hk26 hS => ?_)
  obtain ⟨hr26, hB26⟩ := hB26
  have hP := pq_keep hP hD [2, 4] rfl hk26 hB26.1 ht26
  have hG : s.heap.size + 0 ≤ H26.size := Nat.le_trans hG hz26
  refine W.eq (g2 := F0 m 30 ls [.ref h7]) (by rw [hr26]) ?_
  refine va_castE (nm := RX2) hx hb hown (hts _ q_384) (va_recv hK hP (ci := 3) (q := (RX2, TX2, 19)) (q0 := 7) rfl rfl) dX4_tryRow_30 ?_
  refine lv_iload_n hx hb dX4_tryRow_33 rfl (lv_at hl 2 rfl) ?_
  refine lv_iload hx hb dX4_tryRow_34 (lv_at hl 0 rfl) ?_
  refine lv_ishr hx hb dX4_tryRow_36 ?_
  refine lv_topi (fun y28 ey28 => ?_)
  obtain rfl : y28 = 0 := ey28.trans (by decide)
  refine lv_iconst (v := 1) hx hb dX4_tryRow_37 (by decide) ?_
  refine lv_iand hx hb dX4_tryRow_38 ?_
  refine lv_topi (fun y29 ey29 => ?_)
  obtain rfl : y29 = 0 := ey29.trans (by decide)
  refine lv_iconst (v := 1) hx hb dX4_tryRow_39 (by decide) ?_
  refine lv_icmp_ne (tgt := 48) hx hb dX4_tryRow_40 (by decide) (fun _ => ?_) (fun cz => absurd cz (by decide))
  refine lv_bipush (v := 48) hx hb dX4_tryRow_48 (by decide) ?_
  refine va_put (D := (dC, dI)) (ci := 3) (v := .int 48) (ty := .char) (C := RX2) (T := TX2) (N := 19) hx hb hts in_X2 tyX2 tyX2_ok nmX2 hown hK hP hD (va_Sre hS) 7 rfl rfl 11 (by decide) (hts _ q_385) (fun _ h9 => h9) rfl (by decide +kernel) rfl rfl (Nat.le_of_ble_eq_true rfl) dX4_tryRow_50 (fun H30 _ hP hD hS' => ?_)
  have hG : s.heap.size + 0 ≤ H30.size := Nat.le_trans hG hS'.1
  have hS := va_Str hS hS'
  have hP : va_P (dC, dI) xCl [(h0, ce417 h1 o0), (h1, ce7 o1 h2 o2 h3), (h2, ce331 h4), (h3, ce366 h5), (h4, ce330 kc0 h6 h7 h8 h9 h10 h11 h12), (h5, ce330 kc1 h6 h7 h8 h9 h10 h11 h12), (h6, ce420 (z.2.1 0) o3 h6), (h7, ce421 (z.2.1 0) o4 h7), (h8, ce115 (z.2.1 0) o5 h8), (h9, ce165 (z.2.1 0) o6 h9), (h10, ce224 (z.2.1 0) o7 h10), (h11, ce287 (z.2.1 0) o8 h11), (h12, ce364 (z.2.1 0) o9 h12)] H30 := hP
  have hD := vd_as hP hD rfl
  refine lv_iinc (v := 2) (lv' := [(4, .int 2), (0, .ref h0), (1, .int 0), (2, .null), (3, .int 120)]) hx hb dX4_tryRow_53 hl (k := 0) rfl (by decide) (by decide) rfl (fun ls hl => ?_)
  refine lv_goto (tgt := 3) hx hb dX4_tryRow_56 (by decide) ?_
  refine lv_iload hx hb dX4_tryRow_3 (lv_at hl 0 rfl) ?_
  refine lv_aload_n hx hb dX4_tryRow_5 rfl (lv_at hl 1 rfl) ?_
  refine va_get (D := (dC, dI)) (ci := 4) (v := .ref h1) (C := RX4) (T := TX4) (N := 3) hx hb hts in_X4 hown hK hP 0 rfl rfl 0 (by decide) (hts _ q_50) (fun _ h9 => h9) rfl dX4_tryRow_6 ?_
  refine va_get (D := (dC, dI)) (ci := 2) (v := .ref h2) (C := RX0) (T := TX0) (N := 4) hx hb hts in_X0 hown hK hP 1 rfl rfl 1 (by decide) (hts _ q_347) (fun _ h9 => h9) rfl dX4_tryRow_9 ?_
  have hM33 := k20_size l hl9 dC dI z h2 h4 H30.size 7 7
  obtain ⟨hF31, hC34⟩ := pc_M hM33 hP hD hK hS hX hT hA [2] [] rfl rfl rfl
  refine va_calli (va_runV (As := []) (rest := [.int 2]) ⟨hx, hb, hml, hown, hts⟩ hM33 (cwV 0 hts (gV q_348 q_77 q_78 q_12 q_75) rfl rfl rfl hV_Jx4a65c_size_8abf5 ⟨Nat.le_of_ble_eq_true rfl, Nat.le_of_ble_eq_true rfl⟩) ⟨pc_blind, va_recv hK hP (ci := 0) (q := (RJx4a65c, TJx4a65c, 3)) (q0 := 2) rfl rfl, fun U hU hW => ⟨rfl, hC34 U hU hW⟩⟩ rfl rfl hl.1 rfl (lv_room (Nat.le_of_ble_eq_true rfl)) dX4_tryRow_12 ⟨(Nat.le_of_ble_eq_true rfl), (Nat.le_of_ble_eq_true rfl)⟩) hS (fun q9 _ h9 => hF31 q9 h9) hF31 (fun r36 u35 t35 H35 L35 ht35 hvm35 hw35 hB35 hz35 hk35 hS => ?_)
  have hP := pq_keep hP hD [2] rfl hk35 hB35.1 ht35
  have hG : s.heap.size + 0 ≤ H35.size := Nat.le_trans hG hz35
  refine W.eq (g2 := F0 m 15 ls [.int 7, .int 2]) (by rw [hw35]) ?_
  refine lv_icmp_ge (tgt := 59) hx hb dX4_tryRow_15 (by decide) (fun cz => absurd cz (by decide)) (fun _ => ?_)
  refine lv_aload_n hx hb dX4_tryRow_18 rfl (lv_at hl 1 rfl) ?_
  refine va_get (D := (dC, dI)) (ci := 4) (v := .ref h1) (C := RX4) (T := TX4) (N := 3) hx hb hts in_X4 hown hK hP 0 rfl rfl 0 (by decide) (hts _ q_50) (fun _ h9 => h9) rfl dX4_tryRow_19 ?_
  refine va_get (D := (dC, dI)) (ci := 2) (v := .ref h2) (C := RX0) (T := TX0) (N := 4) hx hb hts in_X0 hown hK hP 1 rfl rfl 1 (by decide) (hts _ q_347) (fun _ h9 => h9) rfl dX4_tryRow_22 ?_
  refine lv_iload hx hb dX4_tryRow_25 (lv_at hl 0 rfl) ?_
  have hM39 := k640_get l hl9 dC dI z h2 h4 h6 h7 h8 h9 h10 h11 h12 H35.size kc0
  obtain ⟨hF37, hC40⟩ := pc_M hM39 hP hD hK hS hX hT hA [2, 4] [0] rfl rfl rfl
  refine va_callr (va_runV (As := [.int 2]) (rest := []) ⟨hx, hb, hml, hown, hts⟩ hM39 (cwV 1 hts (gV q_383 q_157 q_158 q_12 q_155) rfl rfl rfl hV_Jx4a65c_get_915e3 ⟨Nat.le_of_ble_eq_true rfl, Nat.le_of_ble_eq_true rfl⟩) ⟨pc_blind, va_recv hK hP (ci := 0) (q := (RJx4a65c, TJx4a65c, 3)) (q0 := 2) rfl rfl, fun U hU hW => ⟨rfl, hC40 U hU hW⟩⟩ rfl rfl hl.1 rfl (lv_room (Nat.le_of_ble_eq_true rfl)) dX4_tryRow_27 ⟨(Nat.le_of_ble_eq_true rfl), (Nat.le_of_ble_eq_true rfl)⟩) hS (fun q9 _ h9 => hF37 q9 h9) hF37 (fun u41 r42 t41 H41 L41 ht41 hvm41 hw41 hB41 hz41 hk41 hS => ?_)
  obtain ⟨hr41, hB41⟩ := hB41
  have hP := pq_keep hP hD [2, 4] rfl hk41 hB41.1 ht41
  have hG : s.heap.size + 0 ≤ H41.size := Nat.le_trans hG hz41
  refine W.eq (g2 := F0 m 30 ls [.ref h8]) (by rw [hr41]) ?_
  refine va_castE (nm := RX2) hx hb hown (hts _ q_384) (va_recv hK hP (ci := 3) (q := (RX2, TX2, 19)) (q0 := 8) rfl rfl) dX4_tryRow_30 ?_
  refine lv_iload_n hx hb dX4_tryRow_33 rfl (lv_at hl 2 rfl) ?_
  refine lv_iload hx hb dX4_tryRow_34 (lv_at hl 0 rfl) ?_
  refine lv_ishr hx hb dX4_tryRow_36 ?_
  refine lv_topi (fun y43 ey43 => ?_)
  obtain rfl : y43 = 0 := ey43.trans (by decide)
  refine lv_iconst (v := 1) hx hb dX4_tryRow_37 (by decide) ?_
  refine lv_iand hx hb dX4_tryRow_38 ?_
  refine lv_topi (fun y44 ey44 => ?_)
  obtain rfl : y44 = 0 := ey44.trans (by decide)
  refine lv_iconst (v := 1) hx hb dX4_tryRow_39 (by decide) ?_
  refine lv_icmp_ne (tgt := 48) hx hb dX4_tryRow_40 (by decide) (fun _ => ?_) (fun cz => absurd cz (by decide))
  refine lv_bipush (v := 48) hx hb dX4_tryRow_48 (by decide) ?_
  refine va_put (D := (dC, dI)) (ci := 3) (v := .int 48) (ty := .char) (C := RX2) (T := TX2) (N := 19) hx hb hts in_X2 tyX2 tyX2_ok nmX2 hown hK hP hD (va_Sre hS) 8 rfl rfl 11 (by decide) (hts _ q_385) (fun _ h9 => h9) rfl (by decide +kernel) rfl rfl (Nat.le_of_ble_eq_true rfl) dX4_tryRow_50 (fun H45 _ hP hD hS' => ?_)
  have hG : s.heap.size + 0 ≤ H45.size := Nat.le_trans hG hS'.1
  have hS := va_Str hS hS'
  have hP : va_P (dC, dI) xCl [(h0, ce417 h1 o0), (h1, ce7 o1 h2 o2 h3), (h2, ce331 h4), (h3, ce366 h5), (h4, ce330 kc0 h6 h7 h8 h9 h10 h11 h12), (h5, ce330 kc1 h6 h7 h8 h9 h10 h11 h12), (h6, ce420 (z.2.1 0) o3 h6), (h7, ce421 (z.2.1 0) o4 h7), (h8, ce422 (z.2.1 0) o5 h8), (h9, ce165 (z.2.1 0) o6 h9), (h10, ce224 (z.2.1 0) o7 h10), (h11, ce287 (z.2.1 0) o8 h11), (h12, ce364 (z.2.1 0) o9 h12)] H45 := hP
  have hD := vd_as hP hD rfl
  refine lv_iinc (v := 3) (lv' := [(4, .int 3), (0, .ref h0), (1, .int 0), (2, .null), (3, .int 120)]) hx hb dX4_tryRow_53 hl (k := 0) rfl (by decide) (by decide) rfl (fun ls hl => ?_)
  refine lv_goto (tgt := 3) hx hb dX4_tryRow_56 (by decide) ?_
  refine lv_iload hx hb dX4_tryRow_3 (lv_at hl 0 rfl) ?_
  refine lv_aload_n hx hb dX4_tryRow_5 rfl (lv_at hl 1 rfl) ?_
  refine va_get (D := (dC, dI)) (ci := 4) (v := .ref h1) (C := RX4) (T := TX4) (N := 3) hx hb hts in_X4 hown hK hP 0 rfl rfl 0 (by decide) (hts _ q_50) (fun _ h9 => h9) rfl dX4_tryRow_6 ?_
  refine va_get (D := (dC, dI)) (ci := 2) (v := .ref h2) (C := RX0) (T := TX0) (N := 4) hx hb hts in_X0 hown hK hP 1 rfl rfl 1 (by decide) (hts _ q_347) (fun _ h9 => h9) rfl dX4_tryRow_9 ?_
  have hM48 := k20_size l hl9 dC dI z h2 h4 H45.size 7 7
  obtain ⟨hF46, hC49⟩ := pc_M hM48 hP hD hK hS hX hT hA [2] [] rfl rfl rfl
  refine va_calli (va_runV (As := []) (rest := [.int 3]) ⟨hx, hb, hml, hown, hts⟩ hM48 (cwV 0 hts (gV q_348 q_77 q_78 q_12 q_75) rfl rfl rfl hV_Jx4a65c_size_8abf5 ⟨Nat.le_of_ble_eq_true rfl, Nat.le_of_ble_eq_true rfl⟩) ⟨pc_blind, va_recv hK hP (ci := 0) (q := (RJx4a65c, TJx4a65c, 3)) (q0 := 2) rfl rfl, fun U hU hW => ⟨rfl, hC49 U hU hW⟩⟩ rfl rfl hl.1 rfl (lv_room (Nat.le_of_ble_eq_true rfl)) dX4_tryRow_12 ⟨(Nat.le_of_ble_eq_true rfl), (Nat.le_of_ble_eq_true rfl)⟩) hS (fun q9 _ h9 => hF46 q9 h9) hF46 (fun r51 u50 t50 H50 L50 ht50 hvm50 hw50 hB50 hz50 hk50 hS => ?_)
  have hP := pq_keep hP hD [2] rfl hk50 hB50.1 ht50
  have hG : s.heap.size + 0 ≤ H50.size := Nat.le_trans hG hz50
  refine W.eq (g2 := F0 m 15 ls [.int 7, .int 3]) (by rw [hw50]) ?_
  refine lv_icmp_ge (tgt := 59) hx hb dX4_tryRow_15 (by decide) (fun cz => absurd cz (by decide)) (fun _ => ?_)
  refine lv_aload_n hx hb dX4_tryRow_18 rfl (lv_at hl 1 rfl) ?_
  refine va_get (D := (dC, dI)) (ci := 4) (v := .ref h1) (C := RX4) (T := TX4) (N := 3) hx hb hts in_X4 hown hK hP 0 rfl rfl 0 (by decide) (hts _ q_50) (fun _ h9 => h9) rfl dX4_tryRow_19 ?_
  refine va_get (D := (dC, dI)) (ci := 2) (v := .ref h2) (C := RX0) (T := TX0) (N := 4) hx hb hts in_X0 hown hK hP 1 rfl rfl 1 (by decide) (hts _ q_347) (fun _ h9 => h9) rfl dX4_tryRow_22 ?_
  refine lv_iload hx hb dX4_tryRow_25 (lv_at hl 0 rfl) ?_
  have hM54 := k644_get l hl9 dC dI z h2 h4 h6 h7 h8 h9 h10 h11 h12 H50.size kc0
  obtain ⟨hF52, hC55⟩ := pc_M hM54 hP hD hK hS hX hT hA [2, 4] [0] rfl rfl rfl
  refine va_callr (va_runV (As := [.int 3]) (rest := []) ⟨hx, hb, hml, hown, hts⟩ hM54 (cwV 1 hts (gV q_383 q_157 q_158 q_12 q_155) rfl rfl rfl hV_Jx4a65c_get_915e3 ⟨Nat.le_of_ble_eq_true rfl, Nat.le_of_ble_eq_true rfl⟩) ⟨pc_blind, va_recv hK hP (ci := 0) (q := (RJx4a65c, TJx4a65c, 3)) (q0 := 2) rfl rfl, fun U hU hW => ⟨rfl, hC55 U hU hW⟩⟩ rfl rfl hl.1 rfl (lv_room (Nat.le_of_ble_eq_true rfl)) dX4_tryRow_27 ⟨(Nat.le_of_ble_eq_true rfl), (Nat.le_of_ble_eq_true rfl)⟩) hS (fun q9 _ h9 => hF52 q9 h9) hF52 (fun u56 r57 t56 H56 L56 ht56 hvm56 hw56 hB56 hz56 hk56 hS => ?_)
  obtain ⟨hr56, hB56⟩ := hB56
  have hP := pq_keep hP hD [2, 4] rfl hk56 hB56.1 ht56
  have hG : s.heap.size + 0 ≤ H56.size := Nat.le_trans hG hz56
  refine W.eq (g2 := F0 m 30 ls [.ref h9]) (by rw [hr56]) ?_
  refine va_castE (nm := RX2) hx hb hown (hts _ q_384) (va_recv hK hP (ci := 3) (q := (RX2, TX2, 19)) (q0 := 9) rfl rfl) dX4_tryRow_30 ?_
  refine lv_iload_n hx hb dX4_tryRow_33 rfl (lv_at hl 2 rfl) ?_
  refine lv_iload hx hb dX4_tryRow_34 (lv_at hl 0 rfl) ?_
  refine lv_ishr hx hb dX4_tryRow_36 ?_
  refine lv_topi (fun y58 ey58 => ?_)
  obtain rfl : y58 = 0 := ey58.trans (by decide)
  refine lv_iconst (v := 1) hx hb dX4_tryRow_37 (by decide) ?_
  refine lv_iand hx hb dX4_tryRow_38 ?_
  refine lv_topi (fun y59 ey59 => ?_)
  obtain rfl : y59 = 0 := ey59.trans (by decide)
  refine lv_iconst (v := 1) hx hb dX4_tryRow_39 (by decide) ?_
  refine lv_icmp_ne (tgt := 48) hx hb dX4_tryRow_40 (by decide) (fun _ => ?_) (fun cz => absurd cz (by decide))
  refine lv_bipush (v := 48) hx hb dX4_tryRow_48 (by decide) ?_
  refine va_put (D := (dC, dI)) (ci := 3) (v := .int 48) (ty := .char) (C := RX2) (T := TX2) (N := 19) hx hb hts in_X2 tyX2 tyX2_ok nmX2 hown hK hP hD (va_Sre hS) 9 rfl rfl 11 (by decide) (hts _ q_385) (fun _ h9 => h9) rfl (by decide +kernel) rfl rfl (Nat.le_of_ble_eq_true rfl) dX4_tryRow_50 (fun H60 _ hP hD hS' => ?_)
  have hG : s.heap.size + 0 ≤ H60.size := Nat.le_trans hG hS'.1
  have hS := va_Str hS hS'
  have hP : va_P (dC, dI) xCl [(h0, ce417 h1 o0), (h1, ce7 o1 h2 o2 h3), (h2, ce331 h4), (h3, ce366 h5), (h4, ce330 kc0 h6 h7 h8 h9 h10 h11 h12), (h5, ce330 kc1 h6 h7 h8 h9 h10 h11 h12), (h6, ce420 (z.2.1 0) o3 h6), (h7, ce421 (z.2.1 0) o4 h7), (h8, ce422 (z.2.1 0) o5 h8), (h9, ce423 (z.2.1 0) o6 h9), (h10, ce224 (z.2.1 0) o7 h10), (h11, ce287 (z.2.1 0) o8 h11), (h12, ce364 (z.2.1 0) o9 h12)] H60 := hP
  have hD := vd_as hP hD rfl
  refine lv_iinc (v := 4) (lv' := [(4, .int 4), (0, .ref h0), (1, .int 0), (2, .null), (3, .int 120)]) hx hb dX4_tryRow_53 hl (k := 0) rfl (by decide) (by decide) rfl (fun ls hl => ?_)
  refine lv_goto (tgt := 3) hx hb dX4_tryRow_56 (by decide) ?_
  refine lv_iload hx hb dX4_tryRow_3 (lv_at hl 0 rfl) ?_
  refine lv_aload_n hx hb dX4_tryRow_5 rfl (lv_at hl 1 rfl) ?_
  refine va_get (D := (dC, dI)) (ci := 4) (v := .ref h1) (C := RX4) (T := TX4) (N := 3) hx hb hts in_X4 hown hK hP 0 rfl rfl 0 (by decide) (hts _ q_50) (fun _ h9 => h9) rfl dX4_tryRow_6 ?_
  refine va_get (D := (dC, dI)) (ci := 2) (v := .ref h2) (C := RX0) (T := TX0) (N := 4) hx hb hts in_X0 hown hK hP 1 rfl rfl 1 (by decide) (hts _ q_347) (fun _ h9 => h9) rfl dX4_tryRow_9 ?_
  have hM63 := k20_size l hl9 dC dI z h2 h4 H60.size 7 7
  obtain ⟨hF61, hC64⟩ := pc_M hM63 hP hD hK hS hX hT hA [2] [] rfl rfl rfl
  refine va_calli (va_runV (As := []) (rest := [.int 4]) ⟨hx, hb, hml, hown, hts⟩ hM63 (cwV 0 hts (gV q_348 q_77 q_78 q_12 q_75) rfl rfl rfl hV_Jx4a65c_size_8abf5 ⟨Nat.le_of_ble_eq_true rfl, Nat.le_of_ble_eq_true rfl⟩) ⟨pc_blind, va_recv hK hP (ci := 0) (q := (RJx4a65c, TJx4a65c, 3)) (q0 := 2) rfl rfl, fun U hU hW => ⟨rfl, hC64 U hU hW⟩⟩ rfl rfl hl.1 rfl (lv_room (Nat.le_of_ble_eq_true rfl)) dX4_tryRow_12 ⟨(Nat.le_of_ble_eq_true rfl), (Nat.le_of_ble_eq_true rfl)⟩) hS (fun q9 _ h9 => hF61 q9 h9) hF61 (fun r66 u65 t65 H65 L65 ht65 hvm65 hw65 hB65 hz65 hk65 hS => ?_)
  have hP := pq_keep hP hD [2] rfl hk65 hB65.1 ht65
  have hG : s.heap.size + 0 ≤ H65.size := Nat.le_trans hG hz65
  refine W.eq (g2 := F0 m 15 ls [.int 7, .int 4]) (by rw [hw65]) ?_
  refine lv_icmp_ge (tgt := 59) hx hb dX4_tryRow_15 (by decide) (fun cz => absurd cz (by decide)) (fun _ => ?_)
  refine lv_aload_n hx hb dX4_tryRow_18 rfl (lv_at hl 1 rfl) ?_
  refine va_get (D := (dC, dI)) (ci := 4) (v := .ref h1) (C := RX4) (T := TX4) (N := 3) hx hb hts in_X4 hown hK hP 0 rfl rfl 0 (by decide) (hts _ q_50) (fun _ h9 => h9) rfl dX4_tryRow_19 ?_
  refine va_get (D := (dC, dI)) (ci := 2) (v := .ref h2) (C := RX0) (T := TX0) (N := 4) hx hb hts in_X0 hown hK hP 1 rfl rfl 1 (by decide) (hts _ q_347) (fun _ h9 => h9) rfl dX4_tryRow_22 ?_
  refine lv_iload hx hb dX4_tryRow_25 (lv_at hl 0 rfl) ?_
  have hM69 := k648_get l hl9 dC dI z h2 h4 h6 h7 h8 h9 h10 h11 h12 H65.size kc0
  obtain ⟨hF67, hC70⟩ := pc_M hM69 hP hD hK hS hX hT hA [2, 4] [0] rfl rfl rfl
  refine va_callr (va_runV (As := [.int 4]) (rest := []) ⟨hx, hb, hml, hown, hts⟩ hM69 (cwV 1 hts (gV q_383 q_157 q_158 q_12 q_155) rfl rfl rfl hV_Jx4a65c_get_915e3 ⟨Nat.le_of_ble_eq_true rfl, Nat.le_of_ble_eq_true rfl⟩) ⟨pc_blind, va_recv hK hP (ci := 0) (q := (RJx4a65c, TJx4a65c, 3)) (q0 := 2) rfl rfl, fun U hU hW => ⟨rfl, hC70 U hU hW⟩⟩ rfl rfl hl.1 rfl (lv_room (Nat.le_of_ble_eq_true rfl)) dX4_tryRow_27 ⟨(Nat.le_of_ble_eq_true rfl), (Nat.le_of_ble_eq_true rfl)⟩) hS (fun q9 _ h9 => hF67 q9 h9) hF67 (fun u71 r72 t71 H71 L71 ht71 hvm71 hw71 hB71 hz71 hk71 hS => ?_)
  obtain ⟨hr71, hB71⟩ := hB71
  have hP := pq_keep hP hD [2, 4] rfl hk71 hB71.1 ht71
  have hG : s.heap.size + 0 ≤ H71.size := Nat.le_trans hG hz71
  refine W.eq (g2 := F0 m 30 ls [.ref h10]) (by rw [hr71]) ?_
  refine va_castE (nm := RX2) hx hb hown (hts _ q_384) (va_recv hK hP (ci := 3) (q := (RX2, TX2, 19)) (q0 := 10) rfl rfl) dX4_tryRow_30 ?_
  refine lv_iload_n hx hb dX4_tryRow_33 rfl (lv_at hl 2 rfl) ?_
  refine lv_iload hx hb dX4_tryRow_34 (lv_at hl 0 rfl) ?_
  refine lv_ishr hx hb dX4_tryRow_36 ?_
  refine lv_topi (fun y73 ey73 => ?_)
  obtain rfl : y73 = 0 := ey73.trans (by decide)
  refine lv_iconst (v := 1) hx hb dX4_tryRow_37 (by decide) ?_
  refine lv_iand hx hb dX4_tryRow_38 ?_
  refine lv_topi (fun y74 ey74 => ?_)
  obtain rfl : y74 = 0 := ey74.trans (by decide)
  refine lv_iconst (v := 1) hx hb dX4_tryRow_39 (by decide) ?_
  refine lv_icmp_ne (tgt := 48) hx hb dX4_tryRow_40 (by decide) (fun _ => ?_) (fun cz => absurd cz (by decide))
  refine lv_bipush (v := 48) hx hb dX4_tryRow_48 (by decide) ?_
  refine va_put (D := (dC, dI)) (ci := 3) (v := .int 48) (ty := .char) (C := RX2) (T := TX2) (N := 19) hx hb hts in_X2 tyX2 tyX2_ok nmX2 hown hK hP hD (va_Sre hS) 10 rfl rfl 11 (by decide) (hts _ q_385) (fun _ h9 => h9) rfl (by decide +kernel) rfl rfl (Nat.le_of_ble_eq_true rfl) dX4_tryRow_50 (fun H75 _ hP hD hS' => ?_)
  have hG : s.heap.size + 0 ≤ H75.size := Nat.le_trans hG hS'.1
  have hS := va_Str hS hS'
  have hP : va_P (dC, dI) xCl [(h0, ce417 h1 o0), (h1, ce7 o1 h2 o2 h3), (h2, ce331 h4), (h3, ce366 h5), (h4, ce330 kc0 h6 h7 h8 h9 h10 h11 h12), (h5, ce330 kc1 h6 h7 h8 h9 h10 h11 h12), (h6, ce420 (z.2.1 0) o3 h6), (h7, ce421 (z.2.1 0) o4 h7), (h8, ce422 (z.2.1 0) o5 h8), (h9, ce423 (z.2.1 0) o6 h9), (h10, ce424 (z.2.1 0) o7 h10), (h11, ce287 (z.2.1 0) o8 h11), (h12, ce364 (z.2.1 0) o9 h12)] H75 := hP
  have hD := vd_as hP hD rfl
  refine lv_iinc (v := 5) (lv' := [(4, .int 5), (0, .ref h0), (1, .int 0), (2, .null), (3, .int 120)]) hx hb dX4_tryRow_53 hl (k := 0) rfl (by decide) (by decide) rfl (fun ls hl => ?_)
  refine lv_goto (tgt := 3) hx hb dX4_tryRow_56 (by decide) ?_
  refine lv_iload hx hb dX4_tryRow_3 (lv_at hl 0 rfl) ?_
  refine lv_aload_n hx hb dX4_tryRow_5 rfl (lv_at hl 1 rfl) ?_
  refine va_get (D := (dC, dI)) (ci := 4) (v := .ref h1) (C := RX4) (T := TX4) (N := 3) hx hb hts in_X4 hown hK hP 0 rfl rfl 0 (by decide) (hts _ q_50) (fun _ h9 => h9) rfl dX4_tryRow_6 ?_
  refine va_get (D := (dC, dI)) (ci := 2) (v := .ref h2) (C := RX0) (T := TX0) (N := 4) hx hb hts in_X0 hown hK hP 1 rfl rfl 1 (by decide) (hts _ q_347) (fun _ h9 => h9) rfl dX4_tryRow_9 ?_
  have hM78 := k20_size l hl9 dC dI z h2 h4 H75.size 7 7
  obtain ⟨hF76, hC79⟩ := pc_M hM78 hP hD hK hS hX hT hA [2] [] rfl rfl rfl
  refine va_calli (va_runV (As := []) (rest := [.int 5]) ⟨hx, hb, hml, hown, hts⟩ hM78 (cwV 0 hts (gV q_348 q_77 q_78 q_12 q_75) rfl rfl rfl hV_Jx4a65c_size_8abf5 ⟨Nat.le_of_ble_eq_true rfl, Nat.le_of_ble_eq_true rfl⟩) ⟨pc_blind, va_recv hK hP (ci := 0) (q := (RJx4a65c, TJx4a65c, 3)) (q0 := 2) rfl rfl, fun U hU hW => ⟨rfl, hC79 U hU hW⟩⟩ rfl rfl hl.1 rfl (lv_room (Nat.le_of_ble_eq_true rfl)) dX4_tryRow_12 ⟨(Nat.le_of_ble_eq_true rfl), (Nat.le_of_ble_eq_true rfl)⟩) hS (fun q9 _ h9 => hF76 q9 h9) hF76 (fun r81 u80 t80 H80 L80 ht80 hvm80 hw80 hB80 hz80 hk80 hS => ?_)
  have hP := pq_keep hP hD [2] rfl hk80 hB80.1 ht80
  have hG : s.heap.size + 0 ≤ H80.size := Nat.le_trans hG hz80
  refine W.eq (g2 := F0 m 15 ls [.int 7, .int 5]) (by rw [hw80]) ?_
  refine lv_icmp_ge (tgt := 59) hx hb dX4_tryRow_15 (by decide) (fun cz => absurd cz (by decide)) (fun _ => ?_)
  refine lv_aload_n hx hb dX4_tryRow_18 rfl (lv_at hl 1 rfl) ?_
  refine va_get (D := (dC, dI)) (ci := 4) (v := .ref h1) (C := RX4) (T := TX4) (N := 3) hx hb hts in_X4 hown hK hP 0 rfl rfl 0 (by decide) (hts _ q_50) (fun _ h9 => h9) rfl dX4_tryRow_19 ?_
  refine va_get (D := (dC, dI)) (ci := 2) (v := .ref h2) (C := RX0) (T := TX0) (N := 4) hx hb hts in_X0 hown hK hP 1 rfl rfl 1 (by decide) (hts _ q_347) (fun _ h9 => h9) rfl dX4_tryRow_22 ?_
  refine lv_iload hx hb dX4_tryRow_25 (lv_at hl 0 rfl) ?_
  have hM84 := k652_get l hl9 dC dI z h2 h4 h6 h7 h8 h9 h10 h11 h12 H80.size kc0
  obtain ⟨hF82, hC85⟩ := pc_M hM84 hP hD hK hS hX hT hA [2, 4] [0] rfl rfl rfl
  refine va_callr (va_runV (As := [.int 5]) (rest := []) ⟨hx, hb, hml, hown, hts⟩ hM84 (cwV 1 hts (gV q_383 q_157 q_158 q_12 q_155) rfl rfl rfl hV_Jx4a65c_get_915e3 ⟨Nat.le_of_ble_eq_true rfl, Nat.le_of_ble_eq_true rfl⟩) ⟨pc_blind, va_recv hK hP (ci := 0) (q := (RJx4a65c, TJx4a65c, 3)) (q0 := 2) rfl rfl, fun U hU hW => ⟨rfl, hC85 U hU hW⟩⟩ rfl rfl hl.1 rfl (lv_room (Nat.le_of_ble_eq_true rfl)) dX4_tryRow_27 ⟨(Nat.le_of_ble_eq_true rfl), (Nat.le_of_ble_eq_true rfl)⟩) hS (fun q9 _ h9 => hF82 q9 h9) hF82 (fun u86 r87 t86 H86 L86 ht86 hvm86 hw86 hB86 hz86 hk86 hS => ?_)
  obtain ⟨hr86, hB86⟩ := hB86
  have hP := pq_keep hP hD [2, 4] rfl hk86 hB86.1 ht86
  have hG : s.heap.size + 0 ≤ H86.size := Nat.le_trans hG hz86
  refine W.eq (g2 := F0 m 30 ls [.ref h11]) (by rw [hr86]) ?_
  refine va_castE (nm := RX2) hx hb hown (hts _ q_384) (va_recv hK hP (ci := 3) (q := (RX2, TX2, 19)) (q0 := 11) rfl rfl) dX4_tryRow_30 ?_
  refine lv_iload_n hx hb dX4_tryRow_33 rfl (lv_at hl 2 rfl) ?_
  refine lv_iload hx hb dX4_tryRow_34 (lv_at hl 0 rfl) ?_
  refine lv_ishr hx hb dX4_tryRow_36 ?_
  refine lv_topi (fun y88 ey88 => ?_)
  obtain rfl : y88 = 0 := ey88.trans (by decide)
  refine lv_iconst (v := 1) hx hb dX4_tryRow_37 (by decide) ?_
  refine lv_iand hx hb dX4_tryRow_38 ?_
  refine lv_topi (fun y89 ey89 => ?_)
  obtain rfl : y89 = 0 := ey89.trans (by decide)
  refine lv_iconst (v := 1) hx hb dX4_tryRow_39 (by decide) ?_
  refine lv_icmp_ne (tgt := 48) hx hb dX4_tryRow_40 (by decide) (fun _ => ?_) (fun cz => absurd cz (by decide))
  refine lv_bipush (v := 48) hx hb dX4_tryRow_48 (by decide) ?_
  refine va_put (D := (dC, dI)) (ci := 3) (v := .int 48) (ty := .char) (C := RX2) (T := TX2) (N := 19) hx hb hts in_X2 tyX2 tyX2_ok nmX2 hown hK hP hD (va_Sre hS) 11 rfl rfl 11 (by decide) (hts _ q_385) (fun _ h9 => h9) rfl (by decide +kernel) rfl rfl (Nat.le_of_ble_eq_true rfl) dX4_tryRow_50 (fun H90 _ hP hD hS' => ?_)
  have hG : s.heap.size + 0 ≤ H90.size := Nat.le_trans hG hS'.1
  have hS := va_Str hS hS'
  have hP : va_P (dC, dI) xCl [(h0, ce417 h1 o0), (h1, ce7 o1 h2 o2 h3), (h2, ce331 h4), (h3, ce366 h5), (h4, ce330 kc0 h6 h7 h8 h9 h10 h11 h12), (h5, ce330 kc1 h6 h7 h8 h9 h10 h11 h12), (h6, ce420 (z.2.1 0) o3 h6), (h7, ce421 (z.2.1 0) o4 h7), (h8, ce422 (z.2.1 0) o5 h8), (h9, ce423 (z.2.1 0) o6 h9), (h10, ce424 (z.2.1 0) o7 h10), (h11, ce425 (z.2.1 0) o8 h11), (h12, ce364 (z.2.1 0) o9 h12)] H90 := hP
  have hD := vd_as hP hD rfl
  refine lv_iinc (v := 6) (lv' := [(4, .int 6), (0, .ref h0), (1, .int 0), (2, .null), (3, .int 120)]) hx hb dX4_tryRow_53 hl (k := 0) rfl (by decide) (by decide) rfl (fun ls hl => ?_)
  refine lv_goto (tgt := 3) hx hb dX4_tryRow_56 (by decide) ?_
  refine lv_iload hx hb dX4_tryRow_3 (lv_at hl 0 rfl) ?_
  refine lv_aload_n hx hb dX4_tryRow_5 rfl (lv_at hl 1 rfl) ?_
  refine va_get (D := (dC, dI)) (ci := 4) (v := .ref h1) (C := RX4) (T := TX4) (N := 3) hx hb hts in_X4 hown hK hP 0 rfl rfl 0 (by decide) (hts _ q_50) (fun _ h9 => h9) rfl dX4_tryRow_6 ?_
  refine va_get (D := (dC, dI)) (ci := 2) (v := .ref h2) (C := RX0) (T := TX0) (N := 4) hx hb hts in_X0 hown hK hP 1 rfl rfl 1 (by decide) (hts _ q_347) (fun _ h9 => h9) rfl dX4_tryRow_9 ?_
  have hM93 := k20_size l hl9 dC dI z h2 h4 H90.size 7 7
  obtain ⟨hF91, hC94⟩ := pc_M hM93 hP hD hK hS hX hT hA [2] [] rfl rfl rfl
  refine va_calli (va_runV (As := []) (rest := [.int 6]) ⟨hx, hb, hml, hown, hts⟩ hM93 (cwV 0 hts (gV q_348 q_77 q_78 q_12 q_75) rfl rfl rfl hV_Jx4a65c_size_8abf5 ⟨Nat.le_of_ble_eq_true rfl, Nat.le_of_ble_eq_true rfl⟩) ⟨pc_blind, va_recv hK hP (ci := 0) (q := (RJx4a65c, TJx4a65c, 3)) (q0 := 2) rfl rfl, fun U hU hW => ⟨rfl, hC94 U hU hW⟩⟩ rfl rfl hl.1 rfl (lv_room (Nat.le_of_ble_eq_true rfl)) dX4_tryRow_12 ⟨(Nat.le_of_ble_eq_true rfl), (Nat.le_of_ble_eq_true rfl)⟩) hS (fun q9 _ h9 => hF91 q9 h9) hF91 (fun r96 u95 t95 H95 L95 ht95 hvm95 hw95 hB95 hz95 hk95 hS => ?_)
  have hP := pq_keep hP hD [2] rfl hk95 hB95.1 ht95
  have hG : s.heap.size + 0 ≤ H95.size := Nat.le_trans hG hz95
  refine W.eq (g2 := F0 m 15 ls [.int 7, .int 6]) (by rw [hw95]) ?_
  refine lv_icmp_ge (tgt := 59) hx hb dX4_tryRow_15 (by decide) (fun cz => absurd cz (by decide)) (fun _ => ?_)
  refine lv_aload_n hx hb dX4_tryRow_18 rfl (lv_at hl 1 rfl) ?_
  refine va_get (D := (dC, dI)) (ci := 4) (v := .ref h1) (C := RX4) (T := TX4) (N := 3) hx hb hts in_X4 hown hK hP 0 rfl rfl 0 (by decide) (hts _ q_50) (fun _ h9 => h9) rfl dX4_tryRow_19 ?_
  refine va_get (D := (dC, dI)) (ci := 2) (v := .ref h2) (C := RX0) (T := TX0) (N := 4) hx hb hts in_X0 hown hK hP 1 rfl rfl 1 (by decide) (hts _ q_347) (fun _ h9 => h9) rfl dX4_tryRow_22 ?_
  refine lv_iload hx hb dX4_tryRow_25 (lv_at hl 0 rfl) ?_
  have hM99 := k656_get l hl9 dC dI z h2 h4 h6 h7 h8 h9 h10 h11 h12 H95.size kc0
  obtain ⟨hF97, hC100⟩ := pc_M hM99 hP hD hK hS hX hT hA [2, 4] [0] rfl rfl rfl
  refine va_callr (va_runV (As := [.int 6]) (rest := []) ⟨hx, hb, hml, hown, hts⟩ hM99 (cwV 1 hts (gV q_383 q_157 q_158 q_12 q_155) rfl rfl rfl hV_Jx4a65c_get_915e3 ⟨Nat.le_of_ble_eq_true rfl, Nat.le_of_ble_eq_true rfl⟩) ⟨pc_blind, va_recv hK hP (ci := 0) (q := (RJx4a65c, TJx4a65c, 3)) (q0 := 2) rfl rfl, fun U hU hW => ⟨rfl, hC100 U hU hW⟩⟩ rfl rfl hl.1 rfl (lv_room (Nat.le_of_ble_eq_true rfl)) dX4_tryRow_27 ⟨(Nat.le_of_ble_eq_true rfl), (Nat.le_of_ble_eq_true rfl)⟩) hS (fun q9 _ h9 => hF97 q9 h9) hF97 (fun u101 r102 t101 H101 L101 ht101 hvm101 hw101 hB101 hz101 hk101 hS => ?_)
  obtain ⟨hr101, hB101⟩ := hB101
  have hP := pq_keep hP hD [2, 4] rfl hk101 hB101.1 ht101
  have hG : s.heap.size + 0 ≤ H101.size := Nat.le_trans hG hz101
  refine W.eq (g2 := F0 m 30 ls [.ref h12]) (by rw [hr101]) ?_
  refine va_castE (nm := RX2) hx hb hown (hts _ q_384) (va_recv hK hP (ci := 3) (q := (RX2, TX2, 19)) (q0 := 12) rfl rfl) dX4_tryRow_30 ?_
  refine lv_iload_n hx hb dX4_tryRow_33 rfl (lv_at hl 2 rfl) ?_
  refine lv_iload hx hb dX4_tryRow_34 (lv_at hl 0 rfl) ?_
  refine lv_ishr hx hb dX4_tryRow_36 ?_
  refine lv_topi (fun y103 ey103 => ?_)
  obtain rfl : y103 = 0 := ey103.trans (by decide)
  refine lv_iconst (v := 1) hx hb dX4_tryRow_37 (by decide) ?_
  refine lv_iand hx hb dX4_tryRow_38 ?_
  refine lv_topi (fun y104 ey104 => ?_)
  obtain rfl : y104 = 0 := ey104.trans (by decide)
  refine lv_iconst (v := 1) hx hb dX4_tryRow_39 (by decide) ?_
  refine lv_icmp_ne (tgt := 48) hx hb dX4_tryRow_40 (by decide) (fun _ => ?_) (fun cz => absurd cz (by decide))
  refine lv_bipush (v := 48) hx hb dX4_tryRow_48 (by decide) ?_
  refine va_put (D := (dC, dI)) (ci := 3) (v := .int 48) (ty := .char) (C := RX2) (T := TX2) (N := 19) hx hb hts in_X2 tyX2 tyX2_ok nmX2 hown hK hP hD (va_Sre hS) 12 rfl rfl 11 (by decide) (hts _ q_385) (fun _ h9 => h9) rfl (by decide +kernel) rfl rfl (Nat.le_of_ble_eq_true rfl) dX4_tryRow_50 (fun H105 _ hP hD hS' => ?_)
  have hG : s.heap.size + 0 ≤ H105.size := Nat.le_trans hG hS'.1
  have hS := va_Str hS hS'
  have hP : va_P (dC, dI) xCl [(h0, ce417 h1 o0), (h1, ce7 o1 h2 o2 h3), (h2, ce331 h4), (h3, ce366 h5), (h4, ce330 kc0 h6 h7 h8 h9 h10 h11 h12), (h5, ce330 kc1 h6 h7 h8 h9 h10 h11 h12), (h6, ce420 (z.2.1 0) o3 h6), (h7, ce421 (z.2.1 0) o4 h7), (h8, ce422 (z.2.1 0) o5 h8), (h9, ce423 (z.2.1 0) o6 h9), (h10, ce424 (z.2.1 0) o7 h10), (h11, ce425 (z.2.1 0) o8 h11), (h12, ce426 (z.2.1 0) o9 h12)] H105 := hP
  have hD := vd_as hP hD rfl
  refine lv_iinc (v := 7) (lv' := [(4, .int 7), (0, .ref h0), (1, .int 0), (2, .null), (3, .int 120)]) hx hb dX4_tryRow_53 hl (k := 0) rfl (by decide) (by decide) rfl (fun ls hl => ?_)
  refine lv_goto (tgt := 3) hx hb dX4_tryRow_56 (by decide) ?_
  refine lv_iload hx hb dX4_tryRow_3 (lv_at hl 0 rfl) ?_
  refine lv_aload_n hx hb dX4_tryRow_5 rfl (lv_at hl 1 rfl) ?_
  refine va_get (D := (dC, dI)) (ci := 4) (v := .ref h1) (C := RX4) (T := TX4) (N := 3) hx hb hts in_X4 hown hK hP 0 rfl rfl 0 (by decide) (hts _ q_50) (fun _ h9 => h9) rfl dX4_tryRow_6 ?_
  refine va_get (D := (dC, dI)) (ci := 2) (v := .ref h2) (C := RX0) (T := TX0) (N := 4) hx hb hts in_X0 hown hK hP 1 rfl rfl 1 (by decide) (hts _ q_347) (fun _ h9 => h9) rfl dX4_tryRow_9 ?_
  have hM108 := k20_size l hl9 dC dI z h2 h4 H105.size 7 7
  obtain ⟨hF106, hC109⟩ := pc_M hM108 hP hD hK hS hX hT hA [2] [] rfl rfl rfl
  refine va_calli (va_runV (As := []) (rest := [.int 7]) ⟨hx, hb, hml, hown, hts⟩ hM108 (cwV 0 hts (gV q_348 q_77 q_78 q_12 q_75) rfl rfl rfl hV_Jx4a65c_size_8abf5 ⟨Nat.le_of_ble_eq_true rfl, Nat.le_of_ble_eq_true rfl⟩) ⟨pc_blind, va_recv hK hP (ci := 0) (q := (RJx4a65c, TJx4a65c, 3)) (q0 := 2) rfl rfl, fun U hU hW => ⟨rfl, hC109 U hU hW⟩⟩ rfl rfl hl.1 rfl (lv_room (Nat.le_of_ble_eq_true rfl)) dX4_tryRow_12 ⟨(Nat.le_of_ble_eq_true rfl), (Nat.le_of_ble_eq_true rfl)⟩) hS (fun q9 _ h9 => hF106 q9 h9) hF106 (fun r111 u110 t110 H110 L110 ht110 hvm110 hw110 hB110 hz110 hk110 hS => ?_)
  have hP := pq_keep hP hD [2] rfl hk110 hB110.1 ht110
  have hG : s.heap.size + 0 ≤ H110.size := Nat.le_trans hG hz110
  refine W.eq (g2 := F0 m 15 ls [.int 7, .int 7]) (by rw [hw110]) ?_
  refine lv_icmp_ge (tgt := 59) hx hb dX4_tryRow_15 (by decide) (fun _ => ?_) (fun cz => absurd (by decide) cz)
  refine lv_aload_n hx hb dX4_tryRow_59 rfl (lv_at hl 1 rfl) ?_
  refine va_get (D := (dC, dI)) (ci := 4) (v := .ref h1) (C := RX4) (T := TX4) (N := 3) hx hb hts in_X4 hown hK hP 0 rfl rfl 0 (by decide) (hts _ q_50) (fun _ h9 => h9) rfl dX4_tryRow_60 ?_
  refine lv_aload_nN hx hb dX4_tryRow_63 rfl (lv_at hl 3 rfl) ?_
  refine lv_iload_n hx hb dX4_tryRow_64 rfl (lv_at hl 4 rfl) ?_
  have hM114 := k843_settle l hl9 dC dI z h1 h3 h5 h6 h7 h8 h9 h10 h11 h12 o1 h2 o2 o3 o4 o5 o6 o7 o8 o9 H110.size kc1
  obtain ⟨hF112, hC115⟩ := pc_M hM114 hP hD hK hS hX hT hA [1, 3, 5, 6, 7, 8, 9, 10, 11, 12] [1] rfl rfl rfl
  refine va_callv (va_runV (As := [.null, .int 120]) (rest := []) ⟨hx, hb, hml, hown, hts⟩ hM114 (cwV 2 hts (gV q_386 q_215 q_216 q_8 q_213) rfl rfl rfl hV_X0_settle ⟨Nat.le_of_ble_eq_true rfl, Nat.le_of_ble_eq_true rfl⟩) ⟨pc_blind, va_recv hK hP (ci := 2) (q := (RX0, TX0, 4)) (q0 := 1) rfl rfl, fun U hU hW => ⟨rfl, hC115 U hU hW⟩⟩ rfl rfl hl.1 rfl (lv_room (Nat.le_of_ble_eq_true rfl)) dX4_tryRow_65 ⟨(Nat.le_of_ble_eq_true rfl), (Nat.le_of_ble_eq_true rfl)⟩) hS (fun q9 _ h9 => hF112 q9 h9) hF112 (fun u116 t116 H116 L116 ht116 hvm116 hw116 hB116 hz116 hk116 hS => ?_)
  have hP := pq_keep hP hD [1, 3, 5, 6, 7, 8, 9, 10, 11, 12] rfl hk116 hB116.1 ht116
  have hG : s.heap.size + 0 ≤ H116.size := Nat.le_trans hG hz116
  exact W.vret hx hb hr (fun t9 ht9 hW9 => ⟨⟨(), rfl, trivial, ⟨pq_mk2 hP hD hK [0, 1, 2, 3, 4, 5, 6, 7, 8, 9, 10, 11, 12] [0, 1] rfl rfl rfl ht9 hW9, by rw [ht9]; exact Nat.le_trans (Nat.add_le_add_left (Nat.le_of_ble_eq_true rfl) _) hG⟩⟩, hS.F ht9⟩) hS.2.2 dX4_tryRow_68

set_option maxHeartbeats 4000000 in
set_option maxRecDepth 100000 in
theorem k845_isStuckShown (l : Launch) (hl9 : l.stackTraces = false) (dC : Nat → ClassId) (dI : Nat → Nat → Nat) (z : XZ) (h0 h1 h2 h3 h4 h5 h6 h7 h8 h9 h10 h11 h12 : Nat) (o0 o1 o2 o3 o4 o5 o6 o7 o8 o9 : Nat) (sz : Nat) (kc0 kc1 : ClassId) : Met l yX4_isStuckShown (.code yX4_isStuckShown cX4_isStuckShown 6 (some .boolean) :: wsL_law) ({ frames := 5, cells := 0, slots := 0, locals := 112 }) (va_Pc [.ref h0, .ref h1, .int 48, .int 0] (PC (dC, dI) [(h0, ce417 h2 o0), (h1, ce38 (z.2.1 0) o1 h1), (h2, ce7 o2 h3 o3 h4), (h3, ce331 h5), (h4, ce366 h6), (h5, ce330 kc0 h1 h7 h8 h9 h10 h11 h12), (h6, ce330 kc1 h1 h7 h8 h9 h10 h11 h12), (h7, ce77 (z.2.1 0) o4 h7), (h8, ce115 (z.2.1 0) o5 h8), (h9, ce165 (z.2.1 0) o6 h9), (h10, ce224 (z.2.1 0) o7 h10), (h11, ce287 (z.2.1 0) o8 h11), (h12, ce364 (z.2.1 0) o9 h12)] [(kc0, .object "java/lang/Object"), (kc1, .object "java/lang/Object")] sz z)) (va_Qi (fun (r : Int32) (_ : Unit) => r = 0) (fun (_ : Unit) (t : State) => PG (dC, dI) [(h0, ce417 h2 o0), (h1, ce420 (z.2.1 0) o1 h1), (h2, ce7 o2 h3 o3 h4), (h3, ce331 h5), (h4, ce366 h6), (h5, ce330 kc0 h1 h7 h8 h9 h10 h11 h12), (h6, ce330 kc1 h1 h7 h8 h9 h10 h11 h12), (h7, ce421 (z.2.1 0) o4 h7), (h8, ce422 (z.2.1 0) o5 h8), (h9, ce423 (z.2.1 0) o6 h9), (h10, ce424 (z.2.1 0) o7 h10), (h11, ce425 (z.2.1 0) o8 h11), (h12, ce426 (z.2.1 0) o9 h12)] [(kc0, .object "java/lang/Object"), (kc1, .object "java/lang/Object")] (va_A [(h0, ce417 h2 o0), (h1, ce38 (z.2.1 0) o1 h1), (h2, ce7 o2 h3 o3 h4), (h3, ce331 h5), (h4, ce366 h6), (h5, ce330 kc0 h1 h7 h8 h9 h10 h11 h12), (h6, ce330 kc1 h1 h7 h8 h9 h10 h11 h12), (h7, ce77 (z.2.1 0) o4 h7), (h8, ce115 (z.2.1 0) o5 h8), (h9, ce165 (z.2.1 0) o6 h9), (h10, ce224 (z.2.1 0) o7 h10), (h11, ce287 (z.2.1 0) o8 h11), (h12, ce364 (z.2.1 0) o9 h12)] sz) sz 0 t) (va_A [(h0, ce417 h2 o0), (h1, ce38 (z.2.1 0) o1 h1), (h2, ce7 o2 h3 o3 h4), (h3, ce331 h5), (h4, ce366 h6), (h5, ce330 kc0 h1 h7 h8 h9 h10 h11 h12), (h6, ce330 kc1 h1 h7 h8 h9 h10 h11 h12), (h7, ce77 (z.2.1 0) o4 h7), (h8, ce115 (z.2.1 0) o5 h8), (h9, ce165 (z.2.1 0) o6 h9), (h10, ce224 (z.2.1 0) o7 h10), (h11, ce287 (z.2.1 0) o8 h11), (h12, ce364 (z.2.1 0) o9 h12)] sz)) 0 0 (va_A [(h0, ce417 h2 o0), (h1, ce38 (z.2.1 0) o1 h1), (h2, ce7 o2 h3 o3 h4), (h3, ce331 h5), (h4, ce366 h6), (h5, ce330 kc0 h1 h7 h8 h9 h10 h11 h12), (h6, ce330 kc1 h1 h7 h8 h9 h10 h11 h12), (h7, ce77 (z.2.1 0) o4 h7), (h8, ce115 (z.2.1 0) o5 h8), (h9, ce165 (z.2.1 0) o6 h9), (h10, ce224 (z.2.1 0) o7 h10), (h11, ce287 (z.2.1 0) o8 h11), (h12, ce364 (z.2.1 0) o9 h12)] sz) := by
  refine Met.ofW (cc := cX4_isStuckShown) (maxL := 6) (ret := (some .boolean)) (by decide) rfl ?_
  intro p e s m args below meth c s₁ B hml hv
  obtain ⟨rfl, hsz, hP, hK, hD0, hX, hT⟩ := hv
  have hx := B.exec
  have hb := B.bytes
  have hr := B.returns
  have hts0 := atoms_spec (ws := .code yX4_isStuckShown cX4_isStuckShown 6 (some .boolean) :: wsL_law) B.pre
  have hts := xTail hts0
  have hown : s.vm.findClass RX4 = some m.cls := xown B.named rfl
  have hlocks := B.notSynchronized
  subst hsz
  have hD := hD0.self (sz := s.heap.size)
  generalize hAe : va_A [(h0, ce417 h2 o0), (h1, ce38 (z.2.1 0) o1 h1), (h2, ce7 o2 h3 o3 h4), (h3, ce331 h5), (h4, ce366 h6), (h5, ce330 kc0 h1 h7 h8 h9 h10 h11 h12), (h6, ce330 kc1 h1 h7 h8 h9 h10 h11 h12), (h7, ce77 (z.2.1 0) o4 h7), (h8, ce115 (z.2.1 0) o5 h8), (h9, ce165 (z.2.1 0) o6 h9), (h10, ce224 (z.2.1 0) o7 h10), (h11, ce287 (z.2.1 0) o8 h11), (h12, ce364 (z.2.1 0) o9 h12)] s.heap.size = A at hD hX ⊢
  have hA : ∀ q : Nat, s.heap.size ≤ q → A q := fun q h => by rw [← hAe]; exact Or.inr h
  have hS : va_S A s.heap s.heap [] := va_S.rf
  have hG : s.heap.size + 0 ≤ s.heap.size := Nat.le_refl _
  have hl := lv_entry ([.ref h0, .ref h1, .int 48, .int 0]) (n := 6) (Nat.le_of_ble_eq_true rfl)
  rw [lg_entry_eq]
  generalize (lg_sl ([.ref h0, .ref h1, .int 48, .int 0]) ++ List.replicate (6 - (lg_sl ([.ref h0, .ref h1, .int 48, .int 0])).length) Slot.unset).toArray = ls at hl ⊢
  have hl : lv_has ls 6 [(0, .ref h0), (1, .ref h1), (2, .int 48), (3, .int 0)] := hl
  refine lv_aload_n hx hb dX4_isStuckShown_0 rfl (lv_at hl 0 rfl) ?_
  refine lv_iload_n hx hb dX4_isStuckShown_1 rfl (lv_at hl 3 rfl) ?_
  refine lv_null hx hb dX4_isStuckShown_2 ?_
  refine lv_bipush (v := 120) hx hb dX4_isStuckShown_3 (by decide) ?_
  have hM3 := k844_tryRow l hl9 dC dI z h0 h2 h3 h4 h5 h6 h1 h7 h8 h9 h10 h11 h12 o0 o2 o3 o1 o4 o5 o6 o7 o8 o9 s.heap.size kc0 kc1
  obtain ⟨hF1, hC4⟩ := pc_M hM3 hP hD hK hS hX hT hA [0, 2, 3, 4, 5, 6, 1, 7, 8, 9, 10, 11, 12] [0, 1] rfl rfl rfl
  refine va_callv (va_runV (As := [.int 0, .null, .int 120]) (rest := []) ⟨hx, hb, hml, hown, hts⟩ hM3 (cwV 3 hts (gV q_388 q_389 q_390 q_46 q_387) rfl rfl rfl hV_X4_tryRow ⟨Nat.le_of_ble_eq_true rfl, Nat.le_of_ble_eq_true rfl⟩) ⟨pc_blind, va_recv hK hP (ci := 4) (q := (RX4, TX4, 3)) (q0 := 0) rfl rfl, fun U hU hW => ⟨rfl, hC4 U hU hW⟩⟩ rfl rfl hl.1 rfl (lv_room (Nat.le_of_ble_eq_true rfl)) dX4_isStuckShown_5 ⟨(Nat.le_of_ble_eq_true rfl), (Nat.le_of_ble_eq_true rfl)⟩) hS (fun q9 _ h9 => hF1 q9 h9) hF1 (fun u5 t5 H5 L5 ht5 hvm5 hw5 hB5 hz5 hk5 hS => ?_)
  obtain ⟨hP, hD, hK⟩ := pq_jn (wz := [(h0, ce417 h2 o0), (h2, ce7 o2 h3 o3 h4), (h3, ce331 h5), (h4, ce366 h6), (h5, ce330 kc0 h1 h7 h8 h9 h10 h11 h12), (h6, ce330 kc1 h1 h7 h8 h9 h10 h11 h12), (h1, ce420 (z.2.1 0) o1 h1), (h7, ce421 (z.2.1 0) o4 h7), (h8, ce422 (z.2.1 0) o5 h8), (h9, ce423 (z.2.1 0) o6 h9), (h10, ce424 (z.2.1 0) o7 h10), (h11, ce425 (z.2.1 0) o8 h11), (h12, ce426 (z.2.1 0) o9 h12)]) (tz := [(kc0, .object "java/lang/Object"), (kc1, .object "java/lang/Object")]) hP hD hK [0, 2, 3, 4, 5, 6, 1, 7, 8, 9, 10, 11, 12] [] rfl hk5 hF1 hB5.1 ht5 hvm5 rfl rfl
  have hG : s.heap.size + 0 ≤ H5.size := Nat.le_trans hG hz5
  refine lv_aload_n hx hb dX4_isStuckShown_8 rfl (lv_at hl 1 rfl) ?_
  refine va_get (D := (dC, dI)) (ci := 3) (v := .int 48) (C := RX2) (T := TX2) (N := 19) hx hb hts in_X2 hown hK hP 6 rfl rfl 11 (by decide) (hts _ q_385) (fun _ h9 => h9) rfl dX4_isStuckShown_9 ?_
  refine lv_iload_n hx hb dX4_isStuckShown_12 rfl (lv_at hl 2 rfl) ?_
  refine lv_icmp_ne (tgt := 18) hx hb dX4_isStuckShown_13 (by decide) (fun cz => absurd (by decide) cz) (fun _ => ?_)
  refine lv_iconst (v := 0) hx hb dX4_isStuckShown_16 (by decide) ?_
  exact W.zret (v := 0) (ty := .boolean) hx hb hr rfl (fun t9 ht9 hW9 => ⟨⟨0, (), rfl, rfl, ⟨pq_mk2 hP hD hK [0, 6, 1, 2, 3, 4, 5, 7, 8, 9, 10, 11, 12] [0, 1] rfl rfl rfl ht9 hW9, by rw [ht9]; exact Nat.le_trans (Nat.add_le_add_left (Nat.le_of_ble_eq_true rfl) _) hG⟩⟩, hS.F ht9⟩) hS.2.2 dX4_isStuckShown_17

set_option maxHeartbeats 4000000 in
set_option maxRecDepth 100000 in
theorem k846_tryRow (l : Launch) (hl9 : l.stackTraces = false) (dC : Nat → ClassId) (dI : Nat → Nat → Nat) (z : XZ) (h0 h1 h2 h3 h4 h5 h6 h7 h8 h9 h10 h11 h12 : Nat) (o0 o1 o2 o3 o4 o5 o6 o7 o8 o9 : Nat) (sz : Nat) (kc0 kc1 : ClassId) : Met l yX4_tryRow (.code yX4_tryRow cX4_tryRow 5 none :: wsL_law) ({ frames := 4, cells := 0, slots := 0, locals := 88 }) (va_Pc [.ref h0, .int 0, .null, .int 120] (PC (dC, dI) [(h0, ce417 h1 o0), (h1, ce7 o1 h2 o2 h3), (h2, ce331 h4), (h3, ce366 h5), (h4, ce330 kc0 h6 h7 h8 h9 h10 h11 h12), (h5, ce330 kc1 h6 h7 h8 h9 h10 h11 h12), (h6, ce420 (z.2.1 0) o3 h6), (h7, ce421 (z.2.1 0) o4 h7), (h8, ce422 (z.2.1 0) o5 h8), (h9, ce423 (z.2.1 0) o6 h9), (h10, ce424 (z.2.1 0) o7 h10), (h11, ce425 (z.2.1 0) o8 h11), (h12, ce426 (z.2.1 0) o9 h12)] [(kc0, .object "java/lang/Object"), (kc1, .object "java/lang/Object")] sz z)) (va_Qv (fun (_ : Unit) => True) (fun (_ : Unit) (t : State) => PG (dC, dI) [(h0, ce417 h1 o0), (h1, ce7 o1 h2 o2 h3), (h2, ce331 h4), (h3, ce366 h5), (h4, ce330 kc0 h6 h7 h8 h9 h10 h11 h12), (h5, ce330 kc1 h6 h7 h8 h9 h10 h11 h12), (h6, ce420 (z.2.1 0) o3 h6), (h7, ce421 (z.2.1 0) o4 h7), (h8, ce422 (z.2.1 0) o5 h8), (h9, ce423 (z.2.1 0) o6 h9), (h10, ce424 (z.2.1 0) o7 h10), (h11, ce425 (z.2.1 0) o8 h11), (h12, ce426 (z.2.1 0) o9 h12)] [(kc0, .object "java/lang/Object"), (kc1, .object "java/lang/Object")] (va_A [(h0, ce417 h1 o0), (h1, ce7 o1 h2 o2 h3), (h2, ce331 h4), (h3, ce366 h5), (h4, ce330 kc0 h6 h7 h8 h9 h10 h11 h12), (h5, ce330 kc1 h6 h7 h8 h9 h10 h11 h12), (h6, ce420 (z.2.1 0) o3 h6), (h7, ce421 (z.2.1 0) o4 h7), (h8, ce422 (z.2.1 0) o5 h8), (h9, ce423 (z.2.1 0) o6 h9), (h10, ce424 (z.2.1 0) o7 h10), (h11, ce425 (z.2.1 0) o8 h11), (h12, ce426 (z.2.1 0) o9 h12)] sz) sz 0 t) (va_A [(h0, ce417 h1 o0), (h1, ce7 o1 h2 o2 h3), (h2, ce331 h4), (h3, ce366 h5), (h4, ce330 kc0 h6 h7 h8 h9 h10 h11 h12), (h5, ce330 kc1 h6 h7 h8 h9 h10 h11 h12), (h6, ce420 (z.2.1 0) o3 h6), (h7, ce421 (z.2.1 0) o4 h7), (h8, ce422 (z.2.1 0) o5 h8), (h9, ce423 (z.2.1 0) o6 h9), (h10, ce424 (z.2.1 0) o7 h10), (h11, ce425 (z.2.1 0) o8 h11), (h12, ce426 (z.2.1 0) o9 h12)] sz)) 0 0 (va_A [(h0, ce417 h1 o0), (h1, ce7 o1 h2 o2 h3), (h2, ce331 h4), (h3, ce366 h5), (h4, ce330 kc0 h6 h7 h8 h9 h10 h11 h12), (h5, ce330 kc1 h6 h7 h8 h9 h10 h11 h12), (h6, ce420 (z.2.1 0) o3 h6), (h7, ce421 (z.2.1 0) o4 h7), (h8, ce422 (z.2.1 0) o5 h8), (h9, ce423 (z.2.1 0) o6 h9), (h10, ce424 (z.2.1 0) o7 h10), (h11, ce425 (z.2.1 0) o8 h11), (h12, ce426 (z.2.1 0) o9 h12)] sz) := by
  refine Met.ofW (cc := cX4_tryRow) (maxL := 5) (ret := none) (by decide) rfl ?_
  intro p e s m args below meth c s₁ B hml hv
  obtain ⟨rfl, hsz, hP, hK, hD0, hX, hT⟩ := hv
  have hx := B.exec
  have hb := B.bytes
  have hr := B.returns
  have hts0 := atoms_spec (ws := .code yX4_tryRow cX4_tryRow 5 none :: wsL_law) B.pre
  have hts := xTail hts0
  have hown : s.vm.findClass RX4 = some m.cls := xown B.named rfl
  have hlocks := B.notSynchronized
  subst hsz
  have hD := hD0.self (sz := s.heap.size)
  generalize hAe : va_A [(h0, ce417 h1 o0), (h1, ce7 o1 h2 o2 h3), (h2, ce331 h4), (h3, ce366 h5), (h4, ce330 kc0 h6 h7 h8 h9 h10 h11 h12), (h5, ce330 kc1 h6 h7 h8 h9 h10 h11 h12), (h6, ce420 (z.2.1 0) o3 h6), (h7, ce421 (z.2.1 0) o4 h7), (h8, ce422 (z.2.1 0) o5 h8), (h9, ce423 (z.2.1 0) o6 h9), (h10, ce424 (z.2.1 0) o7 h10), (h11, ce425 (z.2.1 0) o8 h11), (h12, ce426 (z.2.1 0) o9 h12)] s.heap.size = A at hD hX ⊢
  have hA : ∀ q : Nat, s.heap.size ≤ q → A q := fun q h => by rw [← hAe]; exact Or.inr h
  have hS : va_S A s.heap s.heap [] := va_S.rf
  have hG : s.heap.size + 0 ≤ s.heap.size := Nat.le_refl _
  have hl := lv_entry ([.ref h0, .int 0, .null, .int 120]) (n := 5) (Nat.le_of_ble_eq_true rfl)
  rw [lg_entry_eq]
  generalize (lg_sl ([.ref h0, .int 0, .null, .int 120]) ++ List.replicate (5 - (lg_sl ([.ref h0, .int 0, .null, .int 120])).length) Slot.unset).toArray = ls at hl ⊢
  have hl : lv_has ls 5 [(0, .ref h0), (1, .int 0), (2, .null), (3, .int 120)] := hl
  refine lv_iconst (v := 0) hx hb dX4_tryRow_0 (by decide) ?_
  refine lv_istore (lv' := [(4, .int 0), (0, .ref h0), (1, .int 0), (2, .null), (3, .int 120)]) hx hb dX4_tryRow_1 hl (by decide) rfl (fun ls hl => ?_)
  refine lv_iload hx hb dX4_tryRow_3 (lv_at hl 0 rfl) ?_
  refine lv_aload_n hx hb dX4_tryRow_5 rfl (lv_at hl 1 rfl) ?_
  refine va_get (D := (dC, dI)) (ci := 4) (v := .ref h1) (C := RX4) (T := TX4) (N := 3) hx hb hts in_X4 hown hK hP 0 rfl rfl 0 (by decide) (hts _ q_50) (fun _ h9 => h9) rfl dX4_tryRow_6 ?_
  refine va_get (D := (dC, dI)) (ci := 2) (v := .ref h2) (C := RX0) (T := TX0) (N := 4) hx hb hts in_X0 hown hK hP 1 rfl rfl 1 (by decide) (hts _ q_347) (fun _ h9 => h9) rfl dX4_tryRow_9 ?_
  have hM3 := k20_size l hl9 dC dI z h2 h4 s.heap.size 7 7
  obtain ⟨hF1, hC4⟩ := pc_M hM3 hP hD hK hS hX hT hA [2] [] rfl rfl rfl
  refine va_calli (va_runV (As := []) (rest := [.int 0]) ⟨hx, hb, hml, hown, hts⟩ hM3 (cwV 0 hts (gV q_348 q_77 q_78 q_12 q_75) rfl rfl rfl hV_Jx4a65c_size_8abf5 ⟨Nat.le_of_ble_eq_true rfl, Nat.le_of_ble_eq_true rfl⟩) ⟨pc_blind, va_recv hK hP (ci := 0) (q := (RJx4a65c, TJx4a65c, 3)) (q0 := 2) rfl rfl, fun U hU hW => ⟨rfl, hC4 U hU hW⟩⟩ rfl rfl hl.1 rfl (lv_room (Nat.le_of_ble_eq_true rfl)) dX4_tryRow_12 ⟨(Nat.le_of_ble_eq_true rfl), (Nat.le_of_ble_eq_true rfl)⟩) hS (fun q9 _ h9 => hF1 q9 h9) hF1 (fun r6 u5 t5 H5 L5 ht5 hvm5 hw5 hB5 hz5 hk5 hS => ?_)
  have hP := pq_keep hP hD [2] rfl hk5 hB5.1 ht5
  have hG : s.heap.size + 0 ≤ H5.size := Nat.le_trans hG hz5
  refine W.eq (g2 := F0 m 15 ls [.int 7, .int 0]) (by rw [hw5]) ?_
  refine lv_icmp_ge (tgt := 59) hx hb dX4_tryRow_15 (by decide) (fun cz => absurd cz (by decide)) (fun _ => ?_)
  refine lv_aload_n hx hb dX4_tryRow_18 rfl (lv_at hl 1 rfl) ?_
  refine va_get (D := (dC, dI)) (ci := 4) (v := .ref h1) (C := RX4) (T := TX4) (N := 3) hx hb hts in_X4 hown hK hP 0 rfl rfl 0 (by decide) (hts _ q_50) (fun _ h9 => h9) rfl dX4_tryRow_19 ?_
  refine va_get (D := (dC, dI)) (ci := 2) (v := .ref h2) (C := RX0) (T := TX0) (N := 4) hx hb hts in_X0 hown hK hP 1 rfl rfl 1 (by decide) (hts _ q_347) (fun _ h9 => h9) rfl dX4_tryRow_22 ?_
  refine lv_iload hx hb dX4_tryRow_25 (lv_at hl 0 rfl) ?_
  have hM9 := k632_get l hl9 dC dI z h2 h4 h6 h7 h8 h9 h10 h11 h12 H5.size kc0
  obtain ⟨hF7, hC10⟩ := pc_M hM9 hP hD hK hS hX hT hA [2, 4] [0] rfl rfl rfl
  refine va_callr (va_runV (As := [.int 0]) (rest := []) ⟨hx, hb, hml, hown, hts⟩ hM9 (cwV 1 hts (gV q_383 q_157 q_158 q_12 q_155) rfl rfl rfl hV_Jx4a65c_get_915e3 ⟨Nat.le_of_ble_eq_true rfl, Nat.le_of_ble_eq_true rfl⟩) ⟨pc_blind, va_recv hK hP (ci := 0) (q := (RJx4a65c, TJx4a65c, 3)) (q0 := 2) rfl rfl, fun U hU hW => ⟨rfl, hC10 U hU hW⟩⟩ rfl rfl hl.1 rfl (lv_room (Nat.le_of_ble_eq_true rfl)) dX4_tryRow_27 ⟨(Nat.le_of_ble_eq_true rfl), (Nat.le_of_ble_eq_true rfl)⟩) hS (fun q9 _ h9 => hF7 q9 h9) hF7 (fun u11 r12 t11 H11 L11 ht11 hvm11 hw11 hB11 hz11 hk11 hS => ?_)
  obtain ⟨hr11, hB11⟩ := hB11
  have hP := pq_keep hP hD [2, 4] rfl hk11 hB11.1 ht11
  have hG : s.heap.size + 0 ≤ H11.size := Nat.le_trans hG hz11
  refine W.eq (g2 := F0 m 30 ls [.ref h6]) (by rw [hr11]) ?_
  refine va_castE (nm := RX2) hx hb hown (hts _ q_384) (va_recv hK hP (ci := 3) (q := (RX2, TX2, 19)) (q0 := 6) rfl rfl) dX4_tryRow_30 ?_
  refine lv_iload_n hx hb dX4_tryRow_33 rfl (lv_at hl 2 rfl) ?_
  refine lv_iload hx hb dX4_tryRow_34 (lv_at hl 0 rfl) ?_
  refine lv_ishr hx hb dX4_tryRow_36 ?_
  refine lv_topi (fun y13 ey13 => ?_)
  obtain rfl : y13 = 0 := ey13.trans (by decide)
  refine lv_iconst (v := 1) hx hb dX4_tryRow_37 (by decide) ?_
  refine lv_iand hx hb dX4_tryRow_38 ?_
  refine lv_topi (fun y14 ey14 => ?_)
  obtain rfl : y14 = 0 := ey14.trans (by decide)
  refine lv_iconst (v := 1) hx hb dX4_tryRow_39 (by decide) ?_
  refine lv_icmp_ne (tgt := 48) hx hb dX4_tryRow_40 (by decide) (fun _ => ?_) (fun cz => absurd cz (by decide))
  refine lv_bipush (v := 48) hx hb dX4_tryRow_48 (by decide) ?_
  refine va_put (D := (dC, dI)) (ci := 3) (v := .int 48) (ty := .char) (C := RX2) (T := TX2) (N := 19) hx hb hts in_X2 tyX2 tyX2_ok nmX2 hown hK hP hD (va_Sre hS) 6 rfl rfl 11 (by decide) (hts _ q_385) (fun _ h9 => h9) rfl (by decide +kernel) rfl rfl (Nat.le_of_ble_eq_true rfl) dX4_tryRow_50 (fun H15 _ hP hD hS' => ?_)
  have hG : s.heap.size + 0 ≤ H15.size := Nat.le_trans hG hS'.1
  have hS := va_Str hS hS'
  have hP : va_P (dC, dI) xCl [(h0, ce417 h1 o0), (h1, ce7 o1 h2 o2 h3), (h2, ce331 h4), (h3, ce366 h5), (h4, ce330 kc0 h6 h7 h8 h9 h10 h11 h12), (h5, ce330 kc1 h6 h7 h8 h9 h10 h11 h12), (h6, ce420 (z.2.1 0) o3 h6), (h7, ce421 (z.2.1 0) o4 h7), (h8, ce422 (z.2.1 0) o5 h8), (h9, ce423 (z.2.1 0) o6 h9), (h10, ce424 (z.2.1 0) o7 h10), (h11, ce425 (z.2.1 0) o8 h11), (h12, ce426 (z.2.1 0) o9 h12)] H15 := hP
  have hD := vd_as hP hD rfl
  refine lv_iinc (v := 1) (lv' := [(4, .int 1), (0, .ref h0), (1, .int 0), (2, .null), (3, .int 120)]) hx hb dX4_tryRow_53 hl (k := 0) rfl (by decide) (by decide) rfl (fun ls hl => ?_)
  refine lv_goto (tgt := 3) hx hb dX4_tryRow_56 (by decide) ?_
  refine lv_iload hx hb dX4_tryRow_3 (lv_at hl 0 rfl) ?_
  refine lv_aload_n hx hb dX4_tryRow_5 rfl (lv_at hl 1 rfl) ?_
  refine va_get (D := (dC, dI)) (ci := 4) (v := .ref h1) (C := RX4) (T := TX4) (N := 3) hx hb hts in_X4 hown hK hP 0 rfl rfl 0 (by decide) (hts _ q_50) (fun _ h9 => h9) rfl dX4_tryRow_6 ?_
  refine va_get (D := (dC, dI)) (ci := 2) (v := .ref h2) (C := RX0) (T := TX0) (N := 4) hx hb hts in_X0 hown hK hP 1 rfl rfl 1 (by decide) (hts _ q_347) (fun _ h9 => h9) rfl dX4_tryRow_9 ?_
  have hM18 := k20_size l hl9 dC dI z h2 h4 H15.size 7 7
  obtain ⟨hF16, hC19⟩ := pc_M hM18 hP hD hK hS hX hT hA [2] [] rfl rfl rfl
  refine va_calli (va_runV (As := []) (rest := [.int 1]) ⟨hx, hb, hml, hown, hts⟩ hM18 (cwV 0 hts (gV q_348 q_77 q_78 q_12 q_75) rfl rfl rfl hV_Jx4a65c_size_8abf5 ⟨Nat.le_of_ble_eq_true rfl, Nat.le_of_ble_eq_true rfl⟩) ⟨pc_blind, va_recv hK hP (ci := 0) (q := (RJx4a65c, TJx4a65c, 3)) (q0 := 2) rfl rfl, fun U hU hW => ⟨rfl, hC19 U hU hW⟩⟩ rfl rfl hl.1 rfl (lv_room (Nat.le_of_ble_eq_true rfl)) dX4_tryRow_12 ⟨(Nat.le_of_ble_eq_true rfl), (Nat.le_of_ble_eq_true rfl)⟩) hS (fun q9 _ h9 => hF16 q9 h9) hF16 (fun r21 u20 t20 H20 L20 ht20 hvm20 hw20 hB20 hz20 hk20 hS => ?_)
  have hP := pq_keep hP hD [2] rfl hk20 hB20.1 ht20
  have hG : s.heap.size + 0 ≤ H20.size := Nat.le_trans hG hz20
  refine W.eq (g2 := F0 m 15 ls [.int 7, .int 1]) (by rw [hw20]) ?_
  refine lv_icmp_ge (tgt := 59) hx hb dX4_tryRow_15 (by decide) (fun cz => absurd cz (by decide)) (fun _ => ?_)
  refine lv_aload_n hx hb dX4_tryRow_18 rfl (lv_at hl 1 rfl) ?_
  refine va_get (D := (dC, dI)) (ci := 4) (v := .ref h1) (C := RX4) (T := TX4) (N := 3) hx hb hts in_X4 hown hK hP 0 rfl rfl 0 (by decide) (hts _ q_50) (fun _ h9 => h9) rfl dX4_tryRow_19 ?_
  refine va_get (D := (dC, dI)) (ci := 2) (v := .ref h2) (C := RX0) (T := TX0) (N := 4) hx hb hts in_X0 hown hK hP 1 rfl rfl 1 (by decide) (hts _ q_347) (fun _ h9 => h9) rfl dX4_tryRow_22 ?_
  refine lv_iload hx hb dX4_tryRow_25 (lv_at hl 0 rfl) ?_
  have hM24 := k636_get l hl9 dC dI z h2 h4 h6 h7 h8 h9 h10 h11 h12 H20.size kc0
  obtain ⟨hF22, hC25⟩ := pc_M hM24 hP hD hK hS hX hT hA [2, 4] [0] rfl rfl rfl
  refine va_callr (va_runV (As := [.int 1]) (rest := []) ⟨hx, hb, hml, hown, hts⟩ hM24 (cwV 1 hts (gV q_383 q_157 q_158 q_12 q_155) rfl rfl rfl hV_Jx4a65c_get_915e3 ⟨Nat.le_of_ble_eq_true rfl, Nat.le_of_ble_eq_true rfl⟩) ⟨pc_blind, va_recv hK hP (ci := 0) (q := (RJx4a65c, TJx4a65c, 3)) (q0 := 2) rfl rfl, fun U hU hW => ⟨rfl, hC25 U hU hW⟩⟩ rfl rfl hl.1 rfl (lv_room (Nat.le_of_ble_eq_true rfl)) dX4_tryRow_27 ⟨(Nat.le_of_ble_eq_true rfl), (Nat.le_of_ble_eq_true rfl)⟩) hS (fun q9 _ h9 => hF22 q9 h9) hF22 (fun u26 r27 t26 H26 L26 ht26 hvm26 hw26 hB26 hz26 hk26 hS => ?_)
  obtain ⟨hr26, hB26⟩ := hB26
  have hP := pq_keep hP hD [2, 4] rfl hk26 hB26.1 ht26
  have hG : s.heap.size + 0 ≤ H26.size := Nat.le_trans hG hz26
  refine W.eq (g2 := F0 m 30 ls [.ref h7]) (by rw [hr26]) ?_
  refine va_castE (nm := RX2) hx hb hown (hts _ q_384) (va_recv hK hP (ci := 3) (q := (RX2, TX2, 19)) (q0 := 7) rfl rfl) dX4_tryRow_30 ?_
  refine lv_iload_n hx hb dX4_tryRow_33 rfl (lv_at hl 2 rfl) ?_
  refine lv_iload hx hb dX4_tryRow_34 (lv_at hl 0 rfl) ?_
  refine lv_ishr hx hb dX4_tryRow_36 ?_
  refine lv_topi (fun y28 ey28 => ?_)
  obtain rfl : y28 = 0 := ey28.trans (by decide)
  refine lv_iconst (v := 1) hx hb dX4_tryRow_37 (by decide) ?_
  refine lv_iand hx hb dX4_tryRow_38 ?_
  refine lv_topi (fun y29 ey29 => ?_)
  obtain rfl : y29 = 0 := ey29.trans (by decide)
  refine lv_iconst (v := 1) hx hb dX4_tryRow_39 (by decide) ?_
  refine lv_icmp_ne (tgt := 48) hx hb dX4_tryRow_40 (by decide) (fun _ => ?_) (fun cz => absurd cz (by decide))
  refine lv_bipush (v := 48) hx hb dX4_tryRow_48 (by decide) ?_
  refine va_put (D := (dC, dI)) (ci := 3) (v := .int 48) (ty := .char) (C := RX2) (T := TX2) (N := 19) hx hb hts in_X2 tyX2 tyX2_ok nmX2 hown hK hP hD (va_Sre hS) 7 rfl rfl 11 (by decide) (hts _ q_385) (fun _ h9 => h9) rfl (by decide +kernel) rfl rfl (Nat.le_of_ble_eq_true rfl) dX4_tryRow_50 (fun H30 _ hP hD hS' => ?_)
  have hG : s.heap.size + 0 ≤ H30.size := Nat.le_trans hG hS'.1
  have hS := va_Str hS hS'
  have hP : va_P (dC, dI) xCl [(h0, ce417 h1 o0), (h1, ce7 o1 h2 o2 h3), (h2, ce331 h4), (h3, ce366 h5), (h4, ce330 kc0 h6 h7 h8 h9 h10 h11 h12), (h5, ce330 kc1 h6 h7 h8 h9 h10 h11 h12), (h6, ce420 (z.2.1 0) o3 h6), (h7, ce421 (z.2.1 0) o4 h7), (h8, ce422 (z.2.1 0) o5 h8), (h9, ce423 (z.2.1 0) o6 h9), (h10, ce424 (z.2.1 0) o7 h10), (h11, ce425 (z.2.1 0) o8 h11), (h12, ce426 (z.2.1 0) o9 h12)] H30 := hP
  have hD := vd_as hP hD rfl
  refine lv_iinc (v := 2) (lv' := [(4, .int 2), (0, .ref h0), (1, .int 0), (2, .null), (3, .int 120)]) hx hb dX4_tryRow_53 hl (k := 0) rfl (by decide) (by decide) rfl (fun ls hl => ?_)
  refine lv_goto (tgt := 3) hx hb dX4_tryRow_56 (by decide) ?_
  refine lv_iload hx hb dX4_tryRow_3 (lv_at hl 0 rfl) ?_
  refine lv_aload_n hx hb dX4_tryRow_5 rfl (lv_at hl 1 rfl) ?_
  refine va_get (D := (dC, dI)) (ci := 4) (v := .ref h1) (C := RX4) (T := TX4) (N := 3) hx hb hts in_X4 hown hK hP 0 rfl rfl 0 (by decide) (hts _ q_50) (fun _ h9 => h9) rfl dX4_tryRow_6 ?_
  refine va_get (D := (dC, dI)) (ci := 2) (v := .ref h2) (C := RX0) (T := TX0) (N := 4) hx hb hts in_X0 hown hK hP 1 rfl rfl 1 (by decide) (hts _ q_347) (fun _ h9 => h9) rfl dX4_tryRow_9 ?_
  have hM33 := k20_size l hl9 dC dI z h2 h4 H30.size 7 7
  obtain ⟨hF31, hC34⟩ := pc_M hM33 hP hD hK hS hX hT hA [2] [] rfl rfl rfl
  refine va_calli (va_runV (As := []) (rest := [.int 2]) ⟨hx, hb, hml, hown, hts⟩ hM33 (cwV 0 hts (gV q_348 q_77 q_78 q_12 q_75) rfl rfl rfl hV_Jx4a65c_size_8abf5 ⟨Nat.le_of_ble_eq_true rfl, Nat.le_of_ble_eq_true rfl⟩) ⟨pc_blind, va_recv hK hP (ci := 0) (q := (RJx4a65c, TJx4a65c, 3)) (q0 := 2) rfl rfl, fun U hU hW => ⟨rfl, hC34 U hU hW⟩⟩ rfl rfl hl.1 rfl (lv_room (Nat.le_of_ble_eq_true rfl)) dX4_tryRow_12 ⟨(Nat.le_of_ble_eq_true rfl), (Nat.le_of_ble_eq_true rfl)⟩) hS (fun q9 _ h9 => hF31 q9 h9) hF31 (fun r36 u35 t35 H35 L35 ht35 hvm35 hw35 hB35 hz35 hk35 hS => ?_)
  have hP := pq_keep hP hD [2] rfl hk35 hB35.1 ht35
  have hG : s.heap.size + 0 ≤ H35.size := Nat.le_trans hG hz35
  refine W.eq (g2 := F0 m 15 ls [.int 7, .int 2]) (by rw [hw35]) ?_
  refine lv_icmp_ge (tgt := 59) hx hb dX4_tryRow_15 (by decide) (fun cz => absurd cz (by decide)) (fun _ => ?_)
  refine lv_aload_n hx hb dX4_tryRow_18 rfl (lv_at hl 1 rfl) ?_
  refine va_get (D := (dC, dI)) (ci := 4) (v := .ref h1) (C := RX4) (T := TX4) (N := 3) hx hb hts in_X4 hown hK hP 0 rfl rfl 0 (by decide) (hts _ q_50) (fun _ h9 => h9) rfl dX4_tryRow_19 ?_
  refine va_get (D := (dC, dI)) (ci := 2) (v := .ref h2) (C := RX0) (T := TX0) (N := 4) hx hb hts in_X0 hown hK hP 1 rfl rfl 1 (by decide) (hts _ q_347) (fun _ h9 => h9) rfl dX4_tryRow_22 ?_
  refine lv_iload hx hb dX4_tryRow_25 (lv_at hl 0 rfl) ?_
  have hM39 := k640_get l hl9 dC dI z h2 h4 h6 h7 h8 h9 h10 h11 h12 H35.size kc0
  obtain ⟨hF37, hC40⟩ := pc_M hM39 hP hD hK hS hX hT hA [2, 4] [0] rfl rfl rfl
  refine va_callr (va_runV (As := [.int 2]) (rest := []) ⟨hx, hb, hml, hown, hts⟩ hM39 (cwV 1 hts (gV q_383 q_157 q_158 q_12 q_155) rfl rfl rfl hV_Jx4a65c_get_915e3 ⟨Nat.le_of_ble_eq_true rfl, Nat.le_of_ble_eq_true rfl⟩) ⟨pc_blind, va_recv hK hP (ci := 0) (q := (RJx4a65c, TJx4a65c, 3)) (q0 := 2) rfl rfl, fun U hU hW => ⟨rfl, hC40 U hU hW⟩⟩ rfl rfl hl.1 rfl (lv_room (Nat.le_of_ble_eq_true rfl)) dX4_tryRow_27 ⟨(Nat.le_of_ble_eq_true rfl), (Nat.le_of_ble_eq_true rfl)⟩) hS (fun q9 _ h9 => hF37 q9 h9) hF37 (fun u41 r42 t41 H41 L41 ht41 hvm41 hw41 hB41 hz41 hk41 hS => ?_)
  obtain ⟨hr41, hB41⟩ := hB41
  have hP := pq_keep hP hD [2, 4] rfl hk41 hB41.1 ht41
  have hG : s.heap.size + 0 ≤ H41.size := Nat.le_trans hG hz41
  refine W.eq (g2 := F0 m 30 ls [.ref h8]) (by rw [hr41]) ?_
  refine va_castE (nm := RX2) hx hb hown (hts _ q_384) (va_recv hK hP (ci := 3) (q := (RX2, TX2, 19)) (q0 := 8) rfl rfl) dX4_tryRow_30 ?_
  refine lv_iload_n hx hb dX4_tryRow_33 rfl (lv_at hl 2 rfl) ?_
  refine lv_iload hx hb dX4_tryRow_34 (lv_at hl 0 rfl) ?_
  refine lv_ishr hx hb dX4_tryRow_36 ?_
  refine lv_topi (fun y43 ey43 => ?_)
  obtain rfl : y43 = 0 := ey43.trans (by decide)
  refine lv_iconst (v := 1) hx hb dX4_tryRow_37 (by decide) ?_
  refine lv_iand hx hb dX4_tryRow_38 ?_
  refine lv_topi (fun y44 ey44 => ?_)
  obtain rfl : y44 = 0 := ey44.trans (by decide)
  refine lv_iconst (v := 1) hx hb dX4_tryRow_39 (by decide) ?_
  refine lv_icmp_ne (tgt := 48) hx hb dX4_tryRow_40 (by decide) (fun _ => ?_) (fun cz => absurd cz (by decide))
  refine lv_bipush (v := 48) hx hb dX4_tryRow_48 (by decide) ?_
  refine va_put (D := (dC, dI)) (ci := 3) (v := .int 48) (ty := .char) (C := RX2) (T := TX2) (N := 19) hx hb hts in_X2 tyX2 tyX2_ok nmX2 hown hK hP hD (va_Sre hS) 8 rfl rfl 11 (by decide) (hts _ q_385) (fun _ h9 => h9) rfl (by decide +kernel) rfl rfl (Nat.le_of_ble_eq_true rfl) dX4_tryRow_50 (fun H45 _ hP hD hS' => ?_)
  have hG : s.heap.size + 0 ≤ H45.size := Nat.le_trans hG hS'.1
  have hS := va_Str hS hS'
  have hP : va_P (dC, dI) xCl [(h0, ce417 h1 o0), (h1, ce7 o1 h2 o2 h3), (h2, ce331 h4), (h3, ce366 h5), (h4, ce330 kc0 h6 h7 h8 h9 h10 h11 h12), (h5, ce330 kc1 h6 h7 h8 h9 h10 h11 h12), (h6, ce420 (z.2.1 0) o3 h6), (h7, ce421 (z.2.1 0) o4 h7), (h8, ce422 (z.2.1 0) o5 h8), (h9, ce423 (z.2.1 0) o6 h9), (h10, ce424 (z.2.1 0) o7 h10), (h11, ce425 (z.2.1 0) o8 h11), (h12, ce426 (z.2.1 0) o9 h12)] H45 := hP
  have hD := vd_as hP hD rfl
  refine lv_iinc (v := 3) (lv' := [(4, .int 3), (0, .ref h0), (1, .int 0), (2, .null), (3, .int 120)]) hx hb dX4_tryRow_53 hl (k := 0) rfl (by decide) (by decide) rfl (fun ls hl => ?_)
  refine lv_goto (tgt := 3) hx hb dX4_tryRow_56 (by decide) ?_
  refine lv_iload hx hb dX4_tryRow_3 (lv_at hl 0 rfl) ?_
  refine lv_aload_n hx hb dX4_tryRow_5 rfl (lv_at hl 1 rfl) ?_
  refine va_get (D := (dC, dI)) (ci := 4) (v := .ref h1) (C := RX4) (T := TX4) (N := 3) hx hb hts in_X4 hown hK hP 0 rfl rfl 0 (by decide) (hts _ q_50) (fun _ h9 => h9) rfl dX4_tryRow_6 ?_
  refine va_get (D := (dC, dI)) (ci := 2) (v := .ref h2) (C := RX0) (T := TX0) (N := 4) hx hb hts in_X0 hown hK hP 1 rfl rfl 1 (by decide) (hts _ q_347) (fun _ h9 => h9) rfl dX4_tryRow_9 ?_
  have hM48 := k20_size l hl9 dC dI z h2 h4 H45.size 7 7
  obtain ⟨hF46, hC49⟩ := pc_M hM48 hP hD hK hS hX hT hA [2] [] rfl rfl rfl
  refine va_calli (va_runV (As := []) (rest := [.int 3]) ⟨hx, hb, hml, hown, hts⟩ hM48 (cwV 0 hts (gV q_348 q_77 q_78 q_12 q_75) rfl rfl rfl hV_Jx4a65c_size_8abf5 ⟨Nat.le_of_ble_eq_true rfl, Nat.le_of_ble_eq_true rfl⟩) ⟨pc_blind, va_recv hK hP (ci := 0) (q := (RJx4a65c, TJx4a65c, 3)) (q0 := 2) rfl rfl, fun U hU hW => ⟨rfl, hC49 U hU hW⟩⟩ rfl rfl hl.1 rfl (lv_room (Nat.le_of_ble_eq_true rfl)) dX4_tryRow_12 ⟨(Nat.le_of_ble_eq_true rfl), (Nat.le_of_ble_eq_true rfl)⟩) hS (fun q9 _ h9 => hF46 q9 h9) hF46 (fun r51 u50 t50 H50 L50 ht50 hvm50 hw50 hB50 hz50 hk50 hS => ?_)
  have hP := pq_keep hP hD [2] rfl hk50 hB50.1 ht50
  have hG : s.heap.size + 0 ≤ H50.size := Nat.le_trans hG hz50
  refine W.eq (g2 := F0 m 15 ls [.int 7, .int 3]) (by rw [hw50]) ?_
  refine lv_icmp_ge (tgt := 59) hx hb dX4_tryRow_15 (by decide) (fun cz => absurd cz (by decide)) (fun _ => ?_)
  refine lv_aload_n hx hb dX4_tryRow_18 rfl (lv_at hl 1 rfl) ?_
  refine va_get (D := (dC, dI)) (ci := 4) (v := .ref h1) (C := RX4) (T := TX4) (N := 3) hx hb hts in_X4 hown hK hP 0 rfl rfl 0 (by decide) (hts _ q_50) (fun _ h9 => h9) rfl dX4_tryRow_19 ?_
  refine va_get (D := (dC, dI)) (ci := 2) (v := .ref h2) (C := RX0) (T := TX0) (N := 4) hx hb hts in_X0 hown hK hP 1 rfl rfl 1 (by decide) (hts _ q_347) (fun _ h9 => h9) rfl dX4_tryRow_22 ?_
  refine lv_iload hx hb dX4_tryRow_25 (lv_at hl 0 rfl) ?_
  have hM54 := k644_get l hl9 dC dI z h2 h4 h6 h7 h8 h9 h10 h11 h12 H50.size kc0
  obtain ⟨hF52, hC55⟩ := pc_M hM54 hP hD hK hS hX hT hA [2, 4] [0] rfl rfl rfl
  refine va_callr (va_runV (As := [.int 3]) (rest := []) ⟨hx, hb, hml, hown, hts⟩ hM54 (cwV 1 hts (gV q_383 q_157 q_158 q_12 q_155) rfl rfl rfl hV_Jx4a65c_get_915e3 ⟨Nat.le_of_ble_eq_true rfl, Nat.le_of_ble_eq_true rfl⟩) ⟨pc_blind, va_recv hK hP (ci := 0) (q := (RJx4a65c, TJx4a65c, 3)) (q0 := 2) rfl rfl, fun U hU hW => ⟨rfl, hC55 U hU hW⟩⟩ rfl rfl hl.1 rfl (lv_room (Nat.le_of_ble_eq_true rfl)) dX4_tryRow_27 ⟨(Nat.le_of_ble_eq_true rfl), (Nat.le_of_ble_eq_true rfl)⟩) hS (fun q9 _ h9 => hF52 q9 h9) hF52 (fun u56 r57 t56 H56 L56 ht56 hvm56 hw56 hB56 hz56 hk56 hS => ?_)
  obtain ⟨hr56, hB56⟩ := hB56
  have hP := pq_keep hP hD [2, 4] rfl hk56 hB56.1 ht56
  have hG : s.heap.size + 0 ≤ H56.size := Nat.le_trans hG hz56
  refine W.eq (g2 := F0 m 30 ls [.ref h9]) (by rw [hr56]) ?_
  refine va_castE (nm := RX2) hx hb hown (hts _ q_384) (va_recv hK hP (ci := 3) (q := (RX2, TX2, 19)) (q0 := 9) rfl rfl) dX4_tryRow_30 ?_
  refine lv_iload_n hx hb dX4_tryRow_33 rfl (lv_at hl 2 rfl) ?_
  refine lv_iload hx hb dX4_tryRow_34 (lv_at hl 0 rfl) ?_
  refine lv_ishr hx hb dX4_tryRow_36 ?_
  refine lv_topi (fun y58 ey58 => ?_)
  obtain rfl : y58 = 0 := ey58.trans (by decide)
  refine lv_iconst (v := 1) hx hb dX4_tryRow_37 (by decide) ?_
  refine lv_iand hx hb dX4_tryRow_38 ?_
  refine lv_topi (fun y59 ey59 => ?_)
  obtain rfl : y59 = 0 := ey59.trans (by decide)
  refine lv_iconst (v := 1) hx hb dX4_tryRow_39 (by decide) ?_
  refine lv_icmp_ne (tgt := 48) hx hb dX4_tryRow_40 (by decide) (fun _ => ?_) (fun cz => absurd cz (by decide))
  refine lv_bipush (v := 48) hx hb dX4_tryRow_48 (by decide) ?_
  refine va_put (D := (dC, dI)) (ci := 3) (v := .int 48) (ty := .char) (C := RX2) (T := TX2) (N := 19) hx hb hts in_X2 tyX2 tyX2_ok nmX2 hown hK hP hD (va_Sre hS) 9 rfl rfl 11 (by decide) (hts _ q_385) (fun _ h9 => h9) rfl (by decide +kernel) rfl rfl (Nat.le_of_ble_eq_true rfl) dX4_tryRow_50 (fun H60 _ hP hD hS' => ?_)
  have hG : s.heap.size + 0 ≤ H60.size := Nat.le_trans hG hS'.1
  have hS := va_Str hS hS'
  have hP : va_P (dC, dI) xCl [(h0, ce417 h1 o0), (h1, ce7 o1 h2 o2 h3), (h2, ce331 h4), (h3, ce366 h5), (h4, ce330 kc0 h6 h7 h8 h9 h10 h11 h12), (h5, ce330 kc1 h6 h7 h8 h9 h10 h11 h12), (h6, ce420 (z.2.1 0) o3 h6), (h7, ce421 (z.2.1 0) o4 h7), (h8, ce422 (z.2.1 0) o5 h8), (h9, ce423 (z.2.1 0) o6 h9), (h10, ce424 (z.2.1 0) o7 h10), (h11, ce425 (z.2.1 0) o8 h11), (h12, ce426 (z.2.1 0) o9 h12)] H60 := hP
  have hD := vd_as hP hD rfl
  refine lv_iinc (v := 4) (lv' := [(4, .int 4), (0, .ref h0), (1, .int 0), (2, .null), (3, .int 120)]) hx hb dX4_tryRow_53 hl (k := 0) rfl (by decide) (by decide) rfl (fun ls hl => ?_)
  refine lv_goto (tgt := 3) hx hb dX4_tryRow_56 (by decide) ?_
  refine lv_iload hx hb dX4_tryRow_3 (lv_at hl 0 rfl) ?_
  refine lv_aload_n hx hb dX4_tryRow_5 rfl (lv_at hl 1 rfl) ?_
  refine va_get (D := (dC, dI)) (ci := 4) (v := .ref h1) (C := RX4) (T := TX4) (N := 3) hx hb hts in_X4 hown hK hP 0 rfl rfl 0 (by decide) (hts _ q_50) (fun _ h9 => h9) rfl dX4_tryRow_6 ?_
  refine va_get (D := (dC, dI)) (ci := 2) (v := .ref h2) (C := RX0) (T := TX0) (N := 4) hx hb hts in_X0 hown hK hP 1 rfl rfl 1 (by decide) (hts _ q_347) (fun _ h9 => h9) rfl dX4_tryRow_9 ?_
  have hM63 := k20_size l hl9 dC dI z h2 h4 H60.size 7 7
  obtain ⟨hF61, hC64⟩ := pc_M hM63 hP hD hK hS hX hT hA [2] [] rfl rfl rfl
  refine va_calli (va_runV (As := []) (rest := [.int 4]) ⟨hx, hb, hml, hown, hts⟩ hM63 (cwV 0 hts (gV q_348 q_77 q_78 q_12 q_75) rfl rfl rfl hV_Jx4a65c_size_8abf5 ⟨Nat.le_of_ble_eq_true rfl, Nat.le_of_ble_eq_true rfl⟩) ⟨pc_blind, va_recv hK hP (ci := 0) (q := (RJx4a65c, TJx4a65c, 3)) (q0 := 2) rfl rfl, fun U hU hW => ⟨rfl, hC64 U hU hW⟩⟩ rfl rfl hl.1 rfl (lv_room (Nat.le_of_ble_eq_true rfl)) dX4_tryRow_12 ⟨(Nat.le_of_ble_eq_true rfl), (Nat.le_of_ble_eq_true rfl)⟩) hS (fun q9 _ h9 => hF61 q9 h9) hF61 (fun r66 u65 t65 H65 L65 ht65 hvm65 hw65 hB65 hz65 hk65 hS => ?_)
  have hP := pq_keep hP hD [2] rfl hk65 hB65.1 ht65
  have hG : s.heap.size + 0 ≤ H65.size := Nat.le_trans hG hz65
  refine W.eq (g2 := F0 m 15 ls [.int 7, .int 4]) (by rw [hw65]) ?_
  refine lv_icmp_ge (tgt := 59) hx hb dX4_tryRow_15 (by decide) (fun cz => absurd cz (by decide)) (fun _ => ?_)
  refine lv_aload_n hx hb dX4_tryRow_18 rfl (lv_at hl 1 rfl) ?_
  refine va_get (D := (dC, dI)) (ci := 4) (v := .ref h1) (C := RX4) (T := TX4) (N := 3) hx hb hts in_X4 hown hK hP 0 rfl rfl 0 (by decide) (hts _ q_50) (fun _ h9 => h9) rfl dX4_tryRow_19 ?_
  refine va_get (D := (dC, dI)) (ci := 2) (v := .ref h2) (C := RX0) (T := TX0) (N := 4) hx hb hts in_X0 hown hK hP 1 rfl rfl 1 (by decide) (hts _ q_347) (fun _ h9 => h9) rfl dX4_tryRow_22 ?_
  refine lv_iload hx hb dX4_tryRow_25 (lv_at hl 0 rfl) ?_
  have hM69 := k648_get l hl9 dC dI z h2 h4 h6 h7 h8 h9 h10 h11 h12 H65.size kc0
  obtain ⟨hF67, hC70⟩ := pc_M hM69 hP hD hK hS hX hT hA [2, 4] [0] rfl rfl rfl
  refine va_callr (va_runV (As := [.int 4]) (rest := []) ⟨hx, hb, hml, hown, hts⟩ hM69 (cwV 1 hts (gV q_383 q_157 q_158 q_12 q_155) rfl rfl rfl hV_Jx4a65c_get_915e3 ⟨Nat.le_of_ble_eq_true rfl, Nat.le_of_ble_eq_true rfl⟩) ⟨pc_blind, va_recv hK hP (ci := 0) (q := (RJx4a65c, TJx4a65c, 3)) (q0 := 2) rfl rfl, fun U hU hW => ⟨rfl, hC70 U hU hW⟩⟩ rfl rfl hl.1 rfl (lv_room (Nat.le_of_ble_eq_true rfl)) dX4_tryRow_27 ⟨(Nat.le_of_ble_eq_true rfl), (Nat.le_of_ble_eq_true rfl)⟩) hS (fun q9 _ h9 => hF67 q9 h9) hF67 (fun u71 r72 t71 H71 L71 ht71 hvm71 hw71 hB71 hz71 hk71 hS => ?_)
  obtain ⟨hr71, hB71⟩ := hB71
  have hP := pq_keep hP hD [2, 4] rfl hk71 hB71.1 ht71
  have hG : s.heap.size + 0 ≤ H71.size := Nat.le_trans hG hz71
  refine W.eq (g2 := F0 m 30 ls [.ref h10]) (by rw [hr71]) ?_
  refine va_castE (nm := RX2) hx hb hown (hts _ q_384) (va_recv hK hP (ci := 3) (q := (RX2, TX2, 19)) (q0 := 10) rfl rfl) dX4_tryRow_30 ?_
  refine lv_iload_n hx hb dX4_tryRow_33 rfl (lv_at hl 2 rfl) ?_
  refine lv_iload hx hb dX4_tryRow_34 (lv_at hl 0 rfl) ?_
  refine lv_ishr hx hb dX4_tryRow_36 ?_
  refine lv_topi (fun y73 ey73 => ?_)
  obtain rfl : y73 = 0 := ey73.trans (by decide)
  refine lv_iconst (v := 1) hx hb dX4_tryRow_37 (by decide) ?_
  refine lv_iand hx hb dX4_tryRow_38 ?_
  refine lv_topi (fun y74 ey74 => ?_)
  obtain rfl : y74 = 0 := ey74.trans (by decide)
  refine lv_iconst (v := 1) hx hb dX4_tryRow_39 (by decide) ?_
  refine lv_icmp_ne (tgt := 48) hx hb dX4_tryRow_40 (by decide) (fun _ => ?_) (fun cz => absurd cz (by decide))
  refine lv_bipush (v := 48) hx hb dX4_tryRow_48 (by decide) ?_
  refine va_put (D := (dC, dI)) (ci := 3) (v := .int 48) (ty := .char) (C := RX2) (T := TX2) (N := 19) hx hb hts in_X2 tyX2 tyX2_ok nmX2 hown hK hP hD (va_Sre hS) 10 rfl rfl 11 (by decide) (hts _ q_385) (fun _ h9 => h9) rfl (by decide +kernel) rfl rfl (Nat.le_of_ble_eq_true rfl) dX4_tryRow_50 (fun H75 _ hP hD hS' => ?_)
  have hG : s.heap.size + 0 ≤ H75.size := Nat.le_trans hG hS'.1
  have hS := va_Str hS hS'
  have hP : va_P (dC, dI) xCl [(h0, ce417 h1 o0), (h1, ce7 o1 h2 o2 h3), (h2, ce331 h4), (h3, ce366 h5), (h4, ce330 kc0 h6 h7 h8 h9 h10 h11 h12), (h5, ce330 kc1 h6 h7 h8 h9 h10 h11 h12), (h6, ce420 (z.2.1 0) o3 h6), (h7, ce421 (z.2.1 0) o4 h7), (h8, ce422 (z.2.1 0) o5 h8), (h9, ce423 (z.2.1 0) o6 h9), (h10, ce424 (z.2.1 0) o7 h10), (h11, ce425 (z.2.1 0) o8 h11), (h12, ce426 (z.2.1 0) o9 h12)] H75 := hP
  have hD := vd_as hP hD rfl
  refine lv_iinc (v := 5) (lv' := [(4, .int 5), (0, .ref h0), (1, .int 0), (2, .null), (3, .int 120)]) hx hb dX4_tryRow_53 hl (k := 0) rfl (by decide) (by decide) rfl (fun ls hl => ?_)
  refine lv_goto (tgt := 3) hx hb dX4_tryRow_56 (by decide) ?_
  refine lv_iload hx hb dX4_tryRow_3 (lv_at hl 0 rfl) ?_
  refine lv_aload_n hx hb dX4_tryRow_5 rfl (lv_at hl 1 rfl) ?_
  refine va_get (D := (dC, dI)) (ci := 4) (v := .ref h1) (C := RX4) (T := TX4) (N := 3) hx hb hts in_X4 hown hK hP 0 rfl rfl 0 (by decide) (hts _ q_50) (fun _ h9 => h9) rfl dX4_tryRow_6 ?_
  refine va_get (D := (dC, dI)) (ci := 2) (v := .ref h2) (C := RX0) (T := TX0) (N := 4) hx hb hts in_X0 hown hK hP 1 rfl rfl 1 (by decide) (hts _ q_347) (fun _ h9 => h9) rfl dX4_tryRow_9 ?_
  have hM78 := k20_size l hl9 dC dI z h2 h4 H75.size 7 7
  obtain ⟨hF76, hC79⟩ := pc_M hM78 hP hD hK hS hX hT hA [2] [] rfl rfl rfl
  refine va_calli (va_runV (As := []) (rest := [.int 5]) ⟨hx, hb, hml, hown, hts⟩ hM78 (cwV 0 hts (gV q_348 q_77 q_78 q_12 q_75) rfl rfl rfl hV_Jx4a65c_size_8abf5 ⟨Nat.le_of_ble_eq_true rfl, Nat.le_of_ble_eq_true rfl⟩) ⟨pc_blind, va_recv hK hP (ci := 0) (q := (RJx4a65c, TJx4a65c, 3)) (q0 := 2) rfl rfl, fun U hU hW => ⟨rfl, hC79 U hU hW⟩⟩ rfl rfl hl.1 rfl (lv_room (Nat.le_of_ble_eq_true rfl)) dX4_tryRow_12 ⟨(Nat.le_of_ble_eq_true rfl), (Nat.le_of_ble_eq_true rfl)⟩) hS (fun q9 _ h9 => hF76 q9 h9) hF76 (fun r81 u80 t80 H80 L80 ht80 hvm80 hw80 hB80 hz80 hk80 hS => ?_)
  have hP := pq_keep hP hD [2] rfl hk80 hB80.1 ht80
  have hG : s.heap.size + 0 ≤ H80.size := Nat.le_trans hG hz80
  refine W.eq (g2 := F0 m 15 ls [.int 7, .int 5]) (by rw [hw80]) ?_
  refine lv_icmp_ge (tgt := 59) hx hb dX4_tryRow_15 (by decide) (fun cz => absurd cz (by decide)) (fun _ => ?_)
  refine lv_aload_n hx hb dX4_tryRow_18 rfl (lv_at hl 1 rfl) ?_
  refine va_get (D := (dC, dI)) (ci := 4) (v := .ref h1) (C := RX4) (T := TX4) (N := 3) hx hb hts in_X4 hown hK hP 0 rfl rfl 0 (by decide) (hts _ q_50) (fun _ h9 => h9) rfl dX4_tryRow_19 ?_
  refine va_get (D := (dC, dI)) (ci := 2) (v := .ref h2) (C := RX0) (T := TX0) (N := 4) hx hb hts in_X0 hown hK hP 1 rfl rfl 1 (by decide) (hts _ q_347) (fun _ h9 => h9) rfl dX4_tryRow_22 ?_
  refine lv_iload hx hb dX4_tryRow_25 (lv_at hl 0 rfl) ?_
  have hM84 := k652_get l hl9 dC dI z h2 h4 h6 h7 h8 h9 h10 h11 h12 H80.size kc0
  obtain ⟨hF82, hC85⟩ := pc_M hM84 hP hD hK hS hX hT hA [2, 4] [0] rfl rfl rfl
  refine va_callr (va_runV (As := [.int 5]) (rest := []) ⟨hx, hb, hml, hown, hts⟩ hM84 (cwV 1 hts (gV q_383 q_157 q_158 q_12 q_155) rfl rfl rfl hV_Jx4a65c_get_915e3 ⟨Nat.le_of_ble_eq_true rfl, Nat.le_of_ble_eq_true rfl⟩) ⟨pc_blind, va_recv hK hP (ci := 0) (q := (RJx4a65c, TJx4a65c, 3)) (q0 := 2) rfl rfl, fun U hU hW => ⟨rfl, hC85 U hU hW⟩⟩ rfl rfl hl.1 rfl (lv_room (Nat.le_of_ble_eq_true rfl)) dX4_tryRow_27 ⟨(Nat.le_of_ble_eq_true rfl), (Nat.le_of_ble_eq_true rfl)⟩) hS (fun q9 _ h9 => hF82 q9 h9) hF82 (fun u86 r87 t86 H86 L86 ht86 hvm86 hw86 hB86 hz86 hk86 hS => ?_)
  obtain ⟨hr86, hB86⟩ := hB86
  have hP := pq_keep hP hD [2, 4] rfl hk86 hB86.1 ht86
  have hG : s.heap.size + 0 ≤ H86.size := Nat.le_trans hG hz86
  refine W.eq (g2 := F0 m 30 ls [.ref h11]) (by rw [hr86]) ?_
  refine va_castE (nm := RX2) hx hb hown (hts _ q_384) (va_recv hK hP (ci := 3) (q := (RX2, TX2, 19)) (q0 := 11) rfl rfl) dX4_tryRow_30 ?_
  refine lv_iload_n hx hb dX4_tryRow_33 rfl (lv_at hl 2 rfl) ?_
  refine lv_iload hx hb dX4_tryRow_34 (lv_at hl 0 rfl) ?_
  refine lv_ishr hx hb dX4_tryRow_36 ?_
  refine lv_topi (fun y88 ey88 => ?_)
  obtain rfl : y88 = 0 := ey88.trans (by decide)
  refine lv_iconst (v := 1) hx hb dX4_tryRow_37 (by decide) ?_
  refine lv_iand hx hb dX4_tryRow_38 ?_
  refine lv_topi (fun y89 ey89 => ?_)
  obtain rfl : y89 = 0 := ey89.trans (by decide)
  refine lv_iconst (v := 1) hx hb dX4_tryRow_39 (by decide) ?_
  refine lv_icmp_ne (tgt := 48) hx hb dX4_tryRow_40 (by decide) (fun _ => ?_) (fun cz => absurd cz (by decide))
  refine lv_bipush (v := 48) hx hb dX4_tryRow_48 (by decide) ?_
  refine va_put (D := (dC, dI)) (ci := 3) (v := .int 48) (ty := .char) (C := RX2) (T := TX2) (N := 19) hx hb hts in_X2 tyX2 tyX2_ok nmX2 hown hK hP hD (va_Sre hS) 11 rfl rfl 11 (by decide) (hts _ q_385) (fun _ h9 => h9) rfl (by decide +kernel) rfl rfl (Nat.le_of_ble_eq_true rfl) dX4_tryRow_50 (fun H90 _ hP hD hS' => ?_)
  have hG : s.heap.size + 0 ≤ H90.size := Nat.le_trans hG hS'.1
  have hS := va_Str hS hS'
  have hP : va_P (dC, dI) xCl [(h0, ce417 h1 o0), (h1, ce7 o1 h2 o2 h3), (h2, ce331 h4), (h3, ce366 h5), (h4, ce330 kc0 h6 h7 h8 h9 h10 h11 h12), (h5, ce330 kc1 h6 h7 h8 h9 h10 h11 h12), (h6, ce420 (z.2.1 0) o3 h6), (h7, ce421 (z.2.1 0) o4 h7), (h8, ce422 (z.2.1 0) o5 h8), (h9, ce423 (z.2.1 0) o6 h9), (h10, ce424 (z.2.1 0) o7 h10), (h11, ce425 (z.2.1 0) o8 h11), (h12, ce426 (z.2.1 0) o9 h12)] H90 := hP
  have hD := vd_as hP hD rfl
  refine lv_iinc (v := 6) (lv' := [(4, .int 6), (0, .ref h0), (1, .int 0), (2, .null), (3, .int 120)]) hx hb dX4_tryRow_53 hl (k := 0) rfl (by decide) (by decide) rfl (fun ls hl => ?_)
  refine lv_goto (tgt := 3) hx hb dX4_tryRow_56 (by decide) ?_
  refine lv_iload hx hb dX4_tryRow_3 (lv_at hl 0 rfl) ?_
  refine lv_aload_n hx hb dX4_tryRow_5 rfl (lv_at hl 1 rfl) ?_
  refine va_get (D := (dC, dI)) (ci := 4) (v := .ref h1) (C := RX4) (T := TX4) (N := 3) hx hb hts in_X4 hown hK hP 0 rfl rfl 0 (by decide) (hts _ q_50) (fun _ h9 => h9) rfl dX4_tryRow_6 ?_
  refine va_get (D := (dC, dI)) (ci := 2) (v := .ref h2) (C := RX0) (T := TX0) (N := 4) hx hb hts in_X0 hown hK hP 1 rfl rfl 1 (by decide) (hts _ q_347) (fun _ h9 => h9) rfl dX4_tryRow_9 ?_
  have hM93 := k20_size l hl9 dC dI z h2 h4 H90.size 7 7
  obtain ⟨hF91, hC94⟩ := pc_M hM93 hP hD hK hS hX hT hA [2] [] rfl rfl rfl
  refine va_calli (va_runV (As := []) (rest := [.int 6]) ⟨hx, hb, hml, hown, hts⟩ hM93 (cwV 0 hts (gV q_348 q_77 q_78 q_12 q_75) rfl rfl rfl hV_Jx4a65c_size_8abf5 ⟨Nat.le_of_ble_eq_true rfl, Nat.le_of_ble_eq_true rfl⟩) ⟨pc_blind, va_recv hK hP (ci := 0) (q := (RJx4a65c, TJx4a65c, 3)) (q0 := 2) rfl rfl, fun U hU hW => ⟨rfl, hC94 U hU hW⟩⟩ rfl rfl hl.1 rfl (lv_room (Nat.le_of_ble_eq_true rfl)) dX4_tryRow_12 ⟨(Nat.le_of_ble_eq_true rfl), (Nat.le_of_ble_eq_true rfl)⟩) hS (fun q9 _ h9 => hF91 q9 h9) hF91 (fun r96 u95 t95 H95 L95 ht95 hvm95 hw95 hB95 hz95 hk95 hS => ?_)
  have hP := pq_keep hP hD [2] rfl hk95 hB95.1 ht95
  have hG : s.heap.size + 0 ≤ H95.size := Nat.le_trans hG hz95
  refine W.eq (g2 := F0 m 15 ls [.int 7, .int 6]) (by rw [hw95]) ?_
  refine lv_icmp_ge (tgt := 59) hx hb dX4_tryRow_15 (by decide) (fun cz => absurd cz (by decide)) (fun _ => ?_)
  refine lv_aload_n hx hb dX4_tryRow_18 rfl (lv_at hl 1 rfl) ?_
  refine va_get (D := (dC, dI)) (ci := 4) (v := .ref h1) (C := RX4) (T := TX4) (N := 3) hx hb hts in_X4 hown hK hP 0 rfl rfl 0 (by decide) (hts _ q_50) (fun _ h9 => h9) rfl dX4_tryRow_19 ?_
  refine va_get (D := (dC, dI)) (ci := 2) (v := .ref h2) (C := RX0) (T := TX0) (N := 4) hx hb hts in_X0 hown hK hP 1 rfl rfl 1 (by decide) (hts _ q_347) (fun _ h9 => h9) rfl dX4_tryRow_22 ?_
  refine lv_iload hx hb dX4_tryRow_25 (lv_at hl 0 rfl) ?_
  have hM99 := k656_get l hl9 dC dI z h2 h4 h6 h7 h8 h9 h10 h11 h12 H95.size kc0
  obtain ⟨hF97, hC100⟩ := pc_M hM99 hP hD hK hS hX hT hA [2, 4] [0] rfl rfl rfl
  refine va_callr (va_runV (As := [.int 6]) (rest := []) ⟨hx, hb, hml, hown, hts⟩ hM99 (cwV 1 hts (gV q_383 q_157 q_158 q_12 q_155) rfl rfl rfl hV_Jx4a65c_get_915e3 ⟨Nat.le_of_ble_eq_true rfl, Nat.le_of_ble_eq_true rfl⟩) ⟨pc_blind, va_recv hK hP (ci := 0) (q := (RJx4a65c, TJx4a65c, 3)) (q0 := 2) rfl rfl, fun U hU hW => ⟨rfl, hC100 U hU hW⟩⟩ rfl rfl hl.1 rfl (lv_room (Nat.le_of_ble_eq_true rfl)) dX4_tryRow_27 ⟨(Nat.le_of_ble_eq_true rfl), (Nat.le_of_ble_eq_true rfl)⟩) hS (fun q9 _ h9 => hF97 q9 h9) hF97 (fun u101 r102 t101 H101 L101 ht101 hvm101 hw101 hB101 hz101 hk101 hS => ?_)
  obtain ⟨hr101, hB101⟩ := hB101
  have hP := pq_keep hP hD [2, 4] rfl hk101 hB101.1 ht101
  have hG : s.heap.size + 0 ≤ H101.size := Nat.le_trans hG hz101
  refine W.eq (g2 := F0 m 30 ls [.ref h12]) (by rw [hr101]) ?_
  refine va_castE (nm := RX2) hx hb hown (hts _ q_384) (va_recv hK hP (ci := 3) (q := (RX2, TX2, 19)) (q0 := 12) rfl rfl) dX4_tryRow_30 ?_
  refine lv_iload_n hx hb dX4_tryRow_33 rfl (lv_at hl 2 rfl) ?_
  refine lv_iload hx hb dX4_tryRow_34 (lv_at hl 0 rfl) ?_
  refine lv_ishr hx hb dX4_tryRow_36 ?_
  refine lv_topi (fun y103 ey103 => ?_)
  obtain rfl : y103 = 0 := ey103.trans (by decide)
  refine lv_iconst (v := 1) hx hb dX4_tryRow_37 (by decide) ?_
  refine lv_iand hx hb dX4_tryRow_38 ?_
  refine lv_topi (fun y104 ey104 => ?_)
  obtain rfl : y104 = 0 := ey104.trans (by decide)
  refine lv_iconst (v := 1) hx hb dX4_tryRow_39 (by decide) ?_
  refine lv_icmp_ne (tgt := 48) hx hb dX4_tryRow_40 (by decide) (fun _ => ?_) (fun cz => absurd cz (by decide))
  refine lv_bipush (v := 48) hx hb dX4_tryRow_48 (by decide) ?_
  refine va_put (D := (dC, dI)) (ci := 3) (v := .int 48) (ty := .char) (C := RX2) (T := TX2) (N := 19) hx hb hts in_X2 tyX2 tyX2_ok nmX2 hown hK hP hD (va_Sre hS) 12 rfl rfl 11 (by decide) (hts _ q_385) (fun _ h9 => h9) rfl (by decide +kernel) rfl rfl (Nat.le_of_ble_eq_true rfl) dX4_tryRow_50 (fun H105 _ hP hD hS' => ?_)
  have hG : s.heap.size + 0 ≤ H105.size := Nat.le_trans hG hS'.1
  have hS := va_Str hS hS'
  have hP : va_P (dC, dI) xCl [(h0, ce417 h1 o0), (h1, ce7 o1 h2 o2 h3), (h2, ce331 h4), (h3, ce366 h5), (h4, ce330 kc0 h6 h7 h8 h9 h10 h11 h12), (h5, ce330 kc1 h6 h7 h8 h9 h10 h11 h12), (h6, ce420 (z.2.1 0) o3 h6), (h7, ce421 (z.2.1 0) o4 h7), (h8, ce422 (z.2.1 0) o5 h8), (h9, ce423 (z.2.1 0) o6 h9), (h10, ce424 (z.2.1 0) o7 h10), (h11, ce425 (z.2.1 0) o8 h11), (h12, ce426 (z.2.1 0) o9 h12)] H105 := hP
  have hD := vd_as hP hD rfl
  refine lv_iinc (v := 7) (lv' := [(4, .int 7), (0, .ref h0), (1, .int 0), (2, .null), (3, .int 120)]) hx hb dX4_tryRow_53 hl (k := 0) rfl (by decide) (by decide) rfl (fun ls hl => ?_)
  refine lv_goto (tgt := 3) hx hb dX4_tryRow_56 (by decide) ?_
  refine lv_iload hx hb dX4_tryRow_3 (lv_at hl 0 rfl) ?_
  refine lv_aload_n hx hb dX4_tryRow_5 rfl (lv_at hl 1 rfl) ?_
  refine va_get (D := (dC, dI)) (ci := 4) (v := .ref h1) (C := RX4) (T := TX4) (N := 3) hx hb hts in_X4 hown hK hP 0 rfl rfl 0 (by decide) (hts _ q_50) (fun _ h9 => h9) rfl dX4_tryRow_6 ?_
  refine va_get (D := (dC, dI)) (ci := 2) (v := .ref h2) (C := RX0) (T := TX0) (N := 4) hx hb hts in_X0 hown hK hP 1 rfl rfl 1 (by decide) (hts _ q_347) (fun _ h9 => h9) rfl dX4_tryRow_9 ?_
  have hM108 := k20_size l hl9 dC dI z h2 h4 H105.size 7 7
  obtain ⟨hF106, hC109⟩ := pc_M hM108 hP hD hK hS hX hT hA [2] [] rfl rfl rfl
  refine va_calli (va_runV (As := []) (rest := [.int 7]) ⟨hx, hb, hml, hown, hts⟩ hM108 (cwV 0 hts (gV q_348 q_77 q_78 q_12 q_75) rfl rfl rfl hV_Jx4a65c_size_8abf5 ⟨Nat.le_of_ble_eq_true rfl, Nat.le_of_ble_eq_true rfl⟩) ⟨pc_blind, va_recv hK hP (ci := 0) (q := (RJx4a65c, TJx4a65c, 3)) (q0 := 2) rfl rfl, fun U hU hW => ⟨rfl, hC109 U hU hW⟩⟩ rfl rfl hl.1 rfl (lv_room (Nat.le_of_ble_eq_true rfl)) dX4_tryRow_12 ⟨(Nat.le_of_ble_eq_true rfl), (Nat.le_of_ble_eq_true rfl)⟩) hS (fun q9 _ h9 => hF106 q9 h9) hF106 (fun r111 u110 t110 H110 L110 ht110 hvm110 hw110 hB110 hz110 hk110 hS => ?_)
  have hP := pq_keep hP hD [2] rfl hk110 hB110.1 ht110
  have hG : s.heap.size + 0 ≤ H110.size := Nat.le_trans hG hz110
  refine W.eq (g2 := F0 m 15 ls [.int 7, .int 7]) (by rw [hw110]) ?_
  refine lv_icmp_ge (tgt := 59) hx hb dX4_tryRow_15 (by decide) (fun _ => ?_) (fun cz => absurd (by decide) cz)
  refine lv_aload_n hx hb dX4_tryRow_59 rfl (lv_at hl 1 rfl) ?_
  refine va_get (D := (dC, dI)) (ci := 4) (v := .ref h1) (C := RX4) (T := TX4) (N := 3) hx hb hts in_X4 hown hK hP 0 rfl rfl 0 (by decide) (hts _ q_50) (fun _ h9 => h9) rfl dX4_tryRow_60 ?_
  refine lv_aload_nN hx hb dX4_tryRow_63 rfl (lv_at hl 3 rfl) ?_
  refine lv_iload_n hx hb dX4_tryRow_64 rfl (lv_at hl 4 rfl) ?_
  have hM114 := k843_settle l hl9 dC dI z h1 h3 h5 h6 h7 h8 h9 h10 h11 h12 o1 h2 o2 o3 o4 o5 o6 o7 o8 o9 H110.size kc1
  obtain ⟨hF112, hC115⟩ := pc_M hM114 hP hD hK hS hX hT hA [1, 3, 5, 6, 7, 8, 9, 10, 11, 12] [1] rfl rfl rfl
  refine va_callv (va_runV (As := [.null, .int 120]) (rest := []) ⟨hx, hb, hml, hown, hts⟩ hM114 (cwV 2 hts (gV q_386 q_215 q_216 q_8 q_213) rfl rfl rfl hV_X0_settle ⟨Nat.le_of_ble_eq_true rfl, Nat.le_of_ble_eq_true rfl⟩) ⟨pc_blind, va_recv hK hP (ci := 2) (q := (RX0, TX0, 4)) (q0 := 1) rfl rfl, fun U hU hW => ⟨rfl, hC115 U hU hW⟩⟩ rfl rfl hl.1 rfl (lv_room (Nat.le_of_ble_eq_true rfl)) dX4_tryRow_65 ⟨(Nat.le_of_ble_eq_true rfl), (Nat.le_of_ble_eq_true rfl)⟩) hS (fun q9 _ h9 => hF112 q9 h9) hF112 (fun u116 t116 H116 L116 ht116 hvm116 hw116 hB116 hz116 hk116 hS => ?_)
  have hP := pq_keep hP hD [1, 3, 5, 6, 7, 8, 9, 10, 11, 12] rfl hk116 hB116.1 ht116
  have hG : s.heap.size + 0 ≤ H116.size := Nat.le_trans hG hz116
  exact W.vret hx hb hr (fun t9 ht9 hW9 => ⟨⟨(), rfl, trivial, ⟨pq_mk2 hP hD hK [0, 1, 2, 3, 4, 5, 6, 7, 8, 9, 10, 11, 12] [0, 1] rfl rfl rfl ht9 hW9, by rw [ht9]; exact Nat.le_trans (Nat.add_le_add_left (Nat.le_of_ble_eq_true rfl) _) hG⟩⟩, hS.F ht9⟩) hS.2.2 dX4_tryRow_68

set_option maxHeartbeats 4000000 in
set_option maxRecDepth 100000 in
theorem k847_isStuckShown (l : Launch) (hl9 : l.stackTraces = false) (dC : Nat → ClassId) (dI : Nat → Nat → Nat) (z : XZ) (h0 h1 h2 h3 h4 h5 h6 h7 h8 h9 h10 h11 h12 : Nat) (o0 o1 o2 o3 o4 o5 o6 o7 o8 o9 : Nat) (sz : Nat) (kc0 kc1 : ClassId) : Met l yX4_isStuckShown (.code yX4_isStuckShown cX4_isStuckShown 6 (some .boolean) :: wsL_law) ({ frames := 5, cells := 0, slots := 0, locals := 112 }) (va_Pc [.ref h0, .ref h1, .int 48, .int 0] (PC (dC, dI) [(h0, ce417 h2 o0), (h1, ce420 (z.2.1 0) o1 h1), (h2, ce7 o2 h3 o3 h4), (h3, ce331 h5), (h4, ce366 h6), (h5, ce330 kc0 h1 h7 h8 h9 h10 h11 h12), (h6, ce330 kc1 h1 h7 h8 h9 h10 h11 h12), (h7, ce421 (z.2.1 0) o4 h7), (h8, ce422 (z.2.1 0) o5 h8), (h9, ce423 (z.2.1 0) o6 h9), (h10, ce424 (z.2.1 0) o7 h10), (h11, ce425 (z.2.1 0) o8 h11), (h12, ce426 (z.2.1 0) o9 h12)] [(kc0, .object "java/lang/Object"), (kc1, .object "java/lang/Object")] sz z)) (va_Qi (fun (r : Int32) (_ : Unit) => r = 0) (fun (_ : Unit) (t : State) => PG (dC, dI) [(h0, ce417 h2 o0), (h1, ce420 (z.2.1 0) o1 h1), (h2, ce7 o2 h3 o3 h4), (h3, ce331 h5), (h4, ce366 h6), (h5, ce330 kc0 h1 h7 h8 h9 h10 h11 h12), (h6, ce330 kc1 h1 h7 h8 h9 h10 h11 h12), (h7, ce421 (z.2.1 0) o4 h7), (h8, ce422 (z.2.1 0) o5 h8), (h9, ce423 (z.2.1 0) o6 h9), (h10, ce424 (z.2.1 0) o7 h10), (h11, ce425 (z.2.1 0) o8 h11), (h12, ce426 (z.2.1 0) o9 h12)] [(kc0, .object "java/lang/Object"), (kc1, .object "java/lang/Object")] (va_A [(h0, ce417 h2 o0), (h1, ce420 (z.2.1 0) o1 h1), (h2, ce7 o2 h3 o3 h4), (h3, ce331 h5), (h4, ce366 h6), (h5, ce330 kc0 h1 h7 h8 h9 h10 h11 h12), (h6, ce330 kc1 h1 h7 h8 h9 h10 h11 h12), (h7, ce421 (z.2.1 0) o4 h7), (h8, ce422 (z.2.1 0) o5 h8), (h9, ce423 (z.2.1 0) o6 h9), (h10, ce424 (z.2.1 0) o7 h10), (h11, ce425 (z.2.1 0) o8 h11), (h12, ce426 (z.2.1 0) o9 h12)] sz) sz 0 t) (va_A [(h0, ce417 h2 o0), (h1, ce420 (z.2.1 0) o1 h1), (h2, ce7 o2 h3 o3 h4), (h3, ce331 h5), (h4, ce366 h6), (h5, ce330 kc0 h1 h7 h8 h9 h10 h11 h12), (h6, ce330 kc1 h1 h7 h8 h9 h10 h11 h12), (h7, ce421 (z.2.1 0) o4 h7), (h8, ce422 (z.2.1 0) o5 h8), (h9, ce423 (z.2.1 0) o6 h9), (h10, ce424 (z.2.1 0) o7 h10), (h11, ce425 (z.2.1 0) o8 h11), (h12, ce426 (z.2.1 0) o9 h12)] sz)) 0 0 (va_A [(h0, ce417 h2 o0), (h1, ce420 (z.2.1 0) o1 h1), (h2, ce7 o2 h3 o3 h4), (h3, ce331 h5), (h4, ce366 h6), (h5, ce330 kc0 h1 h7 h8 h9 h10 h11 h12), (h6, ce330 kc1 h1 h7 h8 h9 h10 h11 h12), (h7, ce421 (z.2.1 0) o4 h7), (h8, ce422 (z.2.1 0) o5 h8), (h9, ce423 (z.2.1 0) o6 h9), (h10, ce424 (z.2.1 0) o7 h10), (h11, ce425 (z.2.1 0) o8 h11), (h12, ce426 (z.2.1 0) o9 h12)] sz) := by
  refine Met.ofW (cc := cX4_isStuckShown) (maxL := 6) (ret := (some .boolean)) (by decide) rfl ?_
  intro p e s m args below meth c s₁ B hml hv
  obtain ⟨rfl, hsz, hP, hK, hD0, hX, hT⟩ := hv
  have hx := B.exec
  have hb := B.bytes
  have hr := B.returns
  have hts0 := atoms_spec (ws := .code yX4_isStuckShown cX4_isStuckShown 6 (some .boolean) :: wsL_law) B.pre
  have hts := xTail hts0
  have hown : s.vm.findClass RX4 = some m.cls := xown B.named rfl
  have hlocks := B.notSynchronized
  subst hsz
  have hD := hD0.self (sz := s.heap.size)
  generalize hAe : va_A [(h0, ce417 h2 o0), (h1, ce420 (z.2.1 0) o1 h1), (h2, ce7 o2 h3 o3 h4), (h3, ce331 h5), (h4, ce366 h6), (h5, ce330 kc0 h1 h7 h8 h9 h10 h11 h12), (h6, ce330 kc1 h1 h7 h8 h9 h10 h11 h12), (h7, ce421 (z.2.1 0) o4 h7), (h8, ce422 (z.2.1 0) o5 h8), (h9, ce423 (z.2.1 0) o6 h9), (h10, ce424 (z.2.1 0) o7 h10), (h11, ce425 (z.2.1 0) o8 h11), (h12, ce426 (z.2.1 0) o9 h12)] s.heap.size = A at hD hX ⊢
  have hA : ∀ q : Nat, s.heap.size ≤ q → A q := fun q h => by rw [← hAe]; exact Or.inr h
  have hS : va_S A s.heap s.heap [] := va_S.rf
  have hG : s.heap.size + 0 ≤ s.heap.size := Nat.le_refl _
  have hl := lv_entry ([.ref h0, .ref h1, .int 48, .int 0]) (n := 6) (Nat.le_of_ble_eq_true rfl)
  rw [lg_entry_eq]
  generalize (lg_sl ([.ref h0, .ref h1, .int 48, .int 0]) ++ List.replicate (6 - (lg_sl ([.ref h0, .ref h1, .int 48, .int 0])).length) Slot.unset).toArray = ls at hl ⊢
  have hl : lv_has ls 6 [(0, .ref h0), (1, .ref h1), (2, .int 48), (3, .int 0)] := hl
  refine lv_aload_n hx hb dX4_isStuckShown_0 rfl (lv_at hl 0 rfl) ?_
  refine lv_iload_n hx hb dX4_isStuckShown_1 rfl (lv_at hl 3 rfl) ?_
  refine lv_null hx hb dX4_isStuckShown_2 ?_
  refine lv_bipush (v := 120) hx hb dX4_isStuckShown_3 (by decide) ?_
  have hM3 := k846_tryRow l hl9 dC dI z h0 h2 h3 h4 h5 h6 h1 h7 h8 h9 h10 h11 h12 o0 o2 o3 o1 o4 o5 o6 o7 o8 o9 s.heap.size kc0 kc1
  obtain ⟨hF1, hC4⟩ := pc_M hM3 hP hD hK hS hX hT hA [0, 2, 3, 4, 5, 6, 1, 7, 8, 9, 10, 11, 12] [0, 1] rfl rfl rfl
  refine va_callv (va_runV (As := [.int 0, .null, .int 120]) (rest := []) ⟨hx, hb, hml, hown, hts⟩ hM3 (cwV 3 hts (gV q_388 q_389 q_390 q_46 q_387) rfl rfl rfl hV_X4_tryRow ⟨Nat.le_of_ble_eq_true rfl, Nat.le_of_ble_eq_true rfl⟩) ⟨pc_blind, va_recv hK hP (ci := 4) (q := (RX4, TX4, 3)) (q0 := 0) rfl rfl, fun U hU hW => ⟨rfl, hC4 U hU hW⟩⟩ rfl rfl hl.1 rfl (lv_room (Nat.le_of_ble_eq_true rfl)) dX4_isStuckShown_5 ⟨(Nat.le_of_ble_eq_true rfl), (Nat.le_of_ble_eq_true rfl)⟩) hS (fun q9 _ h9 => hF1 q9 h9) hF1 (fun u5 t5 H5 L5 ht5 hvm5 hw5 hB5 hz5 hk5 hS => ?_)
  have hP := pq_keep hP hD [0, 2, 3, 4, 5, 6, 1, 7, 8, 9, 10, 11, 12] rfl hk5 hB5.1 ht5
  have hG : s.heap.size + 0 ≤ H5.size := Nat.le_trans hG hz5
  refine lv_aload_n hx hb dX4_isStuckShown_8 rfl (lv_at hl 1 rfl) ?_
  refine va_get (D := (dC, dI)) (ci := 3) (v := .int 48) (C := RX2) (T := TX2) (N := 19) hx hb hts in_X2 hown hK hP 1 rfl rfl 11 (by decide) (hts _ q_385) (fun _ h9 => h9) rfl dX4_isStuckShown_9 ?_
  refine lv_iload_n hx hb dX4_isStuckShown_12 rfl (lv_at hl 2 rfl) ?_
  refine lv_icmp_ne (tgt := 18) hx hb dX4_isStuckShown_13 (by decide) (fun cz => absurd (by decide) cz) (fun _ => ?_)
  refine lv_iconst (v := 0) hx hb dX4_isStuckShown_16 (by decide) ?_
  exact W.zret (v := 0) (ty := .boolean) hx hb hr rfl (fun t9 ht9 hW9 => ⟨⟨0, (), rfl, rfl, ⟨pq_mk2 hP hD hK [0, 1, 2, 3, 4, 5, 6, 7, 8, 9, 10, 11, 12] [0, 1] rfl rfl rfl ht9 hW9, by rw [ht9]; exact Nat.le_trans (Nat.add_le_add_left (Nat.le_of_ble_eq_true rfl) _) hG⟩⟩, hS.F ht9⟩) hS.2.2 dX4_isStuckShown_17

set_option maxHeartbeats 4000000 in
set_option maxRecDepth 100000 in
theorem k848_isShownBySomeTest (l : Launch) (hl9 : l.stackTraces = false) (dC : Nat → ClassId) (dI : Nat → Nat → Nat) (z : XZ) (h0 h1 h2 h3 h4 h5 h6 h7 h8 h9 h10 h11 h12 h13 : Nat) (o0 o1 o2 o3 o4 o5 o6 o7 o8 : Nat) (sz : Nat) (kc0 kc1 kc2 : ClassId) : Met l yX4_isShownBySomeTest (.code yX4_isShownBySomeTest cX4_isShownBySomeTest 4 (some .boolean) :: wsL_law) ({ frames := 6, cells := 0, slots := 0, locals := 137 }) (va_Pc [.ref h0, .ref h1, .int 48] (PC (dC, dI) [(h0, ce417 h2 h3), (h1, ce38 (z.2.1 0) o0 h1), (h2, ce7 o1 h4 o2 h5), (h3, ce416 kc0), (h4, ce331 h6), (h5, ce366 h7), (h6, ce330 kc1 h1 h8 h9 h10 h11 h12 h13), (h7, ce330 kc2 h1 h8 h9 h10 h11 h12 h13), (h8, ce77 (z.2.1 0) o3 h8), (h9, ce115 (z.2.1 0) o4 h9), (h10, ce165 (z.2.1 0) o5 h10), (h11, ce224 (z.2.1 0) o6 h11), (h12, ce287 (z.2.1 0) o7 h12), (h13, ce364 (z.2.1 0) o8 h13)] [(kc0, .int), (kc1, .object "java/lang/Object"), (kc2, .object "java/lang/Object")] sz z)) (va_Qi (fun (r : Int32) (_ : Unit) => r = 0) (fun (_ : Unit) (t : State) => PG (dC, dI) [(h0, ce417 h2 h3), (h1, ce420 (z.2.1 0) o0 h1), (h2, ce7 o1 h4 o2 h5), (h3, ce416 kc0), (h4, ce331 h6), (h5, ce366 h7), (h6, ce330 kc1 h1 h8 h9 h10 h11 h12 h13), (h7, ce330 kc2 h1 h8 h9 h10 h11 h12 h13), (h8, ce421 (z.2.1 0) o3 h8), (h9, ce422 (z.2.1 0) o4 h9), (h10, ce423 (z.2.1 0) o5 h10), (h11, ce424 (z.2.1 0) o6 h11), (h12, ce425 (z.2.1 0) o7 h12), (h13, ce426 (z.2.1 0) o8 h13)] [(kc0, .int), (kc1, .object "java/lang/Object"), (kc2, .object "java/lang/Object")] (va_A [(h0, ce417 h2 h3), (h1, ce38 (z.2.1 0) o0 h1), (h2, ce7 o1 h4 o2 h5), (h3, ce416 kc0), (h4, ce331 h6), (h5, ce366 h7), (h6, ce330 kc1 h1 h8 h9 h10 h11 h12 h13), (h7, ce330 kc2 h1 h8 h9 h10 h11 h12 h13), (h8, ce77 (z.2.1 0) o3 h8), (h9, ce115 (z.2.1 0) o4 h9), (h10, ce165 (z.2.1 0) o5 h10), (h11, ce224 (z.2.1 0) o6 h11), (h12, ce287 (z.2.1 0) o7 h12), (h13, ce364 (z.2.1 0) o8 h13)] sz) sz 0 t) (va_A [(h0, ce417 h2 h3), (h1, ce38 (z.2.1 0) o0 h1), (h2, ce7 o1 h4 o2 h5), (h3, ce416 kc0), (h4, ce331 h6), (h5, ce366 h7), (h6, ce330 kc1 h1 h8 h9 h10 h11 h12 h13), (h7, ce330 kc2 h1 h8 h9 h10 h11 h12 h13), (h8, ce77 (z.2.1 0) o3 h8), (h9, ce115 (z.2.1 0) o4 h9), (h10, ce165 (z.2.1 0) o5 h10), (h11, ce224 (z.2.1 0) o6 h11), (h12, ce287 (z.2.1 0) o7 h12), (h13, ce364 (z.2.1 0) o8 h13)] sz)) 0 0 (va_A [(h0, ce417 h2 h3), (h1, ce38 (z.2.1 0) o0 h1), (h2, ce7 o1 h4 o2 h5), (h3, ce416 kc0), (h4, ce331 h6), (h5, ce366 h7), (h6, ce330 kc1 h1 h8 h9 h10 h11 h12 h13), (h7, ce330 kc2 h1 h8 h9 h10 h11 h12 h13), (h8, ce77 (z.2.1 0) o3 h8), (h9, ce115 (z.2.1 0) o4 h9), (h10, ce165 (z.2.1 0) o5 h10), (h11, ce224 (z.2.1 0) o6 h11), (h12, ce287 (z.2.1 0) o7 h12), (h13, ce364 (z.2.1 0) o8 h13)] sz) := by
  refine Met.ofW (cc := cX4_isShownBySomeTest) (maxL := 4) (ret := (some .boolean)) (by decide) rfl ?_
  intro p e s m args below meth c s₁ B hml hv
  obtain ⟨rfl, hsz, hP, hK, hD0, hX, hT⟩ := hv
  have hx := B.exec
  have hb := B.bytes
  have hr := B.returns
  have hts0 := atoms_spec (ws := .code yX4_isShownBySomeTest cX4_isShownBySomeTest 4 (some .boolean) :: wsL_law) B.pre
  have hts := xTail hts0
  have hown : s.vm.findClass RX4 = some m.cls := xown B.named rfl
  have hlocks := B.notSynchronized
  subst hsz
  have hD := hD0.self (sz := s.heap.size)
  generalize hAe : va_A [(h0, ce417 h2 h3), (h1, ce38 (z.2.1 0) o0 h1), (h2, ce7 o1 h4 o2 h5), (h3, ce416 kc0), (h4, ce331 h6), (h5, ce366 h7), (h6, ce330 kc1 h1 h8 h9 h10 h11 h12 h13), (h7, ce330 kc2 h1 h8 h9 h10 h11 h12 h13), (h8, ce77 (z.2.1 0) o3 h8), (h9, ce115 (z.2.1 0) o4 h9), (h10, ce165 (z.2.1 0) o5 h10), (h11, ce224 (z.2.1 0) o6 h11), (h12, ce287 (z.2.1 0) o7 h12), (h13, ce364 (z.2.1 0) o8 h13)] s.heap.size = A at hD hX ⊢
  have hA : ∀ q : Nat, s.heap.size ≤ q → A q := fun q h => by rw [← hAe]; exact Or.inr h
  have hS : va_S A s.heap s.heap [] := va_S.rf
  have hG : s.heap.size + 0 ≤ s.heap.size := Nat.le_refl _
  have hl := lv_entry ([.ref h0, .ref h1, .int 48]) (n := 4) (Nat.le_of_ble_eq_true rfl)
  rw [lg_entry_eq]
  generalize (lg_sl ([.ref h0, .ref h1, .int 48]) ++ List.replicate (4 - (lg_sl ([.ref h0, .ref h1, .int 48])).length) Slot.unset).toArray = ls at hl ⊢
  have hl : lv_has ls 4 [(0, .ref h0), (1, .ref h1), (2, .int 48)] := hl
  refine lv_iconst (v := 0) hx hb dX4_isShownBySomeTest_0 (by decide) ?_
  refine lv_istore_n (lv' := [(3, .int 0), (0, .ref h0), (1, .ref h1), (2, .int 48)]) hx hb dX4_isShownBySomeTest_1 rfl hl (by decide) rfl (fun ls hl => ?_)
  refine lv_iload_n hx hb dX4_isShownBySomeTest_2 rfl (lv_at hl 0 rfl) ?_
  refine lv_aload_n hx hb dX4_isShownBySomeTest_3 rfl (lv_at hl 1 rfl) ?_
  refine va_get (D := (dC, dI)) (ci := 4) (v := .int 7) (C := RX4) (T := TX4) (N := 3) hx hb hts in_X4 hown hK hP 0 rfl rfl 2 (by decide) (hts _ q_358) (fun _ h9 => h9) rfl dX4_isShownBySomeTest_4 ?_
  refine lv_icmp_ge (tgt := 42) hx hb dX4_isShownBySomeTest_7 (by decide) (fun cz => absurd cz (by decide)) (fun _ => ?_)
  refine lv_iload_n hx hb dX4_isShownBySomeTest_10 rfl (lv_at hl 0 rfl) ?_
  refine lv_aload_n hx hb dX4_isShownBySomeTest_11 rfl (lv_at hl 1 rfl) ?_
  refine va_get (D := (dC, dI)) (ci := 4) (v := .ref h3) (C := RX4) (T := TX4) (N := 3) hx hb hts in_X4 hown hK hP 0 rfl rfl 1 (by decide) (hts _ q_49) (fun _ h9 => h9) rfl dX4_isShownBySomeTest_12 ?_
  refine va_alen hx hb hK hP 3 0 rfl rfl (v := 8) rfl dX4_isShownBySomeTest_15 ?_
  refine lv_icmp_ge (tgt := 42) hx hb dX4_isShownBySomeTest_16 (by decide) (fun cz => absurd cz (by decide)) (fun _ => ?_)
  refine lv_aload_n hx hb dX4_isShownBySomeTest_19 rfl (lv_at hl 1 rfl) ?_
  refine lv_aload_n hx hb dX4_isShownBySomeTest_20 rfl (lv_at hl 2 rfl) ?_
  refine lv_iload_n hx hb dX4_isShownBySomeTest_21 rfl (lv_at hl 3 rfl) ?_
  refine lv_aload_n hx hb dX4_isShownBySomeTest_22 rfl (lv_at hl 1 rfl) ?_
  refine va_get (D := (dC, dI)) (ci := 4) (v := .ref h3) (C := RX4) (T := TX4) (N := 3) hx hb hts in_X4 hown hK hP 0 rfl rfl 1 (by decide) (hts _ q_49) (fun _ h9 => h9) rfl dX4_isShownBySomeTest_23 ?_
  refine lv_iload_n hx hb dX4_isShownBySomeTest_26 rfl (lv_at hl 0 rfl) ?_
  refine va_iald hx hb hK hP 3 0 rfl rfl (i := 0) (by unfold vp_in; decide) dX4_isShownBySomeTest_27 ?_
  refine W.eq (g2 := F0 m 28 ls [.int 0, .int 48, .ref h1, .ref h0]) rfl ?_
  have hM3 := k845_isStuckShown l hl9 dC dI z h0 h1 h2 h4 h5 h6 h7 h8 h9 h10 h11 h12 h13 h3 o0 o1 o2 o3 o4 o5 o6 o7 o8 s.heap.size kc1 kc2
  obtain ⟨hF1, hC4⟩ := pc_M hM3 hP hD hK hS hX hT hA [0, 1, 2, 4, 5, 6, 7, 8, 9, 10, 11, 12, 13] [1, 2] rfl rfl rfl
  refine va_calli (va_runV (As := [.ref h1, .int 48, .int 0]) (rest := []) ⟨hx, hb, hml, hown, hts⟩ hM3 (cwV 3 hts (gV q_392 q_393 q_394 q_46 q_391) rfl rfl rfl hV_X4_isStuckShown ⟨Nat.le_of_ble_eq_true rfl, Nat.le_of_ble_eq_true rfl⟩) ⟨pc_blind, va_recv hK hP (ci := 4) (q := (RX4, TX4, 3)) (q0 := 0) rfl rfl, fun U hU hW => ⟨rfl, hC4 U hU hW⟩⟩ rfl rfl hl.1 rfl (lv_room (Nat.le_of_ble_eq_true rfl)) dX4_isShownBySomeTest_28 ⟨(Nat.le_of_ble_eq_true rfl), (Nat.le_of_ble_eq_true rfl)⟩) hS (fun q9 _ h9 => hF1 q9 h9) hF1 (fun r6 u5 t5 H5 L5 ht5 hvm5 hw5 hB5 hz5 hk5 hS => ?_)
  obtain ⟨hP, hD, hK⟩ := pq_jn (wz := [(h3, ce416 kc0), (h0, ce417 h2 h3), (h1, ce420 (z.2.1 0) o0 h1), (h2, ce7 o1 h4 o2 h5), (h4, ce331 h6), (h5, ce366 h7), (h6, ce330 kc1 h1 h8 h9 h10 h11 h12 h13), (h7, ce330 kc2 h1 h8 h9 h10 h11 h12 h13), (h8, ce421 (z.2.1 0) o3 h8), (h9, ce422 (z.2.1 0) o4 h9), (h10, ce423 (z.2.1 0) o5 h10), (h11, ce424 (z.2.1 0) o6 h11), (h12, ce425 (z.2.1 0) o7 h12), (h13, ce426 (z.2.1 0) o8 h13)]) (tz := [(kc0, .int), (kc1, .object "java/lang/Object"), (kc2, .object "java/lang/Object")]) hP hD hK [0, 1, 2, 4, 5, 6, 7, 8, 9, 10, 11, 12, 13] [0] rfl hk5 hF1 hB5.1 ht5 hvm5 rfl rfl
  have hG : s.heap.size + 0 ≤ H5.size := Nat.le_trans hG hz5
  refine W.eq (g2 := F0 m 31 ls [.int 0]) (by rw [hw5]) ?_
  refine lv_if_eq (tgt := 36) hx hb dX4_isShownBySomeTest_31 (by decide) (fun _ => ?_) (fun cz => absurd (by decide) cz)
  refine lv_iinc (v := 1) (lv' := [(3, .int 1), (0, .ref h0), (1, .ref h1), (2, .int 48)]) hx hb dX4_isShownBySomeTest_36 hl (k := 0) rfl (by decide) (by decide) rfl (fun ls hl => ?_)
  refine lv_goto (tgt := 2) hx hb dX4_isShownBySomeTest_39 (by decide) ?_
  refine lv_iload_n hx hb dX4_isShownBySomeTest_2 rfl (lv_at hl 0 rfl) ?_
  refine lv_aload_n hx hb dX4_isShownBySomeTest_3 rfl (lv_at hl 1 rfl) ?_
  refine va_get (D := (dC, dI)) (ci := 4) (v := .int 7) (C := RX4) (T := TX4) (N := 3) hx hb hts in_X4 hown hK hP 1 rfl rfl 2 (by decide) (hts _ q_358) (fun _ h9 => h9) rfl dX4_isShownBySomeTest_4 ?_
  refine lv_icmp_ge (tgt := 42) hx hb dX4_isShownBySomeTest_7 (by decide) (fun cz => absurd cz (by decide)) (fun _ => ?_)
  refine lv_iload_n hx hb dX4_isShownBySomeTest_10 rfl (lv_at hl 0 rfl) ?_
  refine lv_aload_n hx hb dX4_isShownBySomeTest_11 rfl (lv_at hl 1 rfl) ?_
  refine va_get (D := (dC, dI)) (ci := 4) (v := .ref h3) (C := RX4) (T := TX4) (N := 3) hx hb hts in_X4 hown hK hP 1 rfl rfl 1 (by decide) (hts _ q_49) (fun _ h9 => h9) rfl dX4_isShownBySomeTest_12 ?_
  refine va_alen hx hb hK hP 0 0 rfl rfl (v := 8) rfl dX4_isShownBySomeTest_15 ?_
  refine lv_icmp_ge (tgt := 42) hx hb dX4_isShownBySomeTest_16 (by decide) (fun cz => absurd cz (by decide)) (fun _ => ?_)
  refine lv_aload_n hx hb dX4_isShownBySomeTest_19 rfl (lv_at hl 1 rfl) ?_
  refine lv_aload_n hx hb dX4_isShownBySomeTest_20 rfl (lv_at hl 2 rfl) ?_
  refine lv_iload_n hx hb dX4_isShownBySomeTest_21 rfl (lv_at hl 3 rfl) ?_
  refine lv_aload_n hx hb dX4_isShownBySomeTest_22 rfl (lv_at hl 1 rfl) ?_
  refine va_get (D := (dC, dI)) (ci := 4) (v := .ref h3) (C := RX4) (T := TX4) (N := 3) hx hb hts in_X4 hown hK hP 1 rfl rfl 1 (by decide) (hts _ q_49) (fun _ h9 => h9) rfl dX4_isShownBySomeTest_23 ?_
  refine lv_iload_n hx hb dX4_isShownBySomeTest_26 rfl (lv_at hl 0 rfl) ?_
  refine va_iald hx hb hK hP 0 0 rfl rfl (i := 1) (by unfold vp_in; decide) dX4_isShownBySomeTest_27 ?_
  refine W.eq (g2 := F0 m 28 ls [.int 0, .int 48, .ref h1, .ref h0]) rfl ?_
  have hM9 := k847_isStuckShown l hl9 dC dI z h0 h1 h2 h4 h5 h6 h7 h8 h9 h10 h11 h12 h13 h3 o0 o1 o2 o3 o4 o5 o6 o7 o8 H5.size kc1 kc2
  obtain ⟨hF7, hC10⟩ := pc_M hM9 hP hD hK hS hX hT hA [1, 2, 3, 4, 5, 6, 7, 8, 9, 10, 11, 12, 13] [1, 2] rfl rfl rfl
  refine va_calli (va_runV (As := [.ref h1, .int 48, .int 0]) (rest := []) ⟨hx, hb, hml, hown, hts⟩ hM9 (cwV 3 hts (gV q_392 q_393 q_394 q_46 q_391) rfl rfl rfl hV_X4_isStuckShown ⟨Nat.le_of_ble_eq_true rfl, Nat.le_of_ble_eq_true rfl⟩) ⟨pc_blind, va_recv hK hP (ci := 4) (q := (RX4, TX4, 3)) (q0 := 1) rfl rfl, fun U hU hW => ⟨rfl, hC10 U hU hW⟩⟩ rfl rfl hl.1 rfl (lv_room (Nat.le_of_ble_eq_true rfl)) dX4_isShownBySomeTest_28 ⟨(Nat.le_of_ble_eq_true rfl), (Nat.le_of_ble_eq_true rfl)⟩) hS (fun q9 _ h9 => hF7 q9 h9) hF7 (fun r12 u11 t11 H11 L11 ht11 hvm11 hw11 hB11 hz11 hk11 hS => ?_)
  have hP := pq_keep hP hD [1, 2, 3, 4, 5, 6, 7, 8, 9, 10, 11, 12, 13] rfl hk11 hB11.1 ht11
  have hG : s.heap.size + 0 ≤ H11.size := Nat.le_trans hG hz11
  refine W.eq (g2 := F0 m 31 ls [.int 0]) (by rw [hw11]) ?_
  refine lv_if_eq (tgt := 36) hx hb dX4_isShownBySomeTest_31 (by decide) (fun _ => ?_) (fun cz => absurd (by decide) cz)
  refine lv_iinc (v := 2) (lv' := [(3, .int 2), (0, .ref h0), (1, .ref h1), (2, .int 48)]) hx hb dX4_isShownBySomeTest_36 hl (k := 0) rfl (by decide) (by decide) rfl (fun ls hl => ?_)
  refine lv_goto (tgt := 2) hx hb dX4_isShownBySomeTest_39 (by decide) ?_
  refine lv_iload_n hx hb dX4_isShownBySomeTest_2 rfl (lv_at hl 0 rfl) ?_
  refine lv_aload_n hx hb dX4_isShownBySomeTest_3 rfl (lv_at hl 1 rfl) ?_
  refine va_get (D := (dC, dI)) (ci := 4) (v := .int 7) (C := RX4) (T := TX4) (N := 3) hx hb hts in_X4 hown hK hP 1 rfl rfl 2 (by decide) (hts _ q_358) (fun _ h9 => h9) rfl dX4_isShownBySomeTest_4 ?_
  refine lv_icmp_ge (tgt := 42) hx hb dX4_isShownBySomeTest_7 (by decide) (fun cz => absurd cz (by decide)) (fun _ => ?_)
  refine lv_iload_n hx hb dX4_isShownBySomeTest_10 rfl (lv_at hl 0 rfl) ?_
  refine lv_aload_n hx hb dX4_isShownBySomeTest_11 rfl (lv_at hl 1 rfl) ?_
  refine va_get (D := (dC, dI)) (ci := 4) (v := .ref h3) (C := RX4) (T := TX4) (N := 3) hx hb hts in_X4 hown hK hP 1 rfl rfl 1 (by decide) (hts _ q_49) (fun _ h9 => h9) rfl dX4_isShownBySomeTest_12 ?_
  refine va_alen hx hb hK hP 0 0 rfl rfl (v := 8) rfl dX4_isShownBySomeTest_15 ?_
  refine lv_icmp_ge (tgt := 42) hx hb dX4_isShownBySomeTest_16 (by decide) (fun cz => absurd cz (by decide)) (fun _ => ?_)
  refine lv_aload_n hx hb dX4_isShownBySomeTest_19 rfl (lv_at hl 1 rfl) ?_
  refine lv_aload_n hx hb dX4_isShownBySomeTest_20 rfl (lv_at hl 2 rfl) ?_
  refine lv_iload_n hx hb dX4_isShownBySomeTest_21 rfl (lv_at hl 3 rfl) ?_
  refine lv_aload_n hx hb dX4_isShownBySomeTest_22 rfl (lv_at hl 1 rfl) ?_
  refine va_get (D := (dC, dI)) (ci := 4) (v := .ref h3) (C := RX4) (T := TX4) (N := 3) hx hb hts in_X4 hown hK hP 1 rfl rfl 1 (by decide) (hts _ q_49) (fun _ h9 => h9) rfl dX4_isShownBySomeTest_23 ?_
  refine lv_iload_n hx hb dX4_isShownBySomeTest_26 rfl (lv_at hl 0 rfl) ?_
  refine va_iald hx hb hK hP 0 0 rfl rfl (i := 2) (by unfold vp_in; decide) dX4_isShownBySomeTest_27 ?_
  refine W.eq (g2 := F0 m 28 ls [.int 0, .int 48, .ref h1, .ref h0]) rfl ?_
  have hM15 := k847_isStuckShown l hl9 dC dI z h0 h1 h2 h4 h5 h6 h7 h8 h9 h10 h11 h12 h13 h3 o0 o1 o2 o3 o4 o5 o6 o7 o8 H11.size kc1 kc2
  obtain ⟨hF13, hC16⟩ := pc_M hM15 hP hD hK hS hX hT hA [1, 2, 3, 4, 5, 6, 7, 8, 9, 10, 11, 12, 13] [1, 2] rfl rfl rfl
  refine va_calli (va_runV (As := [.ref h1, .int 48, .int 0]) (rest := []) ⟨hx, hb, hml, hown, hts⟩ hM15 (cwV 3 hts (gV q_392 q_393 q_394 q_46 q_391) rfl rfl rfl hV_X4_isStuckShown ⟨Nat.le_of_ble_eq_true rfl, Nat.le_of_ble_eq_true rfl⟩) ⟨pc_blind, va_recv hK hP (ci := 4) (q := (RX4, TX4, 3)) (q0 := 1) rfl rfl, fun U hU hW => ⟨rfl, hC16 U hU hW⟩⟩ rfl rfl hl.1 rfl (lv_room (Nat.le_of_ble_eq_true rfl)) dX4_isShownBySomeTest_28 ⟨(Nat.le_of_ble_eq_true rfl), (Nat.le_of_ble_eq_true rfl)⟩) hS (fun q9 _ h9 => hF13 q9 h9) hF13 (fun r18 u17 t17 H17 L17 ht17 hvm17 hw17 hB17 hz17 hk17 hS => ?_)
  have hP := pq_keep hP hD [1, 2, 3, 4, 5, 6, 7, 8, 9, 10, 11, 12, 13] rfl hk17 hB17.1 ht17
  have hG : s.heap.size + 0 ≤ H17.size := Nat.le_trans hG hz17
  refine W.eq (g2 := F0 m 31 ls [.int 0]) (by rw [hw17]) ?_
  refine lv_if_eq (tgt := 36) hx hb dX4_isShownBySomeTest_31 (by decide) (fun _ => ?_) (fun cz => absurd (by decide) cz)
  refine lv_iinc (v := 3) (lv' := [(3, .int 3), (0, .ref h0), (1, .ref h1), (2, .int 48)]) hx hb dX4_isShownBySomeTest_36 hl (k := 0) rfl (by decide) (by decide) rfl (fun ls hl => ?_)
  refine lv_goto (tgt := 2) hx hb dX4_isShownBySomeTest_39 (by decide) ?_
  refine lv_iload_n hx hb dX4_isShownBySomeTest_2 rfl (lv_at hl 0 rfl) ?_
  refine lv_aload_n hx hb dX4_isShownBySomeTest_3 rfl (lv_at hl 1 rfl) ?_
  refine va_get (D := (dC, dI)) (ci := 4) (v := .int 7) (C := RX4) (T := TX4) (N := 3) hx hb hts in_X4 hown hK hP 1 rfl rfl 2 (by decide) (hts _ q_358) (fun _ h9 => h9) rfl dX4_isShownBySomeTest_4 ?_
  refine lv_icmp_ge (tgt := 42) hx hb dX4_isShownBySomeTest_7 (by decide) (fun cz => absurd cz (by decide)) (fun _ => ?_)
  refine lv_iload_n hx hb dX4_isShownBySomeTest_10 rfl (lv_at hl 0 rfl) ?_
  refine lv_aload_n hx hb dX4_isShownBySomeTest_11 rfl (lv_at hl 1 rfl) ?_
  refine va_get (D := (dC, dI)) (ci := 4) (v := .ref h3) (C := RX4) (T := TX4) (N := 3) hx hb hts in_X4 hown hK hP 1 rfl rfl 1 (by decide) (hts _ q_49) (fun _ h9 => h9) rfl dX4_isShownBySomeTest_12 ?_
  refine va_alen hx hb hK hP 0 0 rfl rfl (v := 8) rfl dX4_isShownBySomeTest_15 ?_
  refine lv_icmp_ge (tgt := 42) hx hb dX4_isShownBySomeTest_16 (by decide) (fun cz => absurd cz (by decide)) (fun _ => ?_)
  refine lv_aload_n hx hb dX4_isShownBySomeTest_19 rfl (lv_at hl 1 rfl) ?_
  refine lv_aload_n hx hb dX4_isShownBySomeTest_20 rfl (lv_at hl 2 rfl) ?_
  refine lv_iload_n hx hb dX4_isShownBySomeTest_21 rfl (lv_at hl 3 rfl) ?_
  refine lv_aload_n hx hb dX4_isShownBySomeTest_22 rfl (lv_at hl 1 rfl) ?_
  refine va_get (D := (dC, dI)) (ci := 4) (v := .ref h3) (C := RX4) (T := TX4) (N := 3) hx hb hts in_X4 hown hK hP 1 rfl rfl 1 (by decide) (hts _ q_49) (fun _ h9 => h9) rfl dX4_isShownBySomeTest_23 ?_
  refine lv_iload_n hx hb dX4_isShownBySomeTest_26 rfl (lv_at hl 0 rfl) ?_
  refine va_iald hx hb hK hP 0 0 rfl rfl (i := 3) (by unfold vp_in; decide) dX4_isShownBySomeTest_27 ?_
  refine W.eq (g2 := F0 m 28 ls [.int 0, .int 48, .ref h1, .ref h0]) rfl ?_
  have hM21 := k847_isStuckShown l hl9 dC dI z h0 h1 h2 h4 h5 h6 h7 h8 h9 h10 h11 h12 h13 h3 o0 o1 o2 o3 o4 o5 o6 o7 o8 H17.size kc1 kc2
  obtain ⟨hF19, hC22⟩ := pc_M hM21 hP hD hK hS hX hT hA [1, 2, 3, 4, 5, 6, 7, 8, 9, 10, 11, 12, 13] [1, 2] rfl rfl rfl
  refine va_calli (va_runV (As := [.ref h1, .int 48, .int 0]) (rest := []) ⟨hx, hb, hml, hown, hts⟩ hM21 (cwV 3 hts (gV q_392 q_393 q_394 q_46 q_391) rfl rfl rfl hV_X4_isStuckShown ⟨Nat.le_of_ble_eq_true rfl, Nat.le_of_ble_eq_true rfl⟩) ⟨pc_blind, va_recv hK hP (ci := 4) (q := (RX4, TX4, 3)) (q0 := 1) rfl rfl, fun U hU hW => ⟨rfl, hC22 U hU hW⟩⟩ rfl rfl hl.1 rfl (lv_room (Nat.le_of_ble_eq_true rfl)) dX4_isShownBySomeTest_28 ⟨(Nat.le_of_ble_eq_true rfl), (Nat.le_of_ble_eq_true rfl)⟩) hS (fun q9 _ h9 => hF19 q9 h9) hF19 (fun r24 u23 t23 H23 L23 ht23 hvm23 hw23 hB23 hz23 hk23 hS => ?_)
  have hP := pq_keep hP hD [1, 2, 3, 4, 5, 6, 7, 8, 9, 10, 11, 12, 13] rfl hk23 hB23.1 ht23
  have hG : s.heap.size + 0 ≤ H23.size := Nat.le_trans hG hz23
  refine W.eq (g2 := F0 m 31 ls [.int 0]) (by rw [hw23]) ?_
  refine lv_if_eq (tgt := 36) hx hb dX4_isShownBySomeTest_31 (by decide) (fun _ => ?_) (fun cz => absurd (by decide) cz)
  refine lv_iinc (v := 4) (lv' := [(3, .int 4), (0, .ref h0), (1, .ref h1), (2, .int 48)]) hx hb dX4_isShownBySomeTest_36 hl (k := 0) rfl (by decide) (by decide) rfl (fun ls hl => ?_)
  refine lv_goto (tgt := 2) hx hb dX4_isShownBySomeTest_39 (by decide) ?_
  refine lv_iload_n hx hb dX4_isShownBySomeTest_2 rfl (lv_at hl 0 rfl) ?_
  refine lv_aload_n hx hb dX4_isShownBySomeTest_3 rfl (lv_at hl 1 rfl) ?_
  refine va_get (D := (dC, dI)) (ci := 4) (v := .int 7) (C := RX4) (T := TX4) (N := 3) hx hb hts in_X4 hown hK hP 1 rfl rfl 2 (by decide) (hts _ q_358) (fun _ h9 => h9) rfl dX4_isShownBySomeTest_4 ?_
  refine lv_icmp_ge (tgt := 42) hx hb dX4_isShownBySomeTest_7 (by decide) (fun cz => absurd cz (by decide)) (fun _ => ?_)
  refine lv_iload_n hx hb dX4_isShownBySomeTest_10 rfl (lv_at hl 0 rfl) ?_
  refine lv_aload_n hx hb dX4_isShownBySomeTest_11 rfl (lv_at hl 1 rfl) ?_
  refine va_get (D := (dC, dI)) (ci := 4) (v := .ref h3) (C := RX4) (T := TX4) (N := 3) hx hb hts in_X4 hown hK hP 1 rfl rfl 1 (by decide) (hts _ q_49) (fun _ h9 => h9) rfl dX4_isShownBySomeTest_12 ?_
  refine va_alen hx hb hK hP 0 0 rfl rfl (v := 8) rfl dX4_isShownBySomeTest_15 ?_
  refine lv_icmp_ge (tgt := 42) hx hb dX4_isShownBySomeTest_16 (by decide) (fun cz => absurd cz (by decide)) (fun _ => ?_)
  refine lv_aload_n hx hb dX4_isShownBySomeTest_19 rfl (lv_at hl 1 rfl) ?_
  refine lv_aload_n hx hb dX4_isShownBySomeTest_20 rfl (lv_at hl 2 rfl) ?_
  refine lv_iload_n hx hb dX4_isShownBySomeTest_21 rfl (lv_at hl 3 rfl) ?_
  refine lv_aload_n hx hb dX4_isShownBySomeTest_22 rfl (lv_at hl 1 rfl) ?_
  refine va_get (D := (dC, dI)) (ci := 4) (v := .ref h3) (C := RX4) (T := TX4) (N := 3) hx hb hts in_X4 hown hK hP 1 rfl rfl 1 (by decide) (hts _ q_49) (fun _ h9 => h9) rfl dX4_isShownBySomeTest_23 ?_
  refine lv_iload_n hx hb dX4_isShownBySomeTest_26 rfl (lv_at hl 0 rfl) ?_
  refine va_iald hx hb hK hP 0 0 rfl rfl (i := 4) (by unfold vp_in; decide) dX4_isShownBySomeTest_27 ?_
  refine W.eq (g2 := F0 m 28 ls [.int 0, .int 48, .ref h1, .ref h0]) rfl ?_
  have hM27 := k847_isStuckShown l hl9 dC dI z h0 h1 h2 h4 h5 h6 h7 h8 h9 h10 h11 h12 h13 h3 o0 o1 o2 o3 o4 o5 o6 o7 o8 H23.size kc1 kc2
  obtain ⟨hF25, hC28⟩ := pc_M hM27 hP hD hK hS hX hT hA [1, 2, 3, 4, 5, 6, 7, 8, 9, 10, 11, 12, 13] [1, 2] rfl rfl rfl
  refine va_calli (va_runV (As := [.ref h1, .int 48, .int 0]) (rest := []) ⟨hx, hb, hml, hown, hts⟩ hM27 (cwV 3 hts (gV q_392 q_393 q_394 q_46 q_391) rfl rfl rfl hV_X4_isStuckShown ⟨Nat.le_of_ble_eq_true rfl, Nat.le_of_ble_eq_true rfl⟩) ⟨pc_blind, va_recv hK hP (ci := 4) (q := (RX4, TX4, 3)) (q0 := 1) rfl rfl, fun U hU hW => ⟨rfl, hC28 U hU hW⟩⟩ rfl rfl hl.1 rfl (lv_room (Nat.le_of_ble_eq_true rfl)) dX4_isShownBySomeTest_28 ⟨(Nat.le_of_ble_eq_true rfl), (Nat.le_of_ble_eq_true rfl)⟩) hS (fun q9 _ h9 => hF25 q9 h9) hF25 (fun r30 u29 t29 H29 L29 ht29 hvm29 hw29 hB29 hz29 hk29 hS => ?_)
  have hP := pq_keep hP hD [1, 2, 3, 4, 5, 6, 7, 8, 9, 10, 11, 12, 13] rfl hk29 hB29.1 ht29
  have hG : s.heap.size + 0 ≤ H29.size := Nat.le_trans hG hz29
  refine W.eq (g2 := F0 m 31 ls [.int 0]) (by rw [hw29]) ?_
  refine lv_if_eq (tgt := 36) hx hb dX4_isShownBySomeTest_31 (by decide) (fun _ => ?_) (fun cz => absurd (by decide) cz)
  refine lv_iinc (v := 5) (lv' := [(3, .int 5), (0, .ref h0), (1, .ref h1), (2, .int 48)]) hx hb dX4_isShownBySomeTest_36 hl (k := 0) rfl (by decide) (by decide) rfl (fun ls hl => ?_)
  refine lv_goto (tgt := 2) hx hb dX4_isShownBySomeTest_39 (by decide) ?_
  refine lv_iload_n hx hb dX4_isShownBySomeTest_2 rfl (lv_at hl 0 rfl) ?_
  refine lv_aload_n hx hb dX4_isShownBySomeTest_3 rfl (lv_at hl 1 rfl) ?_
  refine va_get (D := (dC, dI)) (ci := 4) (v := .int 7) (C := RX4) (T := TX4) (N := 3) hx hb hts in_X4 hown hK hP 1 rfl rfl 2 (by decide) (hts _ q_358) (fun _ h9 => h9) rfl dX4_isShownBySomeTest_4 ?_
  refine lv_icmp_ge (tgt := 42) hx hb dX4_isShownBySomeTest_7 (by decide) (fun cz => absurd cz (by decide)) (fun _ => ?_)
  refine lv_iload_n hx hb dX4_isShownBySomeTest_10 rfl (lv_at hl 0 rfl) ?_
  refine lv_aload_n hx hb dX4_isShownBySomeTest_11 rfl (lv_at hl 1 rfl) ?_
  refine va_get (D := (dC, dI)) (ci := 4) (v := .ref h3) (C := RX4) (T := TX4) (N := 3) hx hb hts in_X4 hown hK hP 1 rfl rfl 1 (by decide) (hts _ q_49) (fun _ h9 => h9) rfl dX4_isShownBySomeTest_12 ?_
  refine va_alen hx hb hK hP 0 0 rfl rfl (v := 8) rfl dX4_isShownBySomeTest_15 ?_
  refine lv_icmp_ge (tgt := 42) hx hb dX4_isShownBySomeTest_16 (by decide) (fun cz => absurd cz (by decide)) (fun _ => ?_)
  refine lv_aload_n hx hb dX4_isShownBySomeTest_19 rfl (lv_at hl 1 rfl) ?_
  refine lv_aload_n hx hb dX4_isShownBySomeTest_20 rfl (lv_at hl 2 rfl) ?_
  refine lv_iload_n hx hb dX4_isShownBySomeTest_21 rfl (lv_at hl 3 rfl) ?_
  refine lv_aload_n hx hb dX4_isShownBySomeTest_22 rfl (lv_at hl 1 rfl) ?_
  refine va_get (D := (dC, dI)) (ci := 4) (v := .ref h3) (C := RX4) (T := TX4) (N := 3) hx hb hts in_X4 hown hK hP 1 rfl rfl 1 (by decide) (hts _ q_49) (fun _ h9 => h9) rfl dX4_isShownBySomeTest_23 ?_
  refine lv_iload_n hx hb dX4_isShownBySomeTest_26 rfl (lv_at hl 0 rfl) ?_
  refine va_iald hx hb hK hP 0 0 rfl rfl (i := 5) (by unfold vp_in; decide) dX4_isShownBySomeTest_27 ?_
  refine W.eq (g2 := F0 m 28 ls [.int 0, .int 48, .ref h1, .ref h0]) rfl ?_
  have hM33 := k847_isStuckShown l hl9 dC dI z h0 h1 h2 h4 h5 h6 h7 h8 h9 h10 h11 h12 h13 h3 o0 o1 o2 o3 o4 o5 o6 o7 o8 H29.size kc1 kc2
  obtain ⟨hF31, hC34⟩ := pc_M hM33 hP hD hK hS hX hT hA [1, 2, 3, 4, 5, 6, 7, 8, 9, 10, 11, 12, 13] [1, 2] rfl rfl rfl
  refine va_calli (va_runV (As := [.ref h1, .int 48, .int 0]) (rest := []) ⟨hx, hb, hml, hown, hts⟩ hM33 (cwV 3 hts (gV q_392 q_393 q_394 q_46 q_391) rfl rfl rfl hV_X4_isStuckShown ⟨Nat.le_of_ble_eq_true rfl, Nat.le_of_ble_eq_true rfl⟩) ⟨pc_blind, va_recv hK hP (ci := 4) (q := (RX4, TX4, 3)) (q0 := 1) rfl rfl, fun U hU hW => ⟨rfl, hC34 U hU hW⟩⟩ rfl rfl hl.1 rfl (lv_room (Nat.le_of_ble_eq_true rfl)) dX4_isShownBySomeTest_28 ⟨(Nat.le_of_ble_eq_true rfl), (Nat.le_of_ble_eq_true rfl)⟩) hS (fun q9 _ h9 => hF31 q9 h9) hF31 (fun r36 u35 t35 H35 L35 ht35 hvm35 hw35 hB35 hz35 hk35 hS => ?_)
  have hP := pq_keep hP hD [1, 2, 3, 4, 5, 6, 7, 8, 9, 10, 11, 12, 13] rfl hk35 hB35.1 ht35
  have hG : s.heap.size + 0 ≤ H35.size := Nat.le_trans hG hz35
  refine W.eq (g2 := F0 m 31 ls [.int 0]) (by rw [hw35]) ?_
  refine lv_if_eq (tgt := 36) hx hb dX4_isShownBySomeTest_31 (by decide) (fun _ => ?_) (fun cz => absurd (by decide) cz)
  refine lv_iinc (v := 6) (lv' := [(3, .int 6), (0, .ref h0), (1, .ref h1), (2, .int 48)]) hx hb dX4_isShownBySomeTest_36 hl (k := 0) rfl (by decide) (by decide) rfl (fun ls hl => ?_)
  refine lv_goto (tgt := 2) hx hb dX4_isShownBySomeTest_39 (by decide) ?_
  refine lv_iload_n hx hb dX4_isShownBySomeTest_2 rfl (lv_at hl 0 rfl) ?_
  refine lv_aload_n hx hb dX4_isShownBySomeTest_3 rfl (lv_at hl 1 rfl) ?_
  refine va_get (D := (dC, dI)) (ci := 4) (v := .int 7) (C := RX4) (T := TX4) (N := 3) hx hb hts in_X4 hown hK hP 1 rfl rfl 2 (by decide) (hts _ q_358) (fun _ h9 => h9) rfl dX4_isShownBySomeTest_4 ?_
  refine lv_icmp_ge (tgt := 42) hx hb dX4_isShownBySomeTest_7 (by decide) (fun cz => absurd cz (by decide)) (fun _ => ?_)
  refine lv_iload_n hx hb dX4_isShownBySomeTest_10 rfl (lv_at hl 0 rfl) ?_
  refine lv_aload_n hx hb dX4_isShownBySomeTest_11 rfl (lv_at hl 1 rfl) ?_
  refine va_get (D := (dC, dI)) (ci := 4) (v := .ref h3) (C := RX4) (T := TX4) (N := 3) hx hb hts in_X4 hown hK hP 1 rfl rfl 1 (by decide) (hts _ q_49) (fun _ h9 => h9) rfl dX4_isShownBySomeTest_12 ?_
  refine va_alen hx hb hK hP 0 0 rfl rfl (v := 8) rfl dX4_isShownBySomeTest_15 ?_
  refine lv_icmp_ge (tgt := 42) hx hb dX4_isShownBySomeTest_16 (by decide) (fun cz => absurd cz (by decide)) (fun _ => ?_)
  refine lv_aload_n hx hb dX4_isShownBySomeTest_19 rfl (lv_at hl 1 rfl) ?_
  refine lv_aload_n hx hb dX4_isShownBySomeTest_20 rfl (lv_at hl 2 rfl) ?_
  refine lv_iload_n hx hb dX4_isShownBySomeTest_21 rfl (lv_at hl 3 rfl) ?_
  refine lv_aload_n hx hb dX4_isShownBySomeTest_22 rfl (lv_at hl 1 rfl) ?_
  refine va_get (D := (dC, dI)) (ci := 4) (v := .ref h3) (C := RX4) (T := TX4) (N := 3) hx hb hts in_X4 hown hK hP 1 rfl rfl 1 (by decide) (hts _ q_49) (fun _ h9 => h9) rfl dX4_isShownBySomeTest_23 ?_
  refine lv_iload_n hx hb dX4_isShownBySomeTest_26 rfl (lv_at hl 0 rfl) ?_
  refine va_iald hx hb hK hP 0 0 rfl rfl (i := 6) (by unfold vp_in; decide) dX4_isShownBySomeTest_27 ?_
  refine W.eq (g2 := F0 m 28 ls [.int 0, .int 48, .ref h1, .ref h0]) rfl ?_
  have hM39 := k847_isStuckShown l hl9 dC dI z h0 h1 h2 h4 h5 h6 h7 h8 h9 h10 h11 h12 h13 h3 o0 o1 o2 o3 o4 o5 o6 o7 o8 H35.size kc1 kc2
  obtain ⟨hF37, hC40⟩ := pc_M hM39 hP hD hK hS hX hT hA [1, 2, 3, 4, 5, 6, 7, 8, 9, 10, 11, 12, 13] [1, 2] rfl rfl rfl
  refine va_calli (va_runV (As := [.ref h1, .int 48, .int 0]) (rest := []) ⟨hx, hb, hml, hown, hts⟩ hM39 (cwV 3 hts (gV q_392 q_393 q_394 q_46 q_391) rfl rfl rfl hV_X4_isStuckShown ⟨Nat.le_of_ble_eq_true rfl, Nat.le_of_ble_eq_true rfl⟩) ⟨pc_blind, va_recv hK hP (ci := 4) (q := (RX4, TX4, 3)) (q0 := 1) rfl rfl, fun U hU hW => ⟨rfl, hC40 U hU hW⟩⟩ rfl rfl hl.1 rfl (lv_room (Nat.le_of_ble_eq_true rfl)) dX4_isShownBySomeTest_28 ⟨(Nat.le_of_ble_eq_true rfl), (Nat.le_of_ble_eq_true rfl)⟩) hS (fun q9 _ h9 => hF37 q9 h9) hF37 (fun r42 u41 t41 H41 L41 ht41 hvm41 hw41 hB41 hz41 hk41 hS => ?_)
  have hP := pq_keep hP hD [1, 2, 3, 4, 5, 6, 7, 8, 9, 10, 11, 12, 13] rfl hk41 hB41.1 ht41
  have hG : s.heap.size + 0 ≤ H41.size := Nat.le_trans hG hz41
  refine W.eq (g2 := F0 m 31 ls [.int 0]) (by rw [hw41]) ?_
  refine lv_if_eq (tgt := 36) hx hb dX4_isShownBySomeTest_31 (by decide) (fun _ => ?_) (fun cz => absurd (by decide) cz)
  refine lv_iinc (v := 7) (lv' := [(3, .int 7), (0, .ref h0), (1, .ref h1), (2, .int 48)]) hx hb dX4_isShownBySomeTest_36 hl (k := 0) rfl (by decide) (by decide) rfl (fun ls hl => ?_)
  refine lv_goto (tgt := 2) hx hb dX4_isShownBySomeTest_39 (by decide) ?_
  refine lv_iload_n hx hb dX4_isShownBySomeTest_2 rfl (lv_at hl 0 rfl) ?_
  refine lv_aload_n hx hb dX4_isShownBySomeTest_3 rfl (lv_at hl 1 rfl) ?_
  refine va_get (D := (dC, dI)) (ci := 4) (v := .int 7) (C := RX4) (T := TX4) (N := 3) hx hb hts in_X4 hown hK hP 1 rfl rfl 2 (by decide) (hts _ q_358) (fun _ h9 => h9) rfl dX4_isShownBySomeTest_4 ?_
  refine lv_icmp_ge (tgt := 42) hx hb dX4_isShownBySomeTest_7 (by decide) (fun _ => ?_) (fun cz => absurd (by decide) cz)
  refine lv_iconst (v := 0) hx hb dX4_isShownBySomeTest_42 (by decide) ?_
  exact W.zret (v := 0) (ty := .boolean) hx hb hr rfl (fun t9 ht9 hW9 => ⟨⟨0, (), rfl, rfl, ⟨pq_mk2 hP hD hK [1, 2, 3, 0, 4, 5, 6, 7, 8, 9, 10, 11, 12, 13] [0, 1, 2] rfl rfl rfl ht9 hW9, by rw [ht9]; exact Nat.le_trans (Nat.add_le_add_left (Nat.le_of_ble_eq_true rfl) _) hG⟩⟩, hS.F ht9⟩) hS.2.2 dX4_isShownBySomeTest_43

set_option maxHeartbeats 4000000 in
set_option maxRecDepth 100000 in
theorem k849_isSource (l : Launch) (hl9 : l.stackTraces = false) (dC : Nat → ClassId) (dI : Nat → Nat → Nat) (z : XZ) (h0 : Nat) (o0 : Nat) (sz : Nat) : Met l yX2_isSource (.code yX2_isSource cX2_isSource 1 (some .boolean) :: wsL_law) ({ frames := 0, cells := 0, slots := 0, locals := 0 }) (va_Pc [.ref h0] (PC (dC, dI) [(h0, ce428 (z.2.1 0) o0 h0)] [] sz z)) (va_Qi (fun (r : Int32) (_ : Unit) => r = 1) (fun (_ : Unit) (t : State) => PG (dC, dI) [(h0, ce428 (z.2.1 0) o0 h0)] [] (va_A [(h0, ce428 (z.2.1 0) o0 h0)] sz) sz 0 t) (va_A [(h0, ce428 (z.2.1 0) o0 h0)] sz)) 0 0 (va_A [(h0, ce428 (z.2.1 0) o0 h0)] sz) := by
  refine Met.ofW (cc := cX2_isSource) (maxL := 1) (ret := (some .boolean)) (by decide) rfl ?_
  intro p e s m args below meth c s₁ B hml hv
  obtain ⟨rfl, hsz, hP, hK, hD0, hX, hT⟩ := hv
  have hx := B.exec
  have hb := B.bytes
  have hr := B.returns
  have hts0 := atoms_spec (ws := .code yX2_isSource cX2_isSource 1 (some .boolean) :: wsL_law) B.pre
  have hts := xTail hts0
  have hown : s.vm.findClass RX2 = some m.cls := xown B.named rfl
  have hlocks := B.notSynchronized
  subst hsz
  have hD := hD0.self (sz := s.heap.size)
  generalize hAe : va_A [(h0, ce428 (z.2.1 0) o0 h0)] s.heap.size = A at hD hX ⊢
  have hA : ∀ q : Nat, s.heap.size ≤ q → A q := fun q h => by rw [← hAe]; exact Or.inr h
  have hS : va_S A s.heap s.heap [] := va_S.rf
  have hG : s.heap.size + 0 ≤ s.heap.size := Nat.le_refl _
  have hl := lv_entry ([.ref h0]) (n := 1) (Nat.le_of_ble_eq_true rfl)
  rw [lg_entry_eq]
  generalize (lg_sl ([.ref h0]) ++ List.replicate (1 - (lg_sl ([.ref h0])).length) Slot.unset).toArray = ls at hl ⊢
  have hl : lv_has ls 1 [(0, .ref h0)] := hl
  refine lv_aload_n hx hb dX2_isSource_0 rfl (lv_at hl 0 rfl) ?_
  refine va_get (D := (dC, dI)) (ci := 3) (v := .ref (z.2.1 0)) (C := RX2) (T := TX2) (N := 19) hx hb hts in_X2 hown hK hP 0 rfl rfl 1 (by decide) (hts _ q_98) (fun _ h9 => h9) rfl dX2_isSource_1 ?_
  refine va_gets (own := RX2) (ref := "Deltacycle$NetKind") hx hb (hX.2.1.1 0 (by decide)).1 hS hown (hts _ q_130) (fun _ h9 => h9) dX2_isSource_4 ?_
  refine lv_acmp_eq (rx := (some (z.2.1 0))) (ry := (some (z.2.1 0))) (tgt := 20) hx hb dX2_isSource_7 (by decide) (fun _ => ?_) (fun cz => absurd rfl cz)
  refine lv_iconst (v := 1) hx hb dX2_isSource_20 (by decide) ?_
  refine lv_goto (tgt := 25) hx hb dX2_isSource_21 (by decide) ?_
  exact W.zret (v := 1) (ty := .boolean) hx hb hr rfl (fun t9 ht9 hW9 => ⟨⟨1, (), rfl, rfl, ⟨pq_mk2 hP hD hK [0] [] rfl rfl rfl ht9 hW9, by rw [ht9]; exact Nat.le_trans (Nat.add_le_add_left (Nat.le_of_ble_eq_true rfl) _) hG⟩⟩, hS.F ht9⟩) hS.2.2 dX2_isSource_25

set_option maxHeartbeats 4000000 in
set_option maxRecDepth 100000 in
theorem k850_isSource (l : Launch) (hl9 : l.stackTraces = false) (dC : Nat → ClassId) (dI : Nat → Nat → Nat) (z : XZ) (h0 : Nat) (o0 : Nat) (sz : Nat) : Met l yX2_isSource (.code yX2_isSource cX2_isSource 1 (some .boolean) :: wsL_law) ({ frames := 0, cells := 0, slots := 0, locals := 0 }) (va_Pc [.ref h0] (PC (dC, dI) [(h0, ce429 (z.2.1 0) o0 h0)] [] sz z)) (va_Qi (fun (r : Int32) (_ : Unit) => r = 1) (fun (_ : Unit) (t : State) => PG (dC, dI) [(h0, ce429 (z.2.1 0) o0 h0)] [] (va_A [(h0, ce429 (z.2.1 0) o0 h0)] sz) sz 0 t) (va_A [(h0, ce429 (z.2.1 0) o0 h0)] sz)) 0 0 (va_A [(h0, ce429 (z.2.1 0) o0 h0)] sz) := by
  refine Met.ofW (cc := cX2_isSource) (maxL := 1) (ret := (some .boolean)) (by decide) rfl ?_
  intro p e s m args below meth c s₁ B hml hv
  obtain ⟨rfl, hsz, hP, hK, hD0, hX, hT⟩ := hv
  have hx := B.exec
  have hb := B.bytes
  have hr := B.returns
  have hts0 := atoms_spec (ws := .code yX2_isSource cX2_isSource 1 (some .boolean) :: wsL_law) B.pre
  have hts := xTail hts0
  have hown : s.vm.findClass RX2 = some m.cls := xown B.named rfl
  have hlocks := B.notSynchronized
  subst hsz
  have hD := hD0.self (sz := s.heap.size)
  generalize hAe : va_A [(h0, ce429 (z.2.1 0) o0 h0)] s.heap.size = A at hD hX ⊢
  have hA : ∀ q : Nat, s.heap.size ≤ q → A q := fun q h => by rw [← hAe]; exact Or.inr h
  have hS : va_S A s.heap s.heap [] := va_S.rf
  have hG : s.heap.size + 0 ≤ s.heap.size := Nat.le_refl _
  have hl := lv_entry ([.ref h0]) (n := 1) (Nat.le_of_ble_eq_true rfl)
  rw [lg_entry_eq]
  generalize (lg_sl ([.ref h0]) ++ List.replicate (1 - (lg_sl ([.ref h0])).length) Slot.unset).toArray = ls at hl ⊢
  have hl : lv_has ls 1 [(0, .ref h0)] := hl
  refine lv_aload_n hx hb dX2_isSource_0 rfl (lv_at hl 0 rfl) ?_
  refine va_get (D := (dC, dI)) (ci := 3) (v := .ref (z.2.1 0)) (C := RX2) (T := TX2) (N := 19) hx hb hts in_X2 hown hK hP 0 rfl rfl 1 (by decide) (hts _ q_98) (fun _ h9 => h9) rfl dX2_isSource_1 ?_
  refine va_gets (own := RX2) (ref := "Deltacycle$NetKind") hx hb (hX.2.1.1 0 (by decide)).1 hS hown (hts _ q_130) (fun _ h9 => h9) dX2_isSource_4 ?_
  refine lv_acmp_eq (rx := (some (z.2.1 0))) (ry := (some (z.2.1 0))) (tgt := 20) hx hb dX2_isSource_7 (by decide) (fun _ => ?_) (fun cz => absurd rfl cz)
  refine lv_iconst (v := 1) hx hb dX2_isSource_20 (by decide) ?_
  refine lv_goto (tgt := 25) hx hb dX2_isSource_21 (by decide) ?_
  exact W.zret (v := 1) (ty := .boolean) hx hb hr rfl (fun t9 ht9 hW9 => ⟨⟨1, (), rfl, rfl, ⟨pq_mk2 hP hD hK [0] [] rfl rfl rfl ht9 hW9, by rw [ht9]; exact Nat.le_trans (Nat.add_le_add_left (Nat.le_of_ble_eq_true rfl) _) hG⟩⟩, hS.F ht9⟩) hS.2.2 dX2_isSource_25

set_option maxHeartbeats 4000000 in
set_option maxRecDepth 100000 in
theorem k851_isSource (l : Launch) (hl9 : l.stackTraces = false) (dC : Nat → ClassId) (dI : Nat → Nat → Nat) (z : XZ) (h0 : Nat) (o0 : Nat) (sz : Nat) : Met l yX2_isSource (.code yX2_isSource cX2_isSource 1 (some .boolean) :: wsL_law) ({ frames := 0, cells := 0, slots := 0, locals := 0 }) (va_Pc [.ref h0] (PC (dC, dI) [(h0, ce430 (z.2.1 0) o0 h0)] [] sz z)) (va_Qi (fun (r : Int32) (_ : Unit) => r = 1) (fun (_ : Unit) (t : State) => PG (dC, dI) [(h0, ce430 (z.2.1 0) o0 h0)] [] (va_A [(h0, ce430 (z.2.1 0) o0 h0)] sz) sz 0 t) (va_A [(h0, ce430 (z.2.1 0) o0 h0)] sz)) 0 0 (va_A [(h0, ce430 (z.2.1 0) o0 h0)] sz) := by
  refine Met.ofW (cc := cX2_isSource) (maxL := 1) (ret := (some .boolean)) (by decide) rfl ?_
  intro p e s m args below meth c s₁ B hml hv
  obtain ⟨rfl, hsz, hP, hK, hD0, hX, hT⟩ := hv
  have hx := B.exec
  have hb := B.bytes
  have hr := B.returns
  have hts0 := atoms_spec (ws := .code yX2_isSource cX2_isSource 1 (some .boolean) :: wsL_law) B.pre
  have hts := xTail hts0
  have hown : s.vm.findClass RX2 = some m.cls := xown B.named rfl
  have hlocks := B.notSynchronized
  subst hsz
  have hD := hD0.self (sz := s.heap.size)
  generalize hAe : va_A [(h0, ce430 (z.2.1 0) o0 h0)] s.heap.size = A at hD hX ⊢
  have hA : ∀ q : Nat, s.heap.size ≤ q → A q := fun q h => by rw [← hAe]; exact Or.inr h
  have hS : va_S A s.heap s.heap [] := va_S.rf
  have hG : s.heap.size + 0 ≤ s.heap.size := Nat.le_refl _
  have hl := lv_entry ([.ref h0]) (n := 1) (Nat.le_of_ble_eq_true rfl)
  rw [lg_entry_eq]
  generalize (lg_sl ([.ref h0]) ++ List.replicate (1 - (lg_sl ([.ref h0])).length) Slot.unset).toArray = ls at hl ⊢
  have hl : lv_has ls 1 [(0, .ref h0)] := hl
  refine lv_aload_n hx hb dX2_isSource_0 rfl (lv_at hl 0 rfl) ?_
  refine va_get (D := (dC, dI)) (ci := 3) (v := .ref (z.2.1 0)) (C := RX2) (T := TX2) (N := 19) hx hb hts in_X2 hown hK hP 0 rfl rfl 1 (by decide) (hts _ q_98) (fun _ h9 => h9) rfl dX2_isSource_1 ?_
  refine va_gets (own := RX2) (ref := "Deltacycle$NetKind") hx hb (hX.2.1.1 0 (by decide)).1 hS hown (hts _ q_130) (fun _ h9 => h9) dX2_isSource_4 ?_
  refine lv_acmp_eq (rx := (some (z.2.1 0))) (ry := (some (z.2.1 0))) (tgt := 20) hx hb dX2_isSource_7 (by decide) (fun _ => ?_) (fun cz => absurd rfl cz)
  refine lv_iconst (v := 1) hx hb dX2_isSource_20 (by decide) ?_
  refine lv_goto (tgt := 25) hx hb dX2_isSource_21 (by decide) ?_
  exact W.zret (v := 1) (ty := .boolean) hx hb hr rfl (fun t9 ht9 hW9 => ⟨⟨1, (), rfl, rfl, ⟨pq_mk2 hP hD hK [0] [] rfl rfl rfl ht9 hW9, by rw [ht9]; exact Nat.le_trans (Nat.add_le_add_left (Nat.le_of_ble_eq_true rfl) _) hG⟩⟩, hS.F ht9⟩) hS.2.2 dX2_isSource_25

set_option maxHeartbeats 4000000 in
set_option maxRecDepth 100000 in
theorem k852_isSource (l : Launch) (hl9 : l.stackTraces = false) (dC : Nat → ClassId) (dI : Nat → Nat → Nat) (z : XZ) (h0 : Nat) (o0 : Nat) (sz : Nat) : Met l yX2_isSource (.code yX2_isSource cX2_isSource 1 (some .boolean) :: wsL_law) ({ frames := 0, cells := 0, slots := 0, locals := 0 }) (va_Pc [.ref h0] (PC (dC, dI) [(h0, ce431 (z.2.1 0) o0 h0)] [] sz z)) (va_Qi (fun (r : Int32) (_ : Unit) => r = 1) (fun (_ : Unit) (t : State) => PG (dC, dI) [(h0, ce431 (z.2.1 0) o0 h0)] [] (va_A [(h0, ce431 (z.2.1 0) o0 h0)] sz) sz 0 t) (va_A [(h0, ce431 (z.2.1 0) o0 h0)] sz)) 0 0 (va_A [(h0, ce431 (z.2.1 0) o0 h0)] sz) := by
  refine Met.ofW (cc := cX2_isSource) (maxL := 1) (ret := (some .boolean)) (by decide) rfl ?_
  intro p e s m args below meth c s₁ B hml hv
  obtain ⟨rfl, hsz, hP, hK, hD0, hX, hT⟩ := hv
  have hx := B.exec
  have hb := B.bytes
  have hr := B.returns
  have hts0 := atoms_spec (ws := .code yX2_isSource cX2_isSource 1 (some .boolean) :: wsL_law) B.pre
  have hts := xTail hts0
  have hown : s.vm.findClass RX2 = some m.cls := xown B.named rfl
  have hlocks := B.notSynchronized
  subst hsz
  have hD := hD0.self (sz := s.heap.size)
  generalize hAe : va_A [(h0, ce431 (z.2.1 0) o0 h0)] s.heap.size = A at hD hX ⊢
  have hA : ∀ q : Nat, s.heap.size ≤ q → A q := fun q h => by rw [← hAe]; exact Or.inr h
  have hS : va_S A s.heap s.heap [] := va_S.rf
  have hG : s.heap.size + 0 ≤ s.heap.size := Nat.le_refl _
  have hl := lv_entry ([.ref h0]) (n := 1) (Nat.le_of_ble_eq_true rfl)
  rw [lg_entry_eq]
  generalize (lg_sl ([.ref h0]) ++ List.replicate (1 - (lg_sl ([.ref h0])).length) Slot.unset).toArray = ls at hl ⊢
  have hl : lv_has ls 1 [(0, .ref h0)] := hl
  refine lv_aload_n hx hb dX2_isSource_0 rfl (lv_at hl 0 rfl) ?_
  refine va_get (D := (dC, dI)) (ci := 3) (v := .ref (z.2.1 0)) (C := RX2) (T := TX2) (N := 19) hx hb hts in_X2 hown hK hP 0 rfl rfl 1 (by decide) (hts _ q_98) (fun _ h9 => h9) rfl dX2_isSource_1 ?_
  refine va_gets (own := RX2) (ref := "Deltacycle$NetKind") hx hb (hX.2.1.1 0 (by decide)).1 hS hown (hts _ q_130) (fun _ h9 => h9) dX2_isSource_4 ?_
  refine lv_acmp_eq (rx := (some (z.2.1 0))) (ry := (some (z.2.1 0))) (tgt := 20) hx hb dX2_isSource_7 (by decide) (fun _ => ?_) (fun cz => absurd rfl cz)
  refine lv_iconst (v := 1) hx hb dX2_isSource_20 (by decide) ?_
  refine lv_goto (tgt := 25) hx hb dX2_isSource_21 (by decide) ?_
  exact W.zret (v := 1) (ty := .boolean) hx hb hr rfl (fun t9 ht9 hW9 => ⟨⟨1, (), rfl, rfl, ⟨pq_mk2 hP hD hK [0] [] rfl rfl rfl ht9 hW9, by rw [ht9]; exact Nat.le_trans (Nat.add_le_add_left (Nat.le_of_ble_eq_true rfl) _) hG⟩⟩, hS.F ht9⟩) hS.2.2 dX2_isSource_25

set_option maxHeartbeats 4000000 in
set_option maxRecDepth 100000 in
theorem k853_isSource (l : Launch) (hl9 : l.stackTraces = false) (dC : Nat → ClassId) (dI : Nat → Nat → Nat) (z : XZ) (h0 : Nat) (o0 : Nat) (sz : Nat) : Met l yX2_isSource (.code yX2_isSource cX2_isSource 1 (some .boolean) :: wsL_law) ({ frames := 0, cells := 0, slots := 0, locals := 0 }) (va_Pc [.ref h0] (PC (dC, dI) [(h0, ce432 (z.2.1 0) o0 h0)] [] sz z)) (va_Qi (fun (r : Int32) (_ : Unit) => r = 1) (fun (_ : Unit) (t : State) => PG (dC, dI) [(h0, ce432 (z.2.1 0) o0 h0)] [] (va_A [(h0, ce432 (z.2.1 0) o0 h0)] sz) sz 0 t) (va_A [(h0, ce432 (z.2.1 0) o0 h0)] sz)) 0 0 (va_A [(h0, ce432 (z.2.1 0) o0 h0)] sz) := by
  refine Met.ofW (cc := cX2_isSource) (maxL := 1) (ret := (some .boolean)) (by decide) rfl ?_
  intro p e s m args below meth c s₁ B hml hv
  obtain ⟨rfl, hsz, hP, hK, hD0, hX, hT⟩ := hv
  have hx := B.exec
  have hb := B.bytes
  have hr := B.returns
  have hts0 := atoms_spec (ws := .code yX2_isSource cX2_isSource 1 (some .boolean) :: wsL_law) B.pre
  have hts := xTail hts0
  have hown : s.vm.findClass RX2 = some m.cls := xown B.named rfl
  have hlocks := B.notSynchronized
  subst hsz
  have hD := hD0.self (sz := s.heap.size)
  generalize hAe : va_A [(h0, ce432 (z.2.1 0) o0 h0)] s.heap.size = A at hD hX ⊢
  have hA : ∀ q : Nat, s.heap.size ≤ q → A q := fun q h => by rw [← hAe]; exact Or.inr h
  have hS : va_S A s.heap s.heap [] := va_S.rf
  have hG : s.heap.size + 0 ≤ s.heap.size := Nat.le_refl _
  have hl := lv_entry ([.ref h0]) (n := 1) (Nat.le_of_ble_eq_true rfl)
  rw [lg_entry_eq]
  generalize (lg_sl ([.ref h0]) ++ List.replicate (1 - (lg_sl ([.ref h0])).length) Slot.unset).toArray = ls at hl ⊢
  have hl : lv_has ls 1 [(0, .ref h0)] := hl
  refine lv_aload_n hx hb dX2_isSource_0 rfl (lv_at hl 0 rfl) ?_
  refine va_get (D := (dC, dI)) (ci := 3) (v := .ref (z.2.1 0)) (C := RX2) (T := TX2) (N := 19) hx hb hts in_X2 hown hK hP 0 rfl rfl 1 (by decide) (hts _ q_98) (fun _ h9 => h9) rfl dX2_isSource_1 ?_
  refine va_gets (own := RX2) (ref := "Deltacycle$NetKind") hx hb (hX.2.1.1 0 (by decide)).1 hS hown (hts _ q_130) (fun _ h9 => h9) dX2_isSource_4 ?_
  refine lv_acmp_eq (rx := (some (z.2.1 0))) (ry := (some (z.2.1 0))) (tgt := 20) hx hb dX2_isSource_7 (by decide) (fun _ => ?_) (fun cz => absurd rfl cz)
  refine lv_iconst (v := 1) hx hb dX2_isSource_20 (by decide) ?_
  refine lv_goto (tgt := 25) hx hb dX2_isSource_21 (by decide) ?_
  exact W.zret (v := 1) (ty := .boolean) hx hb hr rfl (fun t9 ht9 hW9 => ⟨⟨1, (), rfl, rfl, ⟨pq_mk2 hP hD hK [0] [] rfl rfl rfl ht9 hW9, by rw [ht9]; exact Nat.le_trans (Nat.add_le_add_left (Nat.le_of_ble_eq_true rfl) _) hG⟩⟩, hS.F ht9⟩) hS.2.2 dX2_isSource_25

set_option maxHeartbeats 4000000 in
set_option maxRecDepth 100000 in
theorem k854_isSource (l : Launch) (hl9 : l.stackTraces = false) (dC : Nat → ClassId) (dI : Nat → Nat → Nat) (z : XZ) (h0 : Nat) (o0 : Nat) (sz : Nat) : Met l yX2_isSource (.code yX2_isSource cX2_isSource 1 (some .boolean) :: wsL_law) ({ frames := 0, cells := 0, slots := 0, locals := 0 }) (va_Pc [.ref h0] (PC (dC, dI) [(h0, ce433 (z.2.1 0) o0 h0)] [] sz z)) (va_Qi (fun (r : Int32) (_ : Unit) => r = 1) (fun (_ : Unit) (t : State) => PG (dC, dI) [(h0, ce433 (z.2.1 0) o0 h0)] [] (va_A [(h0, ce433 (z.2.1 0) o0 h0)] sz) sz 0 t) (va_A [(h0, ce433 (z.2.1 0) o0 h0)] sz)) 0 0 (va_A [(h0, ce433 (z.2.1 0) o0 h0)] sz) := by
  refine Met.ofW (cc := cX2_isSource) (maxL := 1) (ret := (some .boolean)) (by decide) rfl ?_
  intro p e s m args below meth c s₁ B hml hv
  obtain ⟨rfl, hsz, hP, hK, hD0, hX, hT⟩ := hv
  have hx := B.exec
  have hb := B.bytes
  have hr := B.returns
  have hts0 := atoms_spec (ws := .code yX2_isSource cX2_isSource 1 (some .boolean) :: wsL_law) B.pre
  have hts := xTail hts0
  have hown : s.vm.findClass RX2 = some m.cls := xown B.named rfl
  have hlocks := B.notSynchronized
  subst hsz
  have hD := hD0.self (sz := s.heap.size)
  generalize hAe : va_A [(h0, ce433 (z.2.1 0) o0 h0)] s.heap.size = A at hD hX ⊢
  have hA : ∀ q : Nat, s.heap.size ≤ q → A q := fun q h => by rw [← hAe]; exact Or.inr h
  have hS : va_S A s.heap s.heap [] := va_S.rf
  have hG : s.heap.size + 0 ≤ s.heap.size := Nat.le_refl _
  have hl := lv_entry ([.ref h0]) (n := 1) (Nat.le_of_ble_eq_true rfl)
  rw [lg_entry_eq]
  generalize (lg_sl ([.ref h0]) ++ List.replicate (1 - (lg_sl ([.ref h0])).length) Slot.unset).toArray = ls at hl ⊢
  have hl : lv_has ls 1 [(0, .ref h0)] := hl
  refine lv_aload_n hx hb dX2_isSource_0 rfl (lv_at hl 0 rfl) ?_
  refine va_get (D := (dC, dI)) (ci := 3) (v := .ref (z.2.1 0)) (C := RX2) (T := TX2) (N := 19) hx hb hts in_X2 hown hK hP 0 rfl rfl 1 (by decide) (hts _ q_98) (fun _ h9 => h9) rfl dX2_isSource_1 ?_
  refine va_gets (own := RX2) (ref := "Deltacycle$NetKind") hx hb (hX.2.1.1 0 (by decide)).1 hS hown (hts _ q_130) (fun _ h9 => h9) dX2_isSource_4 ?_
  refine lv_acmp_eq (rx := (some (z.2.1 0))) (ry := (some (z.2.1 0))) (tgt := 20) hx hb dX2_isSource_7 (by decide) (fun _ => ?_) (fun cz => absurd rfl cz)
  refine lv_iconst (v := 1) hx hb dX2_isSource_20 (by decide) ?_
  refine lv_goto (tgt := 25) hx hb dX2_isSource_21 (by decide) ?_
  exact W.zret (v := 1) (ty := .boolean) hx hb hr rfl (fun t9 ht9 hW9 => ⟨⟨1, (), rfl, rfl, ⟨pq_mk2 hP hD hK [0] [] rfl rfl rfl ht9 hW9, by rw [ht9]; exact Nat.le_trans (Nat.add_le_add_left (Nat.le_of_ble_eq_true rfl) _) hG⟩⟩, hS.F ht9⟩) hS.2.2 dX2_isSource_25
