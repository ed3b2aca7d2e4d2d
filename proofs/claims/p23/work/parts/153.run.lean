set_option maxHeartbeats 4000000 in
set_option maxRecDepth 100000 in
theorem k984_settledAll (l : Launch) (hl9 : l.stackTraces = false) (dC : Nat → ClassId) (dI : Nat → Nat → Nat) (z : XZ) (h0 h1 h2 h3 h4 h5 h6 h7 h8 h9 h10 h11 h12 h13 : Nat) (o0 : Nat) (sz : Nat) (kc0 kc1 kc2 : ClassId) : Met l yX9_settledAll (.code yX9_settledAll cX9_settledAll 11 (some (.array .char)) :: wsL_law) ({ frames := 3, cells := 9, slots := 72, locals := 64 }) (va_Pc [.ref h0, .ref h1, .int 6, .int 49] (PC (dC, dI) [(h0, ce21 h2 h3 o0 h4), (h1, ce447 kc0), (h2, ce331 h5), (h3, ce3 z.1), (h4, ce366 h6), (h5, ce330 kc1 h7 h8 h9 h10 h11 h12 h13), (h6, ce330 kc2 (z.2.2.1 128) (z.2.2.1 129) (z.2.2.1 130) (z.2.2.1 131) (z.2.2.1 132) (z.2.2.1 133) (z.2.2.1 134)), (h7, ce49), (h8, ce49), (h9, ce49), (h10, ce49), (h11, ce49), (h12, ce49), (h13, ce49)] [(kc0, .char), (kc1, .object "java/lang/Object"), (kc2, .object "java/lang/Object")] sz z)) (va_Qr (fun (_ : Unit) => True) (fun (_ : Unit) (ra : Nat) (t : State) => ∃ (n0 : Nat), ∃ (m0 : ClassId), ra = n0 ∧ PG (dC, dI) [(h0, ce21 h2 h3 o0 h4), (h1, ce447 kc0), (h2, ce331 h5), (h3, ce3 z.1), (h4, ce366 h6), (h5, ce330 kc1 h7 h8 h9 h10 h11 h12 h13), (h6, ce330 kc2 (z.2.2.1 128) (z.2.2.1 129) (z.2.2.1 130) (z.2.2.1 131) (z.2.2.1 132) (z.2.2.1 133) (z.2.2.1 134)), (h7, ce49), (h8, ce49), (h9, ce49), (h10, ce49), (h11, ce49), (h12, ce49), (h13, ce49), (n0, ce516 m0)] [(kc0, .char), (kc1, .object "java/lang/Object"), (kc2, .object "java/lang/Object"), (m0, .char)] (va_A [(h0, ce21 h2 h3 o0 h4), (h1, ce447 kc0), (h2, ce331 h5), (h3, ce3 z.1), (h4, ce366 h6), (h5, ce330 kc1 h7 h8 h9 h10 h11 h12 h13), (h6, ce330 kc2 (z.2.2.1 128) (z.2.2.1 129) (z.2.2.1 130) (z.2.2.1 131) (z.2.2.1 132) (z.2.2.1 133) (z.2.2.1 134)), (h7, ce49), (h8, ce49), (h9, ce49), (h10, ce49), (h11, ce49), (h12, ce49), (h13, ce49)] sz) sz 9 t) (va_A [(h0, ce21 h2 h3 o0 h4), (h1, ce447 kc0), (h2, ce331 h5), (h3, ce3 z.1), (h4, ce366 h6), (h5, ce330 kc1 h7 h8 h9 h10 h11 h12 h13), (h6, ce330 kc2 (z.2.2.1 128) (z.2.2.1 129) (z.2.2.1 130) (z.2.2.1 131) (z.2.2.1 132) (z.2.2.1 133) (z.2.2.1 134)), (h7, ce49), (h8, ce49), (h9, ce49), (h10, ce49), (h11, ce49), (h12, ce49), (h13, ce49)] sz)) 9 72 (va_A [(h0, ce21 h2 h3 o0 h4), (h1, ce447 kc0), (h2, ce331 h5), (h3, ce3 z.1), (h4, ce366 h6), (h5, ce330 kc1 h7 h8 h9 h10 h11 h12 h13), (h6, ce330 kc2 (z.2.2.1 128) (z.2.2.1 129) (z.2.2.1 130) (z.2.2.1 131) (z.2.2.1 132) (z.2.2.1 133) (z.2.2.1 134)), (h7, ce49), (h8, ce49), (h9, ce49), (h10, ce49), (h11, ce49), (h12, ce49), (h13, ce49)] sz) := by
  refine Met.ofW (cc := cX9_settledAll) (maxL := 11) (ret := (some (.array .char))) (by decide) rfl ?_
  intro p e s m args below meth c s₁ B hml hv
  obtain ⟨rfl, hsz, hP, hK, hD0, hX, hT⟩ := hv
  have hx := B.exec
  have hb := B.bytes
  have hr := B.returns
  have hts0 := atoms_spec (ws := .code yX9_settledAll cX9_settledAll 11 (some (.array .char)) :: wsL_law) B.pre
  have hts := xTail hts0
  have hown : s.vm.findClass RX9 = some m.cls := xown B.named rfl
  have hlocks := B.notSynchronized
  subst hsz
  have hD := hD0.self (sz := s.heap.size)
  generalize hAe : va_A [(h0, ce21 h2 h3 o0 h4), (h1, ce447 kc0), (h2, ce331 h5), (h3, ce3 z.1), (h4, ce366 h6), (h5, ce330 kc1 h7 h8 h9 h10 h11 h12 h13), (h6, ce330 kc2 (z.2.2.1 128) (z.2.2.1 129) (z.2.2.1 130) (z.2.2.1 131) (z.2.2.1 132) (z.2.2.1 133) (z.2.2.1 134)), (h7, ce49), (h8, ce49), (h9, ce49), (h10, ce49), (h11, ce49), (h12, ce49), (h13, ce49)] s.heap.size = A at hD hX ⊢
  have hA : ∀ q : Nat, s.heap.size ≤ q → A q := fun q h => by rw [← hAe]; exact Or.inr h
  have hS : va_S A s.heap s.heap [] := va_S.rf
  have hG : s.heap.size + 0 ≤ s.heap.size := Nat.le_refl _
  have hl := lv_entry ([.ref h0, .ref h1, .int 6, .int 49]) (n := 11) (Nat.le_of_ble_eq_true rfl)
  rw [lg_entry_eq]
  generalize (lg_sl ([.ref h0, .ref h1, .int 6, .int 49]) ++ List.replicate (11 - (lg_sl ([.ref h0, .ref h1, .int 6, .int 49])).length) Slot.unset).toArray = ls at hl ⊢
  have hl : lv_has ls 11 [(0, .ref h0), (1, .ref h1), (2, .int 6), (3, .int 49)] := hl
  refine lv_bipush (v := 40) hx hb dX9_settledAll_0 (by decide) ?_
  refine xa_newa (atype := .char) hx hb (hts _ q_314) rfl hK hP hD hS hA (n := 40) (N' := 40) (a0 := (40, .inl (fun _ => 0))) (fun _ => rfl) (by decide) (by decide) (Nat.le_of_ble_eq_true rfl) (Nat.le_of_ble_eq_true rfl) (Nat.le_of_ble_eq_true rfl) dX9_settledAll_2 (fun a1 k2 H3 hg8 hK hP hD hS => ?_)
  have hG : s.heap.size + 1 ≤ H3.size := by rw [hg8]; exact Nat.succ_le_succ hG
  have hK : va_K (dC, dI) xCl [(kc0, .char), (kc1, .object "java/lang/Object"), (kc2, .object "java/lang/Object"), (k2, .char)] s := hK
  have hP : va_P (dC, dI) xCl [(h0, ce21 h2 h3 o0 h4), (h1, ce447 kc0), (h2, ce331 h5), (h3, ce3 z.1), (h4, ce366 h6), (h5, ce330 kc1 h7 h8 h9 h10 h11 h12 h13), (h6, ce330 kc2 (z.2.2.1 128) (z.2.2.1 129) (z.2.2.1 130) (z.2.2.1 131) (z.2.2.1 132) (z.2.2.1 133) (z.2.2.1 134)), (h7, ce49), (h8, ce49), (h9, ce49), (h10, ce49), (h11, ce49), (h12, ce49), (h13, ce49), (a1, ce51 k2)] H3 := hP
  have hD := vd_as hP hD rfl
  refine W.widen (k := 1) (n := 40) (by decide) (by decide) ?_
  refine lv_astore (lv' := [(4, .ref a1), (0, .ref h0), (1, .ref h1), (2, .int 6), (3, .int 49)]) hx hb dX9_settledAll_4 hl (by decide) rfl (fun ls hl => ?_)
  refine lv_aload_n hx hb dX9_settledAll_6 rfl (lv_at hl 1 rfl) ?_
  refine va_get (D := (dC, dI)) (ci := 8) (v := .ref h4) (C := RX9) (T := TX9) (N := 6) hx hb hts in_X9 hown hK hP 0 rfl rfl 4 (by decide) (hts _ q_67) (fun _ h9 => h9) rfl dX9_settledAll_7 ?_
  have hM6 := k749_iterator l hl9 dC dI z h4 h6 H3.size
  obtain ⟨hF4, hC7⟩ := pc_M hM6 hP hD hK hS hX hT hA [4] [] rfl rfl rfl
  refine va_callr (va_runV (As := []) (rest := []) ⟨hx, hb, hml, hown, hts⟩ hM6 (cwV 0 hts (gV q_256 q_257 q_258 q_12 q_255) rfl rfl rfl hV_Jx4a65c_iterator_32c93 ⟨Nat.le_of_ble_eq_true rfl, Nat.le_of_ble_eq_true rfl⟩) ⟨pc_blind, va_recv hK hP (ci := 0) (q := (RJx4a65c, TJx4a65c, 3)) (q0 := 4) rfl rfl, fun U hU hW => ⟨rfl, hC7 U hU hW⟩⟩ rfl rfl hl.1 rfl (lv_room (Nat.le_of_ble_eq_true rfl)) dX9_settledAll_10 ⟨(Nat.le_of_ble_eq_true rfl), (Nat.le_of_ble_eq_true rfl)⟩) hS (fun q9 _ h9 => hF4 q9 h9) hF4 (fun u8 r9 t8 H8 L8 ht8 hvm8 hw8 hB8 hz8 hk8 hS => ?_)
  obtain ⟨a10, hr8, hB8⟩ := hB8
  obtain ⟨hP, hD, hK⟩ := pq_jn (wz := [(h0, ce21 h2 h3 o0 h4), (h1, ce447 kc0), (h2, ce331 h5), (h3, ce3 z.1), (h5, ce330 kc1 h7 h8 h9 h10 h11 h12 h13), (h6, ce330 kc2 (z.2.2.1 128) (z.2.2.1 129) (z.2.2.1 130) (z.2.2.1 131) (z.2.2.1 132) (z.2.2.1 133) (z.2.2.1 134)), (h7, ce49), (h8, ce49), (h9, ce49), (h10, ce49), (h11, ce49), (h12, ce49), (h13, ce49), (a1, ce51 k2), (h4, ce366 h6), (a10, ce386 h4)]) (tz := [(kc0, .char), (kc1, .object "java/lang/Object"), (kc2, .object "java/lang/Object"), (k2, .char)]) hP hD hK [4] [0, 1, 2, 3] rfl hk8 hF4 hB8.1 ht8 hvm8 rfl rfl
  have hG : s.heap.size + 2 ≤ H8.size := va_gr (g := 1) (g1 := 1) hG (by rw [← ht8]; exact hB8.2)
  refine W.eq (g2 := F0 m 13 ls [.ref a10]) (by rw [hr8]) ?_
  refine W.widen (k := 2) (n := 44) (by decide) (by decide) ?_
  refine lv_astore (lv' := [(5, .ref a10), (4, .ref a1), (0, .ref h0), (1, .ref h1), (2, .int 6), (3, .int 49)]) hx hb dX9_settledAll_13 hl (by decide) rfl (fun ls hl => ?_)
  refine lv_aload hx hb dX9_settledAll_15 (lv_at hl 0 rfl) ?_
  have hM13 := k750_hasNext l hl9 dC dI z a10 h4 h6 H8.size
  obtain ⟨hF11, hC14⟩ := pc_M hM13 hP hD hK hS hX hT hA [15, 14] [] rfl rfl rfl
  refine va_callFi (va_runF (As := []) (rest := []) (hK.1 1 (RJx35411, TJx35411, 4) rfl).2 ⟨hx, hb, hml, hown, hts⟩ hM13 (va_cwF 0 hts (gF q_261 q_262 q_263 q_246 q_260) rfl rfl rfl hT.2.2.2.2.2.2.1 hF_xIh ⟨Nat.le_of_ble_eq_true rfl, Nat.le_of_ble_eq_true rfl⟩) ⟨pc_blind, va_recv hK hP (ci := 1) (q := (RJx35411, TJx35411, 4)) (q0 := 15) rfl rfl, fun U hU hW => ⟨rfl, hC14 U hU hW⟩⟩ rfl rfl hl.1 rfl (lv_room (Nat.le_of_ble_eq_true rfl)) dX9_settledAll_17 ⟨(Nat.le_of_ble_eq_true rfl), (Nat.le_of_ble_eq_true rfl)⟩) hS (fun q9 _ h9 => hF11 q9 h9) hF11 (fun r16 u15 t15 H15 L15 ht15 hvm15 hw15 hB15 hz15 hk15 hS => ?_)
  have hP := pq_keep hP hD [15, 14] rfl hk15 hB15.1 ht15
  have hG : s.heap.size + 2 ≤ H15.size := Nat.le_trans hG hz15
  refine W.eq (g2 := F0 m 22 ls [.int 1]) (by rw [hw15]) ?_
  refine lv_if_eq (tgt := 221) hx hb dX9_settledAll_22 (by decide) (fun cz => absurd cz (by decide)) (fun _ => ?_)
  refine lv_aload hx hb dX9_settledAll_25 (lv_at hl 0 rfl) ?_
  have hM19 := k752_next l hl9 dC dI z a10 h4 h6 H15.size kc2
  obtain ⟨hF17, hC20⟩ := pc_M hM19 hP hD hK hS hX hT hA [15, 14, 5] [2] rfl rfl rfl
  refine va_callFr (va_runF (As := []) (rest := []) (hK.1 1 (RJx35411, TJx35411, 4) rfl).2 ⟨hx, hb, hml, hown, hts⟩ hM19 (va_cwF 0 hts (gF q_308 q_309 q_310 q_246 q_307) rfl rfl rfl hT.2.2.2.2.2.2.2.1 hF_xIn ⟨Nat.le_of_ble_eq_true rfl, Nat.le_of_ble_eq_true rfl⟩) ⟨pc_blind, va_recv hK hP (ci := 1) (q := (RJx35411, TJx35411, 4)) (q0 := 15) rfl rfl, fun U hU hW => ⟨rfl, hC20 U hU hW⟩⟩ rfl rfl hl.1 rfl (lv_room (Nat.le_of_ble_eq_true rfl)) dX9_settledAll_27 ⟨(Nat.le_of_ble_eq_true rfl), (Nat.le_of_ble_eq_true rfl)⟩) hS (fun q9 _ h9 => hF17 q9 h9) hF17 (fun u21 r22 t21 H21 L21 ht21 hvm21 hw21 hB21 hz21 hk21 hS => ?_)
  obtain ⟨hr21, hB21⟩ := hB21
  obtain ⟨hP, hD, hK⟩ := pq_jn (wz := [(h0, ce21 h2 h3 o0 h4), (h1, ce447 kc0), (h2, ce331 h5), (h3, ce3 z.1), (h5, ce330 kc1 h7 h8 h9 h10 h11 h12 h13), (h7, ce49), (h8, ce49), (h9, ce49), (h10, ce49), (h11, ce49), (h12, ce49), (h13, ce49), (a1, ce51 k2), (a10, ce388 h4), (h4, ce366 h6), (h6, ce330 kc2 (z.2.2.1 128) (z.2.2.1 129) (z.2.2.1 130) (z.2.2.1 131) (z.2.2.1 132) (z.2.2.1 133) (z.2.2.1 134))]) (tz := [(kc0, .char), (kc1, .object "java/lang/Object"), (k2, .char), (kc2, .object "java/lang/Object")]) hP hD hK [15, 14, 5] [0, 1, 3] rfl hk21 hF17 hB21.1 ht21 hvm21 rfl rfl
  have hG : s.heap.size + 2 ≤ H21.size := Nat.le_trans hG hz21
  refine W.eq (g2 := F0 m 32 ls [.ref (z.2.2.1 128)]) (by rw [hr21]) ?_
  refine va_castE (nm := "java/lang/Integer") hx hb hown (hts _ q_320) (va_Orecv (hX.2.2.1.1.1 128 (by decide)) hS) dX9_settledAll_32 ?_
  have hM25 := k74_intValue l hl9 dC dI z H21.size
  obtain ⟨hF23, hC26⟩ := pc_M hM25 hP hD hK hS hX hT hA [] [] rfl rfl rfl
  refine va_calli (va_runV (As := []) (rest := []) ⟨hx, hb, hml, hown, hts⟩ hM25 (cwV 0 hts (gV q_323 q_324 q_325 q_297 q_322) rfl rfl rfl hV_J6_intValue_8abf5 ⟨Nat.le_of_ble_eq_true rfl, Nat.le_of_ble_eq_true rfl⟩) ⟨pc_blind, va_Orecv (hX.2.2.1.1.1 128 (by decide)) hS, fun U hU hW => ⟨rfl, hC26 U hU hW⟩⟩ rfl rfl hl.1 rfl (lv_room (Nat.le_of_ble_eq_true rfl)) dX9_settledAll_35 ⟨(Nat.le_of_ble_eq_true rfl), (Nat.le_of_ble_eq_true rfl)⟩) hS (fun q9 _ h9 => hF23 q9 h9) hF23 (fun r28 u27 t27 H27 L27 ht27 hvm27 hw27 hB27 hz27 hk27 hS => ?_)
  have hP := pq_keep hP hD [] rfl hk27 hB27.1 ht27
  have hG : s.heap.size + 2 ≤ H27.size := Nat.le_trans hG hz27
  refine W.eq (g2 := F0 m 38 ls [.int 0]) (by rw [hw27]) ?_
  refine lv_istore (lv' := [(6, .int 0), (5, .ref a10), (4, .ref a1), (0, .ref h0), (1, .ref h1), (2, .int 6), (3, .int 49)]) hx hb dX9_settledAll_38 hl (by decide) rfl (fun ls hl => ?_)
  refine lv_aload_n hx hb dX9_settledAll_40 rfl (lv_at hl 3 rfl) ?_
  refine va_get (D := (dC, dI)) (ci := 8) (v := .ref h2) (C := RX9) (T := TX9) (N := 6) hx hb hts in_X9 hown hK hP 0 rfl rfl 1 (by decide) (hts _ q_64) (fun _ h9 => h9) rfl dX9_settledAll_41 ?_
  refine lv_iload hx hb dX9_settledAll_44 (lv_at hl 0 rfl) ?_
  have hM31 := k632_get l hl9 dC dI z h2 h5 h7 h8 h9 h10 h11 h12 h13 H27.size kc1
  obtain ⟨hF29, hC32⟩ := pc_M hM31 hP hD hK hS hX hT hA [2, 4] [1] rfl rfl rfl
  refine va_callr (va_runV (As := [.int 0]) (rest := []) ⟨hx, hb, hml, hown, hts⟩ hM31 (cwV 1 hts (gV q_315 q_157 q_158 q_12 q_155) rfl rfl rfl hV_Jx4a65c_get_915e3 ⟨Nat.le_of_ble_eq_true rfl, Nat.le_of_ble_eq_true rfl⟩) ⟨pc_blind, va_recv hK hP (ci := 0) (q := (RJx4a65c, TJx4a65c, 3)) (q0 := 2) rfl rfl, fun U hU hW => ⟨rfl, hC32 U hU hW⟩⟩ rfl rfl hl.1 rfl (lv_room (Nat.le_of_ble_eq_true rfl)) dX9_settledAll_46 ⟨(Nat.le_of_ble_eq_true rfl), (Nat.le_of_ble_eq_true rfl)⟩) hS (fun q9 _ h9 => hF29 q9 h9) hF29 (fun u33 r34 t33 H33 L33 ht33 hvm33 hw33 hB33 hz33 hk33 hS => ?_)
  obtain ⟨hr33, hB33⟩ := hB33
  have hP := pq_keep hP hD [2, 4] rfl hk33 hB33.1 ht33
  have hG : s.heap.size + 2 ≤ H33.size := Nat.le_trans hG hz33
  refine W.eq (g2 := F0 m 49 ls [.ref h7]) (by rw [hr33]) ?_
  refine va_castE (nm := RX8) hx hb hown (hts _ q_273) (va_recv hK hP (ci := 7) (q := (RX8, TX8, 6)) (q0 := 5) rfl rfl) dX9_settledAll_49 ?_
  refine va_get (D := (dC, dI)) (ci := 7) (v := .int 105) (C := RX8) (T := TX8) (N := 6) hx hb hts in_X8 hown hK hP 5 rfl rfl 0 (by decide) (hts _ q_326) (fun _ h9 => h9) rfl dX9_settledAll_52 ?_
  refine lv_bipush (v := 98) hx hb dX9_settledAll_55 (by decide) ?_
  refine lv_icmp_ne (tgt := 64) hx hb dX9_settledAll_57 (by decide) (fun _ => ?_) (fun cz => absurd cz (by decide))
  refine lv_iconst (v := 0) hx hb dX9_settledAll_64 (by decide) ?_
  refine lv_istore (lv' := [(7, .int 0), (6, .int 0), (5, .ref a10), (4, .ref a1), (0, .ref h0), (1, .ref h1), (2, .int 6), (3, .int 49)]) hx hb dX9_settledAll_65 hl (by decide) rfl (fun ls hl => ?_)
  refine lv_aload hx hb dX9_settledAll_67 (lv_at hl 3 rfl) ?_
  refine lv_iload hx hb dX9_settledAll_69 (lv_at hl 1 rfl) ?_
  refine lv_iload hx hb dX9_settledAll_71 (lv_at hl 0 rfl) ?_
  refine lv_if_eq (tgt := 81) hx hb dX9_settledAll_73 (by decide) (fun _ => ?_) (fun cz => absurd (by decide) cz)
  refine lv_aload_n hx hb dX9_settledAll_81 rfl (lv_at hl 5 rfl) ?_
  refine lv_iload hx hb dX9_settledAll_82 (lv_at hl 1 rfl) ?_
  refine va_cald hx hb hK hP 1 0 rfl rfl (i := 0) (by unfold vp_in; decide) dX9_settledAll_84 ?_
  refine W.eq (g2 := F0 m 85 ls [.int 48, .int 0, .ref a1]) rfl ?_
  refine va_cast hx hb hK hP hD (va_Sre hS) 12 2 rfl rfl (i := 0) (by unfold vp_in; decide) dX9_settledAll_85 (fun H35 _ hP hD hS' => ?_)
  have hG : s.heap.size + 2 ≤ H35.size := Nat.le_trans hG hS'.1
  have hS := va_Str hS hS'
  have hP : va_P (dC, dI) xCl [(h0, ce21 h2 h3 o0 h4), (h1, ce447 kc0), (h2, ce331 h5), (h3, ce3 z.1), (h5, ce330 kc1 h7 h8 h9 h10 h11 h12 h13), (h7, ce49), (h8, ce49), (h9, ce49), (h10, ce49), (h11, ce49), (h12, ce49), (h13, ce49), (a1, ce441 k2), (a10, ce388 h4), (h4, ce366 h6), (h6, ce330 kc2 (z.2.2.1 128) (z.2.2.1 129) (z.2.2.1 130) (z.2.2.1 131) (z.2.2.1 132) (z.2.2.1 133) (z.2.2.1 134))] H35 := hP
  have hD := vd_as hP hD rfl
  refine lv_aload_n hx hb dX9_settledAll_86 rfl (lv_at hl 4 rfl) ?_
  refine va_get (D := (dC, dI)) (ci := 8) (v := .ref h3) (C := RX9) (T := TX9) (N := 6) hx hb hts in_X9 hown hK hP 0 rfl rfl 2 (by decide) (hts _ q_65) (fun _ h9 => h9) rfl dX9_settledAll_87 ?_
  have hM38 := k49_iterator l hl9 dC dI z h3 H35.size
  obtain ⟨hF36, hC39⟩ := pc_M hM38 hP hD hK hS hX hT hA [3] [] rfl rfl rfl
  refine va_callr (va_runV (As := []) (rest := []) ⟨hx, hb, hml, hown, hts⟩ hM38 (cwV 0 hts (gV q_256 q_257 q_258 q_12 q_255) rfl rfl rfl hV_Jx4a65c_iterator_32c93 ⟨Nat.le_of_ble_eq_true rfl, Nat.le_of_ble_eq_true rfl⟩) ⟨pc_blind, va_recv hK hP (ci := 0) (q := (RJx4a65c, TJx4a65c, 3)) (q0 := 3) rfl rfl, fun U hU hW => ⟨rfl, hC39 U hU hW⟩⟩ rfl rfl hl.1 rfl (lv_room (Nat.le_of_ble_eq_true rfl)) dX9_settledAll_90 ⟨(Nat.le_of_ble_eq_true rfl), (Nat.le_of_ble_eq_true rfl)⟩) hS (fun q9 _ h9 => hF36 q9 h9) hF36 (fun u40 r41 t40 H40 L40 ht40 hvm40 hw40 hB40 hz40 hk40 hS => ?_)
  obtain ⟨a42, hr40, hB40⟩ := hB40
  obtain ⟨hP, hD, hK⟩ := pq_jn (wz := [(h0, ce21 h2 h3 o0 h4), (h1, ce447 kc0), (h2, ce331 h5), (h5, ce330 kc1 h7 h8 h9 h10 h11 h12 h13), (h7, ce49), (h8, ce49), (h9, ce49), (h10, ce49), (h11, ce49), (h12, ce49), (h13, ce49), (a1, ce441 k2), (a10, ce388 h4), (h4, ce366 h6), (h6, ce330 kc2 (z.2.2.1 128) (z.2.2.1 129) (z.2.2.1 130) (z.2.2.1 131) (z.2.2.1 132) (z.2.2.1 133) (z.2.2.1 134)), (h3, ce3 z.1), (a42, ce44 h3)]) (tz := [(kc0, .char), (kc1, .object "java/lang/Object"), (k2, .char), (kc2, .object "java/lang/Object")]) hP hD hK [3] [0, 1, 2, 3] rfl hk40 hF36 hB40.1 ht40 hvm40 rfl rfl
  have hG : s.heap.size + 3 ≤ H40.size := va_gr (g := 2) (g1 := 1) hG (by rw [← ht40]; exact hB40.2)
  refine W.eq (g2 := F0 m 93 ls [.ref a42]) (by rw [hr40]) ?_
  refine W.widen (k := 3) (n := 48) (by decide) (by decide) ?_
  refine lv_astore (lv' := [(8, .ref a42), (7, .int 0), (6, .int 0), (5, .ref a10), (4, .ref a1), (0, .ref h0), (1, .ref h1), (2, .int 6), (3, .int 49)]) hx hb dX9_settledAll_93 hl (by decide) rfl (fun ls hl => ?_)
  refine lv_aload hx hb dX9_settledAll_95 (lv_at hl 0 rfl) ?_
  have hM45 := k50_hasNext l hl9 dC dI z a42 h3 H40.size
  obtain ⟨hF43, hC46⟩ := pc_M hM45 hP hD hK hS hX hT hA [16, 15] [] rfl rfl rfl
  refine va_callFi (va_runF (As := []) (rest := []) (hK.1 1 (RJx35411, TJx35411, 4) rfl).2 ⟨hx, hb, hml, hown, hts⟩ hM45 (va_cwF 0 hts (gF q_261 q_262 q_263 q_246 q_260) rfl rfl rfl hT.2.2.2.2.2.2.1 hF_xIh ⟨Nat.le_of_ble_eq_true rfl, Nat.le_of_ble_eq_true rfl⟩) ⟨pc_blind, va_recv hK hP (ci := 1) (q := (RJx35411, TJx35411, 4)) (q0 := 16) rfl rfl, fun U hU hW => ⟨rfl, hC46 U hU hW⟩⟩ rfl rfl hl.1 rfl (lv_room (Nat.le_of_ble_eq_true rfl)) dX9_settledAll_97 ⟨(Nat.le_of_ble_eq_true rfl), (Nat.le_of_ble_eq_true rfl)⟩) hS (fun q9 _ h9 => hF43 q9 h9) hF43 (fun r48 u47 t47 H47 L47 ht47 hvm47 hw47 hB47 hz47 hk47 hS => ?_)
  have hP := pq_keep hP hD [16, 15] rfl hk47 hB47.1 ht47
  have hG : s.heap.size + 3 ≤ H47.size := Nat.le_trans hG hz47
  refine W.eq (g2 := F0 m 102 ls [.int 0]) (by rw [hw47]) ?_
  refine lv_if_eq (tgt := 198) hx hb dX9_settledAll_102 (by decide) (fun _ => ?_) (fun cz => absurd (by decide) cz)
  refine lv_aload hx hb dX9_settledAll_198 (lv_at hl 4 rfl) ?_
  refine lv_iload hx hb dX9_settledAll_200 (lv_at hl 2 rfl) ?_
  refine lv_iload hx hb dX9_settledAll_202 (lv_at hl 2 rfl) ?_
  refine lv_iload_n hx hb dX9_settledAll_204 rfl (lv_at hl 7 rfl) ?_
  refine lv_icmp_ne (tgt := 212) hx hb dX9_settledAll_205 (by decide) (fun _ => ?_) (fun cz => absurd cz (by decide))
  refine lv_aload hx hb dX9_settledAll_212 (lv_at hl 4 rfl) ?_
  refine lv_iload hx hb dX9_settledAll_214 (lv_at hl 2 rfl) ?_
  refine va_cald hx hb hK hP 11 2 rfl rfl (i := 0) (by unfold vp_in; decide) dX9_settledAll_216 ?_
  refine W.eq (g2 := F0 m 217 ls [.int 48, .int 0, .ref a1]) rfl ?_
  refine va_cast hx hb hK hP hD (va_Sre hS) 11 2 rfl rfl (i := 0) (by unfold vp_in; decide) dX9_settledAll_217 (fun H49 _ hP hD hS' => ?_)
  have hG : s.heap.size + 3 ≤ H49.size := Nat.le_trans hG hS'.1
  have hS := va_Str hS hS'
  have hP : va_P (dC, dI) xCl [(h0, ce21 h2 h3 o0 h4), (h1, ce447 kc0), (h2, ce331 h5), (h5, ce330 kc1 h7 h8 h9 h10 h11 h12 h13), (h7, ce49), (h8, ce49), (h9, ce49), (h10, ce49), (h11, ce49), (h12, ce49), (h13, ce49), (a1, ce448 k2), (a10, ce388 h4), (h4, ce366 h6), (h6, ce330 kc2 (z.2.2.1 128) (z.2.2.1 129) (z.2.2.1 130) (z.2.2.1 131) (z.2.2.1 132) (z.2.2.1 133) (z.2.2.1 134)), (h3, ce3 z.1), (a42, ce44 h3)] H49 := hP
  have hD := vd_as hP hD rfl
  refine lv_goto (tgt := 15) hx hb dX9_settledAll_218 (by decide) ?_
  refine lv_aload hx hb dX9_settledAll_15 (lv_at hl 3 rfl) ?_
  have hM52 := k753_hasNext l hl9 dC dI z a10 h4 h6 H49.size
  obtain ⟨hF50, hC53⟩ := pc_M hM52 hP hD hK hS hX hT hA [12, 13] [] rfl rfl rfl
  refine va_callFi (va_runF (As := []) (rest := []) (hK.1 1 (RJx35411, TJx35411, 4) rfl).2 ⟨hx, hb, hml, hown, hts⟩ hM52 (va_cwF 0 hts (gF q_261 q_262 q_263 q_246 q_260) rfl rfl rfl hT.2.2.2.2.2.2.1 hF_xIh ⟨Nat.le_of_ble_eq_true rfl, Nat.le_of_ble_eq_true rfl⟩) ⟨pc_blind, va_recv hK hP (ci := 1) (q := (RJx35411, TJx35411, 4)) (q0 := 12) rfl rfl, fun U hU hW => ⟨rfl, hC53 U hU hW⟩⟩ rfl rfl hl.1 rfl (lv_room (Nat.le_of_ble_eq_true rfl)) dX9_settledAll_17 ⟨(Nat.le_of_ble_eq_true rfl), (Nat.le_of_ble_eq_true rfl)⟩) hS (fun q9 _ h9 => hF50 q9 h9) hF50 (fun r55 u54 t54 H54 L54 ht54 hvm54 hw54 hB54 hz54 hk54 hS => ?_)
  have hP := pq_keep hP hD [12, 13] rfl hk54 hB54.1 ht54
  have hG : s.heap.size + 3 ≤ H54.size := Nat.le_trans hG hz54
  refine W.eq (g2 := F0 m 22 ls [.int 1]) (by rw [hw54]) ?_
  refine lv_if_eq (tgt := 221) hx hb dX9_settledAll_22 (by decide) (fun cz => absurd cz (by decide)) (fun _ => ?_)
  refine lv_aload hx hb dX9_settledAll_25 (lv_at hl 3 rfl) ?_
  have hM58 := k755_next l hl9 dC dI z a10 h4 h6 H54.size kc2
  obtain ⟨hF56, hC59⟩ := pc_M hM58 hP hD hK hS hX hT hA [12, 13, 14] [3] rfl rfl rfl
  refine va_callFr (va_runF (As := []) (rest := []) (hK.1 1 (RJx35411, TJx35411, 4) rfl).2 ⟨hx, hb, hml, hown, hts⟩ hM58 (va_cwF 0 hts (gF q_308 q_309 q_310 q_246 q_307) rfl rfl rfl hT.2.2.2.2.2.2.2.1 hF_xIn ⟨Nat.le_of_ble_eq_true rfl, Nat.le_of_ble_eq_true rfl⟩) ⟨pc_blind, va_recv hK hP (ci := 1) (q := (RJx35411, TJx35411, 4)) (q0 := 12) rfl rfl, fun U hU hW => ⟨rfl, hC59 U hU hW⟩⟩ rfl rfl hl.1 rfl (lv_room (Nat.le_of_ble_eq_true rfl)) dX9_settledAll_27 ⟨(Nat.le_of_ble_eq_true rfl), (Nat.le_of_ble_eq_true rfl)⟩) hS (fun q9 _ h9 => hF56 q9 h9) hF56 (fun u60 r61 t60 H60 L60 ht60 hvm60 hw60 hB60 hz60 hk60 hS => ?_)
  obtain ⟨hr60, hB60⟩ := hB60
  obtain ⟨hP, hD, hK⟩ := pq_jn (wz := [(h0, ce21 h2 h3 o0 h4), (h1, ce447 kc0), (h2, ce331 h5), (h5, ce330 kc1 h7 h8 h9 h10 h11 h12 h13), (h7, ce49), (h8, ce49), (h9, ce49), (h10, ce49), (h11, ce49), (h12, ce49), (h13, ce49), (a1, ce448 k2), (h3, ce3 z.1), (a42, ce44 h3), (a10, ce390 h4), (h4, ce366 h6), (h6, ce330 kc2 (z.2.2.1 128) (z.2.2.1 129) (z.2.2.1 130) (z.2.2.1 131) (z.2.2.1 132) (z.2.2.1 133) (z.2.2.1 134))]) (tz := [(kc0, .char), (kc1, .object "java/lang/Object"), (k2, .char), (kc2, .object "java/lang/Object")]) hP hD hK [12, 13, 14] [0, 1, 2] rfl hk60 hF56 hB60.1 ht60 hvm60 rfl rfl
  have hG : s.heap.size + 3 ≤ H60.size := Nat.le_trans hG hz60
  refine W.eq (g2 := F0 m 32 ls [.ref (z.2.2.1 129)]) (by rw [hr60]) ?_
  refine va_castE (nm := "java/lang/Integer") hx hb hown (hts _ q_320) (va_Orecv (hX.2.2.1.1.1 129 (by decide)) hS) dX9_settledAll_32 ?_
  have hM64 := k151_intValue l hl9 dC dI z H60.size
  obtain ⟨hF62, hC65⟩ := pc_M hM64 hP hD hK hS hX hT hA [] [] rfl rfl rfl
  refine va_calli (va_runV (As := []) (rest := []) ⟨hx, hb, hml, hown, hts⟩ hM64 (cwV 0 hts (gV q_323 q_324 q_325 q_297 q_322) rfl rfl rfl hV_J6_intValue_8abf5 ⟨Nat.le_of_ble_eq_true rfl, Nat.le_of_ble_eq_true rfl⟩) ⟨pc_blind, va_Orecv (hX.2.2.1.1.1 129 (by decide)) hS, fun U hU hW => ⟨rfl, hC65 U hU hW⟩⟩ rfl rfl hl.1 rfl (lv_room (Nat.le_of_ble_eq_true rfl)) dX9_settledAll_35 ⟨(Nat.le_of_ble_eq_true rfl), (Nat.le_of_ble_eq_true rfl)⟩) hS (fun q9 _ h9 => hF62 q9 h9) hF62 (fun r67 u66 t66 H66 L66 ht66 hvm66 hw66 hB66 hz66 hk66 hS => ?_)
  have hP := pq_keep hP hD [] rfl hk66 hB66.1 ht66
  have hG : s.heap.size + 3 ≤ H66.size := Nat.le_trans hG hz66
  refine W.eq (g2 := F0 m 38 ls [.int 1]) (by rw [hw66]) ?_
  refine lv_istore (lv' := [(6, .int 1), (8, .ref a42), (7, .int 0), (5, .ref a10), (4, .ref a1), (0, .ref h0), (1, .ref h1), (2, .int 6), (3, .int 49)]) hx hb dX9_settledAll_38 hl (by decide) rfl (fun ls hl => ?_)
  refine lv_aload_n hx hb dX9_settledAll_40 rfl (lv_at hl 5 rfl) ?_
  refine va_get (D := (dC, dI)) (ci := 8) (v := .ref h2) (C := RX9) (T := TX9) (N := 6) hx hb hts in_X9 hown hK hP 0 rfl rfl 1 (by decide) (hts _ q_64) (fun _ h9 => h9) rfl dX9_settledAll_41 ?_
  refine lv_iload hx hb dX9_settledAll_44 (lv_at hl 0 rfl) ?_
  have hM70 := k636_get l hl9 dC dI z h2 h5 h7 h8 h9 h10 h11 h12 h13 H66.size kc1
  obtain ⟨hF68, hC71⟩ := pc_M hM70 hP hD hK hS hX hT hA [2, 3] [1] rfl rfl rfl
  refine va_callr (va_runV (As := [.int 1]) (rest := []) ⟨hx, hb, hml, hown, hts⟩ hM70 (cwV 1 hts (gV q_315 q_157 q_158 q_12 q_155) rfl rfl rfl hV_Jx4a65c_get_915e3 ⟨Nat.le_of_ble_eq_true rfl, Nat.le_of_ble_eq_true rfl⟩) ⟨pc_blind, va_recv hK hP (ci := 0) (q := (RJx4a65c, TJx4a65c, 3)) (q0 := 2) rfl rfl, fun U hU hW => ⟨rfl, hC71 U hU hW⟩⟩ rfl rfl hl.1 rfl (lv_room (Nat.le_of_ble_eq_true rfl)) dX9_settledAll_46 ⟨(Nat.le_of_ble_eq_true rfl), (Nat.le_of_ble_eq_true rfl)⟩) hS (fun q9 _ h9 => hF68 q9 h9) hF68 (fun u72 r73 t72 H72 L72 ht72 hvm72 hw72 hB72 hz72 hk72 hS => ?_)
  obtain ⟨hr72, hB72⟩ := hB72
  have hP := pq_keep hP hD [2, 3] rfl hk72 hB72.1 ht72
  have hG : s.heap.size + 3 ≤ H72.size := Nat.le_trans hG hz72
  refine W.eq (g2 := F0 m 49 ls [.ref h8]) (by rw [hr72]) ?_
  refine va_castE (nm := RX8) hx hb hown (hts _ q_273) (va_recv hK hP (ci := 7) (q := (RX8, TX8, 6)) (q0 := 5) rfl rfl) dX9_settledAll_49 ?_
  refine va_get (D := (dC, dI)) (ci := 7) (v := .int 105) (C := RX8) (T := TX8) (N := 6) hx hb hts in_X8 hown hK hP 5 rfl rfl 0 (by decide) (hts _ q_326) (fun _ h9 => h9) rfl dX9_settledAll_52 ?_
  refine lv_bipush (v := 98) hx hb dX9_settledAll_55 (by decide) ?_
  refine lv_icmp_ne (tgt := 64) hx hb dX9_settledAll_57 (by decide) (fun _ => ?_) (fun cz => absurd cz (by decide))
  refine lv_iconst (v := 0) hx hb dX9_settledAll_64 (by decide) ?_
  refine lv_istore (lv' := [(7, .int 0), (6, .int 1), (8, .ref a42), (5, .ref a10), (4, .ref a1), (0, .ref h0), (1, .ref h1), (2, .int 6), (3, .int 49)]) hx hb dX9_settledAll_65 hl (by decide) rfl (fun ls hl => ?_)
  refine lv_aload hx hb dX9_settledAll_67 (lv_at hl 4 rfl) ?_
  refine lv_iload hx hb dX9_settledAll_69 (lv_at hl 1 rfl) ?_
  refine lv_iload hx hb dX9_settledAll_71 (lv_at hl 0 rfl) ?_
  refine lv_if_eq (tgt := 81) hx hb dX9_settledAll_73 (by decide) (fun _ => ?_) (fun cz => absurd (by decide) cz)
  refine lv_aload_n hx hb dX9_settledAll_81 rfl (lv_at hl 6 rfl) ?_
  refine lv_iload hx hb dX9_settledAll_82 (lv_at hl 1 rfl) ?_
  refine va_cald hx hb hK hP 1 0 rfl rfl (i := 1) (by unfold vp_in; decide) dX9_settledAll_84 ?_
  refine W.eq (g2 := F0 m 85 ls [.int 48, .int 1, .ref a1]) rfl ?_
  refine va_cast hx hb hK hP hD (va_Sre hS) 11 2 rfl rfl (i := 1) (by unfold vp_in; decide) dX9_settledAll_85 (fun H74 _ hP hD hS' => ?_)
  have hG : s.heap.size + 3 ≤ H74.size := Nat.le_trans hG hS'.1
  have hS := va_Str hS hS'
  have hP : va_P (dC, dI) xCl [(h0, ce21 h2 h3 o0 h4), (h1, ce447 kc0), (h2, ce331 h5), (h5, ce330 kc1 h7 h8 h9 h10 h11 h12 h13), (h7, ce49), (h8, ce49), (h9, ce49), (h10, ce49), (h11, ce49), (h12, ce49), (h13, ce49), (a1, ce449 k2), (h3, ce3 z.1), (a42, ce44 h3), (a10, ce390 h4), (h4, ce366 h6), (h6, ce330 kc2 (z.2.2.1 128) (z.2.2.1 129) (z.2.2.1 130) (z.2.2.1 131) (z.2.2.1 132) (z.2.2.1 133) (z.2.2.1 134))] H74 := hP
  have hD := vd_as hP hD rfl
  refine lv_aload_n hx hb dX9_settledAll_86 rfl (lv_at hl 5 rfl) ?_
  refine va_get (D := (dC, dI)) (ci := 8) (v := .ref h3) (C := RX9) (T := TX9) (N := 6) hx hb hts in_X9 hown hK hP 0 rfl rfl 2 (by decide) (hts _ q_65) (fun _ h9 => h9) rfl dX9_settledAll_87 ?_
  have hM77 := k49_iterator l hl9 dC dI z h3 H74.size
  obtain ⟨hF75, hC78⟩ := pc_M hM77 hP hD hK hS hX hT hA [12] [] rfl rfl rfl
  refine va_callr (va_runV (As := []) (rest := []) ⟨hx, hb, hml, hown, hts⟩ hM77 (cwV 0 hts (gV q_256 q_257 q_258 q_12 q_255) rfl rfl rfl hV_Jx4a65c_iterator_32c93 ⟨Nat.le_of_ble_eq_true rfl, Nat.le_of_ble_eq_true rfl⟩) ⟨pc_blind, va_recv hK hP (ci := 0) (q := (RJx4a65c, TJx4a65c, 3)) (q0 := 12) rfl rfl, fun U hU hW => ⟨rfl, hC78 U hU hW⟩⟩ rfl rfl hl.1 rfl (lv_room (Nat.le_of_ble_eq_true rfl)) dX9_settledAll_90 ⟨(Nat.le_of_ble_eq_true rfl), (Nat.le_of_ble_eq_true rfl)⟩) hS (fun q9 _ h9 => hF75 q9 h9) hF75 (fun u79 r80 t79 H79 L79 ht79 hvm79 hw79 hB79 hz79 hk79 hS => ?_)
  obtain ⟨a81, hr79, hB79⟩ := hB79
  obtain ⟨hP, hD, hK⟩ := pq_jn (wz := [(h0, ce21 h2 h3 o0 h4), (h1, ce447 kc0), (h2, ce331 h5), (h5, ce330 kc1 h7 h8 h9 h10 h11 h12 h13), (h7, ce49), (h8, ce49), (h9, ce49), (h10, ce49), (h11, ce49), (h12, ce49), (h13, ce49), (a1, ce449 k2), (a42, ce44 h3), (a10, ce390 h4), (h4, ce366 h6), (h6, ce330 kc2 (z.2.2.1 128) (z.2.2.1 129) (z.2.2.1 130) (z.2.2.1 131) (z.2.2.1 132) (z.2.2.1 133) (z.2.2.1 134)), (h3, ce3 z.1), (a81, ce44 h3)]) (tz := [(kc0, .char), (kc1, .object "java/lang/Object"), (k2, .char), (kc2, .object "java/lang/Object")]) hP hD hK [12] [0, 1, 2, 3] rfl hk79 hF75 hB79.1 ht79 hvm79 rfl rfl
  have hG : s.heap.size + 4 ≤ H79.size := va_gr (g := 3) (g1 := 1) hG (by rw [← ht79]; exact hB79.2)
  refine W.eq (g2 := F0 m 93 ls [.ref a81]) (by rw [hr79]) ?_
  refine W.widen (k := 4) (n := 52) (by decide) (by decide) ?_
  refine lv_astore (lv' := [(8, .ref a81), (7, .int 0), (6, .int 1), (5, .ref a10), (4, .ref a1), (0, .ref h0), (1, .ref h1), (2, .int 6), (3, .int 49)]) hx hb dX9_settledAll_93 hl (by decide) rfl (fun ls hl => ?_)
  refine lv_aload hx hb dX9_settledAll_95 (lv_at hl 0 rfl) ?_
  have hM84 := k50_hasNext l hl9 dC dI z a81 h3 H79.size
  obtain ⟨hF82, hC85⟩ := pc_M hM84 hP hD hK hS hX hT hA [17, 16] [] rfl rfl rfl
  refine va_callFi (va_runF (As := []) (rest := []) (hK.1 1 (RJx35411, TJx35411, 4) rfl).2 ⟨hx, hb, hml, hown, hts⟩ hM84 (va_cwF 0 hts (gF q_261 q_262 q_263 q_246 q_260) rfl rfl rfl hT.2.2.2.2.2.2.1 hF_xIh ⟨Nat.le_of_ble_eq_true rfl, Nat.le_of_ble_eq_true rfl⟩) ⟨pc_blind, va_recv hK hP (ci := 1) (q := (RJx35411, TJx35411, 4)) (q0 := 17) rfl rfl, fun U hU hW => ⟨rfl, hC85 U hU hW⟩⟩ rfl rfl hl.1 rfl (lv_room (Nat.le_of_ble_eq_true rfl)) dX9_settledAll_97 ⟨(Nat.le_of_ble_eq_true rfl), (Nat.le_of_ble_eq_true rfl)⟩) hS (fun q9 _ h9 => hF82 q9 h9) hF82 (fun r87 u86 t86 H86 L86 ht86 hvm86 hw86 hB86 hz86 hk86 hS => ?_)
  have hP := pq_keep hP hD [17, 16] rfl hk86 hB86.1 ht86
  have hG : s.heap.size + 4 ≤ H86.size := Nat.le_trans hG hz86
  refine W.eq (g2 := F0 m 102 ls [.int 0]) (by rw [hw86]) ?_
  refine lv_if_eq (tgt := 198) hx hb dX9_settledAll_102 (by decide) (fun _ => ?_) (fun cz => absurd (by decide) cz)
  refine lv_aload hx hb dX9_settledAll_198 (lv_at hl 4 rfl) ?_
  refine lv_iload hx hb dX9_settledAll_200 (lv_at hl 2 rfl) ?_
  refine lv_iload hx hb dX9_settledAll_202 (lv_at hl 2 rfl) ?_
  refine lv_iload_n hx hb dX9_settledAll_204 rfl (lv_at hl 7 rfl) ?_
  refine lv_icmp_ne (tgt := 212) hx hb dX9_settledAll_205 (by decide) (fun _ => ?_) (fun cz => absurd cz (by decide))
  refine lv_aload hx hb dX9_settledAll_212 (lv_at hl 4 rfl) ?_
  refine lv_iload hx hb dX9_settledAll_214 (lv_at hl 2 rfl) ?_
  refine va_cald hx hb hK hP 11 2 rfl rfl (i := 1) (by unfold vp_in; decide) dX9_settledAll_216 ?_
  refine W.eq (g2 := F0 m 217 ls [.int 48, .int 1, .ref a1]) rfl ?_
  refine va_cast hx hb hK hP hD (va_Sre hS) 11 2 rfl rfl (i := 1) (by unfold vp_in; decide) dX9_settledAll_217 (fun H88 _ hP hD hS' => ?_)
  have hG : s.heap.size + 4 ≤ H88.size := Nat.le_trans hG hS'.1
  have hS := va_Str hS hS'
  have hP : va_P (dC, dI) xCl [(h0, ce21 h2 h3 o0 h4), (h1, ce447 kc0), (h2, ce331 h5), (h5, ce330 kc1 h7 h8 h9 h10 h11 h12 h13), (h7, ce49), (h8, ce49), (h9, ce49), (h10, ce49), (h11, ce49), (h12, ce49), (h13, ce49), (a1, ce450 k2), (a42, ce44 h3), (a10, ce390 h4), (h4, ce366 h6), (h6, ce330 kc2 (z.2.2.1 128) (z.2.2.1 129) (z.2.2.1 130) (z.2.2.1 131) (z.2.2.1 132) (z.2.2.1 133) (z.2.2.1 134)), (h3, ce3 z.1), (a81, ce44 h3)] H88 := hP
  have hD := vd_as hP hD rfl
  refine lv_goto (tgt := 15) hx hb dX9_settledAll_218 (by decide) ?_
  refine lv_aload hx hb dX9_settledAll_15 (lv_at hl 3 rfl) ?_
  have hM91 := k756_hasNext l hl9 dC dI z a10 h4 h6 H88.size
  obtain ⟨hF89, hC92⟩ := pc_M hM91 hP hD hK hS hX hT hA [13, 14] [] rfl rfl rfl
  refine va_callFi (va_runF (As := []) (rest := []) (hK.1 1 (RJx35411, TJx35411, 4) rfl).2 ⟨hx, hb, hml, hown, hts⟩ hM91 (va_cwF 0 hts (gF q_261 q_262 q_263 q_246 q_260) rfl rfl rfl hT.2.2.2.2.2.2.1 hF_xIh ⟨Nat.le_of_ble_eq_true rfl, Nat.le_of_ble_eq_true rfl⟩) ⟨pc_blind, va_recv hK hP (ci := 1) (q := (RJx35411, TJx35411, 4)) (q0 := 13) rfl rfl, fun U hU hW => ⟨rfl, hC92 U hU hW⟩⟩ rfl rfl hl.1 rfl (lv_room (Nat.le_of_ble_eq_true rfl)) dX9_settledAll_17 ⟨(Nat.le_of_ble_eq_true rfl), (Nat.le_of_ble_eq_true rfl)⟩) hS (fun q9 _ h9 => hF89 q9 h9) hF89 (fun r94 u93 t93 H93 L93 ht93 hvm93 hw93 hB93 hz93 hk93 hS => ?_)
  have hP := pq_keep hP hD [13, 14] rfl hk93 hB93.1 ht93
  have hG : s.heap.size + 4 ≤ H93.size := Nat.le_trans hG hz93
  refine W.eq (g2 := F0 m 22 ls [.int 1]) (by rw [hw93]) ?_
  refine lv_if_eq (tgt := 221) hx hb dX9_settledAll_22 (by decide) (fun cz => absurd cz (by decide)) (fun _ => ?_)
  refine lv_aload hx hb dX9_settledAll_25 (lv_at hl 3 rfl) ?_
  have hM97 := k758_next l hl9 dC dI z a10 h4 h6 H93.size kc2
  obtain ⟨hF95, hC98⟩ := pc_M hM97 hP hD hK hS hX hT hA [13, 14, 15] [3] rfl rfl rfl
  refine va_callFr (va_runF (As := []) (rest := []) (hK.1 1 (RJx35411, TJx35411, 4) rfl).2 ⟨hx, hb, hml, hown, hts⟩ hM97 (va_cwF 0 hts (gF q_308 q_309 q_310 q_246 q_307) rfl rfl rfl hT.2.2.2.2.2.2.2.1 hF_xIn ⟨Nat.le_of_ble_eq_true rfl, Nat.le_of_ble_eq_true rfl⟩) ⟨pc_blind, va_recv hK hP (ci := 1) (q := (RJx35411, TJx35411, 4)) (q0 := 13) rfl rfl, fun U hU hW => ⟨rfl, hC98 U hU hW⟩⟩ rfl rfl hl.1 rfl (lv_room (Nat.le_of_ble_eq_true rfl)) dX9_settledAll_27 ⟨(Nat.le_of_ble_eq_true rfl), (Nat.le_of_ble_eq_true rfl)⟩) hS (fun q9 _ h9 => hF95 q9 h9) hF95 (fun u99 r100 t99 H99 L99 ht99 hvm99 hw99 hB99 hz99 hk99 hS => ?_)
  obtain ⟨hr99, hB99⟩ := hB99
  obtain ⟨hP, hD, hK⟩ := pq_jn (wz := [(h0, ce21 h2 h3 o0 h4), (h1, ce447 kc0), (h2, ce331 h5), (h5, ce330 kc1 h7 h8 h9 h10 h11 h12 h13), (h7, ce49), (h8, ce49), (h9, ce49), (h10, ce49), (h11, ce49), (h12, ce49), (h13, ce49), (a1, ce450 k2), (a42, ce44 h3), (h3, ce3 z.1), (a81, ce44 h3), (a10, ce392 h4), (h4, ce366 h6), (h6, ce330 kc2 (z.2.2.1 128) (z.2.2.1 129) (z.2.2.1 130) (z.2.2.1 131) (z.2.2.1 132) (z.2.2.1 133) (z.2.2.1 134))]) (tz := [(kc0, .char), (kc1, .object "java/lang/Object"), (k2, .char), (kc2, .object "java/lang/Object")]) hP hD hK [13, 14, 15] [0, 1, 2] rfl hk99 hF95 hB99.1 ht99 hvm99 rfl rfl
  have hG : s.heap.size + 4 ≤ H99.size := Nat.le_trans hG hz99
  refine W.eq (g2 := F0 m 32 ls [.ref (z.2.2.1 130)]) (by rw [hr99]) ?_
  refine va_castE (nm := "java/lang/Integer") hx hb hown (hts _ q_320) (va_Orecv (hX.2.2.1.1.1 130 (by decide)) hS) dX9_settledAll_32 ?_
  have hM103 := k243_intValue l hl9 dC dI z H99.size
  obtain ⟨hF101, hC104⟩ := pc_M hM103 hP hD hK hS hX hT hA [] [] rfl rfl rfl
  refine va_calli (va_runV (As := []) (rest := []) ⟨hx, hb, hml, hown, hts⟩ hM103 (cwV 0 hts (gV q_323 q_324 q_325 q_297 q_322) rfl rfl rfl hV_J6_intValue_8abf5 ⟨Nat.le_of_ble_eq_true rfl, Nat.le_of_ble_eq_true rfl⟩) ⟨pc_blind, va_Orecv (hX.2.2.1.1.1 130 (by decide)) hS, fun U hU hW => ⟨rfl, hC104 U hU hW⟩⟩ rfl rfl hl.1 rfl (lv_room (Nat.le_of_ble_eq_true rfl)) dX9_settledAll_35 ⟨(Nat.le_of_ble_eq_true rfl), (Nat.le_of_ble_eq_true rfl)⟩) hS (fun q9 _ h9 => hF101 q9 h9) hF101 (fun r106 u105 t105 H105 L105 ht105 hvm105 hw105 hB105 hz105 hk105 hS => ?_)
  have hP := pq_keep hP hD [] rfl hk105 hB105.1 ht105
  have hG : s.heap.size + 4 ≤ H105.size := Nat.le_trans hG hz105
  refine W.eq (g2 := F0 m 38 ls [.int 2]) (by rw [hw105]) ?_
  refine lv_istore (lv' := [(6, .int 2), (8, .ref a81), (7, .int 0), (5, .ref a10), (4, .ref a1), (0, .ref h0), (1, .ref h1), (2, .int 6), (3, .int 49)]) hx hb dX9_settledAll_38 hl (by decide) rfl (fun ls hl => ?_)
  refine lv_aload_n hx hb dX9_settledAll_40 rfl (lv_at hl 5 rfl) ?_
  refine va_get (D := (dC, dI)) (ci := 8) (v := .ref h2) (C := RX9) (T := TX9) (N := 6) hx hb hts in_X9 hown hK hP 0 rfl rfl 1 (by decide) (hts _ q_64) (fun _ h9 => h9) rfl dX9_settledAll_41 ?_
  refine lv_iload hx hb dX9_settledAll_44 (lv_at hl 0 rfl) ?_
  have hM109 := k640_get l hl9 dC dI z h2 h5 h7 h8 h9 h10 h11 h12 h13 H105.size kc1
  obtain ⟨hF107, hC110⟩ := pc_M hM109 hP hD hK hS hX hT hA [2, 3] [1] rfl rfl rfl
  refine va_callr (va_runV (As := [.int 2]) (rest := []) ⟨hx, hb, hml, hown, hts⟩ hM109 (cwV 1 hts (gV q_315 q_157 q_158 q_12 q_155) rfl rfl rfl hV_Jx4a65c_get_915e3 ⟨Nat.le_of_ble_eq_true rfl, Nat.le_of_ble_eq_true rfl⟩) ⟨pc_blind, va_recv hK hP (ci := 0) (q := (RJx4a65c, TJx4a65c, 3)) (q0 := 2) rfl rfl, fun U hU hW => ⟨rfl, hC110 U hU hW⟩⟩ rfl rfl hl.1 rfl (lv_room (Nat.le_of_ble_eq_true rfl)) dX9_settledAll_46 ⟨(Nat.le_of_ble_eq_true rfl), (Nat.le_of_ble_eq_true rfl)⟩) hS (fun q9 _ h9 => hF107 q9 h9) hF107 (fun u111 r112 t111 H111 L111 ht111 hvm111 hw111 hB111 hz111 hk111 hS => ?_)
  obtain ⟨hr111, hB111⟩ := hB111
  have hP := pq_keep hP hD [2, 3] rfl hk111 hB111.1 ht111
  have hG : s.heap.size + 4 ≤ H111.size := Nat.le_trans hG hz111
  refine W.eq (g2 := F0 m 49 ls [.ref h9]) (by rw [hr111]) ?_
  refine va_castE (nm := RX8) hx hb hown (hts _ q_273) (va_recv hK hP (ci := 7) (q := (RX8, TX8, 6)) (q0 := 6) rfl rfl) dX9_settledAll_49 ?_
  refine va_get (D := (dC, dI)) (ci := 7) (v := .int 105) (C := RX8) (T := TX8) (N := 6) hx hb hts in_X8 hown hK hP 6 rfl rfl 0 (by decide) (hts _ q_326) (fun _ h9 => h9) rfl dX9_settledAll_52 ?_
  refine lv_bipush (v := 98) hx hb dX9_settledAll_55 (by decide) ?_
  refine lv_icmp_ne (tgt := 64) hx hb dX9_settledAll_57 (by decide) (fun _ => ?_) (fun cz => absurd cz (by decide))
  refine lv_iconst (v := 0) hx hb dX9_settledAll_64 (by decide) ?_
  refine lv_istore (lv' := [(7, .int 0), (6, .int 2), (8, .ref a81), (5, .ref a10), (4, .ref a1), (0, .ref h0), (1, .ref h1), (2, .int 6), (3, .int 49)]) hx hb dX9_settledAll_65 hl (by decide) rfl (fun ls hl => ?_)
  refine lv_aload hx hb dX9_settledAll_67 (lv_at hl 4 rfl) ?_
  refine lv_iload hx hb dX9_settledAll_69 (lv_at hl 1 rfl) ?_
  refine lv_iload hx hb dX9_settledAll_71 (lv_at hl 0 rfl) ?_
  refine lv_if_eq (tgt := 81) hx hb dX9_settledAll_73 (by decide) (fun _ => ?_) (fun cz => absurd (by decide) cz)
  refine lv_aload_n hx hb dX9_settledAll_81 rfl (lv_at hl 6 rfl) ?_
  refine lv_iload hx hb dX9_settledAll_82 (lv_at hl 1 rfl) ?_
  refine va_cald hx hb hK hP 1 0 rfl rfl (i := 2) (by unfold vp_in; decide) dX9_settledAll_84 ?_
  refine W.eq (g2 := F0 m 85 ls [.int 48, .int 2, .ref a1]) rfl ?_
  refine va_cast hx hb hK hP hD (va_Sre hS) 11 2 rfl rfl (i := 2) (by unfold vp_in; decide) dX9_settledAll_85 (fun H113 _ hP hD hS' => ?_)
  have hG : s.heap.size + 4 ≤ H113.size := Nat.le_trans hG hS'.1
  have hS := va_Str hS hS'
  have hP : va_P (dC, dI) xCl [(h0, ce21 h2 h3 o0 h4), (h1, ce447 kc0), (h2, ce331 h5), (h5, ce330 kc1 h7 h8 h9 h10 h11 h12 h13), (h7, ce49), (h8, ce49), (h9, ce49), (h10, ce49), (h11, ce49), (h12, ce49), (h13, ce49), (a1, ce451 k2), (a42, ce44 h3), (h3, ce3 z.1), (a81, ce44 h3), (a10, ce392 h4), (h4, ce366 h6), (h6, ce330 kc2 (z.2.2.1 128) (z.2.2.1 129) (z.2.2.1 130) (z.2.2.1 131) (z.2.2.1 132) (z.2.2.1 133) (z.2.2.1 134))] H113 := hP
  have hD := vd_as hP hD rfl
  refine lv_aload_n hx hb dX9_settledAll_86 rfl (lv_at hl 5 rfl) ?_
  refine va_get (D := (dC, dI)) (ci := 8) (v := .ref h3) (C := RX9) (T := TX9) (N := 6) hx hb hts in_X9 hown hK hP 0 rfl rfl 2 (by decide) (hts _ q_65) (fun _ h9 => h9) rfl dX9_settledAll_87 ?_
  have hM116 := k49_iterator l hl9 dC dI z h3 H113.size
  obtain ⟨hF114, hC117⟩ := pc_M hM116 hP hD hK hS hX hT hA [13] [] rfl rfl rfl
  refine va_callr (va_runV (As := []) (rest := []) ⟨hx, hb, hml, hown, hts⟩ hM116 (cwV 0 hts (gV q_256 q_257 q_258 q_12 q_255) rfl rfl rfl hV_Jx4a65c_iterator_32c93 ⟨Nat.le_of_ble_eq_true rfl, Nat.le_of_ble_eq_true rfl⟩) ⟨pc_blind, va_recv hK hP (ci := 0) (q := (RJx4a65c, TJx4a65c, 3)) (q0 := 13) rfl rfl, fun U hU hW => ⟨rfl, hC117 U hU hW⟩⟩ rfl rfl hl.1 rfl (lv_room (Nat.le_of_ble_eq_true rfl)) dX9_settledAll_90 ⟨(Nat.le_of_ble_eq_true rfl), (Nat.le_of_ble_eq_true rfl)⟩) hS (fun q9 _ h9 => hF114 q9 h9) hF114 (fun u118 r119 t118 H118 L118 ht118 hvm118 hw118 hB118 hz118 hk118 hS => ?_)
  obtain ⟨a120, hr118, hB118⟩ := hB118
  obtain ⟨hP, hD, hK⟩ := pq_jn (wz := [(h0, ce21 h2 h3 o0 h4), (h1, ce447 kc0), (h2, ce331 h5), (h5, ce330 kc1 h7 h8 h9 h10 h11 h12 h13), (h7, ce49), (h8, ce49), (h9, ce49), (h10, ce49), (h11, ce49), (h12, ce49), (h13, ce49), (a1, ce451 k2), (a42, ce44 h3), (a81, ce44 h3), (a10, ce392 h4), (h4, ce366 h6), (h6, ce330 kc2 (z.2.2.1 128) (z.2.2.1 129) (z.2.2.1 130) (z.2.2.1 131) (z.2.2.1 132) (z.2.2.1 133) (z.2.2.1 134)), (h3, ce3 z.1), (a120, ce44 h3)]) (tz := [(kc0, .char), (kc1, .object "java/lang/Object"), (k2, .char), (kc2, .object "java/lang/Object")]) hP hD hK [13] [0, 1, 2, 3] rfl hk118 hF114 hB118.1 ht118 hvm118 rfl rfl
  have hG : s.heap.size + 5 ≤ H118.size := va_gr (g := 4) (g1 := 1) hG (by rw [← ht118]; exact hB118.2)
  refine W.eq (g2 := F0 m 93 ls [.ref a120]) (by rw [hr118]) ?_
  refine W.widen (k := 5) (n := 56) (by decide) (by decide) ?_
  refine lv_astore (lv' := [(8, .ref a120), (7, .int 0), (6, .int 2), (5, .ref a10), (4, .ref a1), (0, .ref h0), (1, .ref h1), (2, .int 6), (3, .int 49)]) hx hb dX9_settledAll_93 hl (by decide) rfl (fun ls hl => ?_)
  refine lv_aload hx hb dX9_settledAll_95 (lv_at hl 0 rfl) ?_
  have hM123 := k50_hasNext l hl9 dC dI z a120 h3 H118.size
  obtain ⟨hF121, hC124⟩ := pc_M hM123 hP hD hK hS hX hT hA [18, 17] [] rfl rfl rfl
  refine va_callFi (va_runF (As := []) (rest := []) (hK.1 1 (RJx35411, TJx35411, 4) rfl).2 ⟨hx, hb, hml, hown, hts⟩ hM123 (va_cwF 0 hts (gF q_261 q_262 q_263 q_246 q_260) rfl rfl rfl hT.2.2.2.2.2.2.1 hF_xIh ⟨Nat.le_of_ble_eq_true rfl, Nat.le_of_ble_eq_true rfl⟩) ⟨pc_blind, va_recv hK hP (ci := 1) (q := (RJx35411, TJx35411, 4)) (q0 := 18) rfl rfl, fun U hU hW => ⟨rfl, hC124 U hU hW⟩⟩ rfl rfl hl.1 rfl (lv_room (Nat.le_of_ble_eq_true rfl)) dX9_settledAll_97 ⟨(Nat.le_of_ble_eq_true rfl), (Nat.le_of_ble_eq_true rfl)⟩) hS (fun q9 _ h9 => hF121 q9 h9) hF121 (fun r126 u125 t125 H125 L125 ht125 hvm125 hw125 hB125 hz125 hk125 hS => ?_)
  have hP := pq_keep hP hD [18, 17] rfl hk125 hB125.1 ht125
  have hG : s.heap.size + 5 ≤ H125.size := Nat.le_trans hG hz125
  refine W.eq (g2 := F0 m 102 ls [.int 0]) (by rw [hw125]) ?_
  refine lv_if_eq (tgt := 198) hx hb dX9_settledAll_102 (by decide) (fun _ => ?_) (fun cz => absurd (by decide) cz)
  refine lv_aload hx hb dX9_settledAll_198 (lv_at hl 4 rfl) ?_
  refine lv_iload hx hb dX9_settledAll_200 (lv_at hl 2 rfl) ?_
  refine lv_iload hx hb dX9_settledAll_202 (lv_at hl 2 rfl) ?_
  refine lv_iload_n hx hb dX9_settledAll_204 rfl (lv_at hl 7 rfl) ?_
  refine lv_icmp_ne (tgt := 212) hx hb dX9_settledAll_205 (by decide) (fun _ => ?_) (fun cz => absurd cz (by decide))
  refine lv_aload hx hb dX9_settledAll_212 (lv_at hl 4 rfl) ?_
  refine lv_iload hx hb dX9_settledAll_214 (lv_at hl 2 rfl) ?_
  refine va_cald hx hb hK hP 11 2 rfl rfl (i := 2) (by unfold vp_in; decide) dX9_settledAll_216 ?_
  refine W.eq (g2 := F0 m 217 ls [.int 48, .int 2, .ref a1]) rfl ?_
  refine va_cast hx hb hK hP hD (va_Sre hS) 11 2 rfl rfl (i := 2) (by unfold vp_in; decide) dX9_settledAll_217 (fun H127 _ hP hD hS' => ?_)
  have hG : s.heap.size + 5 ≤ H127.size := Nat.le_trans hG hS'.1
  have hS := va_Str hS hS'
  have hP : va_P (dC, dI) xCl [(h0, ce21 h2 h3 o0 h4), (h1, ce447 kc0), (h2, ce331 h5), (h5, ce330 kc1 h7 h8 h9 h10 h11 h12 h13), (h7, ce49), (h8, ce49), (h9, ce49), (h10, ce49), (h11, ce49), (h12, ce49), (h13, ce49), (a1, ce452 k2), (a42, ce44 h3), (a81, ce44 h3), (a10, ce392 h4), (h4, ce366 h6), (h6, ce330 kc2 (z.2.2.1 128) (z.2.2.1 129) (z.2.2.1 130) (z.2.2.1 131) (z.2.2.1 132) (z.2.2.1 133) (z.2.2.1 134)), (h3, ce3 z.1), (a120, ce44 h3)] H127 := hP
  have hD := vd_as hP hD rfl
  refine lv_goto (tgt := 15) hx hb dX9_settledAll_218 (by decide) ?_
  refine lv_aload hx hb dX9_settledAll_15 (lv_at hl 3 rfl) ?_
  have hM130 := k759_hasNext l hl9 dC dI z a10 h4 h6 H127.size
  obtain ⟨hF128, hC131⟩ := pc_M hM130 hP hD hK hS hX hT hA [14, 15] [] rfl rfl rfl
  refine va_callFi (va_runF (As := []) (rest := []) (hK.1 1 (RJx35411, TJx35411, 4) rfl).2 ⟨hx, hb, hml, hown, hts⟩ hM130 (va_cwF 0 hts (gF q_261 q_262 q_263 q_246 q_260) rfl rfl rfl hT.2.2.2.2.2.2.1 hF_xIh ⟨Nat.le_of_ble_eq_true rfl, Nat.le_of_ble_eq_true rfl⟩) ⟨pc_blind, va_recv hK hP (ci := 1) (q := (RJx35411, TJx35411, 4)) (q0 := 14) rfl rfl, fun U hU hW => ⟨rfl, hC131 U hU hW⟩⟩ rfl rfl hl.1 rfl (lv_room (Nat.le_of_ble_eq_true rfl)) dX9_settledAll_17 ⟨(Nat.le_of_ble_eq_true rfl), (Nat.le_of_ble_eq_true rfl)⟩) hS (fun q9 _ h9 => hF128 q9 h9) hF128 (fun r133 u132 t132 H132 L132 ht132 hvm132 hw132 hB132 hz132 hk132 hS => ?_)
  have hP := pq_keep hP hD [14, 15] rfl hk132 hB132.1 ht132
  have hG : s.heap.size + 5 ≤ H132.size := Nat.le_trans hG hz132
  refine W.eq (g2 := F0 m 22 ls [.int 1]) (by rw [hw132]) ?_
  refine lv_if_eq (tgt := 221) hx hb dX9_settledAll_22 (by decide) (fun cz => absurd cz (by decide)) (fun _ => ?_)
  refine lv_aload hx hb dX9_settledAll_25 (lv_at hl 3 rfl) ?_
  have hM136 := k761_next l hl9 dC dI z a10 h4 h6 H132.size kc2
  obtain ⟨hF134, hC137⟩ := pc_M hM136 hP hD hK hS hX hT hA [14, 15, 16] [3] rfl rfl rfl
  refine va_callFr (va_runF (As := []) (rest := []) (hK.1 1 (RJx35411, TJx35411, 4) rfl).2 ⟨hx, hb, hml, hown, hts⟩ hM136 (va_cwF 0 hts (gF q_308 q_309 q_310 q_246 q_307) rfl rfl rfl hT.2.2.2.2.2.2.2.1 hF_xIn ⟨Nat.le_of_ble_eq_true rfl, Nat.le_of_ble_eq_true rfl⟩) ⟨pc_blind, va_recv hK hP (ci := 1) (q := (RJx35411, TJx35411, 4)) (q0 := 14) rfl rfl, fun U hU hW => ⟨rfl, hC137 U hU hW⟩⟩ rfl rfl hl.1 rfl (lv_room (Nat.le_of_ble_eq_true rfl)) dX9_settledAll_27 ⟨(Nat.le_of_ble_eq_true rfl), (Nat.le_of_ble_eq_true rfl)⟩) hS (fun q9 _ h9 => hF134 q9 h9) hF134 (fun u138 r139 t138 H138 L138 ht138 hvm138 hw138 hB138 hz138 hk138 hS => ?_)
  obtain ⟨hr138, hB138⟩ := hB138
  obtain ⟨hP, hD, hK⟩ := pq_jn (wz := [(h0, ce21 h2 h3 o0 h4), (h1, ce447 kc0), (h2, ce331 h5), (h5, ce330 kc1 h7 h8 h9 h10 h11 h12 h13), (h7, ce49), (h8, ce49), (h9, ce49), (h10, ce49), (h11, ce49), (h12, ce49), (h13, ce49), (a1, ce452 k2), (a42, ce44 h3), (a81, ce44 h3), (h3, ce3 z.1), (a120, ce44 h3), (a10, ce394 h4), (h4, ce366 h6), (h6, ce330 kc2 (z.2.2.1 128) (z.2.2.1 129) (z.2.2.1 130) (z.2.2.1 131) (z.2.2.1 132) (z.2.2.1 133) (z.2.2.1 134))]) (tz := [(kc0, .char), (kc1, .object "java/lang/Object"), (k2, .char), (kc2, .object "java/lang/Object")]) hP hD hK [14, 15, 16] [0, 1, 2] rfl hk138 hF134 hB138.1 ht138 hvm138 rfl rfl
  have hG : s.heap.size + 5 ≤ H138.size := Nat.le_trans hG hz138
  refine W.eq (g2 := F0 m 32 ls [.ref (z.2.2.1 131)]) (by rw [hr138]) ?_
  refine va_castE (nm := "java/lang/Integer") hx hb hown (hts _ q_320) (va_Orecv (hX.2.2.1.1.1 131 (by decide)) hS) dX9_settledAll_32 ?_
  have hM142 := k351_intValue l hl9 dC dI z H138.size
  obtain ⟨hF140, hC143⟩ := pc_M hM142 hP hD hK hS hX hT hA [] [] rfl rfl rfl
  refine va_calli (va_runV (As := []) (rest := []) ⟨hx, hb, hml, hown, hts⟩ hM142 (cwV 0 hts (gV q_323 q_324 q_325 q_297 q_322) rfl rfl rfl hV_J6_intValue_8abf5 ⟨Nat.le_of_ble_eq_true rfl, Nat.le_of_ble_eq_true rfl⟩) ⟨pc_blind, va_Orecv (hX.2.2.1.1.1 131 (by decide)) hS, fun U hU hW => ⟨rfl, hC143 U hU hW⟩⟩ rfl rfl hl.1 rfl (lv_room (Nat.le_of_ble_eq_true rfl)) dX9_settledAll_35 ⟨(Nat.le_of_ble_eq_true rfl), (Nat.le_of_ble_eq_true rfl)⟩) hS (fun q9 _ h9 => hF140 q9 h9) hF140 (fun r145 u144 t144 H144 L144 ht144 hvm144 hw144 hB144 hz144 hk144 hS => ?_)
  have hP := pq_keep hP hD [] rfl hk144 hB144.1 ht144
  have hG : s.heap.size + 5 ≤ H144.size := Nat.le_trans hG hz144
  refine W.eq (g2 := F0 m 38 ls [.int 3]) (by rw [hw144]) ?_
  refine lv_istore (lv' := [(6, .int 3), (8, .ref a120), (7, .int 0), (5, .ref a10), (4, .ref a1), (0, .ref h0), (1, .ref h1), (2, .int 6), (3, .int 49)]) hx hb dX9_settledAll_38 hl (by decide) rfl (fun ls hl => ?_)
  refine lv_aload_n hx hb dX9_settledAll_40 rfl (lv_at hl 5 rfl) ?_
  refine va_get (D := (dC, dI)) (ci := 8) (v := .ref h2) (C := RX9) (T := TX9) (N := 6) hx hb hts in_X9 hown hK hP 0 rfl rfl 1 (by decide) (hts _ q_64) (fun _ h9 => h9) rfl dX9_settledAll_41 ?_
  refine lv_iload hx hb dX9_settledAll_44 (lv_at hl 0 rfl) ?_
  have hM148 := k644_get l hl9 dC dI z h2 h5 h7 h8 h9 h10 h11 h12 h13 H144.size kc1
  obtain ⟨hF146, hC149⟩ := pc_M hM148 hP hD hK hS hX hT hA [2, 3] [1] rfl rfl rfl
  refine va_callr (va_runV (As := [.int 3]) (rest := []) ⟨hx, hb, hml, hown, hts⟩ hM148 (cwV 1 hts (gV q_315 q_157 q_158 q_12 q_155) rfl rfl rfl hV_Jx4a65c_get_915e3 ⟨Nat.le_of_ble_eq_true rfl, Nat.le_of_ble_eq_true rfl⟩) ⟨pc_blind, va_recv hK hP (ci := 0) (q := (RJx4a65c, TJx4a65c, 3)) (q0 := 2) rfl rfl, fun U hU hW => ⟨rfl, hC149 U hU hW⟩⟩ rfl rfl hl.1 rfl (lv_room (Nat.le_of_ble_eq_true rfl)) dX9_settledAll_46 ⟨(Nat.le_of_ble_eq_true rfl), (Nat.le_of_ble_eq_true rfl)⟩) hS (fun q9 _ h9 => hF146 q9 h9) hF146 (fun u150 r151 t150 H150 L150 ht150 hvm150 hw150 hB150 hz150 hk150 hS => ?_)
  obtain ⟨hr150, hB150⟩ := hB150
  have hP := pq_keep hP hD [2, 3] rfl hk150 hB150.1 ht150
  have hG : s.heap.size + 5 ≤ H150.size := Nat.le_trans hG hz150
  refine W.eq (g2 := F0 m 49 ls [.ref h10]) (by rw [hr150]) ?_
  refine va_castE (nm := RX8) hx hb hown (hts _ q_273) (va_recv hK hP (ci := 7) (q := (RX8, TX8, 6)) (q0 := 7) rfl rfl) dX9_settledAll_49 ?_
  refine va_get (D := (dC, dI)) (ci := 7) (v := .int 105) (C := RX8) (T := TX8) (N := 6) hx hb hts in_X8 hown hK hP 7 rfl rfl 0 (by decide) (hts _ q_326) (fun _ h9 => h9) rfl dX9_settledAll_52 ?_
  refine lv_bipush (v := 98) hx hb dX9_settledAll_55 (by decide) ?_
  refine lv_icmp_ne (tgt := 64) hx hb dX9_settledAll_57 (by decide) (fun _ => ?_) (fun cz => absurd cz (by decide))
  refine lv_iconst (v := 0) hx hb dX9_settledAll_64 (by decide) ?_
  refine lv_istore (lv' := [(7, .int 0), (6, .int 3), (8, .ref a120), (5, .ref a10), (4, .ref a1), (0, .ref h0), (1, .ref h1), (2, .int 6), (3, .int 49)]) hx hb dX9_settledAll_65 hl (by decide) rfl (fun ls hl => ?_)
  refine lv_aload hx hb dX9_settledAll_67 (lv_at hl 4 rfl) ?_
  refine lv_iload hx hb dX9_settledAll_69 (lv_at hl 1 rfl) ?_
  refine lv_iload hx hb dX9_settledAll_71 (lv_at hl 0 rfl) ?_
  refine lv_if_eq (tgt := 81) hx hb dX9_settledAll_73 (by decide) (fun _ => ?_) (fun cz => absurd (by decide) cz)
  refine lv_aload_n hx hb dX9_settledAll_81 rfl (lv_at hl 6 rfl) ?_
  refine lv_iload hx hb dX9_settledAll_82 (lv_at hl 1 rfl) ?_
  refine va_cald hx hb hK hP 1 0 rfl rfl (i := 3) (by unfold vp_in; decide) dX9_settledAll_84 ?_
  refine W.eq (g2 := F0 m 85 ls [.int 48, .int 3, .ref a1]) rfl ?_
  refine va_cast hx hb hK hP hD (va_Sre hS) 11 2 rfl rfl (i := 3) (by unfold vp_in; decide) dX9_settledAll_85 (fun H152 _ hP hD hS' => ?_)
  have hG : s.heap.size + 5 ≤ H152.size := Nat.le_trans hG hS'.1
  have hS := va_Str hS hS'
  have hP : va_P (dC, dI) xCl [(h0, ce21 h2 h3 o0 h4), (h1, ce447 kc0), (h2, ce331 h5), (h5, ce330 kc1 h7 h8 h9 h10 h11 h12 h13), (h7, ce49), (h8, ce49), (h9, ce49), (h10, ce49), (h11, ce49), (h12, ce49), (h13, ce49), (a1, ce453 k2), (a42, ce44 h3), (a81, ce44 h3), (h3, ce3 z.1), (a120, ce44 h3), (a10, ce394 h4), (h4, ce366 h6), (h6, ce330 kc2 (z.2.2.1 128) (z.2.2.1 129) (z.2.2.1 130) (z.2.2.1 131) (z.2.2.1 132) (z.2.2.1 133) (z.2.2.1 134))] H152 := hP
  have hD := vd_as hP hD rfl
  refine lv_aload_n hx hb dX9_settledAll_86 rfl (lv_at hl 5 rfl) ?_
  refine va_get (D := (dC, dI)) (ci := 8) (v := .ref h3) (C := RX9) (T := TX9) (N := 6) hx hb hts in_X9 hown hK hP 0 rfl rfl 2 (by decide) (hts _ q_65) (fun _ h9 => h9) rfl dX9_settledAll_87 ?_
  have hM155 := k49_iterator l hl9 dC dI z h3 H152.size
  obtain ⟨hF153, hC156⟩ := pc_M hM155 hP hD hK hS hX hT hA [14] [] rfl rfl rfl
  refine va_callr (va_runV (As := []) (rest := []) ⟨hx, hb, hml, hown, hts⟩ hM155 (cwV 0 hts (gV q_256 q_257 q_258 q_12 q_255) rfl rfl rfl hV_Jx4a65c_iterator_32c93 ⟨Nat.le_of_ble_eq_true rfl, Nat.le_of_ble_eq_true rfl⟩) ⟨pc_blind, va_recv hK hP (ci := 0) (q := (RJx4a65c, TJx4a65c, 3)) (q0 := 14) rfl rfl, fun U hU hW => ⟨rfl, hC156 U hU hW⟩⟩ rfl rfl hl.1 rfl (lv_room (Nat.le_of_ble_eq_true rfl)) dX9_settledAll_90 ⟨(Nat.le_of_ble_eq_true rfl), (Nat.le_of_ble_eq_true rfl)⟩) hS (fun q9 _ h9 => hF153 q9 h9) hF153 (fun u157 r158 t157 H157 L157 ht157 hvm157 hw157 hB157 hz157 hk157 hS => ?_)
  obtain ⟨a159, hr157, hB157⟩ := hB157
  obtain ⟨hP, hD, hK⟩ := pq_jn (wz := [(h0, ce21 h2 h3 o0 h4), (h1, ce447 kc0), (h2, ce331 h5), (h5, ce330 kc1 h7 h8 h9 h10 h11 h12 h13), (h7, ce49), (h8, ce49), (h9, ce49), (h10, ce49), (h11, ce49), (h12, ce49), (h13, ce49), (a1, ce453 k2), (a42, ce44 h3), (a81, ce44 h3), (a120, ce44 h3), (a10, ce394 h4), (h4, ce366 h6), (h6, ce330 kc2 (z.2.2.1 128) (z.2.2.1 129) (z.2.2.1 130) (z.2.2.1 131) (z.2.2.1 132) (z.2.2.1 133) (z.2.2.1 134)), (h3, ce3 z.1), (a159, ce44 h3)]) (tz := [(kc0, .char), (kc1, .object "java/lang/Object"), (k2, .char), (kc2, .object "java/lang/Object")]) hP hD hK [14] [0, 1, 2, 3] rfl hk157 hF153 hB157.1 ht157 hvm157 rfl rfl
  have hG : s.heap.size + 6 ≤ H157.size := va_gr (g := 5) (g1 := 1) hG (by rw [← ht157]; exact hB157.2)
  refine W.eq (g2 := F0 m 93 ls [.ref a159]) (by rw [hr157]) ?_
  refine W.widen (k := 6) (n := 60) (by decide) (by decide) ?_
  refine lv_astore (lv' := [(8, .ref a159), (7, .int 0), (6, .int 3), (5, .ref a10), (4, .ref a1), (0, .ref h0), (1, .ref h1), (2, .int 6), (3, .int 49)]) hx hb dX9_settledAll_93 hl (by decide) rfl (fun ls hl => ?_)
  refine lv_aload hx hb dX9_settledAll_95 (lv_at hl 0 rfl) ?_
  have hM162 := k50_hasNext l hl9 dC dI z a159 h3 H157.size
  obtain ⟨hF160, hC163⟩ := pc_M hM162 hP hD hK hS hX hT hA [19, 18] [] rfl rfl rfl
  refine va_callFi (va_runF (As := []) (rest := []) (hK.1 1 (RJx35411, TJx35411, 4) rfl).2 ⟨hx, hb, hml, hown, hts⟩ hM162 (va_cwF 0 hts (gF q_261 q_262 q_263 q_246 q_260) rfl rfl rfl hT.2.2.2.2.2.2.1 hF_xIh ⟨Nat.le_of_ble_eq_true rfl, Nat.le_of_ble_eq_true rfl⟩) ⟨pc_blind, va_recv hK hP (ci := 1) (q := (RJx35411, TJx35411, 4)) (q0 := 19) rfl rfl, fun U hU hW => ⟨rfl, hC163 U hU hW⟩⟩ rfl rfl hl.1 rfl (lv_room (Nat.le_of_ble_eq_true rfl)) dX9_settledAll_97 ⟨(Nat.le_of_ble_eq_true rfl), (Nat.le_of_ble_eq_true rfl)⟩) hS (fun q9 _ h9 => hF160 q9 h9) hF160 (fun r165 u164 t164 H164 L164 ht164 hvm164 hw164 hB164 hz164 hk164 hS => ?_)
  have hP := pq_keep hP hD [19, 18] rfl hk164 hB164.1 ht164
  have hG : s.heap.size + 6 ≤ H164.size := Nat.le_trans hG hz164
  refine W.eq (g2 := F0 m 102 ls [.int 0]) (by rw [hw164]) ?_
  refine lv_if_eq (tgt := 198) hx hb dX9_settledAll_102 (by decide) (fun _ => ?_) (fun cz => absurd (by decide) cz)
  refine lv_aload hx hb dX9_settledAll_198 (lv_at hl 4 rfl) ?_
  refine lv_iload hx hb dX9_settledAll_200 (lv_at hl 2 rfl) ?_
  refine lv_iload hx hb dX9_settledAll_202 (lv_at hl 2 rfl) ?_
  refine lv_iload_n hx hb dX9_settledAll_204 rfl (lv_at hl 7 rfl) ?_
  refine lv_icmp_ne (tgt := 212) hx hb dX9_settledAll_205 (by decide) (fun _ => ?_) (fun cz => absurd cz (by decide))
  refine lv_aload hx hb dX9_settledAll_212 (lv_at hl 4 rfl) ?_
  refine lv_iload hx hb dX9_settledAll_214 (lv_at hl 2 rfl) ?_
  refine va_cald hx hb hK hP 11 2 rfl rfl (i := 3) (by unfold vp_in; decide) dX9_settledAll_216 ?_
  refine W.eq (g2 := F0 m 217 ls [.int 48, .int 3, .ref a1]) rfl ?_
  refine va_cast hx hb hK hP hD (va_Sre hS) 11 2 rfl rfl (i := 3) (by unfold vp_in; decide) dX9_settledAll_217 (fun H166 _ hP hD hS' => ?_)
  have hG : s.heap.size + 6 ≤ H166.size := Nat.le_trans hG hS'.1
  have hS := va_Str hS hS'
  have hP : va_P (dC, dI) xCl [(h0, ce21 h2 h3 o0 h4), (h1, ce447 kc0), (h2, ce331 h5), (h5, ce330 kc1 h7 h8 h9 h10 h11 h12 h13), (h7, ce49), (h8, ce49), (h9, ce49), (h10, ce49), (h11, ce49), (h12, ce49), (h13, ce49), (a1, ce454 k2), (a42, ce44 h3), (a81, ce44 h3), (a120, ce44 h3), (a10, ce394 h4), (h4, ce366 h6), (h6, ce330 kc2 (z.2.2.1 128) (z.2.2.1 129) (z.2.2.1 130) (z.2.2.1 131) (z.2.2.1 132) (z.2.2.1 133) (z.2.2.1 134)), (h3, ce3 z.1), (a159, ce44 h3)] H166 := hP
  have hD := vd_as hP hD rfl
  refine lv_goto (tgt := 15) hx hb dX9_settledAll_218 (by decide) ?_
  refine lv_aload hx hb dX9_settledAll_15 (lv_at hl 3 rfl) ?_
  have hM169 := k762_hasNext l hl9 dC dI z a10 h4 h6 H166.size
  obtain ⟨hF167, hC170⟩ := pc_M hM169 hP hD hK hS hX hT hA [15, 16] [] rfl rfl rfl
  refine va_callFi (va_runF (As := []) (rest := []) (hK.1 1 (RJx35411, TJx35411, 4) rfl).2 ⟨hx, hb, hml, hown, hts⟩ hM169 (va_cwF 0 hts (gF q_261 q_262 q_263 q_246 q_260) rfl rfl rfl hT.2.2.2.2.2.2.1 hF_xIh ⟨Nat.le_of_ble_eq_true rfl, Nat.le_of_ble_eq_true rfl⟩) ⟨pc_blind, va_recv hK hP (ci := 1) (q := (RJx35411, TJx35411, 4)) (q0 := 15) rfl rfl, fun U hU hW => ⟨rfl, hC170 U hU hW⟩⟩ rfl rfl hl.1 rfl (lv_room (Nat.le_of_ble_eq_true rfl)) dX9_settledAll_17 ⟨(Nat.le_of_ble_eq_true rfl), (Nat.le_of_ble_eq_true rfl)⟩) hS (fun q9 _ h9 => hF167 q9 h9) hF167 (fun r172 u171 t171 H171 L171 ht171 hvm171 hw171 hB171 hz171 hk171 hS => ?_)
  have hP := pq_keep hP hD [15, 16] rfl hk171 hB171.1 ht171
  have hG : s.heap.size + 6 ≤ H171.size := Nat.le_trans hG hz171
  refine W.eq (g2 := F0 m 22 ls [.int 1]) (by rw [hw171]) ?_
  refine lv_if_eq (tgt := 221) hx hb dX9_settledAll_22 (by decide) (fun cz => absurd cz (by decide)) (fun _ => ?_)
  refine lv_aload hx hb dX9_settledAll_25 (lv_at hl 3 rfl) ?_
  have hM175 := k764_next l hl9 dC dI z a10 h4 h6 H171.size kc2
  obtain ⟨hF173, hC176⟩ := pc_M hM175 hP hD hK hS hX hT hA [15, 16, 17] [3] rfl rfl rfl
  refine va_callFr (va_runF (As := []) (rest := []) (hK.1 1 (RJx35411, TJx35411, 4) rfl).2 ⟨hx, hb, hml, hown, hts⟩ hM175 (va_cwF 0 hts (gF q_308 q_309 q_310 q_246 q_307) rfl rfl rfl hT.2.2.2.2.2.2.2.1 hF_xIn ⟨Nat.le_of_ble_eq_true rfl, Nat.le_of_ble_eq_true rfl⟩) ⟨pc_blind, va_recv hK hP (ci := 1) (q := (RJx35411, TJx35411, 4)) (q0 := 15) rfl rfl, fun U hU hW => ⟨rfl, hC176 U hU hW⟩⟩ rfl rfl hl.1 rfl (lv_room (Nat.le_of_ble_eq_true rfl)) dX9_settledAll_27 ⟨(Nat.le_of_ble_eq_true rfl), (Nat.le_of_ble_eq_true rfl)⟩) hS (fun q9 _ h9 => hF173 q9 h9) hF173 (fun u177 r178 t177 H177 L177 ht177 hvm177 hw177 hB177 hz177 hk177 hS => ?_)
  obtain ⟨hr177, hB177⟩ := hB177
  obtain ⟨hP, hD, hK⟩ := pq_jn (wz := [(h0, ce21 h2 h3 o0 h4), (h1, ce447 kc0), (h2, ce331 h5), (h5, ce330 kc1 h7 h8 h9 h10 h11 h12 h13), (h7, ce49), (h8, ce49), (h9, ce49), (h10, ce49), (h11, ce49), (h12, ce49), (h13, ce49), (a1, ce454 k2), (a42, ce44 h3), (a81, ce44 h3), (a120, ce44 h3), (h3, ce3 z.1), (a159, ce44 h3), (a10, ce396 h4), (h4, ce366 h6), (h6, ce330 kc2 (z.2.2.1 128) (z.2.2.1 129) (z.2.2.1 130) (z.2.2.1 131) (z.2.2.1 132) (z.2.2.1 133) (z.2.2.1 134))]) (tz := [(kc0, .char), (kc1, .object "java/lang/Object"), (k2, .char), (kc2, .object "java/lang/Object")]) hP hD hK [15, 16, 17] [0, 1, 2] rfl hk177 hF173 hB177.1 ht177 hvm177 rfl rfl
  have hG : s.heap.size + 6 ≤ H177.size := Nat.le_trans hG hz177
  refine W.eq (g2 := F0 m 32 ls [.ref (z.2.2.1 132)]) (by rw [hr177]) ?_
  refine va_castE (nm := "java/lang/Integer") hx hb hown (hts _ q_320) (va_Orecv (hX.2.2.1.1.1 132 (by decide)) hS) dX9_settledAll_32 ?_
  have hM181 := k475_intValue l hl9 dC dI z H177.size
  obtain ⟨hF179, hC182⟩ := pc_M hM181 hP hD hK hS hX hT hA [] [] rfl rfl rfl
  refine va_calli (va_runV (As := []) (rest := []) ⟨hx, hb, hml, hown, hts⟩ hM181 (cwV 0 hts (gV q_323 q_324 q_325 q_297 q_322) rfl rfl rfl hV_J6_intValue_8abf5 ⟨Nat.le_of_ble_eq_true rfl, Nat.le_of_ble_eq_true rfl⟩) ⟨pc_blind, va_Orecv (hX.2.2.1.1.1 132 (by decide)) hS, fun U hU hW => ⟨rfl, hC182 U hU hW⟩⟩ rfl rfl hl.1 rfl (lv_room (Nat.le_of_ble_eq_true rfl)) dX9_settledAll_35 ⟨(Nat.le_of_ble_eq_true rfl), (Nat.le_of_ble_eq_true rfl)⟩) hS (fun q9 _ h9 => hF179 q9 h9) hF179 (fun r184 u183 t183 H183 L183 ht183 hvm183 hw183 hB183 hz183 hk183 hS => ?_)
  have hP := pq_keep hP hD [] rfl hk183 hB183.1 ht183
  have hG : s.heap.size + 6 ≤ H183.size := Nat.le_trans hG hz183
  refine W.eq (g2 := F0 m 38 ls [.int 4]) (by rw [hw183]) ?_
  refine lv_istore (lv' := [(6, .int 4), (8, .ref a159), (7, .int 0), (5, .ref a10), (4, .ref a1), (0, .ref h0), (1, .ref h1), (2, .int 6), (3, .int 49)]) hx hb dX9_settledAll_38 hl (by decide) rfl (fun ls hl => ?_)
  refine lv_aload_n hx hb dX9_settledAll_40 rfl (lv_at hl 5 rfl) ?_
  refine va_get (D := (dC, dI)) (ci := 8) (v := .ref h2) (C := RX9) (T := TX9) (N := 6) hx hb hts in_X9 hown hK hP 0 rfl rfl 1 (by decide) (hts _ q_64) (fun _ h9 => h9) rfl dX9_settledAll_41 ?_
  refine lv_iload hx hb dX9_settledAll_44 (lv_at hl 0 rfl) ?_
  have hM187 := k648_get l hl9 dC dI z h2 h5 h7 h8 h9 h10 h11 h12 h13 H183.size kc1
  obtain ⟨hF185, hC188⟩ := pc_M hM187 hP hD hK hS hX hT hA [2, 3] [1] rfl rfl rfl
  refine va_callr (va_runV (As := [.int 4]) (rest := []) ⟨hx, hb, hml, hown, hts⟩ hM187 (cwV 1 hts (gV q_315 q_157 q_158 q_12 q_155) rfl rfl rfl hV_Jx4a65c_get_915e3 ⟨Nat.le_of_ble_eq_true rfl, Nat.le_of_ble_eq_true rfl⟩) ⟨pc_blind, va_recv hK hP (ci := 0) (q := (RJx4a65c, TJx4a65c, 3)) (q0 := 2) rfl rfl, fun U hU hW => ⟨rfl, hC188 U hU hW⟩⟩ rfl rfl hl.1 rfl (lv_room (Nat.le_of_ble_eq_true rfl)) dX9_settledAll_46 ⟨(Nat.le_of_ble_eq_true rfl), (Nat.le_of_ble_eq_true rfl)⟩) hS (fun q9 _ h9 => hF185 q9 h9) hF185 (fun u189 r190 t189 H189 L189 ht189 hvm189 hw189 hB189 hz189 hk189 hS => ?_)
  obtain ⟨hr189, hB189⟩ := hB189
  have hP := pq_keep hP hD [2, 3] rfl hk189 hB189.1 ht189
  have hG : s.heap.size + 6 ≤ H189.size := Nat.le_trans hG hz189
  refine W.eq (g2 := F0 m 49 ls [.ref h11]) (by rw [hr189]) ?_
  refine va_castE (nm := RX8) hx hb hown (hts _ q_273) (va_recv hK hP (ci := 7) (q := (RX8, TX8, 6)) (q0 := 8) rfl rfl) dX9_settledAll_49 ?_
  refine va_get (D := (dC, dI)) (ci := 7) (v := .int 105) (C := RX8) (T := TX8) (N := 6) hx hb hts in_X8 hown hK hP 8 rfl rfl 0 (by decide) (hts _ q_326) (fun _ h9 => h9) rfl dX9_settledAll_52 ?_
  refine lv_bipush (v := 98) hx hb dX9_settledAll_55 (by decide) ?_
  refine lv_icmp_ne (tgt := 64) hx hb dX9_settledAll_57 (by decide) (fun _ => ?_) (fun cz => absurd cz (by decide))
  refine lv_iconst (v := 0) hx hb dX9_settledAll_64 (by decide) ?_
  refine lv_istore (lv' := [(7, .int 0), (6, .int 4), (8, .ref a159), (5, .ref a10), (4, .ref a1), (0, .ref h0), (1, .ref h1), (2, .int 6), (3, .int 49)]) hx hb dX9_settledAll_65 hl (by decide) rfl (fun ls hl => ?_)
  refine lv_aload hx hb dX9_settledAll_67 (lv_at hl 4 rfl) ?_
  refine lv_iload hx hb dX9_settledAll_69 (lv_at hl 1 rfl) ?_
  refine lv_iload hx hb dX9_settledAll_71 (lv_at hl 0 rfl) ?_
  refine lv_if_eq (tgt := 81) hx hb dX9_settledAll_73 (by decide) (fun _ => ?_) (fun cz => absurd (by decide) cz)
  refine lv_aload_n hx hb dX9_settledAll_81 rfl (lv_at hl 6 rfl) ?_
  refine lv_iload hx hb dX9_settledAll_82 (lv_at hl 1 rfl) ?_
  refine va_cald hx hb hK hP 1 0 rfl rfl (i := 4) (by unfold vp_in; decide) dX9_settledAll_84 ?_
  refine W.eq (g2 := F0 m 85 ls [.int 48, .int 4, .ref a1]) rfl ?_
  refine va_cast hx hb hK hP hD (va_Sre hS) 11 2 rfl rfl (i := 4) (by unfold vp_in; decide) dX9_settledAll_85 (fun H191 _ hP hD hS' => ?_)
  have hG : s.heap.size + 6 ≤ H191.size := Nat.le_trans hG hS'.1
  have hS := va_Str hS hS'
  have hP : va_P (dC, dI) xCl [(h0, ce21 h2 h3 o0 h4), (h1, ce447 kc0), (h2, ce331 h5), (h5, ce330 kc1 h7 h8 h9 h10 h11 h12 h13), (h7, ce49), (h8, ce49), (h9, ce49), (h10, ce49), (h11, ce49), (h12, ce49), (h13, ce49), (a1, ce455 k2), (a42, ce44 h3), (a81, ce44 h3), (a120, ce44 h3), (h3, ce3 z.1), (a159, ce44 h3), (a10, ce396 h4), (h4, ce366 h6), (h6, ce330 kc2 (z.2.2.1 128) (z.2.2.1 129) (z.2.2.1 130) (z.2.2.1 131) (z.2.2.1 132) (z.2.2.1 133) (z.2.2.1 134))] H191 := hP
  have hD := vd_as hP hD rfl
  refine lv_aload_n hx hb dX9_settledAll_86 rfl (lv_at hl 5 rfl) ?_
  refine va_get (D := (dC, dI)) (ci := 8) (v := .ref h3) (C := RX9) (T := TX9) (N := 6) hx hb hts in_X9 hown hK hP 0 rfl rfl 2 (by decide) (hts _ q_65) (fun _ h9 => h9) rfl dX9_settledAll_87 ?_
  have hM194 := k49_iterator l hl9 dC dI z h3 H191.size
  obtain ⟨hF192, hC195⟩ := pc_M hM194 hP hD hK hS hX hT hA [15] [] rfl rfl rfl
  refine va_callr (va_runV (As := []) (rest := []) ⟨hx, hb, hml, hown, hts⟩ hM194 (cwV 0 hts (gV q_256 q_257 q_258 q_12 q_255) rfl rfl rfl hV_Jx4a65c_iterator_32c93 ⟨Nat.le_of_ble_eq_true rfl, Nat.le_of_ble_eq_true rfl⟩) ⟨pc_blind, va_recv hK hP (ci := 0) (q := (RJx4a65c, TJx4a65c, 3)) (q0 := 15) rfl rfl, fun U hU hW => ⟨rfl, hC195 U hU hW⟩⟩ rfl rfl hl.1 rfl (lv_room (Nat.le_of_ble_eq_true rfl)) dX9_settledAll_90 ⟨(Nat.le_of_ble_eq_true rfl), (Nat.le_of_ble_eq_true rfl)⟩) hS (fun q9 _ h9 => hF192 q9 h9) hF192 (fun u196 r197 t196 H196 L196 ht196 hvm196 hw196 hB196 hz196 hk196 hS => ?_)
  obtain ⟨a198, hr196, hB196⟩ := hB196
  obtain ⟨hP, hD, hK⟩ := pq_jn (wz := [(h0, ce21 h2 h3 o0 h4), (h1, ce447 kc0), (h2, ce331 h5), (h5, ce330 kc1 h7 h8 h9 h10 h11 h12 h13), (h7, ce49), (h8, ce49), (h9, ce49), (h10, ce49), (h11, ce49), (h12, ce49), (h13, ce49), (a1, ce455 k2), (a42, ce44 h3), (a81, ce44 h3), (a120, ce44 h3), (a159, ce44 h3), (a10, ce396 h4), (h4, ce366 h6), (h6, ce330 kc2 (z.2.2.1 128) (z.2.2.1 129) (z.2.2.1 130) (z.2.2.1 131) (z.2.2.1 132) (z.2.2.1 133) (z.2.2.1 134)), (h3, ce3 z.1), (a198, ce44 h3)]) (tz := [(kc0, .char), (kc1, .object "java/lang/Object"), (k2, .char), (kc2, .object "java/lang/Object")]) hP hD hK [15] [0, 1, 2, 3] rfl hk196 hF192 hB196.1 ht196 hvm196 rfl rfl
  have hG : s.heap.size + 7 ≤ H196.size := va_gr (g := 6) (g1 := 1) hG (by rw [← ht196]; exact hB196.2)
  refine W.eq (g2 := F0 m 93 ls [.ref a198]) (by rw [hr196]) ?_
  refine W.widen (k := 7) (n := 64) (by decide) (by decide) ?_
  refine lv_astore (lv' := [(8, .ref a198), (7, .int 0), (6, .int 4), (5, .ref a10), (4, .ref a1), (0, .ref h0), (1, .ref h1), (2, .int 6), (3, .int 49)]) hx hb dX9_settledAll_93 hl (by decide) rfl (fun ls hl => ?_)
  refine lv_aload hx hb dX9_settledAll_95 (lv_at hl 0 rfl) ?_
  have hM201 := k50_hasNext l hl9 dC dI z a198 h3 H196.size
  obtain ⟨hF199, hC202⟩ := pc_M hM201 hP hD hK hS hX hT hA [20, 19] [] rfl rfl rfl
  refine va_callFi (va_runF (As := []) (rest := []) (hK.1 1 (RJx35411, TJx35411, 4) rfl).2 ⟨hx, hb, hml, hown, hts⟩ hM201 (va_cwF 0 hts (gF q_261 q_262 q_263 q_246 q_260) rfl rfl rfl hT.2.2.2.2.2.2.1 hF_xIh ⟨Nat.le_of_ble_eq_true rfl, Nat.le_of_ble_eq_true rfl⟩) ⟨pc_blind, va_recv hK hP (ci := 1) (q := (RJx35411, TJx35411, 4)) (q0 := 20) rfl rfl, fun U hU hW => ⟨rfl, hC202 U hU hW⟩⟩ rfl rfl hl.1 rfl (lv_room (Nat.le_of_ble_eq_true rfl)) dX9_settledAll_97 ⟨(Nat.le_of_ble_eq_true rfl), (Nat.le_of_ble_eq_true rfl)⟩) hS (fun q9 _ h9 => hF199 q9 h9) hF199 (fun r204 u203 t203 H203 L203 ht203 hvm203 hw203 hB203 hz203 hk203 hS => ?_)
  have hP := pq_keep hP hD [20, 19] rfl hk203 hB203.1 ht203
  have hG : s.heap.size + 7 ≤ H203.size := Nat.le_trans hG hz203
  refine W.eq (g2 := F0 m 102 ls [.int 0]) (by rw [hw203]) ?_
  refine lv_if_eq (tgt := 198) hx hb dX9_settledAll_102 (by decide) (fun _ => ?_) (fun cz => absurd (by decide) cz)
  refine lv_aload hx hb dX9_settledAll_198 (lv_at hl 4 rfl) ?_
  refine lv_iload hx hb dX9_settledAll_200 (lv_at hl 2 rfl) ?_
  refine lv_iload hx hb dX9_settledAll_202 (lv_at hl 2 rfl) ?_
  refine lv_iload_n hx hb dX9_settledAll_204 rfl (lv_at hl 7 rfl) ?_
  refine lv_icmp_ne (tgt := 212) hx hb dX9_settledAll_205 (by decide) (fun _ => ?_) (fun cz => absurd cz (by decide))
  refine lv_aload hx hb dX9_settledAll_212 (lv_at hl 4 rfl) ?_
  refine lv_iload hx hb dX9_settledAll_214 (lv_at hl 2 rfl) ?_
  refine va_cald hx hb hK hP 11 2 rfl rfl (i := 4) (by unfold vp_in; decide) dX9_settledAll_216 ?_
  refine W.eq (g2 := F0 m 217 ls [.int 48, .int 4, .ref a1]) rfl ?_
  refine va_cast hx hb hK hP hD (va_Sre hS) 11 2 rfl rfl (i := 4) (by unfold vp_in; decide) dX9_settledAll_217 (fun H205 _ hP hD hS' => ?_)
  have hG : s.heap.size + 7 ≤ H205.size := Nat.le_trans hG hS'.1
  have hS := va_Str hS hS'
  have hP : va_P (dC, dI) xCl [(h0, ce21 h2 h3 o0 h4), (h1, ce447 kc0), (h2, ce331 h5), (h5, ce330 kc1 h7 h8 h9 h10 h11 h12 h13), (h7, ce49), (h8, ce49), (h9, ce49), (h10, ce49), (h11, ce49), (h12, ce49), (h13, ce49), (a1, ce456 k2), (a42, ce44 h3), (a81, ce44 h3), (a120, ce44 h3), (a159, ce44 h3), (a10, ce396 h4), (h4, ce366 h6), (h6, ce330 kc2 (z.2.2.1 128) (z.2.2.1 129) (z.2.2.1 130) (z.2.2.1 131) (z.2.2.1 132) (z.2.2.1 133) (z.2.2.1 134)), (h3, ce3 z.1), (a198, ce44 h3)] H205 := hP
  have hD := vd_as hP hD rfl
  refine lv_goto (tgt := 15) hx hb dX9_settledAll_218 (by decide) ?_
  refine lv_aload hx hb dX9_settledAll_15 (lv_at hl 3 rfl) ?_
  have hM208 := k765_hasNext l hl9 dC dI z a10 h4 h6 H205.size
  obtain ⟨hF206, hC209⟩ := pc_M hM208 hP hD hK hS hX hT hA [16, 17] [] rfl rfl rfl
  refine va_callFi (va_runF (As := []) (rest := []) (hK.1 1 (RJx35411, TJx35411, 4) rfl).2 ⟨hx, hb, hml, hown, hts⟩ hM208 (va_cwF 0 hts (gF q_261 q_262 q_263 q_246 q_260) rfl rfl rfl hT.2.2.2.2.2.2.1 hF_xIh ⟨Nat.le_of_ble_eq_true rfl, Nat.le_of_ble_eq_true rfl⟩) ⟨pc_blind, va_recv hK hP (ci := 1) (q := (RJx35411, TJx35411, 4)) (q0 := 16) rfl rfl, fun U hU hW => ⟨rfl, hC209 U hU hW⟩⟩ rfl rfl hl.1 rfl (lv_room (Nat.le_of_ble_eq_true rfl)) dX9_settledAll_17 ⟨(Nat.le_of_ble_eq_true rfl), (Nat.le_of_ble_eq_true rfl)⟩) hS (fun q9 _ h9 => hF206 q9 h9) hF206 (fun r211 u210 t210 H210 L210 ht210 hvm210 hw210 hB210 hz210 hk210 hS => ?_)
  have hP := pq_keep hP hD [16, 17] rfl hk210 hB210.1 ht210
  have hG : s.heap.size + 7 ≤ H210.size := Nat.le_trans hG hz210
  refine W.eq (g2 := F0 m 22 ls [.int 1]) (by rw [hw210]) ?_
  refine lv_if_eq (tgt := 221) hx hb dX9_settledAll_22 (by decide) (fun cz => absurd cz (by decide)) (fun _ => ?_)
  refine lv_aload hx hb dX9_settledAll_25 (lv_at hl 3 rfl) ?_
  have hM214 := k767_next l hl9 dC dI z a10 h4 h6 H210.size kc2
  obtain ⟨hF212, hC215⟩ := pc_M hM214 hP hD hK hS hX hT hA [16, 17, 18] [3] rfl rfl rfl
  refine va_callFr (va_runF (As := []) (rest := []) (hK.1 1 (RJx35411, TJx35411, 4) rfl).2 ⟨hx, hb, hml, hown, hts⟩ hM214 (va_cwF 0 hts (gF q_308 q_309 q_310 q_246 q_307) rfl rfl rfl hT.2.2.2.2.2.2.2.1 hF_xIn ⟨Nat.le_of_ble_eq_true rfl, Nat.le_of_ble_eq_true rfl⟩) ⟨pc_blind, va_recv hK hP (ci := 1) (q := (RJx35411, TJx35411, 4)) (q0 := 16) rfl rfl, fun U hU hW => ⟨rfl, hC215 U hU hW⟩⟩ rfl rfl hl.1 rfl (lv_room (Nat.le_of_ble_eq_true rfl)) dX9_settledAll_27 ⟨(Nat.le_of_ble_eq_true rfl), (Nat.le_of_ble_eq_true rfl)⟩) hS (fun q9 _ h9 => hF212 q9 h9) hF212 (fun u216 r217 t216 H216 L216 ht216 hvm216 hw216 hB216 hz216 hk216 hS => ?_)
  obtain ⟨hr216, hB216⟩ := hB216
  obtain ⟨hP, hD, hK⟩ := pq_jn (wz := [(h0, ce21 h2 h3 o0 h4), (h1, ce447 kc0), (h2, ce331 h5), (h5, ce330 kc1 h7 h8 h9 h10 h11 h12 h13), (h7, ce49), (h8, ce49), (h9, ce49), (h10, ce49), (h11, ce49), (h12, ce49), (h13, ce49), (a1, ce456 k2), (a42, ce44 h3), (a81, ce44 h3), (a120, ce44 h3), (a159, ce44 h3), (h3, ce3 z.1), (a198, ce44 h3), (a10, ce398 h4), (h4, ce366 h6), (h6, ce330 kc2 (z.2.2.1 128) (z.2.2.1 129) (z.2.2.1 130) (z.2.2.1 131) (z.2.2.1 132) (z.2.2.1 133) (z.2.2.1 134))]) (tz := [(kc0, .char), (kc1, .object "java/lang/Object"), (k2, .char), (kc2, .object "java/lang/Object")]) hP hD hK [16, 17, 18] [0, 1, 2] rfl hk216 hF212 hB216.1 ht216 hvm216 rfl rfl
  have hG : s.heap.size + 7 ≤ H216.size := Nat.le_trans hG hz216
  refine W.eq (g2 := F0 m 32 ls [.ref (z.2.2.1 133)]) (by rw [hr216]) ?_
  refine va_castE (nm := "java/lang/Integer") hx hb hown (hts _ q_320) (va_Orecv (hX.2.2.1.1.1 133 (by decide)) hS) dX9_settledAll_32 ?_
  have hM220 := k615_intValue l hl9 dC dI z H216.size
  obtain ⟨hF218, hC221⟩ := pc_M hM220 hP hD hK hS hX hT hA [] [] rfl rfl rfl
  refine va_calli (va_runV (As := []) (rest := []) ⟨hx, hb, hml, hown, hts⟩ hM220 (cwV 0 hts (gV q_323 q_324 q_325 q_297 q_322) rfl rfl rfl hV_J6_intValue_8abf5 ⟨Nat.le_of_ble_eq_true rfl, Nat.le_of_ble_eq_true rfl⟩) ⟨pc_blind, va_Orecv (hX.2.2.1.1.1 133 (by decide)) hS, fun U hU hW => ⟨rfl, hC221 U hU hW⟩⟩ rfl rfl hl.1 rfl (lv_room (Nat.le_of_ble_eq_true rfl)) dX9_settledAll_35 ⟨(Nat.le_of_ble_eq_true rfl), (Nat.le_of_ble_eq_true rfl)⟩) hS (fun q9 _ h9 => hF218 q9 h9) hF218 (fun r223 u222 t222 H222 L222 ht222 hvm222 hw222 hB222 hz222 hk222 hS => ?_)
  have hP := pq_keep hP hD [] rfl hk222 hB222.1 ht222
  have hG : s.heap.size + 7 ≤ H222.size := Nat.le_trans hG hz222
  refine W.eq (g2 := F0 m 38 ls [.int 5]) (by rw [hw222]) ?_
  refine lv_istore (lv' := [(6, .int 5), (8, .ref a198), (7, .int 0), (5, .ref a10), (4, .ref a1), (0, .ref h0), (1, .ref h1), (2, .int 6), (3, .int 49)]) hx hb dX9_settledAll_38 hl (by decide) rfl (fun ls hl => ?_)
  refine lv_aload_n hx hb dX9_settledAll_40 rfl (lv_at hl 5 rfl) ?_
  refine va_get (D := (dC, dI)) (ci := 8) (v := .ref h2) (C := RX9) (T := TX9) (N := 6) hx hb hts in_X9 hown hK hP 0 rfl rfl 1 (by decide) (hts _ q_64) (fun _ h9 => h9) rfl dX9_settledAll_41 ?_
  refine lv_iload hx hb dX9_settledAll_44 (lv_at hl 0 rfl) ?_
  have hM226 := k652_get l hl9 dC dI z h2 h5 h7 h8 h9 h10 h11 h12 h13 H222.size kc1
  obtain ⟨hF224, hC227⟩ := pc_M hM226 hP hD hK hS hX hT hA [2, 3] [1] rfl rfl rfl
  refine va_callr (va_runV (As := [.int 5]) (rest := []) ⟨hx, hb, hml, hown, hts⟩ hM226 (cwV 1 hts (gV q_315 q_157 q_158 q_12 q_155) rfl rfl rfl hV_Jx4a65c_get_915e3 ⟨Nat.le_of_ble_eq_true rfl, Nat.le_of_ble_eq_true rfl⟩) ⟨pc_blind, va_recv hK hP (ci := 0) (q := (RJx4a65c, TJx4a65c, 3)) (q0 := 2) rfl rfl, fun U hU hW => ⟨rfl, hC227 U hU hW⟩⟩ rfl rfl hl.1 rfl (lv_room (Nat.le_of_ble_eq_true rfl)) dX9_settledAll_46 ⟨(Nat.le_of_ble_eq_true rfl), (Nat.le_of_ble_eq_true rfl)⟩) hS (fun q9 _ h9 => hF224 q9 h9) hF224 (fun u228 r229 t228 H228 L228 ht228 hvm228 hw228 hB228 hz228 hk228 hS => ?_)
  obtain ⟨hr228, hB228⟩ := hB228
  have hP := pq_keep hP hD [2, 3] rfl hk228 hB228.1 ht228
  have hG : s.heap.size + 7 ≤ H228.size := Nat.le_trans hG hz228
  refine W.eq (g2 := F0 m 49 ls [.ref h12]) (by rw [hr228]) ?_
  refine va_castE (nm := RX8) hx hb hown (hts _ q_273) (va_recv hK hP (ci := 7) (q := (RX8, TX8, 6)) (q0 := 9) rfl rfl) dX9_settledAll_49 ?_
  refine va_get (D := (dC, dI)) (ci := 7) (v := .int 105) (C := RX8) (T := TX8) (N := 6) hx hb hts in_X8 hown hK hP 9 rfl rfl 0 (by decide) (hts _ q_326) (fun _ h9 => h9) rfl dX9_settledAll_52 ?_
  refine lv_bipush (v := 98) hx hb dX9_settledAll_55 (by decide) ?_
  refine lv_icmp_ne (tgt := 64) hx hb dX9_settledAll_57 (by decide) (fun _ => ?_) (fun cz => absurd cz (by decide))
  refine lv_iconst (v := 0) hx hb dX9_settledAll_64 (by decide) ?_
  refine lv_istore (lv' := [(7, .int 0), (6, .int 5), (8, .ref a198), (5, .ref a10), (4, .ref a1), (0, .ref h0), (1, .ref h1), (2, .int 6), (3, .int 49)]) hx hb dX9_settledAll_65 hl (by decide) rfl (fun ls hl => ?_)
  refine lv_aload hx hb dX9_settledAll_67 (lv_at hl 4 rfl) ?_
  refine lv_iload hx hb dX9_settledAll_69 (lv_at hl 1 rfl) ?_
  refine lv_iload hx hb dX9_settledAll_71 (lv_at hl 0 rfl) ?_
  refine lv_if_eq (tgt := 81) hx hb dX9_settledAll_73 (by decide) (fun _ => ?_) (fun cz => absurd (by decide) cz)
  refine lv_aload_n hx hb dX9_settledAll_81 rfl (lv_at hl 6 rfl) ?_
  refine lv_iload hx hb dX9_settledAll_82 (lv_at hl 1 rfl) ?_
  refine va_cald hx hb hK hP 1 0 rfl rfl (i := 5) (by unfold vp_in; decide) dX9_settledAll_84 ?_
  refine W.eq (g2 := F0 m 85 ls [.int 48, .int 5, .ref a1]) rfl ?_
  refine va_cast hx hb hK hP hD (va_Sre hS) 11 2 rfl rfl (i := 5) (by unfold vp_in; decide) dX9_settledAll_85 (fun H230 _ hP hD hS' => ?_)
  have hG : s.heap.size + 7 ≤ H230.size := Nat.le_trans hG hS'.1
  have hS := va_Str hS hS'
  have hP : va_P (dC, dI) xCl [(h0, ce21 h2 h3 o0 h4), (h1, ce447 kc0), (h2, ce331 h5), (h5, ce330 kc1 h7 h8 h9 h10 h11 h12 h13), (h7, ce49), (h8, ce49), (h9, ce49), (h10, ce49), (h11, ce49), (h12, ce49), (h13, ce49), (a1, ce457 k2), (a42, ce44 h3), (a81, ce44 h3), (a120, ce44 h3), (a159, ce44 h3), (h3, ce3 z.1), (a198, ce44 h3), (a10, ce398 h4), (h4, ce366 h6), (h6, ce330 kc2 (z.2.2.1 128) (z.2.2.1 129) (z.2.2.1 130) (z.2.2.1 131) (z.2.2.1 132) (z.2.2.1 133) (z.2.2.1 134))] H230 := hP
  have hD := vd_as hP hD rfl
  refine lv_aload_n hx hb dX9_settledAll_86 rfl (lv_at hl 5 rfl) ?_
  refine va_get (D := (dC, dI)) (ci := 8) (v := .ref h3) (C := RX9) (T := TX9) (N := 6) hx hb hts in_X9 hown hK hP 0 rfl rfl 2 (by decide) (hts _ q_65) (fun _ h9 => h9) rfl dX9_settledAll_87 ?_
  have hM233 := k49_iterator l hl9 dC dI z h3 H230.size
  obtain ⟨hF231, hC234⟩ := pc_M hM233 hP hD hK hS hX hT hA [16] [] rfl rfl rfl
  refine va_callr (va_runV (As := []) (rest := []) ⟨hx, hb, hml, hown, hts⟩ hM233 (cwV 0 hts (gV q_256 q_257 q_258 q_12 q_255) rfl rfl rfl hV_Jx4a65c_iterator_32c93 ⟨Nat.le_of_ble_eq_true rfl, Nat.le_of_ble_eq_true rfl⟩) ⟨pc_blind, va_recv hK hP (ci := 0) (q := (RJx4a65c, TJx4a65c, 3)) (q0 := 16) rfl rfl, fun U hU hW => ⟨rfl, hC234 U hU hW⟩⟩ rfl rfl hl.1 rfl (lv_room (Nat.le_of_ble_eq_true rfl)) dX9_settledAll_90 ⟨(Nat.le_of_ble_eq_true rfl), (Nat.le_of_ble_eq_true rfl)⟩) hS (fun q9 _ h9 => hF231 q9 h9) hF231 (fun u235 r236 t235 H235 L235 ht235 hvm235 hw235 hB235 hz235 hk235 hS => ?_)
  obtain ⟨a237, hr235, hB235⟩ := hB235
  obtain ⟨hP, hD, hK⟩ := pq_jn (wz := [(h0, ce21 h2 h3 o0 h4), (h1, ce447 kc0), (h2, ce331 h5), (h5, ce330 kc1 h7 h8 h9 h10 h11 h12 h13), (h7, ce49), (h8, ce49), (h9, ce49), (h10, ce49), (h11, ce49), (h12, ce49), (h13, ce49), (a1, ce457 k2), (a42, ce44 h3), (a81, ce44 h3), (a120, ce44 h3), (a159, ce44 h3), (a198, ce44 h3), (a10, ce398 h4), (h4, ce366 h6), (h6, ce330 kc2 (z.2.2.1 128) (z.2.2.1 129) (z.2.2.1 130) (z.2.2.1 131) (z.2.2.1 132) (z.2.2.1 133) (z.2.2.1 134)), (h3, ce3 z.1), (a237, ce44 h3)]) (tz := [(kc0, .char), (kc1, .object "java/lang/Object"), (k2, .char), (kc2, .object "java/lang/Object")]) hP hD hK [16] [0, 1, 2, 3] rfl hk235 hF231 hB235.1 ht235 hvm235 rfl rfl
  have hG : s.heap.size + 8 ≤ H235.size := va_gr (g := 7) (g1 := 1) hG (by rw [← ht235]; exact hB235.2)
  refine W.eq (g2 := F0 m 93 ls [.ref a237]) (by rw [hr235]) ?_
  refine W.widen (k := 8) (n := 68) (by decide) (by decide) ?_
  refine lv_astore (lv' := [(8, .ref a237), (7, .int 0), (6, .int 5), (5, .ref a10), (4, .ref a1), (0, .ref h0), (1, .ref h1), (2, .int 6), (3, .int 49)]) hx hb dX9_settledAll_93 hl (by decide) rfl (fun ls hl => ?_)
  refine lv_aload hx hb dX9_settledAll_95 (lv_at hl 0 rfl) ?_
  have hM240 := k50_hasNext l hl9 dC dI z a237 h3 H235.size
  obtain ⟨hF238, hC241⟩ := pc_M hM240 hP hD hK hS hX hT hA [21, 20] [] rfl rfl rfl
  refine va_callFi (va_runF (As := []) (rest := []) (hK.1 1 (RJx35411, TJx35411, 4) rfl).2 ⟨hx, hb, hml, hown, hts⟩ hM240 (va_cwF 0 hts (gF q_261 q_262 q_263 q_246 q_260) rfl rfl rfl hT.2.2.2.2.2.2.1 hF_xIh ⟨Nat.le_of_ble_eq_true rfl, Nat.le_of_ble_eq_true rfl⟩) ⟨pc_blind, va_recv hK hP (ci := 1) (q := (RJx35411, TJx35411, 4)) (q0 := 21) rfl rfl, fun U hU hW => ⟨rfl, hC241 U hU hW⟩⟩ rfl rfl hl.1 rfl (lv_room (Nat.le_of_ble_eq_true rfl)) dX9_settledAll_97 ⟨(Nat.le_of_ble_eq_true rfl), (Nat.le_of_ble_eq_true rfl)⟩) hS (fun q9 _ h9 => hF238 q9 h9) hF238 (fun r243 u242 t242 H242 L242 ht242 hvm242 hw242 hB242 hz242 hk242 hS => ?_)
  have hP := pq_keep hP hD [21, 20] rfl hk242 hB242.1 ht242
  have hG : s.heap.size + 8 ≤ H242.size := Nat.le_trans hG hz242
  refine W.eq (g2 := F0 m 102 ls [.int 0]) (by rw [hw242]) ?_
  refine lv_if_eq (tgt := 198) hx hb dX9_settledAll_102 (by decide) (fun _ => ?_) (fun cz => absurd (by decide) cz)
  refine lv_aload hx hb dX9_settledAll_198 (lv_at hl 4 rfl) ?_
  refine lv_iload hx hb dX9_settledAll_200 (lv_at hl 2 rfl) ?_
  refine lv_iload hx hb dX9_settledAll_202 (lv_at hl 2 rfl) ?_
  refine lv_iload_n hx hb dX9_settledAll_204 rfl (lv_at hl 7 rfl) ?_
  refine lv_icmp_ne (tgt := 212) hx hb dX9_settledAll_205 (by decide) (fun _ => ?_) (fun cz => absurd cz (by decide))
  refine lv_aload hx hb dX9_settledAll_212 (lv_at hl 4 rfl) ?_
  refine lv_iload hx hb dX9_settledAll_214 (lv_at hl 2 rfl) ?_
  refine va_cald hx hb hK hP 11 2 rfl rfl (i := 5) (by unfold vp_in; decide) dX9_settledAll_216 ?_
  refine W.eq (g2 := F0 m 217 ls [.int 48, .int 5, .ref a1]) rfl ?_
  refine va_cast hx hb hK hP hD (va_Sre hS) 11 2 rfl rfl (i := 5) (by unfold vp_in; decide) dX9_settledAll_217 (fun H244 _ hP hD hS' => ?_)
  have hG : s.heap.size + 8 ≤ H244.size := Nat.le_trans hG hS'.1
  have hS := va_Str hS hS'
  have hP : va_P (dC, dI) xCl [(h0, ce21 h2 h3 o0 h4), (h1, ce447 kc0), (h2, ce331 h5), (h5, ce330 kc1 h7 h8 h9 h10 h11 h12 h13), (h7, ce49), (h8, ce49), (h9, ce49), (h10, ce49), (h11, ce49), (h12, ce49), (h13, ce49), (a1, ce458 k2), (a42, ce44 h3), (a81, ce44 h3), (a120, ce44 h3), (a159, ce44 h3), (a198, ce44 h3), (a10, ce398 h4), (h4, ce366 h6), (h6, ce330 kc2 (z.2.2.1 128) (z.2.2.1 129) (z.2.2.1 130) (z.2.2.1 131) (z.2.2.1 132) (z.2.2.1 133) (z.2.2.1 134)), (h3, ce3 z.1), (a237, ce44 h3)] H244 := hP
  have hD := vd_as hP hD rfl
  refine lv_goto (tgt := 15) hx hb dX9_settledAll_218 (by decide) ?_
  refine lv_aload hx hb dX9_settledAll_15 (lv_at hl 3 rfl) ?_
  have hM247 := k768_hasNext l hl9 dC dI z a10 h4 h6 H244.size
  obtain ⟨hF245, hC248⟩ := pc_M hM247 hP hD hK hS hX hT hA [17, 18] [] rfl rfl rfl
  refine va_callFi (va_runF (As := []) (rest := []) (hK.1 1 (RJx35411, TJx35411, 4) rfl).2 ⟨hx, hb, hml, hown, hts⟩ hM247 (va_cwF 0 hts (gF q_261 q_262 q_263 q_246 q_260) rfl rfl rfl hT.2.2.2.2.2.2.1 hF_xIh ⟨Nat.le_of_ble_eq_true rfl, Nat.le_of_ble_eq_true rfl⟩) ⟨pc_blind, va_recv hK hP (ci := 1) (q := (RJx35411, TJx35411, 4)) (q0 := 17) rfl rfl, fun U hU hW => ⟨rfl, hC248 U hU hW⟩⟩ rfl rfl hl.1 rfl (lv_room (Nat.le_of_ble_eq_true rfl)) dX9_settledAll_17 ⟨(Nat.le_of_ble_eq_true rfl), (Nat.le_of_ble_eq_true rfl)⟩) hS (fun q9 _ h9 => hF245 q9 h9) hF245 (fun r250 u249 t249 H249 L249 ht249 hvm249 hw249 hB249 hz249 hk249 hS => ?_)
  have hP := pq_keep hP hD [17, 18] rfl hk249 hB249.1 ht249
  have hG : s.heap.size + 8 ≤ H249.size := Nat.le_trans hG hz249
  refine W.eq (g2 := F0 m 22 ls [.int 1]) (by rw [hw249]) ?_
  refine lv_if_eq (tgt := 221) hx hb dX9_settledAll_22 (by decide) (fun cz => absurd cz (by decide)) (fun _ => ?_)
  refine lv_aload hx hb dX9_settledAll_25 (lv_at hl 3 rfl) ?_
  have hM253 := k770_next l hl9 dC dI z a10 h4 h6 H249.size kc2
  obtain ⟨hF251, hC254⟩ := pc_M hM253 hP hD hK hS hX hT hA [17, 18, 19] [3] rfl rfl rfl
  refine va_callFr (va_runF (As := []) (rest := []) (hK.1 1 (RJx35411, TJx35411, 4) rfl).2 ⟨hx, hb, hml, hown, hts⟩ hM253 (va_cwF 0 hts (gF q_308 q_309 q_310 q_246 q_307) rfl rfl rfl hT.2.2.2.2.2.2.2.1 hF_xIn ⟨Nat.le_of_ble_eq_true rfl, Nat.le_of_ble_eq_true rfl⟩) ⟨pc_blind, va_recv hK hP (ci := 1) (q := (RJx35411, TJx35411, 4)) (q0 := 17) rfl rfl, fun U hU hW => ⟨rfl, hC254 U hU hW⟩⟩ rfl rfl hl.1 rfl (lv_room (Nat.le_of_ble_eq_true rfl)) dX9_settledAll_27 ⟨(Nat.le_of_ble_eq_true rfl), (Nat.le_of_ble_eq_true rfl)⟩) hS (fun q9 _ h9 => hF251 q9 h9) hF251 (fun u255 r256 t255 H255 L255 ht255 hvm255 hw255 hB255 hz255 hk255 hS => ?_)
  obtain ⟨hr255, hB255⟩ := hB255
  obtain ⟨hP, hD, hK⟩ := pq_jn (wz := [(h0, ce21 h2 h3 o0 h4), (h1, ce447 kc0), (h2, ce331 h5), (h5, ce330 kc1 h7 h8 h9 h10 h11 h12 h13), (h7, ce49), (h8, ce49), (h9, ce49), (h10, ce49), (h11, ce49), (h12, ce49), (h13, ce49), (a1, ce458 k2), (a42, ce44 h3), (a81, ce44 h3), (a120, ce44 h3), (a159, ce44 h3), (a198, ce44 h3), (h3, ce3 z.1), (a237, ce44 h3), (a10, ce400 h4), (h4, ce366 h6), (h6, ce330 kc2 (z.2.2.1 128) (z.2.2.1 129) (z.2.2.1 130) (z.2.2.1 131) (z.2.2.1 132) (z.2.2.1 133) (z.2.2.1 134))]) (tz := [(kc0, .char), (kc1, .object "java/lang/Object"), (k2, .char), (kc2, .object "java/lang/Object")]) hP hD hK [17, 18, 19] [0, 1, 2] rfl hk255 hF251 hB255.1 ht255 hvm255 rfl rfl
  have hG : s.heap.size + 8 ≤ H255.size := Nat.le_trans hG hz255
  refine W.eq (g2 := F0 m 32 ls [.ref (z.2.2.1 134)]) (by rw [hr255]) ?_
  refine va_castE (nm := "java/lang/Integer") hx hb hown (hts _ q_320) (va_Orecv (hX.2.2.1.1.1 134 (by decide)) hS) dX9_settledAll_32 ?_
  have hM259 := k771_intValue l hl9 dC dI z H255.size
  obtain ⟨hF257, hC260⟩ := pc_M hM259 hP hD hK hS hX hT hA [] [] rfl rfl rfl
  refine va_calli (va_runV (As := []) (rest := []) ⟨hx, hb, hml, hown, hts⟩ hM259 (cwV 0 hts (gV q_323 q_324 q_325 q_297 q_322) rfl rfl rfl hV_J6_intValue_8abf5 ⟨Nat.le_of_ble_eq_true rfl, Nat.le_of_ble_eq_true rfl⟩) ⟨pc_blind, va_Orecv (hX.2.2.1.1.1 134 (by decide)) hS, fun U hU hW => ⟨rfl, hC260 U hU hW⟩⟩ rfl rfl hl.1 rfl (lv_room (Nat.le_of_ble_eq_true rfl)) dX9_settledAll_35 ⟨(Nat.le_of_ble_eq_true rfl), (Nat.le_of_ble_eq_true rfl)⟩) hS (fun q9 _ h9 => hF257 q9 h9) hF257 (fun r262 u261 t261 H261 L261 ht261 hvm261 hw261 hB261 hz261 hk261 hS => ?_)
  have hP := pq_keep hP hD [] rfl hk261 hB261.1 ht261
  have hG : s.heap.size + 8 ≤ H261.size := Nat.le_trans hG hz261
  refine W.eq (g2 := F0 m 38 ls [.int 6]) (by rw [hw261]) ?_
  refine lv_istore (lv' := [(6, .int 6), (8, .ref a237), (7, .int 0), (5, .ref a10), (4, .ref a1), (0, .ref h0), (1, .ref h1), (2, .int 6), (3, .int 49)]) hx hb dX9_settledAll_38 hl (by decide) rfl (fun ls hl => ?_)
  refine lv_aload_n hx hb dX9_settledAll_40 rfl (lv_at hl 5 rfl) ?_
  refine va_get (D := (dC, dI)) (ci := 8) (v := .ref h2) (C := RX9) (T := TX9) (N := 6) hx hb hts in_X9 hown hK hP 0 rfl rfl 1 (by decide) (hts _ q_64) (fun _ h9 => h9) rfl dX9_settledAll_41 ?_
  refine lv_iload hx hb dX9_settledAll_44 (lv_at hl 0 rfl) ?_
  have hM265 := k656_get l hl9 dC dI z h2 h5 h7 h8 h9 h10 h11 h12 h13 H261.size kc1
  obtain ⟨hF263, hC266⟩ := pc_M hM265 hP hD hK hS hX hT hA [2, 3] [1] rfl rfl rfl
  refine va_callr (va_runV (As := [.int 6]) (rest := []) ⟨hx, hb, hml, hown, hts⟩ hM265 (cwV 1 hts (gV q_315 q_157 q_158 q_12 q_155) rfl rfl rfl hV_Jx4a65c_get_915e3 ⟨Nat.le_of_ble_eq_true rfl, Nat.le_of_ble_eq_true rfl⟩) ⟨pc_blind, va_recv hK hP (ci := 0) (q := (RJx4a65c, TJx4a65c, 3)) (q0 := 2) rfl rfl, fun U hU hW => ⟨rfl, hC266 U hU hW⟩⟩ rfl rfl hl.1 rfl (lv_room (Nat.le_of_ble_eq_true rfl)) dX9_settledAll_46 ⟨(Nat.le_of_ble_eq_true rfl), (Nat.le_of_ble_eq_true rfl)⟩) hS (fun q9 _ h9 => hF263 q9 h9) hF263 (fun u267 r268 t267 H267 L267 ht267 hvm267 hw267 hB267 hz267 hk267 hS => ?_)
  obtain ⟨hr267, hB267⟩ := hB267
  have hP := pq_keep hP hD [2, 3] rfl hk267 hB267.1 ht267
  have hG : s.heap.size + 8 ≤ H267.size := Nat.le_trans hG hz267
  refine W.eq (g2 := F0 m 49 ls [.ref h13]) (by rw [hr267]) ?_
  refine va_castE (nm := RX8) hx hb hown (hts _ q_273) (va_recv hK hP (ci := 7) (q := (RX8, TX8, 6)) (q0 := 10) rfl rfl) dX9_settledAll_49 ?_
  refine va_get (D := (dC, dI)) (ci := 7) (v := .int 105) (C := RX8) (T := TX8) (N := 6) hx hb hts in_X8 hown hK hP 10 rfl rfl 0 (by decide) (hts _ q_326) (fun _ h9 => h9) rfl dX9_settledAll_52 ?_
  refine lv_bipush (v := 98) hx hb dX9_settledAll_55 (by decide) ?_
  refine lv_icmp_ne (tgt := 64) hx hb dX9_settledAll_57 (by decide) (fun _ => ?_) (fun cz => absurd cz (by decide))
  refine lv_iconst (v := 0) hx hb dX9_settledAll_64 (by decide) ?_
  refine lv_istore (lv' := [(7, .int 0), (6, .int 6), (8, .ref a237), (5, .ref a10), (4, .ref a1), (0, .ref h0), (1, .ref h1), (2, .int 6), (3, .int 49)]) hx hb dX9_settledAll_65 hl (by decide) rfl (fun ls hl => ?_)
  refine lv_aload hx hb dX9_settledAll_67 (lv_at hl 4 rfl) ?_
  refine lv_iload hx hb dX9_settledAll_69 (lv_at hl 1 rfl) ?_
  refine lv_iload hx hb dX9_settledAll_71 (lv_at hl 0 rfl) ?_
  refine lv_if_eq (tgt := 81) hx hb dX9_settledAll_73 (by decide) (fun _ => ?_) (fun cz => absurd (by decide) cz)
  refine lv_aload_n hx hb dX9_settledAll_81 rfl (lv_at hl 6 rfl) ?_
  refine lv_iload hx hb dX9_settledAll_82 (lv_at hl 1 rfl) ?_
  refine va_cald hx hb hK hP 1 0 rfl rfl (i := 6) (by unfold vp_in; decide) dX9_settledAll_84 ?_
  refine W.eq (g2 := F0 m 85 ls [.int 48, .int 6, .ref a1]) rfl ?_
  refine va_cast hx hb hK hP hD (va_Sre hS) 11 2 rfl rfl (i := 6) (by unfold vp_in; decide) dX9_settledAll_85 (fun H269 _ hP hD hS' => ?_)
  have hG : s.heap.size + 8 ≤ H269.size := Nat.le_trans hG hS'.1
  have hS := va_Str hS hS'
  have hP : va_P (dC, dI) xCl [(h0, ce21 h2 h3 o0 h4), (h1, ce447 kc0), (h2, ce331 h5), (h5, ce330 kc1 h7 h8 h9 h10 h11 h12 h13), (h7, ce49), (h8, ce49), (h9, ce49), (h10, ce49), (h11, ce49), (h12, ce49), (h13, ce49), (a1, ce459 k2), (a42, ce44 h3), (a81, ce44 h3), (a120, ce44 h3), (a159, ce44 h3), (a198, ce44 h3), (h3, ce3 z.1), (a237, ce44 h3), (a10, ce400 h4), (h4, ce366 h6), (h6, ce330 kc2 (z.2.2.1 128) (z.2.2.1 129) (z.2.2.1 130) (z.2.2.1 131) (z.2.2.1 132) (z.2.2.1 133) (z.2.2.1 134))] H269 := hP
  have hD := vd_as hP hD rfl
  refine lv_aload_n hx hb dX9_settledAll_86 rfl (lv_at hl 5 rfl) ?_
  refine va_get (D := (dC, dI)) (ci := 8) (v := .ref h3) (C := RX9) (T := TX9) (N := 6) hx hb hts in_X9 hown hK hP 0 rfl rfl 2 (by decide) (hts _ q_65) (fun _ h9 => h9) rfl dX9_settledAll_87 ?_
  have hM272 := k49_iterator l hl9 dC dI z h3 H269.size
  obtain ⟨hF270, hC273⟩ := pc_M hM272 hP hD hK hS hX hT hA [17] [] rfl rfl rfl
  refine va_callr (va_runV (As := []) (rest := []) ⟨hx, hb, hml, hown, hts⟩ hM272 (cwV 0 hts (gV q_256 q_257 q_258 q_12 q_255) rfl rfl rfl hV_Jx4a65c_iterator_32c93 ⟨Nat.le_of_ble_eq_true rfl, Nat.le_of_ble_eq_true rfl⟩) ⟨pc_blind, va_recv hK hP (ci := 0) (q := (RJx4a65c, TJx4a65c, 3)) (q0 := 17) rfl rfl, fun U hU hW => ⟨rfl, hC273 U hU hW⟩⟩ rfl rfl hl.1 rfl (lv_room (Nat.le_of_ble_eq_true rfl)) dX9_settledAll_90 ⟨(Nat.le_of_ble_eq_true rfl), (Nat.le_of_ble_eq_true rfl)⟩) hS (fun q9 _ h9 => hF270 q9 h9) hF270 (fun u274 r275 t274 H274 L274 ht274 hvm274 hw274 hB274 hz274 hk274 hS => ?_)
  obtain ⟨a276, hr274, hB274⟩ := hB274
  obtain ⟨hP, hD, hK⟩ := pq_jn (wz := [(h0, ce21 h2 h3 o0 h4), (h1, ce447 kc0), (h2, ce331 h5), (h5, ce330 kc1 h7 h8 h9 h10 h11 h12 h13), (h7, ce49), (h8, ce49), (h9, ce49), (h10, ce49), (h11, ce49), (h12, ce49), (h13, ce49), (a1, ce459 k2), (a42, ce44 h3), (a81, ce44 h3), (a120, ce44 h3), (a159, ce44 h3), (a198, ce44 h3), (a237, ce44 h3), (a10, ce400 h4), (h4, ce366 h6), (h6, ce330 kc2 (z.2.2.1 128) (z.2.2.1 129) (z.2.2.1 130) (z.2.2.1 131) (z.2.2.1 132) (z.2.2.1 133) (z.2.2.1 134)), (h3, ce3 z.1), (a276, ce44 h3)]) (tz := [(kc0, .char), (kc1, .object "java/lang/Object"), (k2, .char), (kc2, .object "java/lang/Object")]) hP hD hK [17] [0, 1, 2, 3] rfl hk274 hF270 hB274.1 ht274 hvm274 rfl rfl
  have hG : s.heap.size + 9 ≤ H274.size := va_gr (g := 8) (g1 := 1) hG (by rw [← ht274]; exact hB274.2)
  refine W.eq (g2 := F0 m 93 ls [.ref a276]) (by rw [hr274]) ?_
  refine W.widen (k := 9) (n := 72) (by decide) (by decide) ?_
  refine lv_astore (lv' := [(8, .ref a276), (7, .int 0), (6, .int 6), (5, .ref a10), (4, .ref a1), (0, .ref h0), (1, .ref h1), (2, .int 6), (3, .int 49)]) hx hb dX9_settledAll_93 hl (by decide) rfl (fun ls hl => ?_)
  refine lv_aload hx hb dX9_settledAll_95 (lv_at hl 0 rfl) ?_
  have hM279 := k50_hasNext l hl9 dC dI z a276 h3 H274.size
  obtain ⟨hF277, hC280⟩ := pc_M hM279 hP hD hK hS hX hT hA [22, 21] [] rfl rfl rfl
  refine va_callFi (va_runF (As := []) (rest := []) (hK.1 1 (RJx35411, TJx35411, 4) rfl).2 ⟨hx, hb, hml, hown, hts⟩ hM279 (va_cwF 0 hts (gF q_261 q_262 q_263 q_246 q_260) rfl rfl rfl hT.2.2.2.2.2.2.1 hF_xIh ⟨Nat.le_of_ble_eq_true rfl, Nat.le_of_ble_eq_true rfl⟩) ⟨pc_blind, va_recv hK hP (ci := 1) (q := (RJx35411, TJx35411, 4)) (q0 := 22) rfl rfl, fun U hU hW => ⟨rfl, hC280 U hU hW⟩⟩ rfl rfl hl.1 rfl (lv_room (Nat.le_of_ble_eq_true rfl)) dX9_settledAll_97 ⟨(Nat.le_of_ble_eq_true rfl), (Nat.le_of_ble_eq_true rfl)⟩) hS (fun q9 _ h9 => hF277 q9 h9) hF277 (fun r282 u281 t281 H281 L281 ht281 hvm281 hw281 hB281 hz281 hk281 hS => ?_)
  have hP := pq_keep hP hD [22, 21] rfl hk281 hB281.1 ht281
  have hG : s.heap.size + 9 ≤ H281.size := Nat.le_trans hG hz281
  refine W.eq (g2 := F0 m 102 ls [.int 0]) (by rw [hw281]) ?_
  refine lv_if_eq (tgt := 198) hx hb dX9_settledAll_102 (by decide) (fun _ => ?_) (fun cz => absurd (by decide) cz)
  refine lv_aload hx hb dX9_settledAll_198 (lv_at hl 4 rfl) ?_
  refine lv_iload hx hb dX9_settledAll_200 (lv_at hl 2 rfl) ?_
  refine lv_iload hx hb dX9_settledAll_202 (lv_at hl 2 rfl) ?_
  refine lv_iload_n hx hb dX9_settledAll_204 rfl (lv_at hl 7 rfl) ?_
  refine lv_icmp_ne (tgt := 212) hx hb dX9_settledAll_205 (by decide) (fun cz => absurd (by decide) cz) (fun _ => ?_)
  refine lv_iload_n hx hb dX9_settledAll_208 rfl (lv_at hl 8 rfl) ?_
  refine lv_goto (tgt := 217) hx hb dX9_settledAll_209 (by decide) ?_
  refine va_cast hx hb hK hP hD (va_Sre hS) 11 2 rfl rfl (i := 6) (by unfold vp_in; decide) dX9_settledAll_217 (fun H283 _ hP hD hS' => ?_)
  have hG : s.heap.size + 9 ≤ H283.size := Nat.le_trans hG hS'.1
  have hS := va_Str hS hS'
  have hP : va_P (dC, dI) xCl [(h0, ce21 h2 h3 o0 h4), (h1, ce447 kc0), (h2, ce331 h5), (h5, ce330 kc1 h7 h8 h9 h10 h11 h12 h13), (h7, ce49), (h8, ce49), (h9, ce49), (h10, ce49), (h11, ce49), (h12, ce49), (h13, ce49), (a1, ce515 k2), (a42, ce44 h3), (a81, ce44 h3), (a120, ce44 h3), (a159, ce44 h3), (a198, ce44 h3), (a237, ce44 h3), (a10, ce400 h4), (h4, ce366 h6), (h6, ce330 kc2 (z.2.2.1 128) (z.2.2.1 129) (z.2.2.1 130) (z.2.2.1 131) (z.2.2.1 132) (z.2.2.1 133) (z.2.2.1 134)), (h3, ce3 z.1), (a276, ce44 h3)] H283 := hP
  have hD := vd_as hP hD rfl
  refine lv_goto (tgt := 15) hx hb dX9_settledAll_218 (by decide) ?_
  refine lv_aload hx hb dX9_settledAll_15 (lv_at hl 3 rfl) ?_
  have hM286 := k772_hasNext l hl9 dC dI z a10 h4 h6 H283.size
  obtain ⟨hF284, hC287⟩ := pc_M hM286 hP hD hK hS hX hT hA [18, 19] [] rfl rfl rfl
  refine va_callFi (va_runF (As := []) (rest := []) (hK.1 1 (RJx35411, TJx35411, 4) rfl).2 ⟨hx, hb, hml, hown, hts⟩ hM286 (va_cwF 0 hts (gF q_261 q_262 q_263 q_246 q_260) rfl rfl rfl hT.2.2.2.2.2.2.1 hF_xIh ⟨Nat.le_of_ble_eq_true rfl, Nat.le_of_ble_eq_true rfl⟩) ⟨pc_blind, va_recv hK hP (ci := 1) (q := (RJx35411, TJx35411, 4)) (q0 := 18) rfl rfl, fun U hU hW => ⟨rfl, hC287 U hU hW⟩⟩ rfl rfl hl.1 rfl (lv_room (Nat.le_of_ble_eq_true rfl)) dX9_settledAll_17 ⟨(Nat.le_of_ble_eq_true rfl), (Nat.le_of_ble_eq_true rfl)⟩) hS (fun q9 _ h9 => hF284 q9 h9) hF284 (fun r289 u288 t288 H288 L288 ht288 hvm288 hw288 hB288 hz288 hk288 hS => ?_)
  have hP := pq_keep hP hD [18, 19] rfl hk288 hB288.1 ht288
  have hG : s.heap.size + 9 ≤ H288.size := Nat.le_trans hG hz288
  refine W.eq (g2 := F0 m 22 ls [.int 0]) (by rw [hw288]) ?_
  refine lv_if_eq (tgt := 221) hx hb dX9_settledAll_22 (by decide) (fun _ => ?_) (fun cz => absurd (by decide) cz)
  refine lv_aload hx hb dX9_settledAll_221 (lv_at hl 4 rfl) ?_
  have ehu290 : (upd (upd (upd (upd (upd (upd (upd (upd (upd (upd (upd (upd (upd (upd (fun _ => 0) 0 48) 0 48) 1 48) 1 48) 2 48) 2 48) 3 48) 3 48) 4 48) 4 48) 5 48) 5 48) 6 48) 6 49) = (upd (upd (upd (upd (upd (upd (upd (fun _ => 0) 0 48) 1 48) 2 48) 3 48) 4 48) 5 48) 6 49) := by funext j; by_cases g0 : j = 0; (subst g0; rfl); by_cases g1 : j = 1; (subst g1; rfl); by_cases g2 : j = 2; (subst g2; rfl); by_cases g3 : j = 3; (subst g3; rfl); by_cases g4 : j = 4; (subst g4; rfl); by_cases g5 : j = 5; (subst g5; rfl); by_cases g6 : j = 6; (subst g6; rfl); simp only [upd, g0, g1, g2, g3, g4, g5, g6, if_false]
  have hu290 : (ce515 k2 : va_E) = ce516 k2 := (show (.inl (k2, 40, .inl (upd (upd (upd (upd (upd (upd (upd (upd (upd (upd (upd (upd (upd (upd (fun _ => 0) 0 48) 0 48) 1 48) 1 48) 2 48) 2 48) 3 48) 3 48) 4 48) 4 48) 5 48) 5 48) 6 48) 6 49)) : va_E) = .inl (k2, 40, .inl (upd (upd (upd (upd (upd (upd (upd (fun _ => 0) 0 48) 1 48) 2 48) 3 48) 4 48) 5 48) 6 49)) by rw [ehu290])
  rw [hu290] at hP hD
  have hP : va_P (dC, dI) xCl [(h0, ce21 h2 h3 o0 h4), (h1, ce447 kc0), (h2, ce331 h5), (h5, ce330 kc1 h7 h8 h9 h10 h11 h12 h13), (h7, ce49), (h8, ce49), (h9, ce49), (h10, ce49), (h11, ce49), (h12, ce49), (h13, ce49), (a1, ce516 k2), (a42, ce44 h3), (a81, ce44 h3), (a120, ce44 h3), (a159, ce44 h3), (a198, ce44 h3), (a237, ce44 h3), (a10, ce400 h4), (h4, ce366 h6), (h6, ce330 kc2 (z.2.2.1 128) (z.2.2.1 129) (z.2.2.1 130) (z.2.2.1 131) (z.2.2.1 132) (z.2.2.1 133) (z.2.2.1 134)), (h3, ce3 z.1), (a276, ce44 h3)] H288 := hP
  have hD := vd_as hP hD rfl
  exact W.aret (v := .ref a1) hx hb hr (by first | exact Or.inl ⟨_, rfl⟩ | exact Or.inr ⟨_, rfl⟩) (Or.inr ⟨_, rfl⟩) (fun t9 ht9 hW9 => ⟨⟨(), a1, rfl, trivial, ⟨a1, k2, rfl, ⟨pq_mk2 hP hD hK [0, 1, 2, 21, 19, 3, 20, 4, 5, 6, 7, 8, 9, 10, 11] [0, 1, 3, 2] rfl rfl rfl ht9 hW9, by rw [ht9]; exact Nat.le_trans (Nat.add_le_add_left (Nat.le_of_ble_eq_true rfl) _) hG⟩⟩⟩, hS.F ht9⟩) hS.2.2 dX9_settledAll_223

set_option maxHeartbeats 4000000 in
set_option maxRecDepth 100000 in
theorem k985_showsIt (l : Launch) (hl9 : l.stackTraces = false) (dC : Nat → ClassId) (dI : Nat → Nat → Nat) (z : XZ) (h0 h1 h2 h3 h4 h5 h6 h7 h8 h9 h10 h11 h12 : Nat) (o0 : Nat) (sz : Nat) (kc0 kc1 : ClassId) : Met l yX9_showsIt (.code yX9_showsIt cX9_showsIt 8 (some .boolean) :: wsL_law) ({ frames := 4, cells := 27, slots := 252, locals := 94 }) (va_Pc [.ref h0, .int 6, .int 49, .int 0] (PC (dC, dI) [(h0, ce21 h1 h2 o0 h3), (h1, ce331 h4), (h2, ce3 z.1), (h3, ce366 h5), (h4, ce330 kc0 h6 h7 h8 h9 h10 h11 h12), (h5, ce330 kc1 (z.2.2.1 128) (z.2.2.1 129) (z.2.2.1 130) (z.2.2.1 131) (z.2.2.1 132) (z.2.2.1 133) (z.2.2.1 134)), (h6, ce49), (h7, ce49), (h8, ce49), (h9, ce49), (h10, ce49), (h11, ce49), (h12, ce49)] [(kc0, .object "java/lang/Object"), (kc1, .object "java/lang/Object")] sz z)) (va_Qi (fun (r : Int32) (_ : Unit) => r = 0) (fun (_ : Unit) (t : State) => PG (dC, dI) [(h0, ce21 h1 h2 o0 h3), (h1, ce331 h4), (h2, ce3 z.1), (h3, ce366 h5), (h4, ce330 kc0 h6 h7 h8 h9 h10 h11 h12), (h5, ce330 kc1 (z.2.2.1 128) (z.2.2.1 129) (z.2.2.1 130) (z.2.2.1 131) (z.2.2.1 132) (z.2.2.1 133) (z.2.2.1 134)), (h6, ce49), (h7, ce49), (h8, ce49), (h9, ce49), (h10, ce49), (h11, ce49), (h12, ce49)] [(kc0, .object "java/lang/Object"), (kc1, .object "java/lang/Object")] (va_A [(h0, ce21 h1 h2 o0 h3), (h1, ce331 h4), (h2, ce3 z.1), (h3, ce366 h5), (h4, ce330 kc0 h6 h7 h8 h9 h10 h11 h12), (h5, ce330 kc1 (z.2.2.1 128) (z.2.2.1 129) (z.2.2.1 130) (z.2.2.1 131) (z.2.2.1 132) (z.2.2.1 133) (z.2.2.1 134)), (h6, ce49), (h7, ce49), (h8, ce49), (h9, ce49), (h10, ce49), (h11, ce49), (h12, ce49)] sz) sz 27 t) (va_A [(h0, ce21 h1 h2 o0 h3), (h1, ce331 h4), (h2, ce3 z.1), (h3, ce366 h5), (h4, ce330 kc0 h6 h7 h8 h9 h10 h11 h12), (h5, ce330 kc1 (z.2.2.1 128) (z.2.2.1 129) (z.2.2.1 130) (z.2.2.1 131) (z.2.2.1 132) (z.2.2.1 133) (z.2.2.1 134)), (h6, ce49), (h7, ce49), (h8, ce49), (h9, ce49), (h10, ce49), (h11, ce49), (h12, ce49)] sz)) 27 252 (va_A [(h0, ce21 h1 h2 o0 h3), (h1, ce331 h4), (h2, ce3 z.1), (h3, ce366 h5), (h4, ce330 kc0 h6 h7 h8 h9 h10 h11 h12), (h5, ce330 kc1 (z.2.2.1 128) (z.2.2.1 129) (z.2.2.1 130) (z.2.2.1 131) (z.2.2.1 132) (z.2.2.1 133) (z.2.2.1 134)), (h6, ce49), (h7, ce49), (h8, ce49), (h9, ce49), (h10, ce49), (h11, ce49), (h12, ce49)] sz) := by
  refine Met.ofW (cc := cX9_showsIt) (maxL := 8) (ret := (some .boolean)) (by decide) rfl ?_
  intro p e s m args below meth c s₁ B hml hv
  obtain ⟨rfl, hsz, hP, hK, hD0, hX, hT⟩ := hv
  have hx := B.exec
  have hb := B.bytes
  have hr := B.returns
  have hts0 := atoms_spec (ws := .code yX9_showsIt cX9_showsIt 8 (some .boolean) :: wsL_law) B.pre
  have hts := xTail hts0
  have hown : s.vm.findClass RX9 = some m.cls := xown B.named rfl
  have hlocks := B.notSynchronized
  subst hsz
  have hD := hD0.self (sz := s.heap.size)
  generalize hAe : va_A [(h0, ce21 h1 h2 o0 h3), (h1, ce331 h4), (h2, ce3 z.1), (h3, ce366 h5), (h4, ce330 kc0 h6 h7 h8 h9 h10 h11 h12), (h5, ce330 kc1 (z.2.2.1 128) (z.2.2.1 129) (z.2.2.1 130) (z.2.2.1 131) (z.2.2.1 132) (z.2.2.1 133) (z.2.2.1 134)), (h6, ce49), (h7, ce49), (h8, ce49), (h9, ce49), (h10, ce49), (h11, ce49), (h12, ce49)] s.heap.size = A at hD hX ⊢
  have hA : ∀ q : Nat, s.heap.size ≤ q → A q := fun q h => by rw [← hAe]; exact Or.inr h
  have hS : va_S A s.heap s.heap [] := va_S.rf
  have hG : s.heap.size + 0 ≤ s.heap.size := Nat.le_refl _
  have hl := lv_entry ([.ref h0, .int 6, .int 49, .int 0]) (n := 8) (Nat.le_of_ble_eq_true rfl)
  rw [lg_entry_eq]
  generalize (lg_sl ([.ref h0, .int 6, .int 49, .int 0]) ++ List.replicate (8 - (lg_sl ([.ref h0, .int 6, .int 49, .int 0])).length) Slot.unset).toArray = ls at hl ⊢
  have hl : lv_has ls 8 [(0, .ref h0), (1, .int 6), (2, .int 49), (3, .int 0)] := hl
  refine lv_aload_n hx hb dX9_showsIt_0 rfl (lv_at hl 0 rfl) ?_
  refine lv_aload_n hx hb dX9_showsIt_1 rfl (lv_at hl 0 rfl) ?_
  refine lv_iload_n hx hb dX9_showsIt_2 rfl (lv_at hl 3 rfl) ?_
  have hM3 := k943_valuesOf l hl9 dC dI z h0 h1 h4 h6 h7 h8 h9 h10 h11 h12 h2 o0 h3 s.heap.size kc0
  obtain ⟨hF1, hC4⟩ := pc_M hM3 hP hD hK hS hX hT hA [0, 1, 4, 6, 7, 8, 9, 10, 11, 12] [0] rfl rfl rfl
  refine va_callr (va_runV (As := [.int 0]) (rest := [.ref h0]) ⟨hx, hb, hml, hown, hts⟩ hM3 (cwV 1 hts (gV q_419 q_420 q_421 q_60 q_418) rfl rfl rfl hV_X9_valuesOf ⟨Nat.le_of_ble_eq_true rfl, Nat.le_of_ble_eq_true rfl⟩) ⟨pc_blind, va_recv hK hP (ci := 8) (q := (RX9, TX9, 6)) (q0 := 0) rfl rfl, fun U hU hW => ⟨rfl, hC4 U hU hW⟩⟩ rfl rfl hl.1 rfl (lv_room (Nat.le_of_ble_eq_true rfl)) dX9_showsIt_3 ⟨(Nat.le_of_ble_eq_true rfl), (Nat.le_of_ble_eq_true rfl)⟩) hS (fun q9 _ h9 => hF1 q9 h9) hF1 (fun u5 r6 t5 H5 L5 ht5 hvm5 hw5 hB5 hz5 hk5 hS => ?_)
  obtain ⟨a7, k8, hr5, hB5⟩ := hB5
  obtain ⟨hP, hD, hK⟩ := pq_jn (wz := [(h2, ce3 z.1), (h3, ce366 h5), (h5, ce330 kc1 (z.2.2.1 128) (z.2.2.1 129) (z.2.2.1 130) (z.2.2.1 131) (z.2.2.1 132) (z.2.2.1 133) (z.2.2.1 134)), (h0, ce21 h1 h2 o0 h3), (h1, ce331 h4), (h4, ce330 kc0 h6 h7 h8 h9 h10 h11 h12), (h6, ce49), (h7, ce49), (h8, ce49), (h9, ce49), (h10, ce49), (h11, ce49), (h12, ce49), (a7, ce447 k8)]) (tz := [(kc1, .object "java/lang/Object"), (kc0, .object "java/lang/Object"), (k8, .char)]) hP hD hK [0, 1, 4, 6, 7, 8, 9, 10, 11, 12] [1] rfl hk5 hF1 hB5.1 ht5 hvm5 rfl rfl
  have hG : s.heap.size + 1 ≤ H5.size := va_gr (g := 0) (g1 := 1) hG (by rw [← ht5]; exact hB5.2)
  refine W.eq (g2 := F0 m 6 ls [.ref a7, .ref h0]) (by rw [hr5]) ?_
  refine W.widen (k := 1) (n := 40) (by decide) (by decide) ?_
  refine lv_iload_n hx hb dX9_showsIt_6 rfl (lv_at hl 1 rfl) ?_
  refine lv_iload_n hx hb dX9_showsIt_7 rfl (lv_at hl 2 rfl) ?_
  have hM11 := k984_settledAll l hl9 dC dI z h0 a7 h1 h2 h3 h4 h5 h6 h7 h8 h9 h10 h11 h12 o0 H5.size k8 kc0 kc1
  obtain ⟨hF9, hC12⟩ := pc_M hM11 hP hD hK hS hX hT hA [3, 13, 4, 0, 1, 5, 2, 6, 7, 8, 9, 10, 11, 12] [2, 1, 0] rfl rfl rfl
  refine va_callr (va_runV (As := [.ref a7, .int 6, .int 49]) (rest := []) ⟨hx, hb, hml, hown, hts⟩ hM11 (cwV 3 hts (gV q_328 q_329 q_330 q_60 q_327) rfl rfl rfl hV_X9_settledAll ⟨Nat.le_of_ble_eq_true rfl, Nat.le_of_ble_eq_true rfl⟩) ⟨pc_blind, va_recv hK hP (ci := 8) (q := (RX9, TX9, 6)) (q0 := 3) rfl rfl, fun U hU hW => ⟨rfl, hC12 U hU hW⟩⟩ rfl rfl hl.1 rfl (lv_room (Nat.le_of_ble_eq_true rfl)) dX9_showsIt_8 ⟨(Nat.le_of_ble_eq_true rfl), (Nat.le_of_ble_eq_true rfl)⟩) hS (fun q9 _ h9 => hF9 q9 h9) hF9 (fun u13 r14 t13 H13 L13 ht13 hvm13 hw13 hB13 hz13 hk13 hS => ?_)
  obtain ⟨a15, k16, hr13, hB13⟩ := hB13
  obtain ⟨hP, hD, hK⟩ := pq_jn (wz := [(h0, ce21 h1 h2 o0 h3), (a7, ce447 k8), (h1, ce331 h4), (h2, ce3 z.1), (h3, ce366 h5), (h4, ce330 kc0 h6 h7 h8 h9 h10 h11 h12), (h5, ce330 kc1 (z.2.2.1 128) (z.2.2.1 129) (z.2.2.1 130) (z.2.2.1 131) (z.2.2.1 132) (z.2.2.1 133) (z.2.2.1 134)), (h6, ce49), (h7, ce49), (h8, ce49), (h9, ce49), (h10, ce49), (h11, ce49), (h12, ce49), (a15, ce516 k16)]) (tz := [(k8, .char), (kc0, .object "java/lang/Object"), (kc1, .object "java/lang/Object"), (k16, .char)]) hP hD hK [3, 13, 4, 0, 1, 5, 2, 6, 7, 8, 9, 10, 11, 12] [] rfl hk13 hF9 hB13.1 ht13 hvm13 rfl rfl
  have hG : s.heap.size + 10 ≤ H13.size := va_gr (g := 1) (g1 := 9) hG (by rw [← ht13]; exact hB13.2)
  refine W.eq (g2 := F0 m 11 ls [.ref a15]) (by rw [hr13]) ?_
  refine W.widen (k := 10) (n := 112) (by decide) (by decide) ?_
  refine lv_astore (lv' := [(4, .ref a15), (0, .ref h0), (1, .int 6), (2, .int 49), (3, .int 0)]) hx hb dX9_showsIt_11 hl (by decide) rfl (fun ls hl => ?_)
  refine lv_aload_n hx hb dX9_showsIt_13 rfl (lv_at hl 1 rfl) ?_
  refine lv_aload_n hx hb dX9_showsIt_14 rfl (lv_at hl 1 rfl) ?_
  refine lv_iload_n hx hb dX9_showsIt_15 rfl (lv_at hl 4 rfl) ?_
  have hM19 := k943_valuesOf l hl9 dC dI z h0 h1 h4 h6 h7 h8 h9 h10 h11 h12 h2 o0 h3 H13.size kc0
  obtain ⟨hF17, hC20⟩ := pc_M hM19 hP hD hK hS hX hT hA [0, 2, 5, 7, 8, 9, 10, 11, 12, 13] [1] rfl rfl rfl
  refine va_callr (va_runV (As := [.int 0]) (rest := [.ref h0]) ⟨hx, hb, hml, hown, hts⟩ hM19 (cwV 1 hts (gV q_419 q_420 q_421 q_60 q_418) rfl rfl rfl hV_X9_valuesOf ⟨Nat.le_of_ble_eq_true rfl, Nat.le_of_ble_eq_true rfl⟩) ⟨pc_blind, va_recv hK hP (ci := 8) (q := (RX9, TX9, 6)) (q0 := 0) rfl rfl, fun U hU hW => ⟨rfl, hC20 U hU hW⟩⟩ rfl rfl hl.1 rfl (lv_room (Nat.le_of_ble_eq_true rfl)) dX9_showsIt_16 ⟨(Nat.le_of_ble_eq_true rfl), (Nat.le_of_ble_eq_true rfl)⟩) hS (fun q9 _ h9 => hF17 q9 h9) hF17 (fun u21 r22 t21 H21 L21 ht21 hvm21 hw21 hB21 hz21 hk21 hS => ?_)
  obtain ⟨a23, k24, hr21, hB21⟩ := hB21
  obtain ⟨hP, hD, hK⟩ := pq_jn (wz := [(a7, ce447 k8), (h2, ce3 z.1), (h3, ce366 h5), (h5, ce330 kc1 (z.2.2.1 128) (z.2.2.1 129) (z.2.2.1 130) (z.2.2.1 131) (z.2.2.1 132) (z.2.2.1 133) (z.2.2.1 134)), (a15, ce516 k16), (h0, ce21 h1 h2 o0 h3), (h1, ce331 h4), (h4, ce330 kc0 h6 h7 h8 h9 h10 h11 h12), (h6, ce49), (h7, ce49), (h8, ce49), (h9, ce49), (h10, ce49), (h11, ce49), (h12, ce49), (a23, ce447 k24)]) (tz := [(k8, .char), (kc1, .object "java/lang/Object"), (k16, .char), (kc0, .object "java/lang/Object"), (k24, .char)]) hP hD hK [0, 2, 5, 7, 8, 9, 10, 11, 12, 13] [0, 2, 3] rfl hk21 hF17 hB21.1 ht21 hvm21 rfl rfl
  have hG : s.heap.size + 11 ≤ H21.size := va_gr (g := 10) (g1 := 1) hG (by rw [← ht21]; exact hB21.2)
  refine W.eq (g2 := F0 m 19 ls [.ref a23, .ref h0]) (by rw [hr21]) ?_
  refine W.widen (k := 11) (n := 152) (by decide) (by decide) ?_
  refine lv_iconst (v := (-1)) hx hb dX9_showsIt_19 (by decide) ?_
  refine lv_bipush (v := 120) hx hb dX9_showsIt_20 (by decide) ?_
  have hM27 := k945_settledAll l hl9 dC dI z h0 a23 h1 h2 h3 h4 h5 h6 h7 h8 h9 h10 h11 h12 o0 H21.size k24 kc0 kc1
  obtain ⟨hF25, hC28⟩ := pc_M hM27 hP hD hK hS hX hT hA [5, 15, 6, 1, 2, 7, 3, 8, 9, 10, 11, 12, 13, 14] [4, 3, 1] rfl rfl rfl
  refine va_callr (va_runV (As := [.ref a23, .int (-1), .int 120]) (rest := []) ⟨hx, hb, hml, hown, hts⟩ hM27 (cwV 3 hts (gV q_328 q_329 q_330 q_60 q_327) rfl rfl rfl hV_X9_settledAll ⟨Nat.le_of_ble_eq_true rfl, Nat.le_of_ble_eq_true rfl⟩) ⟨pc_blind, va_recv hK hP (ci := 8) (q := (RX9, TX9, 6)) (q0 := 5) rfl rfl, fun U hU hW => ⟨rfl, hC28 U hU hW⟩⟩ rfl rfl hl.1 rfl (lv_room (Nat.le_of_ble_eq_true rfl)) dX9_showsIt_22 ⟨(Nat.le_of_ble_eq_true rfl), (Nat.le_of_ble_eq_true rfl)⟩) hS (fun q9 _ h9 => hF25 q9 h9) hF25 (fun u29 r30 t29 H29 L29 ht29 hvm29 hw29 hB29 hz29 hk29 hS => ?_)
  obtain ⟨a31, k32, hr29, hB29⟩ := hB29
  obtain ⟨hP, hD, hK⟩ := pq_jn (wz := [(a7, ce447 k8), (a15, ce516 k16), (h0, ce21 h1 h2 o0 h3), (a23, ce447 k24), (h1, ce331 h4), (h2, ce3 z.1), (h3, ce366 h5), (h4, ce330 kc0 h6 h7 h8 h9 h10 h11 h12), (h5, ce330 kc1 (z.2.2.1 128) (z.2.2.1 129) (z.2.2.1 130) (z.2.2.1 131) (z.2.2.1 132) (z.2.2.1 133) (z.2.2.1 134)), (h6, ce49), (h7, ce49), (h8, ce49), (h9, ce49), (h10, ce49), (h11, ce49), (h12, ce49), (a31, ce447 k32)]) (tz := [(k8, .char), (k16, .char), (k24, .char), (kc0, .object "java/lang/Object"), (kc1, .object "java/lang/Object"), (k32, .char)]) hP hD hK [5, 15, 6, 1, 2, 7, 3, 8, 9, 10, 11, 12, 13, 14] [0, 2] rfl hk29 hF25 hB29.1 ht29 hvm29 rfl rfl
  have hG : s.heap.size + 20 ≤ H29.size := va_gr (g := 11) (g1 := 9) hG (by rw [← ht29]; exact hB29.2)
  refine W.eq (g2 := F0 m 25 ls [.ref a31]) (by rw [hr29]) ?_
  refine W.widen (k := 20) (n := 224) (by decide) (by decide) ?_
  refine lv_astore (lv' := [(5, .ref a31), (4, .ref a15), (0, .ref h0), (1, .int 6), (2, .int 49), (3, .int 0)]) hx hb dX9_showsIt_25 hl (by decide) rfl (fun ls hl => ?_)
  refine lv_iconst (v := 0) hx hb dX9_showsIt_27 (by decide) ?_
  refine lv_istore (lv' := [(6, .int 0), (5, .ref a31), (4, .ref a15), (0, .ref h0), (1, .int 6), (2, .int 49), (3, .int 0)]) hx hb dX9_showsIt_28 hl (by decide) rfl (fun ls hl => ?_)
  refine lv_iconst (v := 0) hx hb dX9_showsIt_30 (by decide) ?_
  refine lv_istore (lv' := [(7, .int 0), (6, .int 0), (5, .ref a31), (4, .ref a15), (0, .ref h0), (1, .int 6), (2, .int 49), (3, .int 0)]) hx hb dX9_showsIt_31 hl (by decide) rfl (fun ls hl => ?_)
  refine lv_iload hx hb dX9_showsIt_33 (lv_at hl 0 rfl) ?_
  refine lv_aload_n hx hb dX9_showsIt_35 rfl (lv_at hl 4 rfl) ?_
  refine va_get (D := (dC, dI)) (ci := 8) (v := .ref h1) (C := RX9) (T := TX9) (N := 6) hx hb hts in_X9 hown hK hP 2 rfl rfl 1 (by decide) (hts _ q_64) (fun _ h9 => h9) rfl dX9_showsIt_36 ?_
  have hM35 := k20_size l hl9 dC dI z h1 h4 H29.size 7 7
  obtain ⟨hF33, hC36⟩ := pc_M hM35 hP hD hK hS hX hT hA [4] [] rfl rfl rfl
  refine va_calli (va_runV (As := []) (rest := [.int 0]) ⟨hx, hb, hml, hown, hts⟩ hM35 (cwV 0 hts (gV q_272 q_77 q_78 q_12 q_75) rfl rfl rfl hV_Jx4a65c_size_8abf5 ⟨Nat.le_of_ble_eq_true rfl, Nat.le_of_ble_eq_true rfl⟩) ⟨pc_blind, va_recv hK hP (ci := 0) (q := (RJx4a65c, TJx4a65c, 3)) (q0 := 4) rfl rfl, fun U hU hW => ⟨rfl, hC36 U hU hW⟩⟩ rfl rfl hl.1 rfl (lv_room (Nat.le_of_ble_eq_true rfl)) dX9_showsIt_39 ⟨(Nat.le_of_ble_eq_true rfl), (Nat.le_of_ble_eq_true rfl)⟩) hS (fun q9 _ h9 => hF33 q9 h9) hF33 (fun r38 u37 t37 H37 L37 ht37 hvm37 hw37 hB37 hz37 hk37 hS => ?_)
  have hP := pq_keep hP hD [4] rfl hk37 hB37.1 ht37
  have hG : s.heap.size + 20 ≤ H37.size := Nat.le_trans hG hz37
  refine W.eq (g2 := F0 m 42 ls [.int 7, .int 0]) (by rw [hw37]) ?_
  refine lv_icmp_ge (tgt := 125) hx hb dX9_showsIt_42 (by decide) (fun cz => absurd cz (by decide)) (fun _ => ?_)
  refine lv_iload hx hb dX9_showsIt_45 (lv_at hl 1 rfl) ?_
  refine lv_if_ne (tgt := 125) hx hb dX9_showsIt_47 (by decide) (fun cz => absurd (by decide) cz) (fun _ => ?_)
  refine lv_aload_n hx hb dX9_showsIt_50 rfl (lv_at hl 4 rfl) ?_
  refine lv_iload hx hb dX9_showsIt_51 (lv_at hl 0 rfl) ?_
  have hM41 := k946_isLooked l hl9 dC dI z h0 h1 h4 h6 h7 h8 h9 h10 h11 h12 h2 o0 h3 H37.size kc0
  obtain ⟨hF39, hC42⟩ := pc_M hM41 hP hD hK hS hX hT hA [2, 4, 7, 9, 10, 11, 12, 13, 14, 15] [3] rfl rfl rfl
  refine va_calli (va_runV (As := [.int 0]) (rest := []) ⟨hx, hb, hml, hown, hts⟩ hM41 (cwV 1 hts (gV q_425 q_426 q_427 q_60 q_424) rfl rfl rfl hV_X9_isLooked ⟨Nat.le_of_ble_eq_true rfl, Nat.le_of_ble_eq_true rfl⟩) ⟨pc_blind, va_recv hK hP (ci := 8) (q := (RX9, TX9, 6)) (q0 := 2) rfl rfl, fun U hU hW => ⟨rfl, hC42 U hU hW⟩⟩ rfl rfl hl.1 rfl (lv_room (Nat.le_of_ble_eq_true rfl)) dX9_showsIt_53 ⟨(Nat.le_of_ble_eq_true rfl), (Nat.le_of_ble_eq_true rfl)⟩) hS (fun q9 _ h9 => hF39 q9 h9) hF39 (fun r44 u43 t43 H43 L43 ht43 hvm43 hw43 hB43 hz43 hk43 hS => ?_)
  have hP := pq_keep hP hD [2, 4, 7, 9, 10, 11, 12, 13, 14, 15] rfl hk43 hB43.1 ht43
  have hG : s.heap.size + 21 ≤ H43.size := va_gr (g := 20) (g1 := 1) hG (by rw [← ht43]; exact hB43.2)
  refine W.eq (g2 := F0 m 56 ls [.int 0]) (by rw [hw43]) ?_
  refine W.widen (k := 21) (n := 228) (by decide) (by decide) ?_
  refine lv_if_eq (tgt := 119) hx hb dX9_showsIt_56 (by decide) (fun _ => ?_) (fun cz => absurd (by decide) cz)
  refine lv_iinc (v := 1) (lv' := [(7, .int 1), (6, .int 0), (5, .ref a31), (4, .ref a15), (0, .ref h0), (1, .int 6), (2, .int 49), (3, .int 0)]) hx hb dX9_showsIt_119 hl (k := 0) rfl (by decide) (by decide) rfl (fun ls hl => ?_)
  refine lv_goto (tgt := 33) hx hb dX9_showsIt_122 (by decide) ?_
  refine lv_iload hx hb dX9_showsIt_33 (lv_at hl 0 rfl) ?_
  refine lv_aload_n hx hb dX9_showsIt_35 rfl (lv_at hl 4 rfl) ?_
  refine va_get (D := (dC, dI)) (ci := 8) (v := .ref h1) (C := RX9) (T := TX9) (N := 6) hx hb hts in_X9 hown hK hP 2 rfl rfl 1 (by decide) (hts _ q_64) (fun _ h9 => h9) rfl dX9_showsIt_36 ?_
  have hM47 := k20_size l hl9 dC dI z h1 h4 H43.size 7 7
  obtain ⟨hF45, hC48⟩ := pc_M hM47 hP hD hK hS hX hT hA [4] [] rfl rfl rfl
  refine va_calli (va_runV (As := []) (rest := [.int 1]) ⟨hx, hb, hml, hown, hts⟩ hM47 (cwV 0 hts (gV q_272 q_77 q_78 q_12 q_75) rfl rfl rfl hV_Jx4a65c_size_8abf5 ⟨Nat.le_of_ble_eq_true rfl, Nat.le_of_ble_eq_true rfl⟩) ⟨pc_blind, va_recv hK hP (ci := 0) (q := (RJx4a65c, TJx4a65c, 3)) (q0 := 4) rfl rfl, fun U hU hW => ⟨rfl, hC48 U hU hW⟩⟩ rfl rfl hl.1 rfl (lv_room (Nat.le_of_ble_eq_true rfl)) dX9_showsIt_39 ⟨(Nat.le_of_ble_eq_true rfl), (Nat.le_of_ble_eq_true rfl)⟩) hS (fun q9 _ h9 => hF45 q9 h9) hF45 (fun r50 u49 t49 H49 L49 ht49 hvm49 hw49 hB49 hz49 hk49 hS => ?_)
  have hP := pq_keep hP hD [4] rfl hk49 hB49.1 ht49
  have hG : s.heap.size + 21 ≤ H49.size := Nat.le_trans hG hz49
  refine W.eq (g2 := F0 m 42 ls [.int 7, .int 1]) (by rw [hw49]) ?_
  refine lv_icmp_ge (tgt := 125) hx hb dX9_showsIt_42 (by decide) (fun cz => absurd cz (by decide)) (fun _ => ?_)
  refine lv_iload hx hb dX9_showsIt_45 (lv_at hl 1 rfl) ?_
  refine lv_if_ne (tgt := 125) hx hb dX9_showsIt_47 (by decide) (fun cz => absurd (by decide) cz) (fun _ => ?_)
  refine lv_aload_n hx hb dX9_showsIt_50 rfl (lv_at hl 4 rfl) ?_
  refine lv_iload hx hb dX9_showsIt_51 (lv_at hl 0 rfl) ?_
  have hM53 := k947_isLooked l hl9 dC dI z h0 h1 h4 h6 h7 h8 h9 h10 h11 h12 h2 o0 h3 H49.size kc0
  obtain ⟨hF51, hC54⟩ := pc_M hM53 hP hD hK hS hX hT hA [2, 4, 7, 9, 10, 11, 12, 13, 14, 15] [3] rfl rfl rfl
  refine va_calli (va_runV (As := [.int 1]) (rest := []) ⟨hx, hb, hml, hown, hts⟩ hM53 (cwV 1 hts (gV q_425 q_426 q_427 q_60 q_424) rfl rfl rfl hV_X9_isLooked ⟨Nat.le_of_ble_eq_true rfl, Nat.le_of_ble_eq_true rfl⟩) ⟨pc_blind, va_recv hK hP (ci := 8) (q := (RX9, TX9, 6)) (q0 := 2) rfl rfl, fun U hU hW => ⟨rfl, hC54 U hU hW⟩⟩ rfl rfl hl.1 rfl (lv_room (Nat.le_of_ble_eq_true rfl)) dX9_showsIt_53 ⟨(Nat.le_of_ble_eq_true rfl), (Nat.le_of_ble_eq_true rfl)⟩) hS (fun q9 _ h9 => hF51 q9 h9) hF51 (fun r56 u55 t55 H55 L55 ht55 hvm55 hw55 hB55 hz55 hk55 hS => ?_)
  have hP := pq_keep hP hD [2, 4, 7, 9, 10, 11, 12, 13, 14, 15] rfl hk55 hB55.1 ht55
  have hG : s.heap.size + 22 ≤ H55.size := va_gr (g := 21) (g1 := 1) hG (by rw [← ht55]; exact hB55.2)
  refine W.eq (g2 := F0 m 56 ls [.int 0]) (by rw [hw55]) ?_
  refine W.widen (k := 22) (n := 232) (by decide) (by decide) ?_
  refine lv_if_eq (tgt := 119) hx hb dX9_showsIt_56 (by decide) (fun _ => ?_) (fun cz => absurd (by decide) cz)
  refine lv_iinc (v := 2) (lv' := [(7, .int 2), (6, .int 0), (5, .ref a31), (4, .ref a15), (0, .ref h0), (1, .int 6), (2, .int 49), (3, .int 0)]) hx hb dX9_showsIt_119 hl (k := 0) rfl (by decide) (by decide) rfl (fun ls hl => ?_)
  refine lv_goto (tgt := 33) hx hb dX9_showsIt_122 (by decide) ?_
  refine lv_iload hx hb dX9_showsIt_33 (lv_at hl 0 rfl) ?_
  refine lv_aload_n hx hb dX9_showsIt_35 rfl (lv_at hl 4 rfl) ?_
  refine va_get (D := (dC, dI)) (ci := 8) (v := .ref h1) (C := RX9) (T := TX9) (N := 6) hx hb hts in_X9 hown hK hP 2 rfl rfl 1 (by decide) (hts _ q_64) (fun _ h9 => h9) rfl dX9_showsIt_36 ?_
  have hM59 := k20_size l hl9 dC dI z h1 h4 H55.size 7 7
  obtain ⟨hF57, hC60⟩ := pc_M hM59 hP hD hK hS hX hT hA [4] [] rfl rfl rfl
  refine va_calli (va_runV (As := []) (rest := [.int 2]) ⟨hx, hb, hml, hown, hts⟩ hM59 (cwV 0 hts (gV q_272 q_77 q_78 q_12 q_75) rfl rfl rfl hV_Jx4a65c_size_8abf5 ⟨Nat.le_of_ble_eq_true rfl, Nat.le_of_ble_eq_true rfl⟩) ⟨pc_blind, va_recv hK hP (ci := 0) (q := (RJx4a65c, TJx4a65c, 3)) (q0 := 4) rfl rfl, fun U hU hW => ⟨rfl, hC60 U hU hW⟩⟩ rfl rfl hl.1 rfl (lv_room (Nat.le_of_ble_eq_true rfl)) dX9_showsIt_39 ⟨(Nat.le_of_ble_eq_true rfl), (Nat.le_of_ble_eq_true rfl)⟩) hS (fun q9 _ h9 => hF57 q9 h9) hF57 (fun r62 u61 t61 H61 L61 ht61 hvm61 hw61 hB61 hz61 hk61 hS => ?_)
  have hP := pq_keep hP hD [4] rfl hk61 hB61.1 ht61
  have hG : s.heap.size + 22 ≤ H61.size := Nat.le_trans hG hz61
  refine W.eq (g2 := F0 m 42 ls [.int 7, .int 2]) (by rw [hw61]) ?_
  refine lv_icmp_ge (tgt := 125) hx hb dX9_showsIt_42 (by decide) (fun cz => absurd cz (by decide)) (fun _ => ?_)
  refine lv_iload hx hb dX9_showsIt_45 (lv_at hl 1 rfl) ?_
  refine lv_if_ne (tgt := 125) hx hb dX9_showsIt_47 (by decide) (fun cz => absurd (by decide) cz) (fun _ => ?_)
  refine lv_aload_n hx hb dX9_showsIt_50 rfl (lv_at hl 4 rfl) ?_
  refine lv_iload hx hb dX9_showsIt_51 (lv_at hl 0 rfl) ?_
  have hM65 := k948_isLooked l hl9 dC dI z h0 h1 h4 h6 h7 h8 h9 h10 h11 h12 h2 o0 h3 H61.size kc0
  obtain ⟨hF63, hC66⟩ := pc_M hM65 hP hD hK hS hX hT hA [2, 4, 7, 9, 10, 11, 12, 13, 14, 15] [3] rfl rfl rfl
  refine va_calli (va_runV (As := [.int 2]) (rest := []) ⟨hx, hb, hml, hown, hts⟩ hM65 (cwV 1 hts (gV q_425 q_426 q_427 q_60 q_424) rfl rfl rfl hV_X9_isLooked ⟨Nat.le_of_ble_eq_true rfl, Nat.le_of_ble_eq_true rfl⟩) ⟨pc_blind, va_recv hK hP (ci := 8) (q := (RX9, TX9, 6)) (q0 := 2) rfl rfl, fun U hU hW => ⟨rfl, hC66 U hU hW⟩⟩ rfl rfl hl.1 rfl (lv_room (Nat.le_of_ble_eq_true rfl)) dX9_showsIt_53 ⟨(Nat.le_of_ble_eq_true rfl), (Nat.le_of_ble_eq_true rfl)⟩) hS (fun q9 _ h9 => hF63 q9 h9) hF63 (fun r68 u67 t67 H67 L67 ht67 hvm67 hw67 hB67 hz67 hk67 hS => ?_)
  have hP := pq_keep hP hD [2, 4, 7, 9, 10, 11, 12, 13, 14, 15] rfl hk67 hB67.1 ht67
  have hG : s.heap.size + 23 ≤ H67.size := va_gr (g := 22) (g1 := 1) hG (by rw [← ht67]; exact hB67.2)
  refine W.eq (g2 := F0 m 56 ls [.int 0]) (by rw [hw67]) ?_
  refine W.widen (k := 23) (n := 236) (by decide) (by decide) ?_
  refine lv_if_eq (tgt := 119) hx hb dX9_showsIt_56 (by decide) (fun _ => ?_) (fun cz => absurd (by decide) cz)
  refine lv_iinc (v := 3) (lv' := [(7, .int 3), (6, .int 0), (5, .ref a31), (4, .ref a15), (0, .ref h0), (1, .int 6), (2, .int 49), (3, .int 0)]) hx hb dX9_showsIt_119 hl (k := 0) rfl (by decide) (by decide) rfl (fun ls hl => ?_)
  refine lv_goto (tgt := 33) hx hb dX9_showsIt_122 (by decide) ?_
  refine lv_iload hx hb dX9_showsIt_33 (lv_at hl 0 rfl) ?_
  refine lv_aload_n hx hb dX9_showsIt_35 rfl (lv_at hl 4 rfl) ?_
  refine va_get (D := (dC, dI)) (ci := 8) (v := .ref h1) (C := RX9) (T := TX9) (N := 6) hx hb hts in_X9 hown hK hP 2 rfl rfl 1 (by decide) (hts _ q_64) (fun _ h9 => h9) rfl dX9_showsIt_36 ?_
  have hM71 := k20_size l hl9 dC dI z h1 h4 H67.size 7 7
  obtain ⟨hF69, hC72⟩ := pc_M hM71 hP hD hK hS hX hT hA [4] [] rfl rfl rfl
  refine va_calli (va_runV (As := []) (rest := [.int 3]) ⟨hx, hb, hml, hown, hts⟩ hM71 (cwV 0 hts (gV q_272 q_77 q_78 q_12 q_75) rfl rfl rfl hV_Jx4a65c_size_8abf5 ⟨Nat.le_of_ble_eq_true rfl, Nat.le_of_ble_eq_true rfl⟩) ⟨pc_blind, va_recv hK hP (ci := 0) (q := (RJx4a65c, TJx4a65c, 3)) (q0 := 4) rfl rfl, fun U hU hW => ⟨rfl, hC72 U hU hW⟩⟩ rfl rfl hl.1 rfl (lv_room (Nat.le_of_ble_eq_true rfl)) dX9_showsIt_39 ⟨(Nat.le_of_ble_eq_true rfl), (Nat.le_of_ble_eq_true rfl)⟩) hS (fun q9 _ h9 => hF69 q9 h9) hF69 (fun r74 u73 t73 H73 L73 ht73 hvm73 hw73 hB73 hz73 hk73 hS => ?_)
  have hP := pq_keep hP hD [4] rfl hk73 hB73.1 ht73
  have hG : s.heap.size + 23 ≤ H73.size := Nat.le_trans hG hz73
  refine W.eq (g2 := F0 m 42 ls [.int 7, .int 3]) (by rw [hw73]) ?_
  refine lv_icmp_ge (tgt := 125) hx hb dX9_showsIt_42 (by decide) (fun cz => absurd cz (by decide)) (fun _ => ?_)
  refine lv_iload hx hb dX9_showsIt_45 (lv_at hl 1 rfl) ?_
  refine lv_if_ne (tgt := 125) hx hb dX9_showsIt_47 (by decide) (fun cz => absurd (by decide) cz) (fun _ => ?_)
  refine lv_aload_n hx hb dX9_showsIt_50 rfl (lv_at hl 4 rfl) ?_
  refine lv_iload hx hb dX9_showsIt_51 (lv_at hl 0 rfl) ?_
  have hM77 := k949_isLooked l hl9 dC dI z h0 h1 h4 h6 h7 h8 h9 h10 h11 h12 h2 o0 h3 H73.size kc0
  obtain ⟨hF75, hC78⟩ := pc_M hM77 hP hD hK hS hX hT hA [2, 4, 7, 9, 10, 11, 12, 13, 14, 15] [3] rfl rfl rfl
  refine va_calli (va_runV (As := [.int 3]) (rest := []) ⟨hx, hb, hml, hown, hts⟩ hM77 (cwV 1 hts (gV q_425 q_426 q_427 q_60 q_424) rfl rfl rfl hV_X9_isLooked ⟨Nat.le_of_ble_eq_true rfl, Nat.le_of_ble_eq_true rfl⟩) ⟨pc_blind, va_recv hK hP (ci := 8) (q := (RX9, TX9, 6)) (q0 := 2) rfl rfl, fun U hU hW => ⟨rfl, hC78 U hU hW⟩⟩ rfl rfl hl.1 rfl (lv_room (Nat.le_of_ble_eq_true rfl)) dX9_showsIt_53 ⟨(Nat.le_of_ble_eq_true rfl), (Nat.le_of_ble_eq_true rfl)⟩) hS (fun q9 _ h9 => hF75 q9 h9) hF75 (fun r80 u79 t79 H79 L79 ht79 hvm79 hw79 hB79 hz79 hk79 hS => ?_)
  have hP := pq_keep hP hD [2, 4, 7, 9, 10, 11, 12, 13, 14, 15] rfl hk79 hB79.1 ht79
  have hG : s.heap.size + 24 ≤ H79.size := va_gr (g := 23) (g1 := 1) hG (by rw [← ht79]; exact hB79.2)
  refine W.eq (g2 := F0 m 56 ls [.int 0]) (by rw [hw79]) ?_
  refine W.widen (k := 24) (n := 240) (by decide) (by decide) ?_
  refine lv_if_eq (tgt := 119) hx hb dX9_showsIt_56 (by decide) (fun _ => ?_) (fun cz => absurd (by decide) cz)
  refine lv_iinc (v := 4) (lv' := [(7, .int 4), (6, .int 0), (5, .ref a31), (4, .ref a15), (0, .ref h0), (1, .int 6), (2, .int 49), (3, .int 0)]) hx hb dX9_showsIt_119 hl (k := 0) rfl (by decide) (by decide) rfl (fun ls hl => ?_)
  refine lv_goto (tgt := 33) hx hb dX9_showsIt_122 (by decide) ?_
  refine lv_iload hx hb dX9_showsIt_33 (lv_at hl 0 rfl) ?_
  refine lv_aload_n hx hb dX9_showsIt_35 rfl (lv_at hl 4 rfl) ?_
  refine va_get (D := (dC, dI)) (ci := 8) (v := .ref h1) (C := RX9) (T := TX9) (N := 6) hx hb hts in_X9 hown hK hP 2 rfl rfl 1 (by decide) (hts _ q_64) (fun _ h9 => h9) rfl dX9_showsIt_36 ?_
  have hM83 := k20_size l hl9 dC dI z h1 h4 H79.size 7 7
  obtain ⟨hF81, hC84⟩ := pc_M hM83 hP hD hK hS hX hT hA [4] [] rfl rfl rfl
  refine va_calli (va_runV (As := []) (rest := [.int 4]) ⟨hx, hb, hml, hown, hts⟩ hM83 (cwV 0 hts (gV q_272 q_77 q_78 q_12 q_75) rfl rfl rfl hV_Jx4a65c_size_8abf5 ⟨Nat.le_of_ble_eq_true rfl, Nat.le_of_ble_eq_true rfl⟩) ⟨pc_blind, va_recv hK hP (ci := 0) (q := (RJx4a65c, TJx4a65c, 3)) (q0 := 4) rfl rfl, fun U hU hW => ⟨rfl, hC84 U hU hW⟩⟩ rfl rfl hl.1 rfl (lv_room (Nat.le_of_ble_eq_true rfl)) dX9_showsIt_39 ⟨(Nat.le_of_ble_eq_true rfl), (Nat.le_of_ble_eq_true rfl)⟩) hS (fun q9 _ h9 => hF81 q9 h9) hF81 (fun r86 u85 t85 H85 L85 ht85 hvm85 hw85 hB85 hz85 hk85 hS => ?_)
  have hP := pq_keep hP hD [4] rfl hk85 hB85.1 ht85
  have hG : s.heap.size + 24 ≤ H85.size := Nat.le_trans hG hz85
  refine W.eq (g2 := F0 m 42 ls [.int 7, .int 4]) (by rw [hw85]) ?_
  refine lv_icmp_ge (tgt := 125) hx hb dX9_showsIt_42 (by decide) (fun cz => absurd cz (by decide)) (fun _ => ?_)
  refine lv_iload hx hb dX9_showsIt_45 (lv_at hl 1 rfl) ?_
  refine lv_if_ne (tgt := 125) hx hb dX9_showsIt_47 (by decide) (fun cz => absurd (by decide) cz) (fun _ => ?_)
  refine lv_aload_n hx hb dX9_showsIt_50 rfl (lv_at hl 4 rfl) ?_
  refine lv_iload hx hb dX9_showsIt_51 (lv_at hl 0 rfl) ?_
  have hM89 := k950_isLooked l hl9 dC dI z h0 h1 h4 h6 h7 h8 h9 h10 h11 h12 h2 o0 h3 H85.size kc0
  obtain ⟨hF87, hC90⟩ := pc_M hM89 hP hD hK hS hX hT hA [2, 4, 7, 9, 10, 11, 12, 13, 14, 15] [3] rfl rfl rfl
  refine va_calli (va_runV (As := [.int 4]) (rest := []) ⟨hx, hb, hml, hown, hts⟩ hM89 (cwV 1 hts (gV q_425 q_426 q_427 q_60 q_424) rfl rfl rfl hV_X9_isLooked ⟨Nat.le_of_ble_eq_true rfl, Nat.le_of_ble_eq_true rfl⟩) ⟨pc_blind, va_recv hK hP (ci := 8) (q := (RX9, TX9, 6)) (q0 := 2) rfl rfl, fun U hU hW => ⟨rfl, hC90 U hU hW⟩⟩ rfl rfl hl.1 rfl (lv_room (Nat.le_of_ble_eq_true rfl)) dX9_showsIt_53 ⟨(Nat.le_of_ble_eq_true rfl), (Nat.le_of_ble_eq_true rfl)⟩) hS (fun q9 _ h9 => hF87 q9 h9) hF87 (fun r92 u91 t91 H91 L91 ht91 hvm91 hw91 hB91 hz91 hk91 hS => ?_)
  have hP := pq_keep hP hD [2, 4, 7, 9, 10, 11, 12, 13, 14, 15] rfl hk91 hB91.1 ht91
  have hG : s.heap.size + 25 ≤ H91.size := va_gr (g := 24) (g1 := 1) hG (by rw [← ht91]; exact hB91.2)
  refine W.eq (g2 := F0 m 56 ls [.int 0]) (by rw [hw91]) ?_
  refine W.widen (k := 25) (n := 244) (by decide) (by decide) ?_
  refine lv_if_eq (tgt := 119) hx hb dX9_showsIt_56 (by decide) (fun _ => ?_) (fun cz => absurd (by decide) cz)
  refine lv_iinc (v := 5) (lv' := [(7, .int 5), (6, .int 0), (5, .ref a31), (4, .ref a15), (0, .ref h0), (1, .int 6), (2, .int 49), (3, .int 0)]) hx hb dX9_showsIt_119 hl (k := 0) rfl (by decide) (by decide) rfl (fun ls hl => ?_)
  refine lv_goto (tgt := 33) hx hb dX9_showsIt_122 (by decide) ?_
  refine lv_iload hx hb dX9_showsIt_33 (lv_at hl 0 rfl) ?_
  refine lv_aload_n hx hb dX9_showsIt_35 rfl (lv_at hl 4 rfl) ?_
  refine va_get (D := (dC, dI)) (ci := 8) (v := .ref h1) (C := RX9) (T := TX9) (N := 6) hx hb hts in_X9 hown hK hP 2 rfl rfl 1 (by decide) (hts _ q_64) (fun _ h9 => h9) rfl dX9_showsIt_36 ?_
  have hM95 := k20_size l hl9 dC dI z h1 h4 H91.size 7 7
  obtain ⟨hF93, hC96⟩ := pc_M hM95 hP hD hK hS hX hT hA [4] [] rfl rfl rfl
  refine va_calli (va_runV (As := []) (rest := [.int 5]) ⟨hx, hb, hml, hown, hts⟩ hM95 (cwV 0 hts (gV q_272 q_77 q_78 q_12 q_75) rfl rfl rfl hV_Jx4a65c_size_8abf5 ⟨Nat.le_of_ble_eq_true rfl, Nat.le_of_ble_eq_true rfl⟩) ⟨pc_blind, va_recv hK hP (ci := 0) (q := (RJx4a65c, TJx4a65c, 3)) (q0 := 4) rfl rfl, fun U hU hW => ⟨rfl, hC96 U hU hW⟩⟩ rfl rfl hl.1 rfl (lv_room (Nat.le_of_ble_eq_true rfl)) dX9_showsIt_39 ⟨(Nat.le_of_ble_eq_true rfl), (Nat.le_of_ble_eq_true rfl)⟩) hS (fun q9 _ h9 => hF93 q9 h9) hF93 (fun r98 u97 t97 H97 L97 ht97 hvm97 hw97 hB97 hz97 hk97 hS => ?_)
  have hP := pq_keep hP hD [4] rfl hk97 hB97.1 ht97
  have hG : s.heap.size + 25 ≤ H97.size := Nat.le_trans hG hz97
  refine W.eq (g2 := F0 m 42 ls [.int 7, .int 5]) (by rw [hw97]) ?_
  refine lv_icmp_ge (tgt := 125) hx hb dX9_showsIt_42 (by decide) (fun cz => absurd cz (by decide)) (fun _ => ?_)
  refine lv_iload hx hb dX9_showsIt_45 (lv_at hl 1 rfl) ?_
  refine lv_if_ne (tgt := 125) hx hb dX9_showsIt_47 (by decide) (fun cz => absurd (by decide) cz) (fun _ => ?_)
  refine lv_aload_n hx hb dX9_showsIt_50 rfl (lv_at hl 4 rfl) ?_
  refine lv_iload hx hb dX9_showsIt_51 (lv_at hl 0 rfl) ?_
  have hM101 := k951_isLooked l hl9 dC dI z h0 h1 h4 h6 h7 h8 h9 h10 h11 h12 h2 o0 h3 H97.size kc0
  obtain ⟨hF99, hC102⟩ := pc_M hM101 hP hD hK hS hX hT hA [2, 4, 7, 9, 10, 11, 12, 13, 14, 15] [3] rfl rfl rfl
  refine va_calli (va_runV (As := [.int 5]) (rest := []) ⟨hx, hb, hml, hown, hts⟩ hM101 (cwV 1 hts (gV q_425 q_426 q_427 q_60 q_424) rfl rfl rfl hV_X9_isLooked ⟨Nat.le_of_ble_eq_true rfl, Nat.le_of_ble_eq_true rfl⟩) ⟨pc_blind, va_recv hK hP (ci := 8) (q := (RX9, TX9, 6)) (q0 := 2) rfl rfl, fun U hU hW => ⟨rfl, hC102 U hU hW⟩⟩ rfl rfl hl.1 rfl (lv_room (Nat.le_of_ble_eq_true rfl)) dX9_showsIt_53 ⟨(Nat.le_of_ble_eq_true rfl), (Nat.le_of_ble_eq_true rfl)⟩) hS (fun q9 _ h9 => hF99 q9 h9) hF99 (fun r104 u103 t103 H103 L103 ht103 hvm103 hw103 hB103 hz103 hk103 hS => ?_)
  have hP := pq_keep hP hD [2, 4, 7, 9, 10, 11, 12, 13, 14, 15] rfl hk103 hB103.1 ht103
  have hG : s.heap.size + 26 ≤ H103.size := va_gr (g := 25) (g1 := 1) hG (by rw [← ht103]; exact hB103.2)
  refine W.eq (g2 := F0 m 56 ls [.int 0]) (by rw [hw103]) ?_
  refine W.widen (k := 26) (n := 248) (by decide) (by decide) ?_
  refine lv_if_eq (tgt := 119) hx hb dX9_showsIt_56 (by decide) (fun _ => ?_) (fun cz => absurd (by decide) cz)
  refine lv_iinc (v := 6) (lv' := [(7, .int 6), (6, .int 0), (5, .ref a31), (4, .ref a15), (0, .ref h0), (1, .int 6), (2, .int 49), (3, .int 0)]) hx hb dX9_showsIt_119 hl (k := 0) rfl (by decide) (by decide) rfl (fun ls hl => ?_)
  refine lv_goto (tgt := 33) hx hb dX9_showsIt_122 (by decide) ?_
  refine lv_iload hx hb dX9_showsIt_33 (lv_at hl 0 rfl) ?_
  refine lv_aload_n hx hb dX9_showsIt_35 rfl (lv_at hl 4 rfl) ?_
  refine va_get (D := (dC, dI)) (ci := 8) (v := .ref h1) (C := RX9) (T := TX9) (N := 6) hx hb hts in_X9 hown hK hP 2 rfl rfl 1 (by decide) (hts _ q_64) (fun _ h9 => h9) rfl dX9_showsIt_36 ?_
  have hM107 := k20_size l hl9 dC dI z h1 h4 H103.size 7 7
  obtain ⟨hF105, hC108⟩ := pc_M hM107 hP hD hK hS hX hT hA [4] [] rfl rfl rfl
  refine va_calli (va_runV (As := []) (rest := [.int 6]) ⟨hx, hb, hml, hown, hts⟩ hM107 (cwV 0 hts (gV q_272 q_77 q_78 q_12 q_75) rfl rfl rfl hV_Jx4a65c_size_8abf5 ⟨Nat.le_of_ble_eq_true rfl, Nat.le_of_ble_eq_true rfl⟩) ⟨pc_blind, va_recv hK hP (ci := 0) (q := (RJx4a65c, TJx4a65c, 3)) (q0 := 4) rfl rfl, fun U hU hW => ⟨rfl, hC108 U hU hW⟩⟩ rfl rfl hl.1 rfl (lv_room (Nat.le_of_ble_eq_true rfl)) dX9_showsIt_39 ⟨(Nat.le_of_ble_eq_true rfl), (Nat.le_of_ble_eq_true rfl)⟩) hS (fun q9 _ h9 => hF105 q9 h9) hF105 (fun r110 u109 t109 H109 L109 ht109 hvm109 hw109 hB109 hz109 hk109 hS => ?_)
  have hP := pq_keep hP hD [4] rfl hk109 hB109.1 ht109
  have hG : s.heap.size + 26 ≤ H109.size := Nat.le_trans hG hz109
  refine W.eq (g2 := F0 m 42 ls [.int 7, .int 6]) (by rw [hw109]) ?_
  refine lv_icmp_ge (tgt := 125) hx hb dX9_showsIt_42 (by decide) (fun cz => absurd cz (by decide)) (fun _ => ?_)
  refine lv_iload hx hb dX9_showsIt_45 (lv_at hl 1 rfl) ?_
  refine lv_if_ne (tgt := 125) hx hb dX9_showsIt_47 (by decide) (fun cz => absurd (by decide) cz) (fun _ => ?_)
  refine lv_aload_n hx hb dX9_showsIt_50 rfl (lv_at hl 4 rfl) ?_
  refine lv_iload hx hb dX9_showsIt_51 (lv_at hl 0 rfl) ?_
  have hM113 := k952_isLooked l hl9 dC dI z h0 h1 h4 h6 h7 h8 h9 h10 h11 h12 h2 o0 h3 H109.size kc0
  obtain ⟨hF111, hC114⟩ := pc_M hM113 hP hD hK hS hX hT hA [2, 4, 7, 9, 10, 11, 12, 13, 14, 15] [3] rfl rfl rfl
  refine va_calli (va_runV (As := [.int 6]) (rest := []) ⟨hx, hb, hml, hown, hts⟩ hM113 (cwV 1 hts (gV q_425 q_426 q_427 q_60 q_424) rfl rfl rfl hV_X9_isLooked ⟨Nat.le_of_ble_eq_true rfl, Nat.le_of_ble_eq_true rfl⟩) ⟨pc_blind, va_recv hK hP (ci := 8) (q := (RX9, TX9, 6)) (q0 := 2) rfl rfl, fun U hU hW => ⟨rfl, hC114 U hU hW⟩⟩ rfl rfl hl.1 rfl (lv_room (Nat.le_of_ble_eq_true rfl)) dX9_showsIt_53 ⟨(Nat.le_of_ble_eq_true rfl), (Nat.le_of_ble_eq_true rfl)⟩) hS (fun q9 _ h9 => hF111 q9 h9) hF111 (fun r116 u115 t115 H115 L115 ht115 hvm115 hw115 hB115 hz115 hk115 hS => ?_)
  have hP := pq_keep hP hD [2, 4, 7, 9, 10, 11, 12, 13, 14, 15] rfl hk115 hB115.1 ht115
  have hG : s.heap.size + 27 ≤ H115.size := va_gr (g := 26) (g1 := 1) hG (by rw [← ht115]; exact hB115.2)
  refine W.eq (g2 := F0 m 56 ls [.int 0]) (by rw [hw115]) ?_
  refine W.widen (k := 27) (n := 252) (by decide) (by decide) ?_
  refine lv_if_eq (tgt := 119) hx hb dX9_showsIt_56 (by decide) (fun _ => ?_) (fun cz => absurd (by decide) cz)
  refine lv_iinc (v := 7) (lv' := [(7, .int 7), (6, .int 0), (5, .ref a31), (4, .ref a15), (0, .ref h0), (1, .int 6), (2, .int 49), (3, .int 0)]) hx hb dX9_showsIt_119 hl (k := 0) rfl (by decide) (by decide) rfl (fun ls hl => ?_)
  refine lv_goto (tgt := 33) hx hb dX9_showsIt_122 (by decide) ?_
  refine lv_iload hx hb dX9_showsIt_33 (lv_at hl 0 rfl) ?_
  refine lv_aload_n hx hb dX9_showsIt_35 rfl (lv_at hl 4 rfl) ?_
  refine va_get (D := (dC, dI)) (ci := 8) (v := .ref h1) (C := RX9) (T := TX9) (N := 6) hx hb hts in_X9 hown hK hP 2 rfl rfl 1 (by decide) (hts _ q_64) (fun _ h9 => h9) rfl dX9_showsIt_36 ?_
  have hM119 := k20_size l hl9 dC dI z h1 h4 H115.size 7 7
  obtain ⟨hF117, hC120⟩ := pc_M hM119 hP hD hK hS hX hT hA [4] [] rfl rfl rfl
  refine va_calli (va_runV (As := []) (rest := [.int 7]) ⟨hx, hb, hml, hown, hts⟩ hM119 (cwV 0 hts (gV q_272 q_77 q_78 q_12 q_75) rfl rfl rfl hV_Jx4a65c_size_8abf5 ⟨Nat.le_of_ble_eq_true rfl, Nat.le_of_ble_eq_true rfl⟩) ⟨pc_blind, va_recv hK hP (ci := 0) (q := (RJx4a65c, TJx4a65c, 3)) (q0 := 4) rfl rfl, fun U hU hW => ⟨rfl, hC120 U hU hW⟩⟩ rfl rfl hl.1 rfl (lv_room (Nat.le_of_ble_eq_true rfl)) dX9_showsIt_39 ⟨(Nat.le_of_ble_eq_true rfl), (Nat.le_of_ble_eq_true rfl)⟩) hS (fun q9 _ h9 => hF117 q9 h9) hF117 (fun r122 u121 t121 H121 L121 ht121 hvm121 hw121 hB121 hz121 hk121 hS => ?_)
  have hP := pq_keep hP hD [4] rfl hk121 hB121.1 ht121
  have hG : s.heap.size + 27 ≤ H121.size := Nat.le_trans hG hz121
  refine W.eq (g2 := F0 m 42 ls [.int 7, .int 7]) (by rw [hw121]) ?_
  refine lv_icmp_ge (tgt := 125) hx hb dX9_showsIt_42 (by decide) (fun _ => ?_) (fun cz => absurd (by decide) cz)
  refine lv_iload hx hb dX9_showsIt_125 (lv_at hl 1 rfl) ?_
  exact W.zret (v := 0) (ty := .boolean) hx hb hr rfl (fun t9 ht9 hW9 => ⟨⟨0, (), rfl, rfl, ⟨pq_mk2 hP hD hK [2, 4, 5, 6, 7, 8, 9, 10, 11, 12, 13, 14, 15] [3, 4] rfl rfl rfl ht9 hW9, by rw [ht9]; exact Nat.le_trans (Nat.add_le_add_left (Nat.le_of_ble_eq_true rfl) _) hG⟩⟩, hS.F ht9⟩) hS.2.2 dX9_showsIt_127

set_option maxHeartbeats 8000000 in
set_option maxRecDepth 100000 in
theorem k986_shown_g1 {p : Program} {l : Launch} {e : Env} {s : State} {m : MethodId} {args : Array Value} {below : List Frame} {meth : Method} {c : Code} {Q : State → Prop} {A : Nat → Prop} {H : Heap} {locs : List Loc} {ls : Array Slot} {dC : Nat → ClassId} {dI : Nat → Nat → Nat} {z : XZ} {h0 h1 h2 h3 h4 h5 h6 h7 h8 h9 h10 h11 h12 h13 h14 : Nat} {kc0 kc1 kc2 : ClassId} (hl9 : l.stackTraces = false) (hx : p.tables.exec = Jvm.exec) (hb : c.code = cX9_shown) (hml : c.maxLocals = 7) (hown : s.vm.findClass RX9 = some m.cls) (hts : ∀ w ∈ wsL_law, w.before args s = true) (hA : ∀ q : Nat, s.heap.size ≤ q → A q) (hX : XE z A s s.heap) (hT : XT s) (hS : va_S A s.heap H locs) (hP : va_P (dC, dI) xCl [(h0, ce21 h1 h2 h3 h4), (h1, ce331 h5), (h2, ce3 z.1), (h3, ce331 h6), (h4, ce366 h7), (h5, ce330 kc0 h8 h9 h10 h11 h12 h13 h14), (h6, ce330 kc1 (z.2.2.1 128) (z.2.2.1 128) (z.2.2.1 128) (z.2.2.1 128) (z.2.2.1 128) (z.2.2.1 128) (z.2.2.1 128)), (h7, ce330 kc2 (z.2.2.1 128) (z.2.2.1 129) (z.2.2.1 130) (z.2.2.1 131) (z.2.2.1 132) (z.2.2.1 133) (z.2.2.1 134)), (h8, ce49), (h9, ce49), (h10, ce49), (h11, ce49), (h12, ce49), (h13, ce49), (h14, ce49)] H) (hD : va_D A [(h0, ce21 h1 h2 h3 h4), (h1, ce331 h5), (h2, ce3 z.1), (h3, ce331 h6), (h4, ce366 h7), (h5, ce330 kc0 h8 h9 h10 h11 h12 h13 h14), (h6, ce330 kc1 (z.2.2.1 128) (z.2.2.1 128) (z.2.2.1 128) (z.2.2.1 128) (z.2.2.1 128) (z.2.2.1 128) (z.2.2.1 128)), (h7, ce330 kc2 (z.2.2.1 128) (z.2.2.1 129) (z.2.2.1 130) (z.2.2.1 131) (z.2.2.1 132) (z.2.2.1 133) (z.2.2.1 134)), (h8, ce49), (h9, ce49), (h10, ce49), (h11, ce49), (h12, ce49), (h13, ce49), (h14, ce49)]) (hK : va_K (dC, dI) xCl [(kc0, .object "java/lang/Object"), (kc1, .object "java/lang/Object"), (kc2, .object "java/lang/Object")] s) (hl : lv_has ls 7 [(3, .int 48), (2, .int 0), (1, .int 0), (0, .ref h0)]) (hG : s.heap.size + 0 ≤ H.size) (hend : ∀ (H' : Heap) (locs' : List Loc) (ls' : Array Slot), va_S A s.heap H' locs' → va_P (dC, dI) xCl [(h0, ce21 h1 h2 h3 h4), (h1, ce331 h5), (h2, ce3 z.1), (h3, ce331 h6), (h4, ce366 h7), (h5, ce330 kc0 h8 h9 h10 h11 h12 h13 h14), (h6, ce330 kc1 (z.2.2.1 128) (z.2.2.1 128) (z.2.2.1 128) (z.2.2.1 128) (z.2.2.1 128) (z.2.2.1 128) (z.2.2.1 128)), (h7, ce330 kc2 (z.2.2.1 128) (z.2.2.1 129) (z.2.2.1 130) (z.2.2.1 131) (z.2.2.1 132) (z.2.2.1 133) (z.2.2.1 134)), (h8, ce49), (h9, ce49), (h10, ce49), (h11, ce49), (h12, ce49), (h13, ce49), (h14, ce49)] H' → va_D A [(h0, ce21 h1 h2 h3 h4), (h1, ce331 h5), (h2, ce3 z.1), (h3, ce331 h6), (h4, ce366 h7), (h5, ce330 kc0 h8 h9 h10 h11 h12 h13 h14), (h6, ce330 kc1 (z.2.2.1 128) (z.2.2.1 128) (z.2.2.1 128) (z.2.2.1 128) (z.2.2.1 128) (z.2.2.1 128) (z.2.2.1 128)), (h7, ce330 kc2 (z.2.2.1 128) (z.2.2.1 129) (z.2.2.1 130) (z.2.2.1 131) (z.2.2.1 132) (z.2.2.1 133) (z.2.2.1 134)), (h8, ce49), (h9, ce49), (h10, ce49), (h11, ce49), (h12, ce49), (h13, ce49), (h14, ce49)] → lv_has ls' 7 [(3, .int 49), (1, .int 0), (2, .int 0), (0, .ref h0)] → s.heap.size + 190 ≤ H'.size → W p l e ({ frames := 5, cells := 2660, slots := 24752, locals := 121 } : Room) s m args below meth c H' locs' 190 1768 Q (F0 m 23 ls' [])) : W p l e ({ frames := 5, cells := 2660, slots := 24752, locals := 121 } : Room) s m args below meth c H locs 0 0 Q (F0 m 23 ls []) := by
  refine lv_iload_n hx hb dX9_shown_23 rfl (lv_at hl 0 rfl) ?_
  refine lv_bipush (v := 49) hx hb dX9_shown_24 (by decide) ?_
  refine lv_icmp_gt (tgt := 113) hx hb dX9_shown_26 (by decide) (fun cz => absurd cz (by decide)) (fun _ => ?_)
  refine lv_iconst (v := 0) hx hb dX9_shown_29 (by decide) ?_
  refine lv_istore (lv' := [(4, .int 0), (3, .int 48), (2, .int 0), (1, .int 0), (0, .ref h0)]) hx hb dX9_shown_30 hl (by decide) rfl (fun ls hl => ?_)
  refine lv_aload_n hx hb dX9_shown_32 rfl (lv_at hl 4 rfl) ?_
  refine va_get (D := (dC, dI)) (ci := 8) (v := .ref h3) (C := RX9) (T := TX9) (N := 6) hx hb hts in_X9 hown hK hP 0 rfl rfl 3 (by decide) (hts _ q_66) (fun _ h9 => h9) rfl dX9_shown_33 ?_
  have hM10 := k724_iterator l hl9 dC dI z h3 h6 H.size
  obtain ⟨hF8, hC11⟩ := pc_M hM10 hP hD hK hS hX hT hA [3] [] rfl rfl rfl
  refine va_callr (va_runV (As := []) (rest := []) ⟨hx, hb, hml, hown, hts⟩ hM10 (cwV 0 hts (gV q_256 q_257 q_258 q_12 q_255) rfl rfl rfl hV_Jx4a65c_iterator_32c93 ⟨Nat.le_of_ble_eq_true rfl, Nat.le_of_ble_eq_true rfl⟩) ⟨pc_blind, va_recv hK hP (ci := 0) (q := (RJx4a65c, TJx4a65c, 3)) (q0 := 3) rfl rfl, fun U hU hW => ⟨rfl, hC11 U hU hW⟩⟩ rfl rfl hl.1 rfl (lv_room (Nat.le_of_ble_eq_true rfl)) dX9_shown_36 ⟨(Nat.le_of_ble_eq_true rfl), (Nat.le_of_ble_eq_true rfl)⟩) hS (fun q9 _ h9 => hF8 q9 h9) hF8 (fun u12 r13 t12 H12 L12 ht12 hvm12 hw12 hB12 hz12 hk12 hS => ?_)
  obtain ⟨a14, hr12, hB12⟩ := hB12
  obtain ⟨hP, hD, hK⟩ := pq_jn (wz := [(h0, ce21 h1 h2 h3 h4), (h1, ce331 h5), (h2, ce3 z.1), (h4, ce366 h7), (h5, ce330 kc0 h8 h9 h10 h11 h12 h13 h14), (h6, ce330 kc1 (z.2.2.1 128) (z.2.2.1 128) (z.2.2.1 128) (z.2.2.1 128) (z.2.2.1 128) (z.2.2.1 128) (z.2.2.1 128)), (h7, ce330 kc2 (z.2.2.1 128) (z.2.2.1 129) (z.2.2.1 130) (z.2.2.1 131) (z.2.2.1 132) (z.2.2.1 133) (z.2.2.1 134)), (h8, ce49), (h9, ce49), (h10, ce49), (h11, ce49), (h12, ce49), (h13, ce49), (h14, ce49), (h3, ce331 h6), (a14, ce370 h3)]) (tz := [(kc0, .object "java/lang/Object"), (kc1, .object "java/lang/Object"), (kc2, .object "java/lang/Object")]) hP hD hK [3] [0, 1, 2] rfl hk12 hF8 hB12.1 ht12 hvm12 rfl rfl
  have hG : s.heap.size + 1 ≤ H12.size := va_gr (g := 0) (g1 := 1) hG (by rw [← ht12]; exact hB12.2)
  refine W.eq (g2 := F0 m 39 ls [.ref a14]) (by rw [hr12]) ?_
  refine W.widen (k := 1) (n := 4) (by decide) (by decide) ?_
  refine lv_astore (lv' := [(5, .ref a14), (4, .int 0), (3, .int 48), (2, .int 0), (1, .int 0), (0, .ref h0)]) hx hb dX9_shown_39 hl (by decide) rfl (fun ls hl => ?_)
  refine lv_aload hx hb dX9_shown_41 (lv_at hl 0 rfl) ?_
  have hM17 := k725_hasNext l hl9 dC dI z a14 h3 h6 H12.size
  obtain ⟨hF15, hC18⟩ := pc_M hM17 hP hD hK hS hX hT hA [15, 14] [] rfl rfl rfl
  refine va_callFi (va_runF (As := []) (rest := []) (hK.1 1 (RJx35411, TJx35411, 4) rfl).2 ⟨hx, hb, hml, hown, hts⟩ hM17 (va_cwF 0 hts (gF q_261 q_262 q_263 q_246 q_260) rfl rfl rfl hT.2.2.2.2.2.2.1 hF_xIh ⟨Nat.le_of_ble_eq_true rfl, Nat.le_of_ble_eq_true rfl⟩) ⟨pc_blind, va_recv hK hP (ci := 1) (q := (RJx35411, TJx35411, 4)) (q0 := 15) rfl rfl, fun U hU hW => ⟨rfl, hC18 U hU hW⟩⟩ rfl rfl hl.1 rfl (lv_room (Nat.le_of_ble_eq_true rfl)) dX9_shown_43 ⟨(Nat.le_of_ble_eq_true rfl), (Nat.le_of_ble_eq_true rfl)⟩) hS (fun q9 _ h9 => hF15 q9 h9) hF15 (fun r20 u19 t19 H19 L19 ht19 hvm19 hw19 hB19 hz19 hk19 hS => ?_)
  have hP := pq_keep hP hD [15, 14] rfl hk19 hB19.1 ht19
  have hG : s.heap.size + 1 ≤ H19.size := Nat.le_trans hG hz19
  refine W.eq (g2 := F0 m 48 ls [.int 1]) (by rw [hw19]) ?_
  refine lv_if_eq (tgt := 92) hx hb dX9_shown_48 (by decide) (fun cz => absurd cz (by decide)) (fun _ => ?_)
  refine lv_aload hx hb dX9_shown_51 (lv_at hl 0 rfl) ?_
  have hM23 := k942_next l hl9 dC dI z a14 h3 h6 H19.size kc1
  obtain ⟨hF21, hC24⟩ := pc_M hM23 hP hD hK hS hX hT hA [15, 14, 5] [1] rfl rfl rfl
  refine va_callFr (va_runF (As := []) (rest := []) (hK.1 1 (RJx35411, TJx35411, 4) rfl).2 ⟨hx, hb, hml, hown, hts⟩ hM23 (va_cwF 0 hts (gF q_308 q_309 q_310 q_246 q_307) rfl rfl rfl hT.2.2.2.2.2.2.2.1 hF_xIn ⟨Nat.le_of_ble_eq_true rfl, Nat.le_of_ble_eq_true rfl⟩) ⟨pc_blind, va_recv hK hP (ci := 1) (q := (RJx35411, TJx35411, 4)) (q0 := 15) rfl rfl, fun U hU hW => ⟨rfl, hC24 U hU hW⟩⟩ rfl rfl hl.1 rfl (lv_room (Nat.le_of_ble_eq_true rfl)) dX9_shown_53 ⟨(Nat.le_of_ble_eq_true rfl), (Nat.le_of_ble_eq_true rfl)⟩) hS (fun q9 _ h9 => hF21 q9 h9) hF21 (fun u25 r26 t25 H25 L25 ht25 hvm25 hw25 hB25 hz25 hk25 hS => ?_)
  obtain ⟨hr25, hB25⟩ := hB25
  obtain ⟨hP, hD, hK⟩ := pq_jn (wz := [(h0, ce21 h1 h2 h3 h4), (h1, ce331 h5), (h2, ce3 z.1), (h4, ce366 h7), (h5, ce330 kc0 h8 h9 h10 h11 h12 h13 h14), (h7, ce330 kc2 (z.2.2.1 128) (z.2.2.1 129) (z.2.2.1 130) (z.2.2.1 131) (z.2.2.1 132) (z.2.2.1 133) (z.2.2.1 134)), (h8, ce49), (h9, ce49), (h10, ce49), (h11, ce49), (h12, ce49), (h13, ce49), (h14, ce49), (a14, ce372 h3), (h3, ce331 h6), (h6, ce330 kc1 (z.2.2.1 128) (z.2.2.1 128) (z.2.2.1 128) (z.2.2.1 128) (z.2.2.1 128) (z.2.2.1 128) (z.2.2.1 128))]) (tz := [(kc0, .object "java/lang/Object"), (kc2, .object "java/lang/Object"), (kc1, .object "java/lang/Object")]) hP hD hK [15, 14, 5] [0, 2] rfl hk25 hF21 hB25.1 ht25 hvm25 rfl rfl
  have hG : s.heap.size + 1 ≤ H25.size := Nat.le_trans hG hz25
  refine W.eq (g2 := F0 m 58 ls [.ref (z.2.2.1 128)]) (by rw [hr25]) ?_
  refine va_castE (nm := "java/lang/Integer") hx hb hown (hts _ q_320) (va_Orecv (hX.2.2.1.1.1 128 (by decide)) hS) dX9_shown_58 ?_
  have hM29 := k74_intValue l hl9 dC dI z H25.size
  obtain ⟨hF27, hC30⟩ := pc_M hM29 hP hD hK hS hX hT hA [] [] rfl rfl rfl
  refine va_calli (va_runV (As := []) (rest := []) ⟨hx, hb, hml, hown, hts⟩ hM29 (cwV 0 hts (gV q_323 q_324 q_325 q_297 q_322) rfl rfl rfl hV_J6_intValue_8abf5 ⟨Nat.le_of_ble_eq_true rfl, Nat.le_of_ble_eq_true rfl⟩) ⟨pc_blind, va_Orecv (hX.2.2.1.1.1 128 (by decide)) hS, fun U hU hW => ⟨rfl, hC30 U hU hW⟩⟩ rfl rfl hl.1 rfl (lv_room (Nat.le_of_ble_eq_true rfl)) dX9_shown_61 ⟨(Nat.le_of_ble_eq_true rfl), (Nat.le_of_ble_eq_true rfl)⟩) hS (fun q9 _ h9 => hF27 q9 h9) hF27 (fun r32 u31 t31 H31 L31 ht31 hvm31 hw31 hB31 hz31 hk31 hS => ?_)
  have hP := pq_keep hP hD [] rfl hk31 hB31.1 ht31
  have hG : s.heap.size + 1 ≤ H31.size := Nat.le_trans hG hz31
  refine W.eq (g2 := F0 m 64 ls [.int 0]) (by rw [hw31]) ?_
  refine lv_istore (lv' := [(6, .int 0), (5, .ref a14), (4, .int 0), (3, .int 48), (2, .int 0), (1, .int 0), (0, .ref h0)]) hx hb dX9_shown_64 hl (by decide) rfl (fun ls hl => ?_)
  refine lv_iload hx hb dX9_shown_66 (lv_at hl 2 rfl) ?_
  refine lv_if_ne (tgt := 82) hx hb dX9_shown_68 (by decide) (fun cz => absurd (by decide) cz) (fun _ => ?_)
  refine lv_aload_n hx hb dX9_shown_71 rfl (lv_at hl 6 rfl) ?_
  refine lv_iload_n hx hb dX9_shown_72 rfl (lv_at hl 4 rfl) ?_
  refine lv_iload_n hx hb dX9_shown_73 rfl (lv_at hl 3 rfl) ?_
  refine lv_iload hx hb dX9_shown_74 (lv_at hl 0 rfl) ?_
  have hM35 := k953_showsIt l hl9 dC dI z h0 h1 h2 h4 h5 h7 h8 h9 h10 h11 h12 h13 h14 h3 H31.size kc0 kc2
  obtain ⟨hF33, hC36⟩ := pc_M hM35 hP hD hK hS hX hT hA [0, 1, 2, 3, 4, 5, 6, 7, 8, 9, 10, 11, 12] [0, 1] rfl rfl rfl
  refine va_calli (va_runV (As := [.int 0, .int 48, .int 0]) (rest := []) ⟨hx, hb, hml, hown, hts⟩ hM35 (cwV 3 hts (gV q_429 q_430 q_431 q_60 q_428) rfl rfl rfl hV_X9_showsIt ⟨Nat.le_of_ble_eq_true rfl, Nat.le_of_ble_eq_true rfl⟩) ⟨pc_blind, va_recv hK hP (ci := 8) (q := (RX9, TX9, 6)) (q0 := 0) rfl rfl, fun U hU hW => ⟨rfl, hC36 U hU hW⟩⟩ rfl rfl hl.1 rfl (lv_room (Nat.le_of_ble_eq_true rfl)) dX9_shown_76 ⟨(Nat.le_of_ble_eq_true rfl), (Nat.le_of_ble_eq_true rfl)⟩) hS (fun q9 _ h9 => hF33 q9 h9) hF33 (fun r38 u37 t37 H37 L37 ht37 hvm37 hw37 hB37 hz37 hk37 hS => ?_)
  have hP := pq_keep hP hD [0, 1, 2, 3, 4, 5, 6, 7, 8, 9, 10, 11, 12] rfl hk37 hB37.1 ht37
  have hG : s.heap.size + 28 ≤ H37.size := va_gr (g := 1) (g1 := 27) hG (by rw [← ht37]; exact hB37.2)
  refine W.eq (g2 := F0 m 79 ls [.int 0]) (by rw [hw37]) ?_
  refine W.widen (k := 28) (n := 256) (by decide) (by decide) ?_
  refine lv_if_eq (tgt := 86) hx hb dX9_shown_79 (by decide) (fun _ => ?_) (fun cz => absurd (by decide) cz)
  refine lv_iconst (v := 0) hx hb dX9_shown_86 (by decide) ?_
  refine lv_istore (lv' := [(4, .int 0), (6, .int 0), (5, .ref a14), (3, .int 48), (2, .int 0), (1, .int 0), (0, .ref h0)]) hx hb dX9_shown_87 hl (by decide) rfl (fun ls hl => ?_)
  refine lv_goto (tgt := 41) hx hb dX9_shown_89 (by decide) ?_
  refine lv_aload hx hb dX9_shown_41 (lv_at hl 2 rfl) ?_
  have hM41 := k728_hasNext l hl9 dC dI z a14 h3 h6 H37.size
  obtain ⟨hF39, hC42⟩ := pc_M hM41 hP hD hK hS hX hT hA [13, 14] [] rfl rfl rfl
  refine va_callFi (va_runF (As := []) (rest := []) (hK.1 1 (RJx35411, TJx35411, 4) rfl).2 ⟨hx, hb, hml, hown, hts⟩ hM41 (va_cwF 0 hts (gF q_261 q_262 q_263 q_246 q_260) rfl rfl rfl hT.2.2.2.2.2.2.1 hF_xIh ⟨Nat.le_of_ble_eq_true rfl, Nat.le_of_ble_eq_true rfl⟩) ⟨pc_blind, va_recv hK hP (ci := 1) (q := (RJx35411, TJx35411, 4)) (q0 := 13) rfl rfl, fun U hU hW => ⟨rfl, hC42 U hU hW⟩⟩ rfl rfl hl.1 rfl (lv_room (Nat.le_of_ble_eq_true rfl)) dX9_shown_43 ⟨(Nat.le_of_ble_eq_true rfl), (Nat.le_of_ble_eq_true rfl)⟩) hS (fun q9 _ h9 => hF39 q9 h9) hF39 (fun r44 u43 t43 H43 L43 ht43 hvm43 hw43 hB43 hz43 hk43 hS => ?_)
  have hP := pq_keep hP hD [13, 14] rfl hk43 hB43.1 ht43
  have hG : s.heap.size + 28 ≤ H43.size := Nat.le_trans hG hz43
  refine W.eq (g2 := F0 m 48 ls [.int 1]) (by rw [hw43]) ?_
  refine lv_if_eq (tgt := 92) hx hb dX9_shown_48 (by decide) (fun cz => absurd cz (by decide)) (fun _ => ?_)
  refine lv_aload hx hb dX9_shown_51 (lv_at hl 2 rfl) ?_
  have hM47 := k954_next l hl9 dC dI z a14 h3 h6 H43.size kc1
  obtain ⟨hF45, hC48⟩ := pc_M hM47 hP hD hK hS hX hT hA [13, 14, 15] [2] rfl rfl rfl
  refine va_callFr (va_runF (As := []) (rest := []) (hK.1 1 (RJx35411, TJx35411, 4) rfl).2 ⟨hx, hb, hml, hown, hts⟩ hM47 (va_cwF 0 hts (gF q_308 q_309 q_310 q_246 q_307) rfl rfl rfl hT.2.2.2.2.2.2.2.1 hF_xIn ⟨Nat.le_of_ble_eq_true rfl, Nat.le_of_ble_eq_true rfl⟩) ⟨pc_blind, va_recv hK hP (ci := 1) (q := (RJx35411, TJx35411, 4)) (q0 := 13) rfl rfl, fun U hU hW => ⟨rfl, hC48 U hU hW⟩⟩ rfl rfl hl.1 rfl (lv_room (Nat.le_of_ble_eq_true rfl)) dX9_shown_53 ⟨(Nat.le_of_ble_eq_true rfl), (Nat.le_of_ble_eq_true rfl)⟩) hS (fun q9 _ h9 => hF45 q9 h9) hF45 (fun u49 r50 t49 H49 L49 ht49 hvm49 hw49 hB49 hz49 hk49 hS => ?_)
  obtain ⟨hr49, hB49⟩ := hB49
  obtain ⟨hP, hD, hK⟩ := pq_jn (wz := [(h0, ce21 h1 h2 h3 h4), (h1, ce331 h5), (h2, ce3 z.1), (h4, ce366 h7), (h5, ce330 kc0 h8 h9 h10 h11 h12 h13 h14), (h7, ce330 kc2 (z.2.2.1 128) (z.2.2.1 129) (z.2.2.1 130) (z.2.2.1 131) (z.2.2.1 132) (z.2.2.1 133) (z.2.2.1 134)), (h8, ce49), (h9, ce49), (h10, ce49), (h11, ce49), (h12, ce49), (h13, ce49), (h14, ce49), (a14, ce374 h3), (h3, ce331 h6), (h6, ce330 kc1 (z.2.2.1 128) (z.2.2.1 128) (z.2.2.1 128) (z.2.2.1 128) (z.2.2.1 128) (z.2.2.1 128) (z.2.2.1 128))]) (tz := [(kc0, .object "java/lang/Object"), (kc2, .object "java/lang/Object"), (kc1, .object "java/lang/Object")]) hP hD hK [13, 14, 15] [0, 1] rfl hk49 hF45 hB49.1 ht49 hvm49 rfl rfl
  have hG : s.heap.size + 28 ≤ H49.size := Nat.le_trans hG hz49
  refine W.eq (g2 := F0 m 58 ls [.ref (z.2.2.1 128)]) (by rw [hr49]) ?_
  refine va_castE (nm := "java/lang/Integer") hx hb hown (hts _ q_320) (va_Orecv (hX.2.2.1.1.1 128 (by decide)) hS) dX9_shown_58 ?_
  have hM53 := k74_intValue l hl9 dC dI z H49.size
  obtain ⟨hF51, hC54⟩ := pc_M hM53 hP hD hK hS hX hT hA [] [] rfl rfl rfl
  refine va_calli (va_runV (As := []) (rest := []) ⟨hx, hb, hml, hown, hts⟩ hM53 (cwV 0 hts (gV q_323 q_324 q_325 q_297 q_322) rfl rfl rfl hV_J6_intValue_8abf5 ⟨Nat.le_of_ble_eq_true rfl, Nat.le_of_ble_eq_true rfl⟩) ⟨pc_blind, va_Orecv (hX.2.2.1.1.1 128 (by decide)) hS, fun U hU hW => ⟨rfl, hC54 U hU hW⟩⟩ rfl rfl hl.1 rfl (lv_room (Nat.le_of_ble_eq_true rfl)) dX9_shown_61 ⟨(Nat.le_of_ble_eq_true rfl), (Nat.le_of_ble_eq_true rfl)⟩) hS (fun q9 _ h9 => hF51 q9 h9) hF51 (fun r56 u55 t55 H55 L55 ht55 hvm55 hw55 hB55 hz55 hk55 hS => ?_)
  have hP := pq_keep hP hD [] rfl hk55 hB55.1 ht55
  have hG : s.heap.size + 28 ≤ H55.size := Nat.le_trans hG hz55
  refine W.eq (g2 := F0 m 64 ls [.int 0]) (by rw [hw55]) ?_
  refine lv_istore (lv' := [(6, .int 0), (4, .int 0), (5, .ref a14), (3, .int 48), (2, .int 0), (1, .int 0), (0, .ref h0)]) hx hb dX9_shown_64 hl (by decide) rfl (fun ls hl => ?_)
  refine lv_iload hx hb dX9_shown_66 (lv_at hl 1 rfl) ?_
  refine lv_if_ne (tgt := 82) hx hb dX9_shown_68 (by decide) (fun cz => absurd (by decide) cz) (fun _ => ?_)
  refine lv_aload_n hx hb dX9_shown_71 rfl (lv_at hl 6 rfl) ?_
  refine lv_iload_n hx hb dX9_shown_72 rfl (lv_at hl 4 rfl) ?_
  refine lv_iload_n hx hb dX9_shown_73 rfl (lv_at hl 3 rfl) ?_
  refine lv_iload hx hb dX9_shown_74 (lv_at hl 0 rfl) ?_
  have hM59 := k953_showsIt l hl9 dC dI z h0 h1 h2 h4 h5 h7 h8 h9 h10 h11 h12 h13 h14 h3 H55.size kc0 kc2
  obtain ⟨hF57, hC60⟩ := pc_M hM59 hP hD hK hS hX hT hA [0, 1, 2, 3, 4, 5, 6, 7, 8, 9, 10, 11, 12] [0, 1] rfl rfl rfl
  refine va_calli (va_runV (As := [.int 0, .int 48, .int 0]) (rest := []) ⟨hx, hb, hml, hown, hts⟩ hM59 (cwV 3 hts (gV q_429 q_430 q_431 q_60 q_428) rfl rfl rfl hV_X9_showsIt ⟨Nat.le_of_ble_eq_true rfl, Nat.le_of_ble_eq_true rfl⟩) ⟨pc_blind, va_recv hK hP (ci := 8) (q := (RX9, TX9, 6)) (q0 := 0) rfl rfl, fun U hU hW => ⟨rfl, hC60 U hU hW⟩⟩ rfl rfl hl.1 rfl (lv_room (Nat.le_of_ble_eq_true rfl)) dX9_shown_76 ⟨(Nat.le_of_ble_eq_true rfl), (Nat.le_of_ble_eq_true rfl)⟩) hS (fun q9 _ h9 => hF57 q9 h9) hF57 (fun r62 u61 t61 H61 L61 ht61 hvm61 hw61 hB61 hz61 hk61 hS => ?_)
  have hP := pq_keep hP hD [0, 1, 2, 3, 4, 5, 6, 7, 8, 9, 10, 11, 12] rfl hk61 hB61.1 ht61
  have hG : s.heap.size + 55 ≤ H61.size := va_gr (g := 28) (g1 := 27) hG (by rw [← ht61]; exact hB61.2)
  refine W.eq (g2 := F0 m 79 ls [.int 0]) (by rw [hw61]) ?_
  refine W.widen (k := 55) (n := 508) (by decide) (by decide) ?_
  refine lv_if_eq (tgt := 86) hx hb dX9_shown_79 (by decide) (fun _ => ?_) (fun cz => absurd (by decide) cz)
  refine lv_iconst (v := 0) hx hb dX9_shown_86 (by decide) ?_
  refine lv_istore (lv' := [(4, .int 0), (6, .int 0), (5, .ref a14), (3, .int 48), (2, .int 0), (1, .int 0), (0, .ref h0)]) hx hb dX9_shown_87 hl (by decide) rfl (fun ls hl => ?_)
  refine lv_goto (tgt := 41) hx hb dX9_shown_89 (by decide) ?_
  refine lv_aload hx hb dX9_shown_41 (lv_at hl 2 rfl) ?_
  have hM65 := k731_hasNext l hl9 dC dI z a14 h3 h6 H61.size
  obtain ⟨hF63, hC66⟩ := pc_M hM65 hP hD hK hS hX hT hA [13, 14] [] rfl rfl rfl
  refine va_callFi (va_runF (As := []) (rest := []) (hK.1 1 (RJx35411, TJx35411, 4) rfl).2 ⟨hx, hb, hml, hown, hts⟩ hM65 (va_cwF 0 hts (gF q_261 q_262 q_263 q_246 q_260) rfl rfl rfl hT.2.2.2.2.2.2.1 hF_xIh ⟨Nat.le_of_ble_eq_true rfl, Nat.le_of_ble_eq_true rfl⟩) ⟨pc_blind, va_recv hK hP (ci := 1) (q := (RJx35411, TJx35411, 4)) (q0 := 13) rfl rfl, fun U hU hW => ⟨rfl, hC66 U hU hW⟩⟩ rfl rfl hl.1 rfl (lv_room (Nat.le_of_ble_eq_true rfl)) dX9_shown_43 ⟨(Nat.le_of_ble_eq_true rfl), (Nat.le_of_ble_eq_true rfl)⟩) hS (fun q9 _ h9 => hF63 q9 h9) hF63 (fun r68 u67 t67 H67 L67 ht67 hvm67 hw67 hB67 hz67 hk67 hS => ?_)
  have hP := pq_keep hP hD [13, 14] rfl hk67 hB67.1 ht67
  have hG : s.heap.size + 55 ≤ H67.size := Nat.le_trans hG hz67
  refine W.eq (g2 := F0 m 48 ls [.int 1]) (by rw [hw67]) ?_
  refine lv_if_eq (tgt := 92) hx hb dX9_shown_48 (by decide) (fun cz => absurd cz (by decide)) (fun _ => ?_)
  refine lv_aload hx hb dX9_shown_51 (lv_at hl 2 rfl) ?_
  have hM71 := k955_next l hl9 dC dI z a14 h3 h6 H67.size kc1
  obtain ⟨hF69, hC72⟩ := pc_M hM71 hP hD hK hS hX hT hA [13, 14, 15] [2] rfl rfl rfl
  refine va_callFr (va_runF (As := []) (rest := []) (hK.1 1 (RJx35411, TJx35411, 4) rfl).2 ⟨hx, hb, hml, hown, hts⟩ hM71 (va_cwF 0 hts (gF q_308 q_309 q_310 q_246 q_307) rfl rfl rfl hT.2.2.2.2.2.2.2.1 hF_xIn ⟨Nat.le_of_ble_eq_true rfl, Nat.le_of_ble_eq_true rfl⟩) ⟨pc_blind, va_recv hK hP (ci := 1) (q := (RJx35411, TJx35411, 4)) (q0 := 13) rfl rfl, fun U hU hW => ⟨rfl, hC72 U hU hW⟩⟩ rfl rfl hl.1 rfl (lv_room (Nat.le_of_ble_eq_true rfl)) dX9_shown_53 ⟨(Nat.le_of_ble_eq_true rfl), (Nat.le_of_ble_eq_true rfl)⟩) hS (fun q9 _ h9 => hF69 q9 h9) hF69 (fun u73 r74 t73 H73 L73 ht73 hvm73 hw73 hB73 hz73 hk73 hS => ?_)
  obtain ⟨hr73, hB73⟩ := hB73
  obtain ⟨hP, hD, hK⟩ := pq_jn (wz := [(h0, ce21 h1 h2 h3 h4), (h1, ce331 h5), (h2, ce3 z.1), (h4, ce366 h7), (h5, ce330 kc0 h8 h9 h10 h11 h12 h13 h14), (h7, ce330 kc2 (z.2.2.1 128) (z.2.2.1 129) (z.2.2.1 130) (z.2.2.1 131) (z.2.2.1 132) (z.2.2.1 133) (z.2.2.1 134)), (h8, ce49), (h9, ce49), (h10, ce49), (h11, ce49), (h12, ce49), (h13, ce49), (h14, ce49), (a14, ce376 h3), (h3, ce331 h6), (h6, ce330 kc1 (z.2.2.1 128) (z.2.2.1 128) (z.2.2.1 128) (z.2.2.1 128) (z.2.2.1 128) (z.2.2.1 128) (z.2.2.1 128))]) (tz := [(kc0, .object "java/lang/Object"), (kc2, .object "java/lang/Object"), (kc1, .object "java/lang/Object")]) hP hD hK [13, 14, 15] [0, 1] rfl hk73 hF69 hB73.1 ht73 hvm73 rfl rfl
  have hG : s.heap.size + 55 ≤ H73.size := Nat.le_trans hG hz73
  refine W.eq (g2 := F0 m 58 ls [.ref (z.2.2.1 128)]) (by rw [hr73]) ?_
  refine va_castE (nm := "java/lang/Integer") hx hb hown (hts _ q_320) (va_Orecv (hX.2.2.1.1.1 128 (by decide)) hS) dX9_shown_58 ?_
  have hM77 := k74_intValue l hl9 dC dI z H73.size
  obtain ⟨hF75, hC78⟩ := pc_M hM77 hP hD hK hS hX hT hA [] [] rfl rfl rfl
  refine va_calli (va_runV (As := []) (rest := []) ⟨hx, hb, hml, hown, hts⟩ hM77 (cwV 0 hts (gV q_323 q_324 q_325 q_297 q_322) rfl rfl rfl hV_J6_intValue_8abf5 ⟨Nat.le_of_ble_eq_true rfl, Nat.le_of_ble_eq_true rfl⟩) ⟨pc_blind, va_Orecv (hX.2.2.1.1.1 128 (by decide)) hS, fun U hU hW => ⟨rfl, hC78 U hU hW⟩⟩ rfl rfl hl.1 rfl (lv_room (Nat.le_of_ble_eq_true rfl)) dX9_shown_61 ⟨(Nat.le_of_ble_eq_true rfl), (Nat.le_of_ble_eq_true rfl)⟩) hS (fun q9 _ h9 => hF75 q9 h9) hF75 (fun r80 u79 t79 H79 L79 ht79 hvm79 hw79 hB79 hz79 hk79 hS => ?_)
  have hP := pq_keep hP hD [] rfl hk79 hB79.1 ht79
  have hG : s.heap.size + 55 ≤ H79.size := Nat.le_trans hG hz79
  refine W.eq (g2 := F0 m 64 ls [.int 0]) (by rw [hw79]) ?_
  refine lv_istore (lv' := [(6, .int 0), (4, .int 0), (5, .ref a14), (3, .int 48), (2, .int 0), (1, .int 0), (0, .ref h0)]) hx hb dX9_shown_64 hl (by decide) rfl (fun ls hl => ?_)
  refine lv_iload hx hb dX9_shown_66 (lv_at hl 1 rfl) ?_
  refine lv_if_ne (tgt := 82) hx hb dX9_shown_68 (by decide) (fun cz => absurd (by decide) cz) (fun _ => ?_)
  refine lv_aload_n hx hb dX9_shown_71 rfl (lv_at hl 6 rfl) ?_
  refine lv_iload_n hx hb dX9_shown_72 rfl (lv_at hl 4 rfl) ?_
  refine lv_iload_n hx hb dX9_shown_73 rfl (lv_at hl 3 rfl) ?_
  refine lv_iload hx hb dX9_shown_74 (lv_at hl 0 rfl) ?_
  have hM83 := k953_showsIt l hl9 dC dI z h0 h1 h2 h4 h5 h7 h8 h9 h10 h11 h12 h13 h14 h3 H79.size kc0 kc2
  obtain ⟨hF81, hC84⟩ := pc_M hM83 hP hD hK hS hX hT hA [0, 1, 2, 3, 4, 5, 6, 7, 8, 9, 10, 11, 12] [0, 1] rfl rfl rfl
  refine va_calli (va_runV (As := [.int 0, .int 48, .int 0]) (rest := []) ⟨hx, hb, hml, hown, hts⟩ hM83 (cwV 3 hts (gV q_429 q_430 q_431 q_60 q_428) rfl rfl rfl hV_X9_showsIt ⟨Nat.le_of_ble_eq_true rfl, Nat.le_of_ble_eq_true rfl⟩) ⟨pc_blind, va_recv hK hP (ci := 8) (q := (RX9, TX9, 6)) (q0 := 0) rfl rfl, fun U hU hW => ⟨rfl, hC84 U hU hW⟩⟩ rfl rfl hl.1 rfl (lv_room (Nat.le_of_ble_eq_true rfl)) dX9_shown_76 ⟨(Nat.le_of_ble_eq_true rfl), (Nat.le_of_ble_eq_true rfl)⟩) hS (fun q9 _ h9 => hF81 q9 h9) hF81 (fun r86 u85 t85 H85 L85 ht85 hvm85 hw85 hB85 hz85 hk85 hS => ?_)
  have hP := pq_keep hP hD [0, 1, 2, 3, 4, 5, 6, 7, 8, 9, 10, 11, 12] rfl hk85 hB85.1 ht85
  have hG : s.heap.size + 82 ≤ H85.size := va_gr (g := 55) (g1 := 27) hG (by rw [← ht85]; exact hB85.2)
  refine W.eq (g2 := F0 m 79 ls [.int 0]) (by rw [hw85]) ?_
  refine W.widen (k := 82) (n := 760) (by decide) (by decide) ?_
  refine lv_if_eq (tgt := 86) hx hb dX9_shown_79 (by decide) (fun _ => ?_) (fun cz => absurd (by decide) cz)
  refine lv_iconst (v := 0) hx hb dX9_shown_86 (by decide) ?_
  refine lv_istore (lv' := [(4, .int 0), (6, .int 0), (5, .ref a14), (3, .int 48), (2, .int 0), (1, .int 0), (0, .ref h0)]) hx hb dX9_shown_87 hl (by decide) rfl (fun ls hl => ?_)
  refine lv_goto (tgt := 41) hx hb dX9_shown_89 (by decide) ?_
  refine lv_aload hx hb dX9_shown_41 (lv_at hl 2 rfl) ?_
  have hM89 := k734_hasNext l hl9 dC dI z a14 h3 h6 H85.size
  obtain ⟨hF87, hC90⟩ := pc_M hM89 hP hD hK hS hX hT hA [13, 14] [] rfl rfl rfl
  refine va_callFi (va_runF (As := []) (rest := []) (hK.1 1 (RJx35411, TJx35411, 4) rfl).2 ⟨hx, hb, hml, hown, hts⟩ hM89 (va_cwF 0 hts (gF q_261 q_262 q_263 q_246 q_260) rfl rfl rfl hT.2.2.2.2.2.2.1 hF_xIh ⟨Nat.le_of_ble_eq_true rfl, Nat.le_of_ble_eq_true rfl⟩) ⟨pc_blind, va_recv hK hP (ci := 1) (q := (RJx35411, TJx35411, 4)) (q0 := 13) rfl rfl, fun U hU hW => ⟨rfl, hC90 U hU hW⟩⟩ rfl rfl hl.1 rfl (lv_room (Nat.le_of_ble_eq_true rfl)) dX9_shown_43 ⟨(Nat.le_of_ble_eq_true rfl), (Nat.le_of_ble_eq_true rfl)⟩) hS (fun q9 _ h9 => hF87 q9 h9) hF87 (fun r92 u91 t91 H91 L91 ht91 hvm91 hw91 hB91 hz91 hk91 hS => ?_)
  have hP := pq_keep hP hD [13, 14] rfl hk91 hB91.1 ht91
  have hG : s.heap.size + 82 ≤ H91.size := Nat.le_trans hG hz91
  refine W.eq (g2 := F0 m 48 ls [.int 1]) (by rw [hw91]) ?_
  refine lv_if_eq (tgt := 92) hx hb dX9_shown_48 (by decide) (fun cz => absurd cz (by decide)) (fun _ => ?_)
  refine lv_aload hx hb dX9_shown_51 (lv_at hl 2 rfl) ?_
  have hM95 := k956_next l hl9 dC dI z a14 h3 h6 H91.size kc1
  obtain ⟨hF93, hC96⟩ := pc_M hM95 hP hD hK hS hX hT hA [13, 14, 15] [2] rfl rfl rfl
  refine va_callFr (va_runF (As := []) (rest := []) (hK.1 1 (RJx35411, TJx35411, 4) rfl).2 ⟨hx, hb, hml, hown, hts⟩ hM95 (va_cwF 0 hts (gF q_308 q_309 q_310 q_246 q_307) rfl rfl rfl hT.2.2.2.2.2.2.2.1 hF_xIn ⟨Nat.le_of_ble_eq_true rfl, Nat.le_of_ble_eq_true rfl⟩) ⟨pc_blind, va_recv hK hP (ci := 1) (q := (RJx35411, TJx35411, 4)) (q0 := 13) rfl rfl, fun U hU hW => ⟨rfl, hC96 U hU hW⟩⟩ rfl rfl hl.1 rfl (lv_room (Nat.le_of_ble_eq_true rfl)) dX9_shown_53 ⟨(Nat.le_of_ble_eq_true rfl), (Nat.le_of_ble_eq_true rfl)⟩) hS (fun q9 _ h9 => hF93 q9 h9) hF93 (fun u97 r98 t97 H97 L97 ht97 hvm97 hw97 hB97 hz97 hk97 hS => ?_)
  obtain ⟨hr97, hB97⟩ := hB97
  obtain ⟨hP, hD, hK⟩ := pq_jn (wz := [(h0, ce21 h1 h2 h3 h4), (h1, ce331 h5), (h2, ce3 z.1), (h4, ce366 h7), (h5, ce330 kc0 h8 h9 h10 h11 h12 h13 h14), (h7, ce330 kc2 (z.2.2.1 128) (z.2.2.1 129) (z.2.2.1 130) (z.2.2.1 131) (z.2.2.1 132) (z.2.2.1 133) (z.2.2.1 134)), (h8, ce49), (h9, ce49), (h10, ce49), (h11, ce49), (h12, ce49), (h13, ce49), (h14, ce49), (a14, ce378 h3), (h3, ce331 h6), (h6, ce330 kc1 (z.2.2.1 128) (z.2.2.1 128) (z.2.2.1 128) (z.2.2.1 128) (z.2.2.1 128) (z.2.2.1 128) (z.2.2.1 128))]) (tz := [(kc0, .object "java/lang/Object"), (kc2, .object "java/lang/Object"), (kc1, .object "java/lang/Object")]) hP hD hK [13, 14, 15] [0, 1] rfl hk97 hF93 hB97.1 ht97 hvm97 rfl rfl
  have hG : s.heap.size + 82 ≤ H97.size := Nat.le_trans hG hz97
  refine W.eq (g2 := F0 m 58 ls [.ref (z.2.2.1 128)]) (by rw [hr97]) ?_
  refine va_castE (nm := "java/lang/Integer") hx hb hown (hts _ q_320) (va_Orecv (hX.2.2.1.1.1 128 (by decide)) hS) dX9_shown_58 ?_
  have hM101 := k74_intValue l hl9 dC dI z H97.size
  obtain ⟨hF99, hC102⟩ := pc_M hM101 hP hD hK hS hX hT hA [] [] rfl rfl rfl
  refine va_calli (va_runV (As := []) (rest := []) ⟨hx, hb, hml, hown, hts⟩ hM101 (cwV 0 hts (gV q_323 q_324 q_325 q_297 q_322) rfl rfl rfl hV_J6_intValue_8abf5 ⟨Nat.le_of_ble_eq_true rfl, Nat.le_of_ble_eq_true rfl⟩) ⟨pc_blind, va_Orecv (hX.2.2.1.1.1 128 (by decide)) hS, fun U hU hW => ⟨rfl, hC102 U hU hW⟩⟩ rfl rfl hl.1 rfl (lv_room (Nat.le_of_ble_eq_true rfl)) dX9_shown_61 ⟨(Nat.le_of_ble_eq_true rfl), (Nat.le_of_ble_eq_true rfl)⟩) hS (fun q9 _ h9 => hF99 q9 h9) hF99 (fun r104 u103 t103 H103 L103 ht103 hvm103 hw103 hB103 hz103 hk103 hS => ?_)
  have hP := pq_keep hP hD [] rfl hk103 hB103.1 ht103
  have hG : s.heap.size + 82 ≤ H103.size := Nat.le_trans hG hz103
  refine W.eq (g2 := F0 m 64 ls [.int 0]) (by rw [hw103]) ?_
  refine lv_istore (lv' := [(6, .int 0), (4, .int 0), (5, .ref a14), (3, .int 48), (2, .int 0), (1, .int 0), (0, .ref h0)]) hx hb dX9_shown_64 hl (by decide) rfl (fun ls hl => ?_)
  refine lv_iload hx hb dX9_shown_66 (lv_at hl 1 rfl) ?_
  refine lv_if_ne (tgt := 82) hx hb dX9_shown_68 (by decide) (fun cz => absurd (by decide) cz) (fun _ => ?_)
  refine lv_aload_n hx hb dX9_shown_71 rfl (lv_at hl 6 rfl) ?_
  refine lv_iload_n hx hb dX9_shown_72 rfl (lv_at hl 4 rfl) ?_
  refine lv_iload_n hx hb dX9_shown_73 rfl (lv_at hl 3 rfl) ?_
  refine lv_iload hx hb dX9_shown_74 (lv_at hl 0 rfl) ?_
  have hM107 := k953_showsIt l hl9 dC dI z h0 h1 h2 h4 h5 h7 h8 h9 h10 h11 h12 h13 h14 h3 H103.size kc0 kc2
  obtain ⟨hF105, hC108⟩ := pc_M hM107 hP hD hK hS hX hT hA [0, 1, 2, 3, 4, 5, 6, 7, 8, 9, 10, 11, 12] [0, 1] rfl rfl rfl
  refine va_calli (va_runV (As := [.int 0, .int 48, .int 0]) (rest := []) ⟨hx, hb, hml, hown, hts⟩ hM107 (cwV 3 hts (gV q_429 q_430 q_431 q_60 q_428) rfl rfl rfl hV_X9_showsIt ⟨Nat.le_of_ble_eq_true rfl, Nat.le_of_ble_eq_true rfl⟩) ⟨pc_blind, va_recv hK hP (ci := 8) (q := (RX9, TX9, 6)) (q0 := 0) rfl rfl, fun U hU hW => ⟨rfl, hC108 U hU hW⟩⟩ rfl rfl hl.1 rfl (lv_room (Nat.le_of_ble_eq_true rfl)) dX9_shown_76 ⟨(Nat.le_of_ble_eq_true rfl), (Nat.le_of_ble_eq_true rfl)⟩) hS (fun q9 _ h9 => hF105 q9 h9) hF105 (fun r110 u109 t109 H109 L109 ht109 hvm109 hw109 hB109 hz109 hk109 hS => ?_)
  have hP := pq_keep hP hD [0, 1, 2, 3, 4, 5, 6, 7, 8, 9, 10, 11, 12] rfl hk109 hB109.1 ht109
  have hG : s.heap.size + 109 ≤ H109.size := va_gr (g := 82) (g1 := 27) hG (by rw [← ht109]; exact hB109.2)
  refine W.eq (g2 := F0 m 79 ls [.int 0]) (by rw [hw109]) ?_
  refine W.widen (k := 109) (n := 1012) (by decide) (by decide) ?_
  refine lv_if_eq (tgt := 86) hx hb dX9_shown_79 (by decide) (fun _ => ?_) (fun cz => absurd (by decide) cz)
  refine lv_iconst (v := 0) hx hb dX9_shown_86 (by decide) ?_
  refine lv_istore (lv' := [(4, .int 0), (6, .int 0), (5, .ref a14), (3, .int 48), (2, .int 0), (1, .int 0), (0, .ref h0)]) hx hb dX9_shown_87 hl (by decide) rfl (fun ls hl => ?_)
  refine lv_goto (tgt := 41) hx hb dX9_shown_89 (by decide) ?_
  refine lv_aload hx hb dX9_shown_41 (lv_at hl 2 rfl) ?_
  have hM113 := k737_hasNext l hl9 dC dI z a14 h3 h6 H109.size
  obtain ⟨hF111, hC114⟩ := pc_M hM113 hP hD hK hS hX hT hA [13, 14] [] rfl rfl rfl
  refine va_callFi (va_runF (As := []) (rest := []) (hK.1 1 (RJx35411, TJx35411, 4) rfl).2 ⟨hx, hb, hml, hown, hts⟩ hM113 (va_cwF 0 hts (gF q_261 q_262 q_263 q_246 q_260) rfl rfl rfl hT.2.2.2.2.2.2.1 hF_xIh ⟨Nat.le_of_ble_eq_true rfl, Nat.le_of_ble_eq_true rfl⟩) ⟨pc_blind, va_recv hK hP (ci := 1) (q := (RJx35411, TJx35411, 4)) (q0 := 13) rfl rfl, fun U hU hW => ⟨rfl, hC114 U hU hW⟩⟩ rfl rfl hl.1 rfl (lv_room (Nat.le_of_ble_eq_true rfl)) dX9_shown_43 ⟨(Nat.le_of_ble_eq_true rfl), (Nat.le_of_ble_eq_true rfl)⟩) hS (fun q9 _ h9 => hF111 q9 h9) hF111 (fun r116 u115 t115 H115 L115 ht115 hvm115 hw115 hB115 hz115 hk115 hS => ?_)
  have hP := pq_keep hP hD [13, 14] rfl hk115 hB115.1 ht115
  have hG : s.heap.size + 109 ≤ H115.size := Nat.le_trans hG hz115
  refine W.eq (g2 := F0 m 48 ls [.int 1]) (by rw [hw115]) ?_
  refine lv_if_eq (tgt := 92) hx hb dX9_shown_48 (by decide) (fun cz => absurd cz (by decide)) (fun _ => ?_)
  refine lv_aload hx hb dX9_shown_51 (lv_at hl 2 rfl) ?_
  have hM119 := k957_next l hl9 dC dI z a14 h3 h6 H115.size kc1
  obtain ⟨hF117, hC120⟩ := pc_M hM119 hP hD hK hS hX hT hA [13, 14, 15] [2] rfl rfl rfl
  refine va_callFr (va_runF (As := []) (rest := []) (hK.1 1 (RJx35411, TJx35411, 4) rfl).2 ⟨hx, hb, hml, hown, hts⟩ hM119 (va_cwF 0 hts (gF q_308 q_309 q_310 q_246 q_307) rfl rfl rfl hT.2.2.2.2.2.2.2.1 hF_xIn ⟨Nat.le_of_ble_eq_true rfl, Nat.le_of_ble_eq_true rfl⟩) ⟨pc_blind, va_recv hK hP (ci := 1) (q := (RJx35411, TJx35411, 4)) (q0 := 13) rfl rfl, fun U hU hW => ⟨rfl, hC120 U hU hW⟩⟩ rfl rfl hl.1 rfl (lv_room (Nat.le_of_ble_eq_true rfl)) dX9_shown_53 ⟨(Nat.le_of_ble_eq_true rfl), (Nat.le_of_ble_eq_true rfl)⟩) hS (fun q9 _ h9 => hF117 q9 h9) hF117 (fun u121 r122 t121 H121 L121 ht121 hvm121 hw121 hB121 hz121 hk121 hS => ?_)
  obtain ⟨hr121, hB121⟩ := hB121
  obtain ⟨hP, hD, hK⟩ := pq_jn (wz := [(h0, ce21 h1 h2 h3 h4), (h1, ce331 h5), (h2, ce3 z.1), (h4, ce366 h7), (h5, ce330 kc0 h8 h9 h10 h11 h12 h13 h14), (h7, ce330 kc2 (z.2.2.1 128) (z.2.2.1 129) (z.2.2.1 130) (z.2.2.1 131) (z.2.2.1 132) (z.2.2.1 133) (z.2.2.1 134)), (h8, ce49), (h9, ce49), (h10, ce49), (h11, ce49), (h12, ce49), (h13, ce49), (h14, ce49), (a14, ce380 h3), (h3, ce331 h6), (h6, ce330 kc1 (z.2.2.1 128) (z.2.2.1 128) (z.2.2.1 128) (z.2.2.1 128) (z.2.2.1 128) (z.2.2.1 128) (z.2.2.1 128))]) (tz := [(kc0, .object "java/lang/Object"), (kc2, .object "java/lang/Object"), (kc1, .object "java/lang/Object")]) hP hD hK [13, 14, 15] [0, 1] rfl hk121 hF117 hB121.1 ht121 hvm121 rfl rfl
  have hG : s.heap.size + 109 ≤ H121.size := Nat.le_trans hG hz121
  refine W.eq (g2 := F0 m 58 ls [.ref (z.2.2.1 128)]) (by rw [hr121]) ?_
  refine va_castE (nm := "java/lang/Integer") hx hb hown (hts _ q_320) (va_Orecv (hX.2.2.1.1.1 128 (by decide)) hS) dX9_shown_58 ?_
  have hM125 := k74_intValue l hl9 dC dI z H121.size
  obtain ⟨hF123, hC126⟩ := pc_M hM125 hP hD hK hS hX hT hA [] [] rfl rfl rfl
  refine va_calli (va_runV (As := []) (rest := []) ⟨hx, hb, hml, hown, hts⟩ hM125 (cwV 0 hts (gV q_323 q_324 q_325 q_297 q_322) rfl rfl rfl hV_J6_intValue_8abf5 ⟨Nat.le_of_ble_eq_true rfl, Nat.le_of_ble_eq_true rfl⟩) ⟨pc_blind, va_Orecv (hX.2.2.1.1.1 128 (by decide)) hS, fun U hU hW => ⟨rfl, hC126 U hU hW⟩⟩ rfl rfl hl.1 rfl (lv_room (Nat.le_of_ble_eq_true rfl)) dX9_shown_61 ⟨(Nat.le_of_ble_eq_true rfl), (Nat.le_of_ble_eq_true rfl)⟩) hS (fun q9 _ h9 => hF123 q9 h9) hF123 (fun r128 u127 t127 H127 L127 ht127 hvm127 hw127 hB127 hz127 hk127 hS => ?_)
  have hP := pq_keep hP hD [] rfl hk127 hB127.1 ht127
  have hG : s.heap.size + 109 ≤ H127.size := Nat.le_trans hG hz127
  refine W.eq (g2 := F0 m 64 ls [.int 0]) (by rw [hw127]) ?_
  refine lv_istore (lv' := [(6, .int 0), (4, .int 0), (5, .ref a14), (3, .int 48), (2, .int 0), (1, .int 0), (0, .ref h0)]) hx hb dX9_shown_64 hl (by decide) rfl (fun ls hl => ?_)
  refine lv_iload hx hb dX9_shown_66 (lv_at hl 1 rfl) ?_
  refine lv_if_ne (tgt := 82) hx hb dX9_shown_68 (by decide) (fun cz => absurd (by decide) cz) (fun _ => ?_)
  refine lv_aload_n hx hb dX9_shown_71 rfl (lv_at hl 6 rfl) ?_
  refine lv_iload_n hx hb dX9_shown_72 rfl (lv_at hl 4 rfl) ?_
  refine lv_iload_n hx hb dX9_shown_73 rfl (lv_at hl 3 rfl) ?_
  refine lv_iload hx hb dX9_shown_74 (lv_at hl 0 rfl) ?_
  have hM131 := k953_showsIt l hl9 dC dI z h0 h1 h2 h4 h5 h7 h8 h9 h10 h11 h12 h13 h14 h3 H127.size kc0 kc2
  obtain ⟨hF129, hC132⟩ := pc_M hM131 hP hD hK hS hX hT hA [0, 1, 2, 3, 4, 5, 6, 7, 8, 9, 10, 11, 12] [0, 1] rfl rfl rfl
  refine va_calli (va_runV (As := [.int 0, .int 48, .int 0]) (rest := []) ⟨hx, hb, hml, hown, hts⟩ hM131 (cwV 3 hts (gV q_429 q_430 q_431 q_60 q_428) rfl rfl rfl hV_X9_showsIt ⟨Nat.le_of_ble_eq_true rfl, Nat.le_of_ble_eq_true rfl⟩) ⟨pc_blind, va_recv hK hP (ci := 8) (q := (RX9, TX9, 6)) (q0 := 0) rfl rfl, fun U hU hW => ⟨rfl, hC132 U hU hW⟩⟩ rfl rfl hl.1 rfl (lv_room (Nat.le_of_ble_eq_true rfl)) dX9_shown_76 ⟨(Nat.le_of_ble_eq_true rfl), (Nat.le_of_ble_eq_true rfl)⟩) hS (fun q9 _ h9 => hF129 q9 h9) hF129 (fun r134 u133 t133 H133 L133 ht133 hvm133 hw133 hB133 hz133 hk133 hS => ?_)
  have hP := pq_keep hP hD [0, 1, 2, 3, 4, 5, 6, 7, 8, 9, 10, 11, 12] rfl hk133 hB133.1 ht133
  have hG : s.heap.size + 136 ≤ H133.size := va_gr (g := 109) (g1 := 27) hG (by rw [← ht133]; exact hB133.2)
  refine W.eq (g2 := F0 m 79 ls [.int 0]) (by rw [hw133]) ?_
  refine W.widen (k := 136) (n := 1264) (by decide) (by decide) ?_
  refine lv_if_eq (tgt := 86) hx hb dX9_shown_79 (by decide) (fun _ => ?_) (fun cz => absurd (by decide) cz)
  refine lv_iconst (v := 0) hx hb dX9_shown_86 (by decide) ?_
  refine lv_istore (lv' := [(4, .int 0), (6, .int 0), (5, .ref a14), (3, .int 48), (2, .int 0), (1, .int 0), (0, .ref h0)]) hx hb dX9_shown_87 hl (by decide) rfl (fun ls hl => ?_)
  refine lv_goto (tgt := 41) hx hb dX9_shown_89 (by decide) ?_
  refine lv_aload hx hb dX9_shown_41 (lv_at hl 2 rfl) ?_
  have hM137 := k740_hasNext l hl9 dC dI z a14 h3 h6 H133.size
  obtain ⟨hF135, hC138⟩ := pc_M hM137 hP hD hK hS hX hT hA [13, 14] [] rfl rfl rfl
  refine va_callFi (va_runF (As := []) (rest := []) (hK.1 1 (RJx35411, TJx35411, 4) rfl).2 ⟨hx, hb, hml, hown, hts⟩ hM137 (va_cwF 0 hts (gF q_261 q_262 q_263 q_246 q_260) rfl rfl rfl hT.2.2.2.2.2.2.1 hF_xIh ⟨Nat.le_of_ble_eq_true rfl, Nat.le_of_ble_eq_true rfl⟩) ⟨pc_blind, va_recv hK hP (ci := 1) (q := (RJx35411, TJx35411, 4)) (q0 := 13) rfl rfl, fun U hU hW => ⟨rfl, hC138 U hU hW⟩⟩ rfl rfl hl.1 rfl (lv_room (Nat.le_of_ble_eq_true rfl)) dX9_shown_43 ⟨(Nat.le_of_ble_eq_true rfl), (Nat.le_of_ble_eq_true rfl)⟩) hS (fun q9 _ h9 => hF135 q9 h9) hF135 (fun r140 u139 t139 H139 L139 ht139 hvm139 hw139 hB139 hz139 hk139 hS => ?_)
  have hP := pq_keep hP hD [13, 14] rfl hk139 hB139.1 ht139
  have hG : s.heap.size + 136 ≤ H139.size := Nat.le_trans hG hz139
  refine W.eq (g2 := F0 m 48 ls [.int 1]) (by rw [hw139]) ?_
  refine lv_if_eq (tgt := 92) hx hb dX9_shown_48 (by decide) (fun cz => absurd cz (by decide)) (fun _ => ?_)
  refine lv_aload hx hb dX9_shown_51 (lv_at hl 2 rfl) ?_
  have hM143 := k958_next l hl9 dC dI z a14 h3 h6 H139.size kc1
  obtain ⟨hF141, hC144⟩ := pc_M hM143 hP hD hK hS hX hT hA [13, 14, 15] [2] rfl rfl rfl
  refine va_callFr (va_runF (As := []) (rest := []) (hK.1 1 (RJx35411, TJx35411, 4) rfl).2 ⟨hx, hb, hml, hown, hts⟩ hM143 (va_cwF 0 hts (gF q_308 q_309 q_310 q_246 q_307) rfl rfl rfl hT.2.2.2.2.2.2.2.1 hF_xIn ⟨Nat.le_of_ble_eq_true rfl, Nat.le_of_ble_eq_true rfl⟩) ⟨pc_blind, va_recv hK hP (ci := 1) (q := (RJx35411, TJx35411, 4)) (q0 := 13) rfl rfl, fun U hU hW => ⟨rfl, hC144 U hU hW⟩⟩ rfl rfl hl.1 rfl (lv_room (Nat.le_of_ble_eq_true rfl)) dX9_shown_53 ⟨(Nat.le_of_ble_eq_true rfl), (Nat.le_of_ble_eq_true rfl)⟩) hS (fun q9 _ h9 => hF141 q9 h9) hF141 (fun u145 r146 t145 H145 L145 ht145 hvm145 hw145 hB145 hz145 hk145 hS => ?_)
  obtain ⟨hr145, hB145⟩ := hB145
  obtain ⟨hP, hD, hK⟩ := pq_jn (wz := [(h0, ce21 h1 h2 h3 h4), (h1, ce331 h5), (h2, ce3 z.1), (h4, ce366 h7), (h5, ce330 kc0 h8 h9 h10 h11 h12 h13 h14), (h7, ce330 kc2 (z.2.2.1 128) (z.2.2.1 129) (z.2.2.1 130) (z.2.2.1 131) (z.2.2.1 132) (z.2.2.1 133) (z.2.2.1 134)), (h8, ce49), (h9, ce49), (h10, ce49), (h11, ce49), (h12, ce49), (h13, ce49), (h14, ce49), (a14, ce382 h3), (h3, ce331 h6), (h6, ce330 kc1 (z.2.2.1 128) (z.2.2.1 128) (z.2.2.1 128) (z.2.2.1 128) (z.2.2.1 128) (z.2.2.1 128) (z.2.2.1 128))]) (tz := [(kc0, .object "java/lang/Object"), (kc2, .object "java/lang/Object"), (kc1, .object "java/lang/Object")]) hP hD hK [13, 14, 15] [0, 1] rfl hk145 hF141 hB145.1 ht145 hvm145 rfl rfl
  have hG : s.heap.size + 136 ≤ H145.size := Nat.le_trans hG hz145
  refine W.eq (g2 := F0 m 58 ls [.ref (z.2.2.1 128)]) (by rw [hr145]) ?_
  refine va_castE (nm := "java/lang/Integer") hx hb hown (hts _ q_320) (va_Orecv (hX.2.2.1.1.1 128 (by decide)) hS) dX9_shown_58 ?_
  have hM149 := k74_intValue l hl9 dC dI z H145.size
  obtain ⟨hF147, hC150⟩ := pc_M hM149 hP hD hK hS hX hT hA [] [] rfl rfl rfl
  refine va_calli (va_runV (As := []) (rest := []) ⟨hx, hb, hml, hown, hts⟩ hM149 (cwV 0 hts (gV q_323 q_324 q_325 q_297 q_322) rfl rfl rfl hV_J6_intValue_8abf5 ⟨Nat.le_of_ble_eq_true rfl, Nat.le_of_ble_eq_true rfl⟩) ⟨pc_blind, va_Orecv (hX.2.2.1.1.1 128 (by decide)) hS, fun U hU hW => ⟨rfl, hC150 U hU hW⟩⟩ rfl rfl hl.1 rfl (lv_room (Nat.le_of_ble_eq_true rfl)) dX9_shown_61 ⟨(Nat.le_of_ble_eq_true rfl), (Nat.le_of_ble_eq_true rfl)⟩) hS (fun q9 _ h9 => hF147 q9 h9) hF147 (fun r152 u151 t151 H151 L151 ht151 hvm151 hw151 hB151 hz151 hk151 hS => ?_)
  have hP := pq_keep hP hD [] rfl hk151 hB151.1 ht151
  have hG : s.heap.size + 136 ≤ H151.size := Nat.le_trans hG hz151
  refine W.eq (g2 := F0 m 64 ls [.int 0]) (by rw [hw151]) ?_
  refine lv_istore (lv' := [(6, .int 0), (4, .int 0), (5, .ref a14), (3, .int 48), (2, .int 0), (1, .int 0), (0, .ref h0)]) hx hb dX9_shown_64 hl (by decide) rfl (fun ls hl => ?_)
  refine lv_iload hx hb dX9_shown_66 (lv_at hl 1 rfl) ?_
  refine lv_if_ne (tgt := 82) hx hb dX9_shown_68 (by decide) (fun cz => absurd (by decide) cz) (fun _ => ?_)
  refine lv_aload_n hx hb dX9_shown_71 rfl (lv_at hl 6 rfl) ?_
  refine lv_iload_n hx hb dX9_shown_72 rfl (lv_at hl 4 rfl) ?_
  refine lv_iload_n hx hb dX9_shown_73 rfl (lv_at hl 3 rfl) ?_
  refine lv_iload hx hb dX9_shown_74 (lv_at hl 0 rfl) ?_
  have hM155 := k953_showsIt l hl9 dC dI z h0 h1 h2 h4 h5 h7 h8 h9 h10 h11 h12 h13 h14 h3 H151.size kc0 kc2
  obtain ⟨hF153, hC156⟩ := pc_M hM155 hP hD hK hS hX hT hA [0, 1, 2, 3, 4, 5, 6, 7, 8, 9, 10, 11, 12] [0, 1] rfl rfl rfl
  refine va_calli (va_runV (As := [.int 0, .int 48, .int 0]) (rest := []) ⟨hx, hb, hml, hown, hts⟩ hM155 (cwV 3 hts (gV q_429 q_430 q_431 q_60 q_428) rfl rfl rfl hV_X9_showsIt ⟨Nat.le_of_ble_eq_true rfl, Nat.le_of_ble_eq_true rfl⟩) ⟨pc_blind, va_recv hK hP (ci := 8) (q := (RX9, TX9, 6)) (q0 := 0) rfl rfl, fun U hU hW => ⟨rfl, hC156 U hU hW⟩⟩ rfl rfl hl.1 rfl (lv_room (Nat.le_of_ble_eq_true rfl)) dX9_shown_76 ⟨(Nat.le_of_ble_eq_true rfl), (Nat.le_of_ble_eq_true rfl)⟩) hS (fun q9 _ h9 => hF153 q9 h9) hF153 (fun r158 u157 t157 H157 L157 ht157 hvm157 hw157 hB157 hz157 hk157 hS => ?_)
  have hP := pq_keep hP hD [0, 1, 2, 3, 4, 5, 6, 7, 8, 9, 10, 11, 12] rfl hk157 hB157.1 ht157
  have hG : s.heap.size + 163 ≤ H157.size := va_gr (g := 136) (g1 := 27) hG (by rw [← ht157]; exact hB157.2)
  refine W.eq (g2 := F0 m 79 ls [.int 0]) (by rw [hw157]) ?_
  refine W.widen (k := 163) (n := 1516) (by decide) (by decide) ?_
  refine lv_if_eq (tgt := 86) hx hb dX9_shown_79 (by decide) (fun _ => ?_) (fun cz => absurd (by decide) cz)
  refine lv_iconst (v := 0) hx hb dX9_shown_86 (by decide) ?_
  refine lv_istore (lv' := [(4, .int 0), (6, .int 0), (5, .ref a14), (3, .int 48), (2, .int 0), (1, .int 0), (0, .ref h0)]) hx hb dX9_shown_87 hl (by decide) rfl (fun ls hl => ?_)
  refine lv_goto (tgt := 41) hx hb dX9_shown_89 (by decide) ?_
  refine lv_aload hx hb dX9_shown_41 (lv_at hl 2 rfl) ?_
  have hM161 := k743_hasNext l hl9 dC dI z a14 h3 h6 H157.size
  obtain ⟨hF159, hC162⟩ := pc_M hM161 hP hD hK hS hX hT hA [13, 14] [] rfl rfl rfl
  refine va_callFi (va_runF (As := []) (rest := []) (hK.1 1 (RJx35411, TJx35411, 4) rfl).2 ⟨hx, hb, hml, hown, hts⟩ hM161 (va_cwF 0 hts (gF q_261 q_262 q_263 q_246 q_260) rfl rfl rfl hT.2.2.2.2.2.2.1 hF_xIh ⟨Nat.le_of_ble_eq_true rfl, Nat.le_of_ble_eq_true rfl⟩) ⟨pc_blind, va_recv hK hP (ci := 1) (q := (RJx35411, TJx35411, 4)) (q0 := 13) rfl rfl, fun U hU hW => ⟨rfl, hC162 U hU hW⟩⟩ rfl rfl hl.1 rfl (lv_room (Nat.le_of_ble_eq_true rfl)) dX9_shown_43 ⟨(Nat.le_of_ble_eq_true rfl), (Nat.le_of_ble_eq_true rfl)⟩) hS (fun q9 _ h9 => hF159 q9 h9) hF159 (fun r164 u163 t163 H163 L163 ht163 hvm163 hw163 hB163 hz163 hk163 hS => ?_)
  have hP := pq_keep hP hD [13, 14] rfl hk163 hB163.1 ht163
  have hG : s.heap.size + 163 ≤ H163.size := Nat.le_trans hG hz163
  refine W.eq (g2 := F0 m 48 ls [.int 1]) (by rw [hw163]) ?_
  refine lv_if_eq (tgt := 92) hx hb dX9_shown_48 (by decide) (fun cz => absurd cz (by decide)) (fun _ => ?_)
  refine lv_aload hx hb dX9_shown_51 (lv_at hl 2 rfl) ?_
  have hM167 := k959_next l hl9 dC dI z a14 h3 h6 H163.size kc1
  obtain ⟨hF165, hC168⟩ := pc_M hM167 hP hD hK hS hX hT hA [13, 14, 15] [2] rfl rfl rfl
  refine va_callFr (va_runF (As := []) (rest := []) (hK.1 1 (RJx35411, TJx35411, 4) rfl).2 ⟨hx, hb, hml, hown, hts⟩ hM167 (va_cwF 0 hts (gF q_308 q_309 q_310 q_246 q_307) rfl rfl rfl hT.2.2.2.2.2.2.2.1 hF_xIn ⟨Nat.le_of_ble_eq_true rfl, Nat.le_of_ble_eq_true rfl⟩) ⟨pc_blind, va_recv hK hP (ci := 1) (q := (RJx35411, TJx35411, 4)) (q0 := 13) rfl rfl, fun U hU hW => ⟨rfl, hC168 U hU hW⟩⟩ rfl rfl hl.1 rfl (lv_room (Nat.le_of_ble_eq_true rfl)) dX9_shown_53 ⟨(Nat.le_of_ble_eq_true rfl), (Nat.le_of_ble_eq_true rfl)⟩) hS (fun q9 _ h9 => hF165 q9 h9) hF165 (fun u169 r170 t169 H169 L169 ht169 hvm169 hw169 hB169 hz169 hk169 hS => ?_)
  obtain ⟨hr169, hB169⟩ := hB169
  obtain ⟨hP, hD, hK⟩ := pq_jn (wz := [(h0, ce21 h1 h2 h3 h4), (h1, ce331 h5), (h2, ce3 z.1), (h4, ce366 h7), (h5, ce330 kc0 h8 h9 h10 h11 h12 h13 h14), (h7, ce330 kc2 (z.2.2.1 128) (z.2.2.1 129) (z.2.2.1 130) (z.2.2.1 131) (z.2.2.1 132) (z.2.2.1 133) (z.2.2.1 134)), (h8, ce49), (h9, ce49), (h10, ce49), (h11, ce49), (h12, ce49), (h13, ce49), (h14, ce49), (a14, ce384 h3), (h3, ce331 h6), (h6, ce330 kc1 (z.2.2.1 128) (z.2.2.1 128) (z.2.2.1 128) (z.2.2.1 128) (z.2.2.1 128) (z.2.2.1 128) (z.2.2.1 128))]) (tz := [(kc0, .object "java/lang/Object"), (kc2, .object "java/lang/Object"), (kc1, .object "java/lang/Object")]) hP hD hK [13, 14, 15] [0, 1] rfl hk169 hF165 hB169.1 ht169 hvm169 rfl rfl
  have hG : s.heap.size + 163 ≤ H169.size := Nat.le_trans hG hz169
  refine W.eq (g2 := F0 m 58 ls [.ref (z.2.2.1 128)]) (by rw [hr169]) ?_
  refine va_castE (nm := "java/lang/Integer") hx hb hown (hts _ q_320) (va_Orecv (hX.2.2.1.1.1 128 (by decide)) hS) dX9_shown_58 ?_
  have hM173 := k74_intValue l hl9 dC dI z H169.size
  obtain ⟨hF171, hC174⟩ := pc_M hM173 hP hD hK hS hX hT hA [] [] rfl rfl rfl
  refine va_calli (va_runV (As := []) (rest := []) ⟨hx, hb, hml, hown, hts⟩ hM173 (cwV 0 hts (gV q_323 q_324 q_325 q_297 q_322) rfl rfl rfl hV_J6_intValue_8abf5 ⟨Nat.le_of_ble_eq_true rfl, Nat.le_of_ble_eq_true rfl⟩) ⟨pc_blind, va_Orecv (hX.2.2.1.1.1 128 (by decide)) hS, fun U hU hW => ⟨rfl, hC174 U hU hW⟩⟩ rfl rfl hl.1 rfl (lv_room (Nat.le_of_ble_eq_true rfl)) dX9_shown_61 ⟨(Nat.le_of_ble_eq_true rfl), (Nat.le_of_ble_eq_true rfl)⟩) hS (fun q9 _ h9 => hF171 q9 h9) hF171 (fun r176 u175 t175 H175 L175 ht175 hvm175 hw175 hB175 hz175 hk175 hS => ?_)
  have hP := pq_keep hP hD [] rfl hk175 hB175.1 ht175
  have hG : s.heap.size + 163 ≤ H175.size := Nat.le_trans hG hz175
  refine W.eq (g2 := F0 m 64 ls [.int 0]) (by rw [hw175]) ?_
  refine lv_istore (lv' := [(6, .int 0), (4, .int 0), (5, .ref a14), (3, .int 48), (2, .int 0), (1, .int 0), (0, .ref h0)]) hx hb dX9_shown_64 hl (by decide) rfl (fun ls hl => ?_)
  refine lv_iload hx hb dX9_shown_66 (lv_at hl 1 rfl) ?_
  refine lv_if_ne (tgt := 82) hx hb dX9_shown_68 (by decide) (fun cz => absurd (by decide) cz) (fun _ => ?_)
  refine lv_aload_n hx hb dX9_shown_71 rfl (lv_at hl 6 rfl) ?_
  refine lv_iload_n hx hb dX9_shown_72 rfl (lv_at hl 4 rfl) ?_
  refine lv_iload_n hx hb dX9_shown_73 rfl (lv_at hl 3 rfl) ?_
  refine lv_iload hx hb dX9_shown_74 (lv_at hl 0 rfl) ?_
  have hM179 := k953_showsIt l hl9 dC dI z h0 h1 h2 h4 h5 h7 h8 h9 h10 h11 h12 h13 h14 h3 H175.size kc0 kc2
  obtain ⟨hF177, hC180⟩ := pc_M hM179 hP hD hK hS hX hT hA [0, 1, 2, 3, 4, 5, 6, 7, 8, 9, 10, 11, 12] [0, 1] rfl rfl rfl
  refine va_calli (va_runV (As := [.int 0, .int 48, .int 0]) (rest := []) ⟨hx, hb, hml, hown, hts⟩ hM179 (cwV 3 hts (gV q_429 q_430 q_431 q_60 q_428) rfl rfl rfl hV_X9_showsIt ⟨Nat.le_of_ble_eq_true rfl, Nat.le_of_ble_eq_true rfl⟩) ⟨pc_blind, va_recv hK hP (ci := 8) (q := (RX9, TX9, 6)) (q0 := 0) rfl rfl, fun U hU hW => ⟨rfl, hC180 U hU hW⟩⟩ rfl rfl hl.1 rfl (lv_room (Nat.le_of_ble_eq_true rfl)) dX9_shown_76 ⟨(Nat.le_of_ble_eq_true rfl), (Nat.le_of_ble_eq_true rfl)⟩) hS (fun q9 _ h9 => hF177 q9 h9) hF177 (fun r182 u181 t181 H181 L181 ht181 hvm181 hw181 hB181 hz181 hk181 hS => ?_)
  have hP := pq_keep hP hD [0, 1, 2, 3, 4, 5, 6, 7, 8, 9, 10, 11, 12] rfl hk181 hB181.1 ht181
  have hG : s.heap.size + 190 ≤ H181.size := va_gr (g := 163) (g1 := 27) hG (by rw [← ht181]; exact hB181.2)
  refine W.eq (g2 := F0 m 79 ls [.int 0]) (by rw [hw181]) ?_
  refine W.widen (k := 190) (n := 1768) (by decide) (by decide) ?_
  refine lv_if_eq (tgt := 86) hx hb dX9_shown_79 (by decide) (fun _ => ?_) (fun cz => absurd (by decide) cz)
  refine lv_iconst (v := 0) hx hb dX9_shown_86 (by decide) ?_
  refine lv_istore (lv' := [(4, .int 0), (6, .int 0), (5, .ref a14), (3, .int 48), (2, .int 0), (1, .int 0), (0, .ref h0)]) hx hb dX9_shown_87 hl (by decide) rfl (fun ls hl => ?_)
  refine lv_goto (tgt := 41) hx hb dX9_shown_89 (by decide) ?_
  refine lv_aload hx hb dX9_shown_41 (lv_at hl 2 rfl) ?_
  have hM185 := k746_hasNext l hl9 dC dI z a14 h3 h6 H181.size
  obtain ⟨hF183, hC186⟩ := pc_M hM185 hP hD hK hS hX hT hA [13, 14] [] rfl rfl rfl
  refine va_callFi (va_runF (As := []) (rest := []) (hK.1 1 (RJx35411, TJx35411, 4) rfl).2 ⟨hx, hb, hml, hown, hts⟩ hM185 (va_cwF 0 hts (gF q_261 q_262 q_263 q_246 q_260) rfl rfl rfl hT.2.2.2.2.2.2.1 hF_xIh ⟨Nat.le_of_ble_eq_true rfl, Nat.le_of_ble_eq_true rfl⟩) ⟨pc_blind, va_recv hK hP (ci := 1) (q := (RJx35411, TJx35411, 4)) (q0 := 13) rfl rfl, fun U hU hW => ⟨rfl, hC186 U hU hW⟩⟩ rfl rfl hl.1 rfl (lv_room (Nat.le_of_ble_eq_true rfl)) dX9_shown_43 ⟨(Nat.le_of_ble_eq_true rfl), (Nat.le_of_ble_eq_true rfl)⟩) hS (fun q9 _ h9 => hF183 q9 h9) hF183 (fun r188 u187 t187 H187 L187 ht187 hvm187 hw187 hB187 hz187 hk187 hS => ?_)
  have hP := pq_keep hP hD [13, 14] rfl hk187 hB187.1 ht187
  have hG : s.heap.size + 190 ≤ H187.size := Nat.le_trans hG hz187
  refine W.eq (g2 := F0 m 48 ls [.int 0]) (by rw [hw187]) ?_
  refine lv_if_eq (tgt := 92) hx hb dX9_shown_48 (by decide) (fun _ => ?_) (fun cz => absurd (by decide) cz)
  refine lv_iload_n hx hb dX9_shown_92 rfl (lv_at hl 5 rfl) ?_
  refine lv_iload hx hb dX9_shown_93 (lv_at hl 0 rfl) ?_
  refine lv_if_eq (tgt := 102) hx hb dX9_shown_95 (by decide) (fun _ => ?_) (fun cz => absurd (by decide) cz)
  refine lv_iconst (v := 0) hx hb dX9_shown_102 (by decide) ?_
  refine lv_iadd hx hb dX9_shown_103 ?_
  refine lv_topi (fun y189 ey189 => ?_)
  obtain rfl : y189 = 0 := ey189.trans (by decide)
  refine lv_istore_n (lv' := [(1, .int 0), (4, .int 0), (6, .int 0), (5, .ref a14), (3, .int 48), (2, .int 0), (0, .ref h0)]) hx hb dX9_shown_104 rfl hl (by decide) rfl (fun ls hl => ?_)
  refine lv_iload_n hx hb dX9_shown_105 rfl (lv_at hl 4 rfl) ?_
  refine lv_iconst (v := 1) hx hb dX9_shown_106 (by decide) ?_
  refine lv_iadd hx hb dX9_shown_107 ?_
  refine lv_topi (fun y190 ey190 => ?_)
  obtain rfl : y190 = 49 := ey190.trans (by decide)
  refine lv_i2c (v := 49) hx hb dX9_shown_108 (by decide) ?_
  refine lv_istore_n (lv' := [(3, .int 49), (1, .int 0), (4, .int 0), (6, .int 0), (5, .ref a14), (2, .int 0), (0, .ref h0)]) hx hb dX9_shown_109 rfl hl (by decide) rfl (fun ls hl => ?_)
  refine lv_goto (tgt := 23) hx hb dX9_shown_110 (by decide) ?_
  exact hend _ _ _ hS (hP.sub [0, 1, 2, 14, 3, 4, 15, 5, 6, 7, 8, 9, 10, 11, 12] rfl) (hD.sub [0, 1, 2, 14, 3, 4, 15, 5, 6, 7, 8, 9, 10, 11, 12] rfl rfl) (lv_sub hl [0, 1, 5, 6] rfl) hG

set_option maxHeartbeats 8000000 in
set_option maxRecDepth 100000 in
theorem k986_shown_g2 {p : Program} {l : Launch} {e : Env} {s : State} {m : MethodId} {args : Array Value} {below : List Frame} {meth : Method} {c : Code} {Q : State → Prop} {A : Nat → Prop} {H : Heap} {locs : List Loc} {ls : Array Slot} {dC : Nat → ClassId} {dI : Nat → Nat → Nat} {z : XZ} {h0 h1 h2 h3 h4 h5 h6 h7 h8 h9 h10 h11 h12 h13 h14 : Nat} {kc0 kc1 kc2 : ClassId} (hl9 : l.stackTraces = false) (hx : p.tables.exec = Jvm.exec) (hb : c.code = cX9_shown) (hml : c.maxLocals = 7) (hown : s.vm.findClass RX9 = some m.cls) (hts : ∀ w ∈ wsL_law, w.before args s = true) (hA : ∀ q : Nat, s.heap.size ≤ q → A q) (hX : XE z A s s.heap) (hT : XT s) (hS : va_S A s.heap H locs) (hP : va_P (dC, dI) xCl [(h0, ce21 h1 h2 h3 h4), (h1, ce331 h5), (h2, ce3 z.1), (h3, ce331 h6), (h4, ce366 h7), (h5, ce330 kc0 h8 h9 h10 h11 h12 h13 h14), (h6, ce330 kc1 (z.2.2.1 128) (z.2.2.1 128) (z.2.2.1 128) (z.2.2.1 128) (z.2.2.1 128) (z.2.2.1 128) (z.2.2.1 128)), (h7, ce330 kc2 (z.2.2.1 128) (z.2.2.1 129) (z.2.2.1 130) (z.2.2.1 131) (z.2.2.1 132) (z.2.2.1 133) (z.2.2.1 134)), (h8, ce49), (h9, ce49), (h10, ce49), (h11, ce49), (h12, ce49), (h13, ce49), (h14, ce49)] H) (hD : va_D A [(h0, ce21 h1 h2 h3 h4), (h1, ce331 h5), (h2, ce3 z.1), (h3, ce331 h6), (h4, ce366 h7), (h5, ce330 kc0 h8 h9 h10 h11 h12 h13 h14), (h6, ce330 kc1 (z.2.2.1 128) (z.2.2.1 128) (z.2.2.1 128) (z.2.2.1 128) (z.2.2.1 128) (z.2.2.1 128) (z.2.2.1 128)), (h7, ce330 kc2 (z.2.2.1 128) (z.2.2.1 129) (z.2.2.1 130) (z.2.2.1 131) (z.2.2.1 132) (z.2.2.1 133) (z.2.2.1 134)), (h8, ce49), (h9, ce49), (h10, ce49), (h11, ce49), (h12, ce49), (h13, ce49), (h14, ce49)]) (hK : va_K (dC, dI) xCl [(kc0, .object "java/lang/Object"), (kc1, .object "java/lang/Object"), (kc2, .object "java/lang/Object")] s) (hl : lv_has ls 7 [(3, .int 49), (1, .int 0), (2, .int 0), (0, .ref h0)]) (hG : s.heap.size + 190 ≤ H.size) (hend : ∀ (H' : Heap) (locs' : List Loc) (ls' : Array Slot), va_S A s.heap H' locs' → va_P (dC, dI) xCl [(h0, ce21 h1 h2 h3 h4), (h1, ce331 h5), (h2, ce3 z.1), (h3, ce331 h6), (h4, ce366 h7), (h5, ce330 kc0 h8 h9 h10 h11 h12 h13 h14), (h6, ce330 kc1 (z.2.2.1 128) (z.2.2.1 128) (z.2.2.1 128) (z.2.2.1 128) (z.2.2.1 128) (z.2.2.1 128) (z.2.2.1 128)), (h7, ce330 kc2 (z.2.2.1 128) (z.2.2.1 129) (z.2.2.1 130) (z.2.2.1 131) (z.2.2.1 132) (z.2.2.1 133) (z.2.2.1 134)), (h8, ce49), (h9, ce49), (h10, ce49), (h11, ce49), (h12, ce49), (h13, ce49), (h14, ce49)] H' → va_D A [(h0, ce21 h1 h2 h3 h4), (h1, ce331 h5), (h2, ce3 z.1), (h3, ce331 h6), (h4, ce366 h7), (h5, ce330 kc0 h8 h9 h10 h11 h12 h13 h14), (h6, ce330 kc1 (z.2.2.1 128) (z.2.2.1 128) (z.2.2.1 128) (z.2.2.1 128) (z.2.2.1 128) (z.2.2.1 128) (z.2.2.1 128)), (h7, ce330 kc2 (z.2.2.1 128) (z.2.2.1 129) (z.2.2.1 130) (z.2.2.1 131) (z.2.2.1 132) (z.2.2.1 133) (z.2.2.1 134)), (h8, ce49), (h9, ce49), (h10, ce49), (h11, ce49), (h12, ce49), (h13, ce49), (h14, ce49)] → lv_has ls' 7 [(3, .int 50), (1, .int 0), (2, .int 0), (0, .ref h0)] → s.heap.size + 380 ≤ H'.size → W p l e ({ frames := 5, cells := 2660, slots := 24752, locals := 121 } : Room) s m args below meth c H' locs' 380 3536 Q (F0 m 23 ls' [])) : W p l e ({ frames := 5, cells := 2660, slots := 24752, locals := 121 } : Room) s m args below meth c H locs 190 1768 Q (F0 m 23 ls []) := by
  refine lv_iload_n hx hb dX9_shown_23 rfl (lv_at hl 0 rfl) ?_
  refine lv_bipush (v := 49) hx hb dX9_shown_24 (by decide) ?_
  refine lv_icmp_gt (tgt := 113) hx hb dX9_shown_26 (by decide) (fun cz => absurd cz (by decide)) (fun _ => ?_)
  refine lv_iconst (v := 0) hx hb dX9_shown_29 (by decide) ?_
  refine lv_istore (lv' := [(4, .int 0), (3, .int 49), (1, .int 0), (2, .int 0), (0, .ref h0)]) hx hb dX9_shown_30 hl (by decide) rfl (fun ls hl => ?_)
  refine lv_aload_n hx hb dX9_shown_32 rfl (lv_at hl 4 rfl) ?_
  refine va_get (D := (dC, dI)) (ci := 8) (v := .ref h3) (C := RX9) (T := TX9) (N := 6) hx hb hts in_X9 hown hK hP 0 rfl rfl 3 (by decide) (hts _ q_66) (fun _ h9 => h9) rfl dX9_shown_33 ?_
  have hM193 := k724_iterator l hl9 dC dI z h3 h6 H.size
  obtain ⟨hF191, hC194⟩ := pc_M hM193 hP hD hK hS hX hT hA [3] [] rfl rfl rfl
  refine va_callr (va_runV (As := []) (rest := []) ⟨hx, hb, hml, hown, hts⟩ hM193 (cwV 0 hts (gV q_256 q_257 q_258 q_12 q_255) rfl rfl rfl hV_Jx4a65c_iterator_32c93 ⟨Nat.le_of_ble_eq_true rfl, Nat.le_of_ble_eq_true rfl⟩) ⟨pc_blind, va_recv hK hP (ci := 0) (q := (RJx4a65c, TJx4a65c, 3)) (q0 := 3) rfl rfl, fun U hU hW => ⟨rfl, hC194 U hU hW⟩⟩ rfl rfl hl.1 rfl (lv_room (Nat.le_of_ble_eq_true rfl)) dX9_shown_36 ⟨(Nat.le_of_ble_eq_true rfl), (Nat.le_of_ble_eq_true rfl)⟩) hS (fun q9 _ h9 => hF191 q9 h9) hF191 (fun u195 r196 t195 H195 L195 ht195 hvm195 hw195 hB195 hz195 hk195 hS => ?_)
  obtain ⟨a197, hr195, hB195⟩ := hB195
  obtain ⟨hP, hD, hK⟩ := pq_jn (wz := [(h0, ce21 h1 h2 h3 h4), (h1, ce331 h5), (h2, ce3 z.1), (h4, ce366 h7), (h5, ce330 kc0 h8 h9 h10 h11 h12 h13 h14), (h6, ce330 kc1 (z.2.2.1 128) (z.2.2.1 128) (z.2.2.1 128) (z.2.2.1 128) (z.2.2.1 128) (z.2.2.1 128) (z.2.2.1 128)), (h7, ce330 kc2 (z.2.2.1 128) (z.2.2.1 129) (z.2.2.1 130) (z.2.2.1 131) (z.2.2.1 132) (z.2.2.1 133) (z.2.2.1 134)), (h8, ce49), (h9, ce49), (h10, ce49), (h11, ce49), (h12, ce49), (h13, ce49), (h14, ce49), (h3, ce331 h6), (a197, ce370 h3)]) (tz := [(kc0, .object "java/lang/Object"), (kc1, .object "java/lang/Object"), (kc2, .object "java/lang/Object")]) hP hD hK [3] [0, 1, 2] rfl hk195 hF191 hB195.1 ht195 hvm195 rfl rfl
  have hG : s.heap.size + 191 ≤ H195.size := va_gr (g := 190) (g1 := 1) hG (by rw [← ht195]; exact hB195.2)
  refine W.eq (g2 := F0 m 39 ls [.ref a197]) (by rw [hr195]) ?_
  refine W.widen (k := 191) (n := 1772) (by decide) (by decide) ?_
  refine lv_astore (lv' := [(5, .ref a197), (4, .int 0), (3, .int 49), (1, .int 0), (2, .int 0), (0, .ref h0)]) hx hb dX9_shown_39 hl (by decide) rfl (fun ls hl => ?_)
  refine lv_aload hx hb dX9_shown_41 (lv_at hl 0 rfl) ?_
  have hM200 := k725_hasNext l hl9 dC dI z a197 h3 h6 H195.size
  obtain ⟨hF198, hC201⟩ := pc_M hM200 hP hD hK hS hX hT hA [15, 14] [] rfl rfl rfl
  refine va_callFi (va_runF (As := []) (rest := []) (hK.1 1 (RJx35411, TJx35411, 4) rfl).2 ⟨hx, hb, hml, hown, hts⟩ hM200 (va_cwF 0 hts (gF q_261 q_262 q_263 q_246 q_260) rfl rfl rfl hT.2.2.2.2.2.2.1 hF_xIh ⟨Nat.le_of_ble_eq_true rfl, Nat.le_of_ble_eq_true rfl⟩) ⟨pc_blind, va_recv hK hP (ci := 1) (q := (RJx35411, TJx35411, 4)) (q0 := 15) rfl rfl, fun U hU hW => ⟨rfl, hC201 U hU hW⟩⟩ rfl rfl hl.1 rfl (lv_room (Nat.le_of_ble_eq_true rfl)) dX9_shown_43 ⟨(Nat.le_of_ble_eq_true rfl), (Nat.le_of_ble_eq_true rfl)⟩) hS (fun q9 _ h9 => hF198 q9 h9) hF198 (fun r203 u202 t202 H202 L202 ht202 hvm202 hw202 hB202 hz202 hk202 hS => ?_)
  have hP := pq_keep hP hD [15, 14] rfl hk202 hB202.1 ht202
  have hG : s.heap.size + 191 ≤ H202.size := Nat.le_trans hG hz202
  refine W.eq (g2 := F0 m 48 ls [.int 1]) (by rw [hw202]) ?_
  refine lv_if_eq (tgt := 92) hx hb dX9_shown_48 (by decide) (fun cz => absurd cz (by decide)) (fun _ => ?_)
  refine lv_aload hx hb dX9_shown_51 (lv_at hl 0 rfl) ?_
  have hM206 := k942_next l hl9 dC dI z a197 h3 h6 H202.size kc1
  obtain ⟨hF204, hC207⟩ := pc_M hM206 hP hD hK hS hX hT hA [15, 14, 5] [1] rfl rfl rfl
  refine va_callFr (va_runF (As := []) (rest := []) (hK.1 1 (RJx35411, TJx35411, 4) rfl).2 ⟨hx, hb, hml, hown, hts⟩ hM206 (va_cwF 0 hts (gF q_308 q_309 q_310 q_246 q_307) rfl rfl rfl hT.2.2.2.2.2.2.2.1 hF_xIn ⟨Nat.le_of_ble_eq_true rfl, Nat.le_of_ble_eq_true rfl⟩) ⟨pc_blind, va_recv hK hP (ci := 1) (q := (RJx35411, TJx35411, 4)) (q0 := 15) rfl rfl, fun U hU hW => ⟨rfl, hC207 U hU hW⟩⟩ rfl rfl hl.1 rfl (lv_room (Nat.le_of_ble_eq_true rfl)) dX9_shown_53 ⟨(Nat.le_of_ble_eq_true rfl), (Nat.le_of_ble_eq_true rfl)⟩) hS (fun q9 _ h9 => hF204 q9 h9) hF204 (fun u208 r209 t208 H208 L208 ht208 hvm208 hw208 hB208 hz208 hk208 hS => ?_)
  obtain ⟨hr208, hB208⟩ := hB208
  obtain ⟨hP, hD, hK⟩ := pq_jn (wz := [(h0, ce21 h1 h2 h3 h4), (h1, ce331 h5), (h2, ce3 z.1), (h4, ce366 h7), (h5, ce330 kc0 h8 h9 h10 h11 h12 h13 h14), (h7, ce330 kc2 (z.2.2.1 128) (z.2.2.1 129) (z.2.2.1 130) (z.2.2.1 131) (z.2.2.1 132) (z.2.2.1 133) (z.2.2.1 134)), (h8, ce49), (h9, ce49), (h10, ce49), (h11, ce49), (h12, ce49), (h13, ce49), (h14, ce49), (a197, ce372 h3), (h3, ce331 h6), (h6, ce330 kc1 (z.2.2.1 128) (z.2.2.1 128) (z.2.2.1 128) (z.2.2.1 128) (z.2.2.1 128) (z.2.2.1 128) (z.2.2.1 128))]) (tz := [(kc0, .object "java/lang/Object"), (kc2, .object "java/lang/Object"), (kc1, .object "java/lang/Object")]) hP hD hK [15, 14, 5] [0, 2] rfl hk208 hF204 hB208.1 ht208 hvm208 rfl rfl
  have hG : s.heap.size + 191 ≤ H208.size := Nat.le_trans hG hz208
  refine W.eq (g2 := F0 m 58 ls [.ref (z.2.2.1 128)]) (by rw [hr208]) ?_
  refine va_castE (nm := "java/lang/Integer") hx hb hown (hts _ q_320) (va_Orecv (hX.2.2.1.1.1 128 (by decide)) hS) dX9_shown_58 ?_
  have hM212 := k74_intValue l hl9 dC dI z H208.size
  obtain ⟨hF210, hC213⟩ := pc_M hM212 hP hD hK hS hX hT hA [] [] rfl rfl rfl
  refine va_calli (va_runV (As := []) (rest := []) ⟨hx, hb, hml, hown, hts⟩ hM212 (cwV 0 hts (gV q_323 q_324 q_325 q_297 q_322) rfl rfl rfl hV_J6_intValue_8abf5 ⟨Nat.le_of_ble_eq_true rfl, Nat.le_of_ble_eq_true rfl⟩) ⟨pc_blind, va_Orecv (hX.2.2.1.1.1 128 (by decide)) hS, fun U hU hW => ⟨rfl, hC213 U hU hW⟩⟩ rfl rfl hl.1 rfl (lv_room (Nat.le_of_ble_eq_true rfl)) dX9_shown_61 ⟨(Nat.le_of_ble_eq_true rfl), (Nat.le_of_ble_eq_true rfl)⟩) hS (fun q9 _ h9 => hF210 q9 h9) hF210 (fun r215 u214 t214 H214 L214 ht214 hvm214 hw214 hB214 hz214 hk214 hS => ?_)
  have hP := pq_keep hP hD [] rfl hk214 hB214.1 ht214
  have hG : s.heap.size + 191 ≤ H214.size := Nat.le_trans hG hz214
  refine W.eq (g2 := F0 m 64 ls [.int 0]) (by rw [hw214]) ?_
  refine lv_istore (lv' := [(6, .int 0), (5, .ref a197), (4, .int 0), (3, .int 49), (1, .int 0), (2, .int 0), (0, .ref h0)]) hx hb dX9_shown_64 hl (by decide) rfl (fun ls hl => ?_)
  refine lv_iload hx hb dX9_shown_66 (lv_at hl 2 rfl) ?_
  refine lv_if_ne (tgt := 82) hx hb dX9_shown_68 (by decide) (fun cz => absurd (by decide) cz) (fun _ => ?_)
  refine lv_aload_n hx hb dX9_shown_71 rfl (lv_at hl 6 rfl) ?_
  refine lv_iload_n hx hb dX9_shown_72 rfl (lv_at hl 5 rfl) ?_
  refine lv_iload_n hx hb dX9_shown_73 rfl (lv_at hl 3 rfl) ?_
  refine lv_iload hx hb dX9_shown_74 (lv_at hl 0 rfl) ?_
  have hM218 := k961_showsIt l hl9 dC dI z h0 h1 h2 h4 h5 h7 h8 h9 h10 h11 h12 h13 h14 h3 H214.size kc0 kc2
  obtain ⟨hF216, hC219⟩ := pc_M hM218 hP hD hK hS hX hT hA [0, 1, 2, 3, 4, 5, 6, 7, 8, 9, 10, 11, 12] [0, 1] rfl rfl rfl
  refine va_calli (va_runV (As := [.int 0, .int 49, .int 0]) (rest := []) ⟨hx, hb, hml, hown, hts⟩ hM218 (cwV 3 hts (gV q_429 q_430 q_431 q_60 q_428) rfl rfl rfl hV_X9_showsIt ⟨Nat.le_of_ble_eq_true rfl, Nat.le_of_ble_eq_true rfl⟩) ⟨pc_blind, va_recv hK hP (ci := 8) (q := (RX9, TX9, 6)) (q0 := 0) rfl rfl, fun U hU hW => ⟨rfl, hC219 U hU hW⟩⟩ rfl rfl hl.1 rfl (lv_room (Nat.le_of_ble_eq_true rfl)) dX9_shown_76 ⟨(Nat.le_of_ble_eq_true rfl), (Nat.le_of_ble_eq_true rfl)⟩) hS (fun q9 _ h9 => hF216 q9 h9) hF216 (fun r221 u220 t220 H220 L220 ht220 hvm220 hw220 hB220 hz220 hk220 hS => ?_)
  have hP := pq_keep hP hD [0, 1, 2, 3, 4, 5, 6, 7, 8, 9, 10, 11, 12] rfl hk220 hB220.1 ht220
  have hG : s.heap.size + 218 ≤ H220.size := va_gr (g := 191) (g1 := 27) hG (by rw [← ht220]; exact hB220.2)
  refine W.eq (g2 := F0 m 79 ls [.int 0]) (by rw [hw220]) ?_
  refine W.widen (k := 218) (n := 2024) (by decide) (by decide) ?_
  refine lv_if_eq (tgt := 86) hx hb dX9_shown_79 (by decide) (fun _ => ?_) (fun cz => absurd (by decide) cz)
  refine lv_iconst (v := 0) hx hb dX9_shown_86 (by decide) ?_
  refine lv_istore (lv' := [(4, .int 0), (6, .int 0), (5, .ref a197), (3, .int 49), (1, .int 0), (2, .int 0), (0, .ref h0)]) hx hb dX9_shown_87 hl (by decide) rfl (fun ls hl => ?_)
  refine lv_goto (tgt := 41) hx hb dX9_shown_89 (by decide) ?_
  refine lv_aload hx hb dX9_shown_41 (lv_at hl 2 rfl) ?_
  have hM224 := k728_hasNext l hl9 dC dI z a197 h3 h6 H220.size
  obtain ⟨hF222, hC225⟩ := pc_M hM224 hP hD hK hS hX hT hA [13, 14] [] rfl rfl rfl
  refine va_callFi (va_runF (As := []) (rest := []) (hK.1 1 (RJx35411, TJx35411, 4) rfl).2 ⟨hx, hb, hml, hown, hts⟩ hM224 (va_cwF 0 hts (gF q_261 q_262 q_263 q_246 q_260) rfl rfl rfl hT.2.2.2.2.2.2.1 hF_xIh ⟨Nat.le_of_ble_eq_true rfl, Nat.le_of_ble_eq_true rfl⟩) ⟨pc_blind, va_recv hK hP (ci := 1) (q := (RJx35411, TJx35411, 4)) (q0 := 13) rfl rfl, fun U hU hW => ⟨rfl, hC225 U hU hW⟩⟩ rfl rfl hl.1 rfl (lv_room (Nat.le_of_ble_eq_true rfl)) dX9_shown_43 ⟨(Nat.le_of_ble_eq_true rfl), (Nat.le_of_ble_eq_true rfl)⟩) hS (fun q9 _ h9 => hF222 q9 h9) hF222 (fun r227 u226 t226 H226 L226 ht226 hvm226 hw226 hB226 hz226 hk226 hS => ?_)
  have hP := pq_keep hP hD [13, 14] rfl hk226 hB226.1 ht226
  have hG : s.heap.size + 218 ≤ H226.size := Nat.le_trans hG hz226
  refine W.eq (g2 := F0 m 48 ls [.int 1]) (by rw [hw226]) ?_
  refine lv_if_eq (tgt := 92) hx hb dX9_shown_48 (by decide) (fun cz => absurd cz (by decide)) (fun _ => ?_)
  refine lv_aload hx hb dX9_shown_51 (lv_at hl 2 rfl) ?_
  have hM230 := k954_next l hl9 dC dI z a197 h3 h6 H226.size kc1
  obtain ⟨hF228, hC231⟩ := pc_M hM230 hP hD hK hS hX hT hA [13, 14, 15] [2] rfl rfl rfl
  refine va_callFr (va_runF (As := []) (rest := []) (hK.1 1 (RJx35411, TJx35411, 4) rfl).2 ⟨hx, hb, hml, hown, hts⟩ hM230 (va_cwF 0 hts (gF q_308 q_309 q_310 q_246 q_307) rfl rfl rfl hT.2.2.2.2.2.2.2.1 hF_xIn ⟨Nat.le_of_ble_eq_true rfl, Nat.le_of_ble_eq_true rfl⟩) ⟨pc_blind, va_recv hK hP (ci := 1) (q := (RJx35411, TJx35411, 4)) (q0 := 13) rfl rfl, fun U hU hW => ⟨rfl, hC231 U hU hW⟩⟩ rfl rfl hl.1 rfl (lv_room (Nat.le_of_ble_eq_true rfl)) dX9_shown_53 ⟨(Nat.le_of_ble_eq_true rfl), (Nat.le_of_ble_eq_true rfl)⟩) hS (fun q9 _ h9 => hF228 q9 h9) hF228 (fun u232 r233 t232 H232 L232 ht232 hvm232 hw232 hB232 hz232 hk232 hS => ?_)
  obtain ⟨hr232, hB232⟩ := hB232
  obtain ⟨hP, hD, hK⟩ := pq_jn (wz := [(h0, ce21 h1 h2 h3 h4), (h1, ce331 h5), (h2, ce3 z.1), (h4, ce366 h7), (h5, ce330 kc0 h8 h9 h10 h11 h12 h13 h14), (h7, ce330 kc2 (z.2.2.1 128) (z.2.2.1 129) (z.2.2.1 130) (z.2.2.1 131) (z.2.2.1 132) (z.2.2.1 133) (z.2.2.1 134)), (h8, ce49), (h9, ce49), (h10, ce49), (h11, ce49), (h12, ce49), (h13, ce49), (h14, ce49), (a197, ce374 h3), (h3, ce331 h6), (h6, ce330 kc1 (z.2.2.1 128) (z.2.2.1 128) (z.2.2.1 128) (z.2.2.1 128) (z.2.2.1 128) (z.2.2.1 128) (z.2.2.1 128))]) (tz := [(kc0, .object "java/lang/Object"), (kc2, .object "java/lang/Object"), (kc1, .object "java/lang/Object")]) hP hD hK [13, 14, 15] [0, 1] rfl hk232 hF228 hB232.1 ht232 hvm232 rfl rfl
  have hG : s.heap.size + 218 ≤ H232.size := Nat.le_trans hG hz232
  refine W.eq (g2 := F0 m 58 ls [.ref (z.2.2.1 128)]) (by rw [hr232]) ?_
  refine va_castE (nm := "java/lang/Integer") hx hb hown (hts _ q_320) (va_Orecv (hX.2.2.1.1.1 128 (by decide)) hS) dX9_shown_58 ?_
  have hM236 := k74_intValue l hl9 dC dI z H232.size
  obtain ⟨hF234, hC237⟩ := pc_M hM236 hP hD hK hS hX hT hA [] [] rfl rfl rfl
  refine va_calli (va_runV (As := []) (rest := []) ⟨hx, hb, hml, hown, hts⟩ hM236 (cwV 0 hts (gV q_323 q_324 q_325 q_297 q_322) rfl rfl rfl hV_J6_intValue_8abf5 ⟨Nat.le_of_ble_eq_true rfl, Nat.le_of_ble_eq_true rfl⟩) ⟨pc_blind, va_Orecv (hX.2.2.1.1.1 128 (by decide)) hS, fun U hU hW => ⟨rfl, hC237 U hU hW⟩⟩ rfl rfl hl.1 rfl (lv_room (Nat.le_of_ble_eq_true rfl)) dX9_shown_61 ⟨(Nat.le_of_ble_eq_true rfl), (Nat.le_of_ble_eq_true rfl)⟩) hS (fun q9 _ h9 => hF234 q9 h9) hF234 (fun r239 u238 t238 H238 L238 ht238 hvm238 hw238 hB238 hz238 hk238 hS => ?_)
  have hP := pq_keep hP hD [] rfl hk238 hB238.1 ht238
  have hG : s.heap.size + 218 ≤ H238.size := Nat.le_trans hG hz238
  refine W.eq (g2 := F0 m 64 ls [.int 0]) (by rw [hw238]) ?_
  refine lv_istore (lv' := [(6, .int 0), (4, .int 0), (5, .ref a197), (3, .int 49), (1, .int 0), (2, .int 0), (0, .ref h0)]) hx hb dX9_shown_64 hl (by decide) rfl (fun ls hl => ?_)
  refine lv_iload hx hb dX9_shown_66 (lv_at hl 1 rfl) ?_
  refine lv_if_ne (tgt := 82) hx hb dX9_shown_68 (by decide) (fun cz => absurd (by decide) cz) (fun _ => ?_)
  refine lv_aload_n hx hb dX9_shown_71 rfl (lv_at hl 6 rfl) ?_
  refine lv_iload_n hx hb dX9_shown_72 rfl (lv_at hl 5 rfl) ?_
  refine lv_iload_n hx hb dX9_shown_73 rfl (lv_at hl 3 rfl) ?_
  refine lv_iload hx hb dX9_shown_74 (lv_at hl 0 rfl) ?_
  have hM242 := k961_showsIt l hl9 dC dI z h0 h1 h2 h4 h5 h7 h8 h9 h10 h11 h12 h13 h14 h3 H238.size kc0 kc2
  obtain ⟨hF240, hC243⟩ := pc_M hM242 hP hD hK hS hX hT hA [0, 1, 2, 3, 4, 5, 6, 7, 8, 9, 10, 11, 12] [0, 1] rfl rfl rfl
  refine va_calli (va_runV (As := [.int 0, .int 49, .int 0]) (rest := []) ⟨hx, hb, hml, hown, hts⟩ hM242 (cwV 3 hts (gV q_429 q_430 q_431 q_60 q_428) rfl rfl rfl hV_X9_showsIt ⟨Nat.le_of_ble_eq_true rfl, Nat.le_of_ble_eq_true rfl⟩) ⟨pc_blind, va_recv hK hP (ci := 8) (q := (RX9, TX9, 6)) (q0 := 0) rfl rfl, fun U hU hW => ⟨rfl, hC243 U hU hW⟩⟩ rfl rfl hl.1 rfl (lv_room (Nat.le_of_ble_eq_true rfl)) dX9_shown_76 ⟨(Nat.le_of_ble_eq_true rfl), (Nat.le_of_ble_eq_true rfl)⟩) hS (fun q9 _ h9 => hF240 q9 h9) hF240 (fun r245 u244 t244 H244 L244 ht244 hvm244 hw244 hB244 hz244 hk244 hS => ?_)
  have hP := pq_keep hP hD [0, 1, 2, 3, 4, 5, 6, 7, 8, 9, 10, 11, 12] rfl hk244 hB244.1 ht244
  have hG : s.heap.size + 245 ≤ H244.size := va_gr (g := 218) (g1 := 27) hG (by rw [← ht244]; exact hB244.2)
  refine W.eq (g2 := F0 m 79 ls [.int 0]) (by rw [hw244]) ?_
  refine W.widen (k := 245) (n := 2276) (by decide) (by decide) ?_
  refine lv_if_eq (tgt := 86) hx hb dX9_shown_79 (by decide) (fun _ => ?_) (fun cz => absurd (by decide) cz)
  refine lv_iconst (v := 0) hx hb dX9_shown_86 (by decide) ?_
  refine lv_istore (lv' := [(4, .int 0), (6, .int 0), (5, .ref a197), (3, .int 49), (1, .int 0), (2, .int 0), (0, .ref h0)]) hx hb dX9_shown_87 hl (by decide) rfl (fun ls hl => ?_)
  refine lv_goto (tgt := 41) hx hb dX9_shown_89 (by decide) ?_
  refine lv_aload hx hb dX9_shown_41 (lv_at hl 2 rfl) ?_
  have hM248 := k731_hasNext l hl9 dC dI z a197 h3 h6 H244.size
  obtain ⟨hF246, hC249⟩ := pc_M hM248 hP hD hK hS hX hT hA [13, 14] [] rfl rfl rfl
  refine va_callFi (va_runF (As := []) (rest := []) (hK.1 1 (RJx35411, TJx35411, 4) rfl).2 ⟨hx, hb, hml, hown, hts⟩ hM248 (va_cwF 0 hts (gF q_261 q_262 q_263 q_246 q_260) rfl rfl rfl hT.2.2.2.2.2.2.1 hF_xIh ⟨Nat.le_of_ble_eq_true rfl, Nat.le_of_ble_eq_true rfl⟩) ⟨pc_blind, va_recv hK hP (ci := 1) (q := (RJx35411, TJx35411, 4)) (q0 := 13) rfl rfl, fun U hU hW => ⟨rfl, hC249 U hU hW⟩⟩ rfl rfl hl.1 rfl (lv_room (Nat.le_of_ble_eq_true rfl)) dX9_shown_43 ⟨(Nat.le_of_ble_eq_true rfl), (Nat.le_of_ble_eq_true rfl)⟩) hS (fun q9 _ h9 => hF246 q9 h9) hF246 (fun r251 u250 t250 H250 L250 ht250 hvm250 hw250 hB250 hz250 hk250 hS => ?_)
  have hP := pq_keep hP hD [13, 14] rfl hk250 hB250.1 ht250
  have hG : s.heap.size + 245 ≤ H250.size := Nat.le_trans hG hz250
  refine W.eq (g2 := F0 m 48 ls [.int 1]) (by rw [hw250]) ?_
  refine lv_if_eq (tgt := 92) hx hb dX9_shown_48 (by decide) (fun cz => absurd cz (by decide)) (fun _ => ?_)
  refine lv_aload hx hb dX9_shown_51 (lv_at hl 2 rfl) ?_
  have hM254 := k955_next l hl9 dC dI z a197 h3 h6 H250.size kc1
  obtain ⟨hF252, hC255⟩ := pc_M hM254 hP hD hK hS hX hT hA [13, 14, 15] [2] rfl rfl rfl
  refine va_callFr (va_runF (As := []) (rest := []) (hK.1 1 (RJx35411, TJx35411, 4) rfl).2 ⟨hx, hb, hml, hown, hts⟩ hM254 (va_cwF 0 hts (gF q_308 q_309 q_310 q_246 q_307) rfl rfl rfl hT.2.2.2.2.2.2.2.1 hF_xIn ⟨Nat.le_of_ble_eq_true rfl, Nat.le_of_ble_eq_true rfl⟩) ⟨pc_blind, va_recv hK hP (ci := 1) (q := (RJx35411, TJx35411, 4)) (q0 := 13) rfl rfl, fun U hU hW => ⟨rfl, hC255 U hU hW⟩⟩ rfl rfl hl.1 rfl (lv_room (Nat.le_of_ble_eq_true rfl)) dX9_shown_53 ⟨(Nat.le_of_ble_eq_true rfl), (Nat.le_of_ble_eq_true rfl)⟩) hS (fun q9 _ h9 => hF252 q9 h9) hF252 (fun u256 r257 t256 H256 L256 ht256 hvm256 hw256 hB256 hz256 hk256 hS => ?_)
  obtain ⟨hr256, hB256⟩ := hB256
  obtain ⟨hP, hD, hK⟩ := pq_jn (wz := [(h0, ce21 h1 h2 h3 h4), (h1, ce331 h5), (h2, ce3 z.1), (h4, ce366 h7), (h5, ce330 kc0 h8 h9 h10 h11 h12 h13 h14), (h7, ce330 kc2 (z.2.2.1 128) (z.2.2.1 129) (z.2.2.1 130) (z.2.2.1 131) (z.2.2.1 132) (z.2.2.1 133) (z.2.2.1 134)), (h8, ce49), (h9, ce49), (h10, ce49), (h11, ce49), (h12, ce49), (h13, ce49), (h14, ce49), (a197, ce376 h3), (h3, ce331 h6), (h6, ce330 kc1 (z.2.2.1 128) (z.2.2.1 128) (z.2.2.1 128) (z.2.2.1 128) (z.2.2.1 128) (z.2.2.1 128) (z.2.2.1 128))]) (tz := [(kc0, .object "java/lang/Object"), (kc2, .object "java/lang/Object"), (kc1, .object "java/lang/Object")]) hP hD hK [13, 14, 15] [0, 1] rfl hk256 hF252 hB256.1 ht256 hvm256 rfl rfl
  have hG : s.heap.size + 245 ≤ H256.size := Nat.le_trans hG hz256
  refine W.eq (g2 := F0 m 58 ls [.ref (z.2.2.1 128)]) (by rw [hr256]) ?_
  refine va_castE (nm := "java/lang/Integer") hx hb hown (hts _ q_320) (va_Orecv (hX.2.2.1.1.1 128 (by decide)) hS) dX9_shown_58 ?_
  have hM260 := k74_intValue l hl9 dC dI z H256.size
  obtain ⟨hF258, hC261⟩ := pc_M hM260 hP hD hK hS hX hT hA [] [] rfl rfl rfl
  refine va_calli (va_runV (As := []) (rest := []) ⟨hx, hb, hml, hown, hts⟩ hM260 (cwV 0 hts (gV q_323 q_324 q_325 q_297 q_322) rfl rfl rfl hV_J6_intValue_8abf5 ⟨Nat.le_of_ble_eq_true rfl, Nat.le_of_ble_eq_true rfl⟩) ⟨pc_blind, va_Orecv (hX.2.2.1.1.1 128 (by decide)) hS, fun U hU hW => ⟨rfl, hC261 U hU hW⟩⟩ rfl rfl hl.1 rfl (lv_room (Nat.le_of_ble_eq_true rfl)) dX9_shown_61 ⟨(Nat.le_of_ble_eq_true rfl), (Nat.le_of_ble_eq_true rfl)⟩) hS (fun q9 _ h9 => hF258 q9 h9) hF258 (fun r263 u262 t262 H262 L262 ht262 hvm262 hw262 hB262 hz262 hk262 hS => ?_)
  have hP := pq_keep hP hD [] rfl hk262 hB262.1 ht262
  have hG : s.heap.size + 245 ≤ H262.size := Nat.le_trans hG hz262
  refine W.eq (g2 := F0 m 64 ls [.int 0]) (by rw [hw262]) ?_
  refine lv_istore (lv' := [(6, .int 0), (4, .int 0), (5, .ref a197), (3, .int 49), (1, .int 0), (2, .int 0), (0, .ref h0)]) hx hb dX9_shown_64 hl (by decide) rfl (fun ls hl => ?_)
  refine lv_iload hx hb dX9_shown_66 (lv_at hl 1 rfl) ?_
  refine lv_if_ne (tgt := 82) hx hb dX9_shown_68 (by decide) (fun cz => absurd (by decide) cz) (fun _ => ?_)
  refine lv_aload_n hx hb dX9_shown_71 rfl (lv_at hl 6 rfl) ?_
  refine lv_iload_n hx hb dX9_shown_72 rfl (lv_at hl 5 rfl) ?_
  refine lv_iload_n hx hb dX9_shown_73 rfl (lv_at hl 3 rfl) ?_
  refine lv_iload hx hb dX9_shown_74 (lv_at hl 0 rfl) ?_
  have hM266 := k961_showsIt l hl9 dC dI z h0 h1 h2 h4 h5 h7 h8 h9 h10 h11 h12 h13 h14 h3 H262.size kc0 kc2
  obtain ⟨hF264, hC267⟩ := pc_M hM266 hP hD hK hS hX hT hA [0, 1, 2, 3, 4, 5, 6, 7, 8, 9, 10, 11, 12] [0, 1] rfl rfl rfl
  refine va_calli (va_runV (As := [.int 0, .int 49, .int 0]) (rest := []) ⟨hx, hb, hml, hown, hts⟩ hM266 (cwV 3 hts (gV q_429 q_430 q_431 q_60 q_428) rfl rfl rfl hV_X9_showsIt ⟨Nat.le_of_ble_eq_true rfl, Nat.le_of_ble_eq_true rfl⟩) ⟨pc_blind, va_recv hK hP (ci := 8) (q := (RX9, TX9, 6)) (q0 := 0) rfl rfl, fun U hU hW => ⟨rfl, hC267 U hU hW⟩⟩ rfl rfl hl.1 rfl (lv_room (Nat.le_of_ble_eq_true rfl)) dX9_shown_76 ⟨(Nat.le_of_ble_eq_true rfl), (Nat.le_of_ble_eq_true rfl)⟩) hS (fun q9 _ h9 => hF264 q9 h9) hF264 (fun r269 u268 t268 H268 L268 ht268 hvm268 hw268 hB268 hz268 hk268 hS => ?_)
  have hP := pq_keep hP hD [0, 1, 2, 3, 4, 5, 6, 7, 8, 9, 10, 11, 12] rfl hk268 hB268.1 ht268
  have hG : s.heap.size + 272 ≤ H268.size := va_gr (g := 245) (g1 := 27) hG (by rw [← ht268]; exact hB268.2)
  refine W.eq (g2 := F0 m 79 ls [.int 0]) (by rw [hw268]) ?_
  refine W.widen (k := 272) (n := 2528) (by decide) (by decide) ?_
  refine lv_if_eq (tgt := 86) hx hb dX9_shown_79 (by decide) (fun _ => ?_) (fun cz => absurd (by decide) cz)
  refine lv_iconst (v := 0) hx hb dX9_shown_86 (by decide) ?_
  refine lv_istore (lv' := [(4, .int 0), (6, .int 0), (5, .ref a197), (3, .int 49), (1, .int 0), (2, .int 0), (0, .ref h0)]) hx hb dX9_shown_87 hl (by decide) rfl (fun ls hl => ?_)
  refine lv_goto (tgt := 41) hx hb dX9_shown_89 (by decide) ?_
  refine lv_aload hx hb dX9_shown_41 (lv_at hl 2 rfl) ?_
  have hM272 := k734_hasNext l hl9 dC dI z a197 h3 h6 H268.size
  obtain ⟨hF270, hC273⟩ := pc_M hM272 hP hD hK hS hX hT hA [13, 14] [] rfl rfl rfl
  refine va_callFi (va_runF (As := []) (rest := []) (hK.1 1 (RJx35411, TJx35411, 4) rfl).2 ⟨hx, hb, hml, hown, hts⟩ hM272 (va_cwF 0 hts (gF q_261 q_262 q_263 q_246 q_260) rfl rfl rfl hT.2.2.2.2.2.2.1 hF_xIh ⟨Nat.le_of_ble_eq_true rfl, Nat.le_of_ble_eq_true rfl⟩) ⟨pc_blind, va_recv hK hP (ci := 1) (q := (RJx35411, TJx35411, 4)) (q0 := 13) rfl rfl, fun U hU hW => ⟨rfl, hC273 U hU hW⟩⟩ rfl rfl hl.1 rfl (lv_room (Nat.le_of_ble_eq_true rfl)) dX9_shown_43 ⟨(Nat.le_of_ble_eq_true rfl), (Nat.le_of_ble_eq_true rfl)⟩) hS (fun q9 _ h9 => hF270 q9 h9) hF270 (fun r275 u274 t274 H274 L274 ht274 hvm274 hw274 hB274 hz274 hk274 hS => ?_)
  have hP := pq_keep hP hD [13, 14] rfl hk274 hB274.1 ht274
  have hG : s.heap.size + 272 ≤ H274.size := Nat.le_trans hG hz274
  refine W.eq (g2 := F0 m 48 ls [.int 1]) (by rw [hw274]) ?_
  refine lv_if_eq (tgt := 92) hx hb dX9_shown_48 (by decide) (fun cz => absurd cz (by decide)) (fun _ => ?_)
  refine lv_aload hx hb dX9_shown_51 (lv_at hl 2 rfl) ?_
  have hM278 := k956_next l hl9 dC dI z a197 h3 h6 H274.size kc1
  obtain ⟨hF276, hC279⟩ := pc_M hM278 hP hD hK hS hX hT hA [13, 14, 15] [2] rfl rfl rfl
  refine va_callFr (va_runF (As := []) (rest := []) (hK.1 1 (RJx35411, TJx35411, 4) rfl).2 ⟨hx, hb, hml, hown, hts⟩ hM278 (va_cwF 0 hts (gF q_308 q_309 q_310 q_246 q_307) rfl rfl rfl hT.2.2.2.2.2.2.2.1 hF_xIn ⟨Nat.le_of_ble_eq_true rfl, Nat.le_of_ble_eq_true rfl⟩) ⟨pc_blind, va_recv hK hP (ci := 1) (q := (RJx35411, TJx35411, 4)) (q0 := 13) rfl rfl, fun U hU hW => ⟨rfl, hC279 U hU hW⟩⟩ rfl rfl hl.1 rfl (lv_room (Nat.le_of_ble_eq_true rfl)) dX9_shown_53 ⟨(Nat.le_of_ble_eq_true rfl), (Nat.le_of_ble_eq_true rfl)⟩) hS (fun q9 _ h9 => hF276 q9 h9) hF276 (fun u280 r281 t280 H280 L280 ht280 hvm280 hw280 hB280 hz280 hk280 hS => ?_)
  obtain ⟨hr280, hB280⟩ := hB280
  obtain ⟨hP, hD, hK⟩ := pq_jn (wz := [(h0, ce21 h1 h2 h3 h4), (h1, ce331 h5), (h2, ce3 z.1), (h4, ce366 h7), (h5, ce330 kc0 h8 h9 h10 h11 h12 h13 h14), (h7, ce330 kc2 (z.2.2.1 128) (z.2.2.1 129) (z.2.2.1 130) (z.2.2.1 131) (z.2.2.1 132) (z.2.2.1 133) (z.2.2.1 134)), (h8, ce49), (h9, ce49), (h10, ce49), (h11, ce49), (h12, ce49), (h13, ce49), (h14, ce49), (a197, ce378 h3), (h3, ce331 h6), (h6, ce330 kc1 (z.2.2.1 128) (z.2.2.1 128) (z.2.2.1 128) (z.2.2.1 128) (z.2.2.1 128) (z.2.2.1 128) (z.2.2.1 128))]) (tz := [(kc0, .object "java/lang/Object"), (kc2, .object "java/lang/Object"), (kc1, .object "java/lang/Object")]) hP hD hK [13, 14, 15] [0, 1] rfl hk280 hF276 hB280.1 ht280 hvm280 rfl rfl
  have hG : s.heap.size + 272 ≤ H280.size := Nat.le_trans hG hz280
  refine W.eq (g2 := F0 m 58 ls [.ref (z.2.2.1 128)]) (by rw [hr280]) ?_
  refine va_castE (nm := "java/lang/Integer") hx hb hown (hts _ q_320) (va_Orecv (hX.2.2.1.1.1 128 (by decide)) hS) dX9_shown_58 ?_
  have hM284 := k74_intValue l hl9 dC dI z H280.size
  obtain ⟨hF282, hC285⟩ := pc_M hM284 hP hD hK hS hX hT hA [] [] rfl rfl rfl
  refine va_calli (va_runV (As := []) (rest := []) ⟨hx, hb, hml, hown, hts⟩ hM284 (cwV 0 hts (gV q_323 q_324 q_325 q_297 q_322) rfl rfl rfl hV_J6_intValue_8abf5 ⟨Nat.le_of_ble_eq_true rfl, Nat.le_of_ble_eq_true rfl⟩) ⟨pc_blind, va_Orecv (hX.2.2.1.1.1 128 (by decide)) hS, fun U hU hW => ⟨rfl, hC285 U hU hW⟩⟩ rfl rfl hl.1 rfl (lv_room (Nat.le_of_ble_eq_true rfl)) dX9_shown_61 ⟨(Nat.le_of_ble_eq_true rfl), (Nat.le_of_ble_eq_true rfl)⟩) hS (fun q9 _ h9 => hF282 q9 h9) hF282 (fun r287 u286 t286 H286 L286 ht286 hvm286 hw286 hB286 hz286 hk286 hS => ?_)
  have hP := pq_keep hP hD [] rfl hk286 hB286.1 ht286
  have hG : s.heap.size + 272 ≤ H286.size := Nat.le_trans hG hz286
  refine W.eq (g2 := F0 m 64 ls [.int 0]) (by rw [hw286]) ?_
  refine lv_istore (lv' := [(6, .int 0), (4, .int 0), (5, .ref a197), (3, .int 49), (1, .int 0), (2, .int 0), (0, .ref h0)]) hx hb dX9_shown_64 hl (by decide) rfl (fun ls hl => ?_)
  refine lv_iload hx hb dX9_shown_66 (lv_at hl 1 rfl) ?_
  refine lv_if_ne (tgt := 82) hx hb dX9_shown_68 (by decide) (fun cz => absurd (by decide) cz) (fun _ => ?_)
  refine lv_aload_n hx hb dX9_shown_71 rfl (lv_at hl 6 rfl) ?_
  refine lv_iload_n hx hb dX9_shown_72 rfl (lv_at hl 5 rfl) ?_
  refine lv_iload_n hx hb dX9_shown_73 rfl (lv_at hl 3 rfl) ?_
  refine lv_iload hx hb dX9_shown_74 (lv_at hl 0 rfl) ?_
  have hM290 := k961_showsIt l hl9 dC dI z h0 h1 h2 h4 h5 h7 h8 h9 h10 h11 h12 h13 h14 h3 H286.size kc0 kc2
  obtain ⟨hF288, hC291⟩ := pc_M hM290 hP hD hK hS hX hT hA [0, 1, 2, 3, 4, 5, 6, 7, 8, 9, 10, 11, 12] [0, 1] rfl rfl rfl
  refine va_calli (va_runV (As := [.int 0, .int 49, .int 0]) (rest := []) ⟨hx, hb, hml, hown, hts⟩ hM290 (cwV 3 hts (gV q_429 q_430 q_431 q_60 q_428) rfl rfl rfl hV_X9_showsIt ⟨Nat.le_of_ble_eq_true rfl, Nat.le_of_ble_eq_true rfl⟩) ⟨pc_blind, va_recv hK hP (ci := 8) (q := (RX9, TX9, 6)) (q0 := 0) rfl rfl, fun U hU hW => ⟨rfl, hC291 U hU hW⟩⟩ rfl rfl hl.1 rfl (lv_room (Nat.le_of_ble_eq_true rfl)) dX9_shown_76 ⟨(Nat.le_of_ble_eq_true rfl), (Nat.le_of_ble_eq_true rfl)⟩) hS (fun q9 _ h9 => hF288 q9 h9) hF288 (fun r293 u292 t292 H292 L292 ht292 hvm292 hw292 hB292 hz292 hk292 hS => ?_)
  have hP := pq_keep hP hD [0, 1, 2, 3, 4, 5, 6, 7, 8, 9, 10, 11, 12] rfl hk292 hB292.1 ht292
  have hG : s.heap.size + 299 ≤ H292.size := va_gr (g := 272) (g1 := 27) hG (by rw [← ht292]; exact hB292.2)
  refine W.eq (g2 := F0 m 79 ls [.int 0]) (by rw [hw292]) ?_
  refine W.widen (k := 299) (n := 2780) (by decide) (by decide) ?_
  refine lv_if_eq (tgt := 86) hx hb dX9_shown_79 (by decide) (fun _ => ?_) (fun cz => absurd (by decide) cz)
  refine lv_iconst (v := 0) hx hb dX9_shown_86 (by decide) ?_
  refine lv_istore (lv' := [(4, .int 0), (6, .int 0), (5, .ref a197), (3, .int 49), (1, .int 0), (2, .int 0), (0, .ref h0)]) hx hb dX9_shown_87 hl (by decide) rfl (fun ls hl => ?_)
  refine lv_goto (tgt := 41) hx hb dX9_shown_89 (by decide) ?_
  refine lv_aload hx hb dX9_shown_41 (lv_at hl 2 rfl) ?_
  have hM296 := k737_hasNext l hl9 dC dI z a197 h3 h6 H292.size
  obtain ⟨hF294, hC297⟩ := pc_M hM296 hP hD hK hS hX hT hA [13, 14] [] rfl rfl rfl
  refine va_callFi (va_runF (As := []) (rest := []) (hK.1 1 (RJx35411, TJx35411, 4) rfl).2 ⟨hx, hb, hml, hown, hts⟩ hM296 (va_cwF 0 hts (gF q_261 q_262 q_263 q_246 q_260) rfl rfl rfl hT.2.2.2.2.2.2.1 hF_xIh ⟨Nat.le_of_ble_eq_true rfl, Nat.le_of_ble_eq_true rfl⟩) ⟨pc_blind, va_recv hK hP (ci := 1) (q := (RJx35411, TJx35411, 4)) (q0 := 13) rfl rfl, fun U hU hW => ⟨rfl, hC297 U hU hW⟩⟩ rfl rfl hl.1 rfl (lv_room (Nat.le_of_ble_eq_true rfl)) dX9_shown_43 ⟨(Nat.le_of_ble_eq_true rfl), (Nat.le_of_ble_eq_true rfl)⟩) hS (fun q9 _ h9 => hF294 q9 h9) hF294 (fun r299 u298 t298 H298 L298 ht298 hvm298 hw298 hB298 hz298 hk298 hS => ?_)
  have hP := pq_keep hP hD [13, 14] rfl hk298 hB298.1 ht298
  have hG : s.heap.size + 299 ≤ H298.size := Nat.le_trans hG hz298
  refine W.eq (g2 := F0 m 48 ls [.int 1]) (by rw [hw298]) ?_
  refine lv_if_eq (tgt := 92) hx hb dX9_shown_48 (by decide) (fun cz => absurd cz (by decide)) (fun _ => ?_)
  refine lv_aload hx hb dX9_shown_51 (lv_at hl 2 rfl) ?_
  have hM302 := k957_next l hl9 dC dI z a197 h3 h6 H298.size kc1
  obtain ⟨hF300, hC303⟩ := pc_M hM302 hP hD hK hS hX hT hA [13, 14, 15] [2] rfl rfl rfl
  refine va_callFr (va_runF (As := []) (rest := []) (hK.1 1 (RJx35411, TJx35411, 4) rfl).2 ⟨hx, hb, hml, hown, hts⟩ hM302 (va_cwF 0 hts (gF q_308 q_309 q_310 q_246 q_307) rfl rfl rfl hT.2.2.2.2.2.2.2.1 hF_xIn ⟨Nat.le_of_ble_eq_true rfl, Nat.le_of_ble_eq_true rfl⟩) ⟨pc_blind, va_recv hK hP (ci := 1) (q := (RJx35411, TJx35411, 4)) (q0 := 13) rfl rfl, fun U hU hW => ⟨rfl, hC303 U hU hW⟩⟩ rfl rfl hl.1 rfl (lv_room (Nat.le_of_ble_eq_true rfl)) dX9_shown_53 ⟨(Nat.le_of_ble_eq_true rfl), (Nat.le_of_ble_eq_true rfl)⟩) hS (fun q9 _ h9 => hF300 q9 h9) hF300 (fun u304 r305 t304 H304 L304 ht304 hvm304 hw304 hB304 hz304 hk304 hS => ?_)
  obtain ⟨hr304, hB304⟩ := hB304
  obtain ⟨hP, hD, hK⟩ := pq_jn (wz := [(h0, ce21 h1 h2 h3 h4), (h1, ce331 h5), (h2, ce3 z.1), (h4, ce366 h7), (h5, ce330 kc0 h8 h9 h10 h11 h12 h13 h14), (h7, ce330 kc2 (z.2.2.1 128) (z.2.2.1 129) (z.2.2.1 130) (z.2.2.1 131) (z.2.2.1 132) (z.2.2.1 133) (z.2.2.1 134)), (h8, ce49), (h9, ce49), (h10, ce49), (h11, ce49), (h12, ce49), (h13, ce49), (h14, ce49), (a197, ce380 h3), (h3, ce331 h6), (h6, ce330 kc1 (z.2.2.1 128) (z.2.2.1 128) (z.2.2.1 128) (z.2.2.1 128) (z.2.2.1 128) (z.2.2.1 128) (z.2.2.1 128))]) (tz := [(kc0, .object "java/lang/Object"), (kc2, .object "java/lang/Object"), (kc1, .object "java/lang/Object")]) hP hD hK [13, 14, 15] [0, 1] rfl hk304 hF300 hB304.1 ht304 hvm304 rfl rfl
  have hG : s.heap.size + 299 ≤ H304.size := Nat.le_trans hG hz304
  refine W.eq (g2 := F0 m 58 ls [.ref (z.2.2.1 128)]) (by rw [hr304]) ?_
  refine va_castE (nm := "java/lang/Integer") hx hb hown (hts _ q_320) (va_Orecv (hX.2.2.1.1.1 128 (by decide)) hS) dX9_shown_58 ?_
  have hM308 := k74_intValue l hl9 dC dI z H304.size
  obtain ⟨hF306, hC309⟩ := pc_M hM308 hP hD hK hS hX hT hA [] [] rfl rfl rfl
  refine va_calli (va_runV (As := []) (rest := []) ⟨hx, hb, hml, hown, hts⟩ hM308 (cwV 0 hts (gV q_323 q_324 q_325 q_297 q_322) rfl rfl rfl hV_J6_intValue_8abf5 ⟨Nat.le_of_ble_eq_true rfl, Nat.le_of_ble_eq_true rfl⟩) ⟨pc_blind, va_Orecv (hX.2.2.1.1.1 128 (by decide)) hS, fun U hU hW => ⟨rfl, hC309 U hU hW⟩⟩ rfl rfl hl.1 rfl (lv_room (Nat.le_of_ble_eq_true rfl)) dX9_shown_61 ⟨(Nat.le_of_ble_eq_true rfl), (Nat.le_of_ble_eq_true rfl)⟩) hS (fun q9 _ h9 => hF306 q9 h9) hF306 (fun r311 u310 t310 H310 L310 ht310 hvm310 hw310 hB310 hz310 hk310 hS => ?_)
  have hP := pq_keep hP hD [] rfl hk310 hB310.1 ht310
  have hG : s.heap.size + 299 ≤ H310.size := Nat.le_trans hG hz310
  refine W.eq (g2 := F0 m 64 ls [.int 0]) (by rw [hw310]) ?_
  refine lv_istore (lv' := [(6, .int 0), (4, .int 0), (5, .ref a197), (3, .int 49), (1, .int 0), (2, .int 0), (0, .ref h0)]) hx hb dX9_shown_64 hl (by decide) rfl (fun ls hl => ?_)
  refine lv_iload hx hb dX9_shown_66 (lv_at hl 1 rfl) ?_
  refine lv_if_ne (tgt := 82) hx hb dX9_shown_68 (by decide) (fun cz => absurd (by decide) cz) (fun _ => ?_)
  refine lv_aload_n hx hb dX9_shown_71 rfl (lv_at hl 6 rfl) ?_
  refine lv_iload_n hx hb dX9_shown_72 rfl (lv_at hl 5 rfl) ?_
  refine lv_iload_n hx hb dX9_shown_73 rfl (lv_at hl 3 rfl) ?_
  refine lv_iload hx hb dX9_shown_74 (lv_at hl 0 rfl) ?_
  have hM314 := k961_showsIt l hl9 dC dI z h0 h1 h2 h4 h5 h7 h8 h9 h10 h11 h12 h13 h14 h3 H310.size kc0 kc2
  obtain ⟨hF312, hC315⟩ := pc_M hM314 hP hD hK hS hX hT hA [0, 1, 2, 3, 4, 5, 6, 7, 8, 9, 10, 11, 12] [0, 1] rfl rfl rfl
  refine va_calli (va_runV (As := [.int 0, .int 49, .int 0]) (rest := []) ⟨hx, hb, hml, hown, hts⟩ hM314 (cwV 3 hts (gV q_429 q_430 q_431 q_60 q_428) rfl rfl rfl hV_X9_showsIt ⟨Nat.le_of_ble_eq_true rfl, Nat.le_of_ble_eq_true rfl⟩) ⟨pc_blind, va_recv hK hP (ci := 8) (q := (RX9, TX9, 6)) (q0 := 0) rfl rfl, fun U hU hW => ⟨rfl, hC315 U hU hW⟩⟩ rfl rfl hl.1 rfl (lv_room (Nat.le_of_ble_eq_true rfl)) dX9_shown_76 ⟨(Nat.le_of_ble_eq_true rfl), (Nat.le_of_ble_eq_true rfl)⟩) hS (fun q9 _ h9 => hF312 q9 h9) hF312 (fun r317 u316 t316 H316 L316 ht316 hvm316 hw316 hB316 hz316 hk316 hS => ?_)
  have hP := pq_keep hP hD [0, 1, 2, 3, 4, 5, 6, 7, 8, 9, 10, 11, 12] rfl hk316 hB316.1 ht316
  have hG : s.heap.size + 326 ≤ H316.size := va_gr (g := 299) (g1 := 27) hG (by rw [← ht316]; exact hB316.2)
  refine W.eq (g2 := F0 m 79 ls [.int 0]) (by rw [hw316]) ?_
  refine W.widen (k := 326) (n := 3032) (by decide) (by decide) ?_
  refine lv_if_eq (tgt := 86) hx hb dX9_shown_79 (by decide) (fun _ => ?_) (fun cz => absurd (by decide) cz)
  refine lv_iconst (v := 0) hx hb dX9_shown_86 (by decide) ?_
  refine lv_istore (lv' := [(4, .int 0), (6, .int 0), (5, .ref a197), (3, .int 49), (1, .int 0), (2, .int 0), (0, .ref h0)]) hx hb dX9_shown_87 hl (by decide) rfl (fun ls hl => ?_)
  refine lv_goto (tgt := 41) hx hb dX9_shown_89 (by decide) ?_
  refine lv_aload hx hb dX9_shown_41 (lv_at hl 2 rfl) ?_
  have hM320 := k740_hasNext l hl9 dC dI z a197 h3 h6 H316.size
  obtain ⟨hF318, hC321⟩ := pc_M hM320 hP hD hK hS hX hT hA [13, 14] [] rfl rfl rfl
  refine va_callFi (va_runF (As := []) (rest := []) (hK.1 1 (RJx35411, TJx35411, 4) rfl).2 ⟨hx, hb, hml, hown, hts⟩ hM320 (va_cwF 0 hts (gF q_261 q_262 q_263 q_246 q_260) rfl rfl rfl hT.2.2.2.2.2.2.1 hF_xIh ⟨Nat.le_of_ble_eq_true rfl, Nat.le_of_ble_eq_true rfl⟩) ⟨pc_blind, va_recv hK hP (ci := 1) (q := (RJx35411, TJx35411, 4)) (q0 := 13) rfl rfl, fun U hU hW => ⟨rfl, hC321 U hU hW⟩⟩ rfl rfl hl.1 rfl (lv_room (Nat.le_of_ble_eq_true rfl)) dX9_shown_43 ⟨(Nat.le_of_ble_eq_true rfl), (Nat.le_of_ble_eq_true rfl)⟩) hS (fun q9 _ h9 => hF318 q9 h9) hF318 (fun r323 u322 t322 H322 L322 ht322 hvm322 hw322 hB322 hz322 hk322 hS => ?_)
  have hP := pq_keep hP hD [13, 14] rfl hk322 hB322.1 ht322
  have hG : s.heap.size + 326 ≤ H322.size := Nat.le_trans hG hz322
  refine W.eq (g2 := F0 m 48 ls [.int 1]) (by rw [hw322]) ?_
  refine lv_if_eq (tgt := 92) hx hb dX9_shown_48 (by decide) (fun cz => absurd cz (by decide)) (fun _ => ?_)
  refine lv_aload hx hb dX9_shown_51 (lv_at hl 2 rfl) ?_
  have hM326 := k958_next l hl9 dC dI z a197 h3 h6 H322.size kc1
  obtain ⟨hF324, hC327⟩ := pc_M hM326 hP hD hK hS hX hT hA [13, 14, 15] [2] rfl rfl rfl
  refine va_callFr (va_runF (As := []) (rest := []) (hK.1 1 (RJx35411, TJx35411, 4) rfl).2 ⟨hx, hb, hml, hown, hts⟩ hM326 (va_cwF 0 hts (gF q_308 q_309 q_310 q_246 q_307) rfl rfl rfl hT.2.2.2.2.2.2.2.1 hF_xIn ⟨Nat.le_of_ble_eq_true rfl, Nat.le_of_ble_eq_true rfl⟩) ⟨pc_blind, va_recv hK hP (ci := 1) (q := (RJx35411, TJx35411, 4)) (q0 := 13) rfl rfl, fun U hU hW => ⟨rfl, hC327 U hU hW⟩⟩ rfl rfl hl.1 rfl (lv_room (Nat.le_of_ble_eq_true rfl)) dX9_shown_53 ⟨(Nat.le_of_ble_eq_true rfl), (Nat.le_of_ble_eq_true rfl)⟩) hS (fun q9 _ h9 => hF324 q9 h9) hF324 (fun u328 r329 t328 H328 L328 ht328 hvm328 hw328 hB328 hz328 hk328 hS => ?_)
  obtain ⟨hr328, hB328⟩ := hB328
  obtain ⟨hP, hD, hK⟩ := pq_jn (wz := [(h0, ce21 h1 h2 h3 h4), (h1, ce331 h5), (h2, ce3 z.1), (h4, ce366 h7), (h5, ce330 kc0 h8 h9 h10 h11 h12 h13 h14), (h7, ce330 kc2 (z.2.2.1 128) (z.2.2.1 129) (z.2.2.1 130) (z.2.2.1 131) (z.2.2.1 132) (z.2.2.1 133) (z.2.2.1 134)), (h8, ce49), (h9, ce49), (h10, ce49), (h11, ce49), (h12, ce49), (h13, ce49), (h14, ce49), (a197, ce382 h3), (h3, ce331 h6), (h6, ce330 kc1 (z.2.2.1 128) (z.2.2.1 128) (z.2.2.1 128) (z.2.2.1 128) (z.2.2.1 128) (z.2.2.1 128) (z.2.2.1 128))]) (tz := [(kc0, .object "java/lang/Object"), (kc2, .object "java/lang/Object"), (kc1, .object "java/lang/Object")]) hP hD hK [13, 14, 15] [0, 1] rfl hk328 hF324 hB328.1 ht328 hvm328 rfl rfl
  have hG : s.heap.size + 326 ≤ H328.size := Nat.le_trans hG hz328
  refine W.eq (g2 := F0 m 58 ls [.ref (z.2.2.1 128)]) (by rw [hr328]) ?_
  refine va_castE (nm := "java/lang/Integer") hx hb hown (hts _ q_320) (va_Orecv (hX.2.2.1.1.1 128 (by decide)) hS) dX9_shown_58 ?_
  have hM332 := k74_intValue l hl9 dC dI z H328.size
  obtain ⟨hF330, hC333⟩ := pc_M hM332 hP hD hK hS hX hT hA [] [] rfl rfl rfl
  refine va_calli (va_runV (As := []) (rest := []) ⟨hx, hb, hml, hown, hts⟩ hM332 (cwV 0 hts (gV q_323 q_324 q_325 q_297 q_322) rfl rfl rfl hV_J6_intValue_8abf5 ⟨Nat.le_of_ble_eq_true rfl, Nat.le_of_ble_eq_true rfl⟩) ⟨pc_blind, va_Orecv (hX.2.2.1.1.1 128 (by decide)) hS, fun U hU hW => ⟨rfl, hC333 U hU hW⟩⟩ rfl rfl hl.1 rfl (lv_room (Nat.le_of_ble_eq_true rfl)) dX9_shown_61 ⟨(Nat.le_of_ble_eq_true rfl), (Nat.le_of_ble_eq_true rfl)⟩) hS (fun q9 _ h9 => hF330 q9 h9) hF330 (fun r335 u334 t334 H334 L334 ht334 hvm334 hw334 hB334 hz334 hk334 hS => ?_)
  have hP := pq_keep hP hD [] rfl hk334 hB334.1 ht334
  have hG : s.heap.size + 326 ≤ H334.size := Nat.le_trans hG hz334
  refine W.eq (g2 := F0 m 64 ls [.int 0]) (by rw [hw334]) ?_
  refine lv_istore (lv' := [(6, .int 0), (4, .int 0), (5, .ref a197), (3, .int 49), (1, .int 0), (2, .int 0), (0, .ref h0)]) hx hb dX9_shown_64 hl (by decide) rfl (fun ls hl => ?_)
  refine lv_iload hx hb dX9_shown_66 (lv_at hl 1 rfl) ?_
  refine lv_if_ne (tgt := 82) hx hb dX9_shown_68 (by decide) (fun cz => absurd (by decide) cz) (fun _ => ?_)
  refine lv_aload_n hx hb dX9_shown_71 rfl (lv_at hl 6 rfl) ?_
  refine lv_iload_n hx hb dX9_shown_72 rfl (lv_at hl 5 rfl) ?_
  refine lv_iload_n hx hb dX9_shown_73 rfl (lv_at hl 3 rfl) ?_
  refine lv_iload hx hb dX9_shown_74 (lv_at hl 0 rfl) ?_
  have hM338 := k961_showsIt l hl9 dC dI z h0 h1 h2 h4 h5 h7 h8 h9 h10 h11 h12 h13 h14 h3 H334.size kc0 kc2
  obtain ⟨hF336, hC339⟩ := pc_M hM338 hP hD hK hS hX hT hA [0, 1, 2, 3, 4, 5, 6, 7, 8, 9, 10, 11, 12] [0, 1] rfl rfl rfl
  refine va_calli (va_runV (As := [.int 0, .int 49, .int 0]) (rest := []) ⟨hx, hb, hml, hown, hts⟩ hM338 (cwV 3 hts (gV q_429 q_430 q_431 q_60 q_428) rfl rfl rfl hV_X9_showsIt ⟨Nat.le_of_ble_eq_true rfl, Nat.le_of_ble_eq_true rfl⟩) ⟨pc_blind, va_recv hK hP (ci := 8) (q := (RX9, TX9, 6)) (q0 := 0) rfl rfl, fun U hU hW => ⟨rfl, hC339 U hU hW⟩⟩ rfl rfl hl.1 rfl (lv_room (Nat.le_of_ble_eq_true rfl)) dX9_shown_76 ⟨(Nat.le_of_ble_eq_true rfl), (Nat.le_of_ble_eq_true rfl)⟩) hS (fun q9 _ h9 => hF336 q9 h9) hF336 (fun r341 u340 t340 H340 L340 ht340 hvm340 hw340 hB340 hz340 hk340 hS => ?_)
  have hP := pq_keep hP hD [0, 1, 2, 3, 4, 5, 6, 7, 8, 9, 10, 11, 12] rfl hk340 hB340.1 ht340
  have hG : s.heap.size + 353 ≤ H340.size := va_gr (g := 326) (g1 := 27) hG (by rw [← ht340]; exact hB340.2)
  refine W.eq (g2 := F0 m 79 ls [.int 0]) (by rw [hw340]) ?_
  refine W.widen (k := 353) (n := 3284) (by decide) (by decide) ?_
  refine lv_if_eq (tgt := 86) hx hb dX9_shown_79 (by decide) (fun _ => ?_) (fun cz => absurd (by decide) cz)
  refine lv_iconst (v := 0) hx hb dX9_shown_86 (by decide) ?_
  refine lv_istore (lv' := [(4, .int 0), (6, .int 0), (5, .ref a197), (3, .int 49), (1, .int 0), (2, .int 0), (0, .ref h0)]) hx hb dX9_shown_87 hl (by decide) rfl (fun ls hl => ?_)
  refine lv_goto (tgt := 41) hx hb dX9_shown_89 (by decide) ?_
  refine lv_aload hx hb dX9_shown_41 (lv_at hl 2 rfl) ?_
  have hM344 := k743_hasNext l hl9 dC dI z a197 h3 h6 H340.size
  obtain ⟨hF342, hC345⟩ := pc_M hM344 hP hD hK hS hX hT hA [13, 14] [] rfl rfl rfl
  refine va_callFi (va_runF (As := []) (rest := []) (hK.1 1 (RJx35411, TJx35411, 4) rfl).2 ⟨hx, hb, hml, hown, hts⟩ hM344 (va_cwF 0 hts (gF q_261 q_262 q_263 q_246 q_260) rfl rfl rfl hT.2.2.2.2.2.2.1 hF_xIh ⟨Nat.le_of_ble_eq_true rfl, Nat.le_of_ble_eq_true rfl⟩) ⟨pc_blind, va_recv hK hP (ci := 1) (q := (RJx35411, TJx35411, 4)) (q0 := 13) rfl rfl, fun U hU hW => ⟨rfl, hC345 U hU hW⟩⟩ rfl rfl hl.1 rfl (lv_room (Nat.le_of_ble_eq_true rfl)) dX9_shown_43 ⟨(Nat.le_of_ble_eq_true rfl), (Nat.le_of_ble_eq_true rfl)⟩) hS (fun q9 _ h9 => hF342 q9 h9) hF342 (fun r347 u346 t346 H346 L346 ht346 hvm346 hw346 hB346 hz346 hk346 hS => ?_)
  have hP := pq_keep hP hD [13, 14] rfl hk346 hB346.1 ht346
  have hG : s.heap.size + 353 ≤ H346.size := Nat.le_trans hG hz346
  refine W.eq (g2 := F0 m 48 ls [.int 1]) (by rw [hw346]) ?_
  refine lv_if_eq (tgt := 92) hx hb dX9_shown_48 (by decide) (fun cz => absurd cz (by decide)) (fun _ => ?_)
  refine lv_aload hx hb dX9_shown_51 (lv_at hl 2 rfl) ?_
  have hM350 := k959_next l hl9 dC dI z a197 h3 h6 H346.size kc1
  obtain ⟨hF348, hC351⟩ := pc_M hM350 hP hD hK hS hX hT hA [13, 14, 15] [2] rfl rfl rfl
  refine va_callFr (va_runF (As := []) (rest := []) (hK.1 1 (RJx35411, TJx35411, 4) rfl).2 ⟨hx, hb, hml, hown, hts⟩ hM350 (va_cwF 0 hts (gF q_308 q_309 q_310 q_246 q_307) rfl rfl rfl hT.2.2.2.2.2.2.2.1 hF_xIn ⟨Nat.le_of_ble_eq_true rfl, Nat.le_of_ble_eq_true rfl⟩) ⟨pc_blind, va_recv hK hP (ci := 1) (q := (RJx35411, TJx35411, 4)) (q0 := 13) rfl rfl, fun U hU hW => ⟨rfl, hC351 U hU hW⟩⟩ rfl rfl hl.1 rfl (lv_room (Nat.le_of_ble_eq_true rfl)) dX9_shown_53 ⟨(Nat.le_of_ble_eq_true rfl), (Nat.le_of_ble_eq_true rfl)⟩) hS (fun q9 _ h9 => hF348 q9 h9) hF348 (fun u352 r353 t352 H352 L352 ht352 hvm352 hw352 hB352 hz352 hk352 hS => ?_)
  obtain ⟨hr352, hB352⟩ := hB352
  obtain ⟨hP, hD, hK⟩ := pq_jn (wz := [(h0, ce21 h1 h2 h3 h4), (h1, ce331 h5), (h2, ce3 z.1), (h4, ce366 h7), (h5, ce330 kc0 h8 h9 h10 h11 h12 h13 h14), (h7, ce330 kc2 (z.2.2.1 128) (z.2.2.1 129) (z.2.2.1 130) (z.2.2.1 131) (z.2.2.1 132) (z.2.2.1 133) (z.2.2.1 134)), (h8, ce49), (h9, ce49), (h10, ce49), (h11, ce49), (h12, ce49), (h13, ce49), (h14, ce49), (a197, ce384 h3), (h3, ce331 h6), (h6, ce330 kc1 (z.2.2.1 128) (z.2.2.1 128) (z.2.2.1 128) (z.2.2.1 128) (z.2.2.1 128) (z.2.2.1 128) (z.2.2.1 128))]) (tz := [(kc0, .object "java/lang/Object"), (kc2, .object "java/lang/Object"), (kc1, .object "java/lang/Object")]) hP hD hK [13, 14, 15] [0, 1] rfl hk352 hF348 hB352.1 ht352 hvm352 rfl rfl
  have hG : s.heap.size + 353 ≤ H352.size := Nat.le_trans hG hz352
  refine W.eq (g2 := F0 m 58 ls [.ref (z.2.2.1 128)]) (by rw [hr352]) ?_
  refine va_castE (nm := "java/lang/Integer") hx hb hown (hts _ q_320) (va_Orecv (hX.2.2.1.1.1 128 (by decide)) hS) dX9_shown_58 ?_
  have hM356 := k74_intValue l hl9 dC dI z H352.size
  obtain ⟨hF354, hC357⟩ := pc_M hM356 hP hD hK hS hX hT hA [] [] rfl rfl rfl
  refine va_calli (va_runV (As := []) (rest := []) ⟨hx, hb, hml, hown, hts⟩ hM356 (cwV 0 hts (gV q_323 q_324 q_325 q_297 q_322) rfl rfl rfl hV_J6_intValue_8abf5 ⟨Nat.le_of_ble_eq_true rfl, Nat.le_of_ble_eq_true rfl⟩) ⟨pc_blind, va_Orecv (hX.2.2.1.1.1 128 (by decide)) hS, fun U hU hW => ⟨rfl, hC357 U hU hW⟩⟩ rfl rfl hl.1 rfl (lv_room (Nat.le_of_ble_eq_true rfl)) dX9_shown_61 ⟨(Nat.le_of_ble_eq_true rfl), (Nat.le_of_ble_eq_true rfl)⟩) hS (fun q9 _ h9 => hF354 q9 h9) hF354 (fun r359 u358 t358 H358 L358 ht358 hvm358 hw358 hB358 hz358 hk358 hS => ?_)
  have hP := pq_keep hP hD [] rfl hk358 hB358.1 ht358
  have hG : s.heap.size + 353 ≤ H358.size := Nat.le_trans hG hz358
  refine W.eq (g2 := F0 m 64 ls [.int 0]) (by rw [hw358]) ?_
  refine lv_istore (lv' := [(6, .int 0), (4, .int 0), (5, .ref a197), (3, .int 49), (1, .int 0), (2, .int 0), (0, .ref h0)]) hx hb dX9_shown_64 hl (by decide) rfl (fun ls hl => ?_)
  refine lv_iload hx hb dX9_shown_66 (lv_at hl 1 rfl) ?_
  refine lv_if_ne (tgt := 82) hx hb dX9_shown_68 (by decide) (fun cz => absurd (by decide) cz) (fun _ => ?_)
  refine lv_aload_n hx hb dX9_shown_71 rfl (lv_at hl 6 rfl) ?_
  refine lv_iload_n hx hb dX9_shown_72 rfl (lv_at hl 5 rfl) ?_
  refine lv_iload_n hx hb dX9_shown_73 rfl (lv_at hl 3 rfl) ?_
  refine lv_iload hx hb dX9_shown_74 (lv_at hl 0 rfl) ?_
  have hM362 := k961_showsIt l hl9 dC dI z h0 h1 h2 h4 h5 h7 h8 h9 h10 h11 h12 h13 h14 h3 H358.size kc0 kc2
  obtain ⟨hF360, hC363⟩ := pc_M hM362 hP hD hK hS hX hT hA [0, 1, 2, 3, 4, 5, 6, 7, 8, 9, 10, 11, 12] [0, 1] rfl rfl rfl
  refine va_calli (va_runV (As := [.int 0, .int 49, .int 0]) (rest := []) ⟨hx, hb, hml, hown, hts⟩ hM362 (cwV 3 hts (gV q_429 q_430 q_431 q_60 q_428) rfl rfl rfl hV_X9_showsIt ⟨Nat.le_of_ble_eq_true rfl, Nat.le_of_ble_eq_true rfl⟩) ⟨pc_blind, va_recv hK hP (ci := 8) (q := (RX9, TX9, 6)) (q0 := 0) rfl rfl, fun U hU hW => ⟨rfl, hC363 U hU hW⟩⟩ rfl rfl hl.1 rfl (lv_room (Nat.le_of_ble_eq_true rfl)) dX9_shown_76 ⟨(Nat.le_of_ble_eq_true rfl), (Nat.le_of_ble_eq_true rfl)⟩) hS (fun q9 _ h9 => hF360 q9 h9) hF360 (fun r365 u364 t364 H364 L364 ht364 hvm364 hw364 hB364 hz364 hk364 hS => ?_)
  have hP := pq_keep hP hD [0, 1, 2, 3, 4, 5, 6, 7, 8, 9, 10, 11, 12] rfl hk364 hB364.1 ht364
  have hG : s.heap.size + 380 ≤ H364.size := va_gr (g := 353) (g1 := 27) hG (by rw [← ht364]; exact hB364.2)
  refine W.eq (g2 := F0 m 79 ls [.int 0]) (by rw [hw364]) ?_
  refine W.widen (k := 380) (n := 3536) (by decide) (by decide) ?_
  refine lv_if_eq (tgt := 86) hx hb dX9_shown_79 (by decide) (fun _ => ?_) (fun cz => absurd (by decide) cz)
  refine lv_iconst (v := 0) hx hb dX9_shown_86 (by decide) ?_
  refine lv_istore (lv' := [(4, .int 0), (6, .int 0), (5, .ref a197), (3, .int 49), (1, .int 0), (2, .int 0), (0, .ref h0)]) hx hb dX9_shown_87 hl (by decide) rfl (fun ls hl => ?_)
  refine lv_goto (tgt := 41) hx hb dX9_shown_89 (by decide) ?_
  refine lv_aload hx hb dX9_shown_41 (lv_at hl 2 rfl) ?_
  have hM368 := k746_hasNext l hl9 dC dI z a197 h3 h6 H364.size
  obtain ⟨hF366, hC369⟩ := pc_M hM368 hP hD hK hS hX hT hA [13, 14] [] rfl rfl rfl
  refine va_callFi (va_runF (As := []) (rest := []) (hK.1 1 (RJx35411, TJx35411, 4) rfl).2 ⟨hx, hb, hml, hown, hts⟩ hM368 (va_cwF 0 hts (gF q_261 q_262 q_263 q_246 q_260) rfl rfl rfl hT.2.2.2.2.2.2.1 hF_xIh ⟨Nat.le_of_ble_eq_true rfl, Nat.le_of_ble_eq_true rfl⟩) ⟨pc_blind, va_recv hK hP (ci := 1) (q := (RJx35411, TJx35411, 4)) (q0 := 13) rfl rfl, fun U hU hW => ⟨rfl, hC369 U hU hW⟩⟩ rfl rfl hl.1 rfl (lv_room (Nat.le_of_ble_eq_true rfl)) dX9_shown_43 ⟨(Nat.le_of_ble_eq_true rfl), (Nat.le_of_ble_eq_true rfl)⟩) hS (fun q9 _ h9 => hF366 q9 h9) hF366 (fun r371 u370 t370 H370 L370 ht370 hvm370 hw370 hB370 hz370 hk370 hS => ?_)
  have hP := pq_keep hP hD [13, 14] rfl hk370 hB370.1 ht370
  have hG : s.heap.size + 380 ≤ H370.size := Nat.le_trans hG hz370
  refine W.eq (g2 := F0 m 48 ls [.int 0]) (by rw [hw370]) ?_
  refine lv_if_eq (tgt := 92) hx hb dX9_shown_48 (by decide) (fun _ => ?_) (fun cz => absurd (by decide) cz)
  refine lv_iload_n hx hb dX9_shown_92 rfl (lv_at hl 4 rfl) ?_
  refine lv_iload hx hb dX9_shown_93 (lv_at hl 0 rfl) ?_
  refine lv_if_eq (tgt := 102) hx hb dX9_shown_95 (by decide) (fun _ => ?_) (fun cz => absurd (by decide) cz)
  refine lv_iconst (v := 0) hx hb dX9_shown_102 (by decide) ?_
  refine lv_iadd hx hb dX9_shown_103 ?_
  refine lv_topi (fun y372 ey372 => ?_)
  obtain rfl : y372 = 0 := ey372.trans (by decide)
  refine lv_istore_n (lv' := [(1, .int 0), (4, .int 0), (6, .int 0), (5, .ref a197), (3, .int 49), (2, .int 0), (0, .ref h0)]) hx hb dX9_shown_104 rfl hl (by decide) rfl (fun ls hl => ?_)
  refine lv_iload_n hx hb dX9_shown_105 rfl (lv_at hl 4 rfl) ?_
  refine lv_iconst (v := 1) hx hb dX9_shown_106 (by decide) ?_
  refine lv_iadd hx hb dX9_shown_107 ?_
  refine lv_topi (fun y373 ey373 => ?_)
  obtain rfl : y373 = 50 := ey373.trans (by decide)
  refine lv_i2c (v := 50) hx hb dX9_shown_108 (by decide) ?_
  refine lv_istore_n (lv' := [(3, .int 50), (1, .int 0), (4, .int 0), (6, .int 0), (5, .ref a197), (2, .int 0), (0, .ref h0)]) hx hb dX9_shown_109 rfl hl (by decide) rfl (fun ls hl => ?_)
  refine lv_goto (tgt := 23) hx hb dX9_shown_110 (by decide) ?_
  exact hend _ _ _ hS (hP.sub [0, 1, 2, 14, 3, 4, 15, 5, 6, 7, 8, 9, 10, 11, 12] rfl) (hD.sub [0, 1, 2, 14, 3, 4, 15, 5, 6, 7, 8, 9, 10, 11, 12] rfl rfl) (lv_sub hl [0, 1, 5, 6] rfl) hG

set_option maxHeartbeats 8000000 in
set_option maxRecDepth 100000 in
theorem k986_shown_g3 {p : Program} {l : Launch} {e : Env} {s : State} {m : MethodId} {args : Array Value} {below : List Frame} {meth : Method} {c : Code} {Q : State → Prop} {A : Nat → Prop} {H : Heap} {locs : List Loc} {ls : Array Slot} {dC : Nat → ClassId} {dI : Nat → Nat → Nat} {z : XZ} {h0 h1 h2 h3 h4 h5 h6 h7 h8 h9 h10 h11 h12 h13 h14 : Nat} {kc0 kc1 kc2 : ClassId} (hl9 : l.stackTraces = false) (hx : p.tables.exec = Jvm.exec) (hb : c.code = cX9_shown) (hml : c.maxLocals = 7) (hown : s.vm.findClass RX9 = some m.cls) (hts : ∀ w ∈ wsL_law, w.before args s = true) (hA : ∀ q : Nat, s.heap.size ≤ q → A q) (hX : XE z A s s.heap) (hT : XT s) (hS : va_S A s.heap H locs) (hP : va_P (dC, dI) xCl [(h0, ce21 h1 h2 h3 h4), (h1, ce331 h5), (h2, ce3 z.1), (h3, ce331 h6), (h4, ce366 h7), (h5, ce330 kc0 h8 h9 h10 h11 h12 h13 h14), (h6, ce330 kc1 (z.2.2.1 128) (z.2.2.1 128) (z.2.2.1 128) (z.2.2.1 128) (z.2.2.1 128) (z.2.2.1 128) (z.2.2.1 128)), (h7, ce330 kc2 (z.2.2.1 128) (z.2.2.1 129) (z.2.2.1 130) (z.2.2.1 131) (z.2.2.1 132) (z.2.2.1 133) (z.2.2.1 134)), (h8, ce49), (h9, ce49), (h10, ce49), (h11, ce49), (h12, ce49), (h13, ce49), (h14, ce49)] H) (hD : va_D A [(h0, ce21 h1 h2 h3 h4), (h1, ce331 h5), (h2, ce3 z.1), (h3, ce331 h6), (h4, ce366 h7), (h5, ce330 kc0 h8 h9 h10 h11 h12 h13 h14), (h6, ce330 kc1 (z.2.2.1 128) (z.2.2.1 128) (z.2.2.1 128) (z.2.2.1 128) (z.2.2.1 128) (z.2.2.1 128) (z.2.2.1 128)), (h7, ce330 kc2 (z.2.2.1 128) (z.2.2.1 129) (z.2.2.1 130) (z.2.2.1 131) (z.2.2.1 132) (z.2.2.1 133) (z.2.2.1 134)), (h8, ce49), (h9, ce49), (h10, ce49), (h11, ce49), (h12, ce49), (h13, ce49), (h14, ce49)]) (hK : va_K (dC, dI) xCl [(kc0, .object "java/lang/Object"), (kc1, .object "java/lang/Object"), (kc2, .object "java/lang/Object")] s) (hl : lv_has ls 7 [(3, .int 50), (1, .int 0), (2, .int 0), (0, .ref h0)]) (hG : s.heap.size + 380 ≤ H.size) (hend : ∀ (H' : Heap) (locs' : List Loc) (ls' : Array Slot), va_S A s.heap H' locs' → va_P (dC, dI) xCl [(h0, ce21 h1 h2 h3 h4), (h1, ce331 h5), (h2, ce3 z.1), (h3, ce331 h6), (h4, ce366 h7), (h5, ce330 kc0 h8 h9 h10 h11 h12 h13 h14), (h6, ce330 kc1 (z.2.2.1 128) (z.2.2.1 128) (z.2.2.1 128) (z.2.2.1 128) (z.2.2.1 128) (z.2.2.1 128) (z.2.2.1 128)), (h7, ce330 kc2 (z.2.2.1 128) (z.2.2.1 129) (z.2.2.1 130) (z.2.2.1 131) (z.2.2.1 132) (z.2.2.1 133) (z.2.2.1 134)), (h8, ce49), (h9, ce49), (h10, ce49), (h11, ce49), (h12, ce49), (h13, ce49), (h14, ce49)] H' → va_D A [(h0, ce21 h1 h2 h3 h4), (h1, ce331 h5), (h2, ce3 z.1), (h3, ce331 h6), (h4, ce366 h7), (h5, ce330 kc0 h8 h9 h10 h11 h12 h13 h14), (h6, ce330 kc1 (z.2.2.1 128) (z.2.2.1 128) (z.2.2.1 128) (z.2.2.1 128) (z.2.2.1 128) (z.2.2.1 128) (z.2.2.1 128)), (h7, ce330 kc2 (z.2.2.1 128) (z.2.2.1 129) (z.2.2.1 130) (z.2.2.1 131) (z.2.2.1 132) (z.2.2.1 133) (z.2.2.1 134)), (h8, ce49), (h9, ce49), (h10, ce49), (h11, ce49), (h12, ce49), (h13, ce49), (h14, ce49)] → lv_has ls' 7 [(3, .int 48), (2, .int 1), (1, .int 0), (0, .ref h0)] → s.heap.size + 380 ≤ H'.size → W p l e ({ frames := 5, cells := 2660, slots := 24752, locals := 121 } : Room) s m args below meth c H' locs' 380 3536 Q (F0 m 23 ls' [])) : W p l e ({ frames := 5, cells := 2660, slots := 24752, locals := 121 } : Room) s m args below meth c H locs 380 3536 Q (F0 m 23 ls []) := by
  refine lv_iload_n hx hb dX9_shown_23 rfl (lv_at hl 0 rfl) ?_
  refine lv_bipush (v := 49) hx hb dX9_shown_24 (by decide) ?_
  refine lv_icmp_gt (tgt := 113) hx hb dX9_shown_26 (by decide) (fun _ => ?_) (fun cz => absurd (by decide) cz)
  refine lv_iinc (v := 1) (lv' := [(2, .int 1), (3, .int 50), (1, .int 0), (0, .ref h0)]) hx hb dX9_shown_113 hl (k := 2) rfl (by decide) (by decide) rfl (fun ls hl => ?_)
  refine lv_goto (tgt := 9) hx hb dX9_shown_116 (by decide) ?_
  refine lv_iload_n hx hb dX9_shown_9 rfl (lv_at hl 0 rfl) ?_
  refine lv_aload_n hx hb dX9_shown_10 rfl (lv_at hl 3 rfl) ?_
  refine va_get (D := (dC, dI)) (ci := 8) (v := .ref h1) (C := RX9) (T := TX9) (N := 6) hx hb hts in_X9 hown hK hP 0 rfl rfl 1 (by decide) (hts _ q_64) (fun _ h9 => h9) rfl dX9_shown_11 ?_
  have hM376 := k20_size l hl9 dC dI z h1 h5 H.size 7 7
  obtain ⟨hF374, hC377⟩ := pc_M hM376 hP hD hK hS hX hT hA [1] [] rfl rfl rfl
  refine va_calli (va_runV (As := []) (rest := [.int 1]) ⟨hx, hb, hml, hown, hts⟩ hM376 (cwV 0 hts (gV q_272 q_77 q_78 q_12 q_75) rfl rfl rfl hV_Jx4a65c_size_8abf5 ⟨Nat.le_of_ble_eq_true rfl, Nat.le_of_ble_eq_true rfl⟩) ⟨pc_blind, va_recv hK hP (ci := 0) (q := (RJx4a65c, TJx4a65c, 3)) (q0 := 1) rfl rfl, fun U hU hW => ⟨rfl, hC377 U hU hW⟩⟩ rfl rfl hl.1 rfl (lv_room (Nat.le_of_ble_eq_true rfl)) dX9_shown_14 ⟨(Nat.le_of_ble_eq_true rfl), (Nat.le_of_ble_eq_true rfl)⟩) hS (fun q9 _ h9 => hF374 q9 h9) hF374 (fun r379 u378 t378 H378 L378 ht378 hvm378 hw378 hB378 hz378 hk378 hS => ?_)
  have hP := pq_keep hP hD [1] rfl hk378 hB378.1 ht378
  have hG : s.heap.size + 380 ≤ H378.size := Nat.le_trans hG hz378
  refine W.eq (g2 := F0 m 17 ls [.int 7, .int 1]) (by rw [hw378]) ?_
  refine lv_icmp_ge (tgt := 119) hx hb dX9_shown_17 (by decide) (fun cz => absurd cz (by decide)) (fun _ => ?_)
  refine lv_bipush (v := 48) hx hb dX9_shown_20 (by decide) ?_
  refine lv_istore_n (lv' := [(3, .int 48), (2, .int 1), (1, .int 0), (0, .ref h0)]) hx hb dX9_shown_22 rfl hl (by decide) rfl (fun ls hl => ?_)
  exact hend _ _ _ hS (hP.sub [0, 1, 2, 3, 4, 5, 6, 7, 8, 9, 10, 11, 12, 13, 14] rfl) (hD.sub [0, 1, 2, 3, 4, 5, 6, 7, 8, 9, 10, 11, 12, 13, 14] rfl rfl) (lv_sub hl [0, 1, 2, 3] rfl) hG
