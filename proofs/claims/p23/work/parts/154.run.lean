set_option maxHeartbeats 8000000 in
set_option maxRecDepth 100000 in
theorem k986_shown_g4 {p : Program} {l : Launch} {e : Env} {s : State} {m : MethodId} {args : Array Value} {below : List Frame} {meth : Method} {c : Code} {Q : State → Prop} {A : Nat → Prop} {H : Heap} {locs : List Loc} {ls : Array Slot} {dC : Nat → ClassId} {dI : Nat → Nat → Nat} {z : XZ} {h0 h1 h2 h3 h4 h5 h6 h7 h8 h9 h10 h11 h12 h13 h14 : Nat} {kc0 kc1 kc2 : ClassId} (hl9 : l.stackTraces = false) (hx : p.tables.exec = Jvm.exec) (hb : c.code = cX9_shown) (hml : c.maxLocals = 7) (hown : s.vm.findClass RX9 = some m.cls) (hts : ∀ w ∈ wsL_law, w.before args s = true) (hA : ∀ q : Nat, s.heap.size ≤ q → A q) (hX : XE z A s s.heap) (hT : XT s) (hS : va_S A s.heap H locs) (hP : va_P (dC, dI) xCl [(h0, ce21 h1 h2 h3 h4), (h1, ce331 h5), (h2, ce3 z.1), (h3, ce331 h6), (h4, ce366 h7), (h5, ce330 kc0 h8 h9 h10 h11 h12 h13 h14), (h6, ce330 kc1 (z.2.2.1 128) (z.2.2.1 128) (z.2.2.1 128) (z.2.2.1 128) (z.2.2.1 128) (z.2.2.1 128) (z.2.2.1 128)), (h7, ce330 kc2 (z.2.2.1 128) (z.2.2.1 129) (z.2.2.1 130) (z.2.2.1 131) (z.2.2.1 132) (z.2.2.1 133) (z.2.2.1 134)), (h8, ce49), (h9, ce49), (h10, ce49), (h11, ce49), (h12, ce49), (h13, ce49), (h14, ce49)] H) (hD : va_D A [(h0, ce21 h1 h2 h3 h4), (h1, ce331 h5), (h2, ce3 z.1), (h3, ce331 h6), (h4, ce366 h7), (h5, ce330 kc0 h8 h9 h10 h11 h12 h13 h14), (h6, ce330 kc1 (z.2.2.1 128) (z.2.2.1 128) (z.2.2.1 128) (z.2.2.1 128) (z.2.2.1 128) (z.2.2.1 128) (z.2.2.1 128)), (h7, ce330 kc2 (z.2.2.1 128) (z.2.2.1 129) (z.2.2.1 130) (z.2.2.1 131) (z.2.2.1 132) (z.2.2.1 133) (z.2.2.1 134)), (h8, ce49), (h9, ce49), (h10, ce49), (h11, ce49), (h12, ce49), (h13, ce49), (h14, ce49)]) (hK : va_K (dC, dI) xCl [(kc0, .object "java/lang/Object"), (kc1, .object "java/lang/Object"), (kc2, .object "java/lang/Object")] s) (hl : lv_has ls 7 [(3, .int 48), (2, .int 1), (1, .int 0), (0, .ref h0)]) (hG : s.heap.size + 380 ≤ H.size) (hend : ∀ (H' : Heap) (locs' : List Loc) (ls' : Array Slot), va_S A s.heap H' locs' → va_P (dC, dI) xCl [(h0, ce21 h1 h2 h3 h4), (h1, ce331 h5), (h2, ce3 z.1), (h3, ce331 h6), (h4, ce366 h7), (h5, ce330 kc0 h8 h9 h10 h11 h12 h13 h14), (h6, ce330 kc1 (z.2.2.1 128) (z.2.2.1 128) (z.2.2.1 128) (z.2.2.1 128) (z.2.2.1 128) (z.2.2.1 128) (z.2.2.1 128)), (h7, ce330 kc2 (z.2.2.1 128) (z.2.2.1 129) (z.2.2.1 130) (z.2.2.1 131) (z.2.2.1 132) (z.2.2.1 133) (z.2.2.1 134)), (h8, ce49), (h9, ce49), (h10, ce49), (h11, ce49), (h12, ce49), (h13, ce49), (h14, ce49)] H' → va_D A [(h0, ce21 h1 h2 h3 h4), (h1, ce331 h5), (h2, ce3 z.1), (h3, ce331 h6), (h4, ce366 h7), (h5, ce330 kc0 h8 h9 h10 h11 h12 h13 h14), (h6, ce330 kc1 (z.2.2.1 128) (z.2.2.1 128) (z.2.2.1 128) (z.2.2.1 128) (z.2.2.1 128) (z.2.2.1 128) (z.2.2.1 128)), (h7, ce330 kc2 (z.2.2.1 128) (z.2.2.1 129) (z.2.2.1 130) (z.2.2.1 131) (z.2.2.1 132) (z.2.2.1 133) (z.2.2.1 134)), (h8, ce49), (h9, ce49), (h10, ce49), (h11, ce49), (h12, ce49), (h13, ce49), (h14, ce49)] → lv_has ls' 7 [(3, .int 49), (1, .int 0), (2, .int 1), (0, .ref h0)] → s.heap.size + 570 ≤ H'.size → W p l e ({ frames := 5, cells := 2660, slots := 24752, locals := 121 } : Room) s m args below meth c H' locs' 570 5304 Q (F0 m 23 ls' [])) : W p l e ({ frames := 5, cells := 2660, slots := 24752, locals := 121 } : Room) s m args below meth c H locs 380 3536 Q (F0 m 23 ls []) := by
  refine lv_iload_n hx hb dX9_shown_23 rfl (lv_at hl 0 rfl) ?_
  refine lv_bipush (v := 49) hx hb dX9_shown_24 (by decide) ?_
  refine lv_icmp_gt (tgt := 113) hx hb dX9_shown_26 (by decide) (fun cz => absurd cz (by decide)) (fun _ => ?_)
  refine lv_iconst (v := 0) hx hb dX9_shown_29 (by decide) ?_
  refine lv_istore (lv' := [(4, .int 0), (3, .int 48), (2, .int 1), (1, .int 0), (0, .ref h0)]) hx hb dX9_shown_30 hl (by decide) rfl (fun ls hl => ?_)
  refine lv_aload_n hx hb dX9_shown_32 rfl (lv_at hl 4 rfl) ?_
  refine va_get (D := (dC, dI)) (ci := 8) (v := .ref h3) (C := RX9) (T := TX9) (N := 6) hx hb hts in_X9 hown hK hP 0 rfl rfl 3 (by decide) (hts _ q_66) (fun _ h9 => h9) rfl dX9_shown_33 ?_
  have hM382 := k724_iterator l hl9 dC dI z h3 h6 H.size
  obtain ⟨hF380, hC383⟩ := pc_M hM382 hP hD hK hS hX hT hA [3] [] rfl rfl rfl
  refine va_callr (va_runV (As := []) (rest := []) ⟨hx, hb, hml, hown, hts⟩ hM382 (cwV 0 hts (gV q_256 q_257 q_258 q_12 q_255) rfl rfl rfl hV_Jx4a65c_iterator_32c93 ⟨Nat.le_of_ble_eq_true rfl, Nat.le_of_ble_eq_true rfl⟩) ⟨pc_blind, va_recv hK hP (ci := 0) (q := (RJx4a65c, TJx4a65c, 3)) (q0 := 3) rfl rfl, fun U hU hW => ⟨rfl, hC383 U hU hW⟩⟩ rfl rfl hl.1 rfl (lv_room (Nat.le_of_ble_eq_true rfl)) dX9_shown_36 ⟨(Nat.le_of_ble_eq_true rfl), (Nat.le_of_ble_eq_true rfl)⟩) hS (fun q9 _ h9 => hF380 q9 h9) hF380 (fun u384 r385 t384 H384 L384 ht384 hvm384 hw384 hB384 hz384 hk384 hS => ?_)
  obtain ⟨a386, hr384, hB384⟩ := hB384
  obtain ⟨hP, hD, hK⟩ := pq_jn (wz := [(h0, ce21 h1 h2 h3 h4), (h1, ce331 h5), (h2, ce3 z.1), (h4, ce366 h7), (h5, ce330 kc0 h8 h9 h10 h11 h12 h13 h14), (h6, ce330 kc1 (z.2.2.1 128) (z.2.2.1 128) (z.2.2.1 128) (z.2.2.1 128) (z.2.2.1 128) (z.2.2.1 128) (z.2.2.1 128)), (h7, ce330 kc2 (z.2.2.1 128) (z.2.2.1 129) (z.2.2.1 130) (z.2.2.1 131) (z.2.2.1 132) (z.2.2.1 133) (z.2.2.1 134)), (h8, ce49), (h9, ce49), (h10, ce49), (h11, ce49), (h12, ce49), (h13, ce49), (h14, ce49), (h3, ce331 h6), (a386, ce370 h3)]) (tz := [(kc0, .object "java/lang/Object"), (kc1, .object "java/lang/Object"), (kc2, .object "java/lang/Object")]) hP hD hK [3] [0, 1, 2] rfl hk384 hF380 hB384.1 ht384 hvm384 rfl rfl
  have hG : s.heap.size + 381 ≤ H384.size := va_gr (g := 380) (g1 := 1) hG (by rw [← ht384]; exact hB384.2)
  refine W.eq (g2 := F0 m 39 ls [.ref a386]) (by rw [hr384]) ?_
  refine W.widen (k := 381) (n := 3540) (by decide) (by decide) ?_
  refine lv_astore (lv' := [(5, .ref a386), (4, .int 0), (3, .int 48), (2, .int 1), (1, .int 0), (0, .ref h0)]) hx hb dX9_shown_39 hl (by decide) rfl (fun ls hl => ?_)
  refine lv_aload hx hb dX9_shown_41 (lv_at hl 0 rfl) ?_
  have hM389 := k725_hasNext l hl9 dC dI z a386 h3 h6 H384.size
  obtain ⟨hF387, hC390⟩ := pc_M hM389 hP hD hK hS hX hT hA [15, 14] [] rfl rfl rfl
  refine va_callFi (va_runF (As := []) (rest := []) (hK.1 1 (RJx35411, TJx35411, 4) rfl).2 ⟨hx, hb, hml, hown, hts⟩ hM389 (va_cwF 0 hts (gF q_261 q_262 q_263 q_246 q_260) rfl rfl rfl hT.2.2.2.2.2.2.1 hF_xIh ⟨Nat.le_of_ble_eq_true rfl, Nat.le_of_ble_eq_true rfl⟩) ⟨pc_blind, va_recv hK hP (ci := 1) (q := (RJx35411, TJx35411, 4)) (q0 := 15) rfl rfl, fun U hU hW => ⟨rfl, hC390 U hU hW⟩⟩ rfl rfl hl.1 rfl (lv_room (Nat.le_of_ble_eq_true rfl)) dX9_shown_43 ⟨(Nat.le_of_ble_eq_true rfl), (Nat.le_of_ble_eq_true rfl)⟩) hS (fun q9 _ h9 => hF387 q9 h9) hF387 (fun r392 u391 t391 H391 L391 ht391 hvm391 hw391 hB391 hz391 hk391 hS => ?_)
  have hP := pq_keep hP hD [15, 14] rfl hk391 hB391.1 ht391
  have hG : s.heap.size + 381 ≤ H391.size := Nat.le_trans hG hz391
  refine W.eq (g2 := F0 m 48 ls [.int 1]) (by rw [hw391]) ?_
  refine lv_if_eq (tgt := 92) hx hb dX9_shown_48 (by decide) (fun cz => absurd cz (by decide)) (fun _ => ?_)
  refine lv_aload hx hb dX9_shown_51 (lv_at hl 0 rfl) ?_
  have hM395 := k942_next l hl9 dC dI z a386 h3 h6 H391.size kc1
  obtain ⟨hF393, hC396⟩ := pc_M hM395 hP hD hK hS hX hT hA [15, 14, 5] [1] rfl rfl rfl
  refine va_callFr (va_runF (As := []) (rest := []) (hK.1 1 (RJx35411, TJx35411, 4) rfl).2 ⟨hx, hb, hml, hown, hts⟩ hM395 (va_cwF 0 hts (gF q_308 q_309 q_310 q_246 q_307) rfl rfl rfl hT.2.2.2.2.2.2.2.1 hF_xIn ⟨Nat.le_of_ble_eq_true rfl, Nat.le_of_ble_eq_true rfl⟩) ⟨pc_blind, va_recv hK hP (ci := 1) (q := (RJx35411, TJx35411, 4)) (q0 := 15) rfl rfl, fun U hU hW => ⟨rfl, hC396 U hU hW⟩⟩ rfl rfl hl.1 rfl (lv_room (Nat.le_of_ble_eq_true rfl)) dX9_shown_53 ⟨(Nat.le_of_ble_eq_true rfl), (Nat.le_of_ble_eq_true rfl)⟩) hS (fun q9 _ h9 => hF393 q9 h9) hF393 (fun u397 r398 t397 H397 L397 ht397 hvm397 hw397 hB397 hz397 hk397 hS => ?_)
  obtain ⟨hr397, hB397⟩ := hB397
  obtain ⟨hP, hD, hK⟩ := pq_jn (wz := [(h0, ce21 h1 h2 h3 h4), (h1, ce331 h5), (h2, ce3 z.1), (h4, ce366 h7), (h5, ce330 kc0 h8 h9 h10 h11 h12 h13 h14), (h7, ce330 kc2 (z.2.2.1 128) (z.2.2.1 129) (z.2.2.1 130) (z.2.2.1 131) (z.2.2.1 132) (z.2.2.1 133) (z.2.2.1 134)), (h8, ce49), (h9, ce49), (h10, ce49), (h11, ce49), (h12, ce49), (h13, ce49), (h14, ce49), (a386, ce372 h3), (h3, ce331 h6), (h6, ce330 kc1 (z.2.2.1 128) (z.2.2.1 128) (z.2.2.1 128) (z.2.2.1 128) (z.2.2.1 128) (z.2.2.1 128) (z.2.2.1 128))]) (tz := [(kc0, .object "java/lang/Object"), (kc2, .object "java/lang/Object"), (kc1, .object "java/lang/Object")]) hP hD hK [15, 14, 5] [0, 2] rfl hk397 hF393 hB397.1 ht397 hvm397 rfl rfl
  have hG : s.heap.size + 381 ≤ H397.size := Nat.le_trans hG hz397
  refine W.eq (g2 := F0 m 58 ls [.ref (z.2.2.1 128)]) (by rw [hr397]) ?_
  refine va_castE (nm := "java/lang/Integer") hx hb hown (hts _ q_320) (va_Orecv (hX.2.2.1.1.1 128 (by decide)) hS) dX9_shown_58 ?_
  have hM401 := k74_intValue l hl9 dC dI z H397.size
  obtain ⟨hF399, hC402⟩ := pc_M hM401 hP hD hK hS hX hT hA [] [] rfl rfl rfl
  refine va_calli (va_runV (As := []) (rest := []) ⟨hx, hb, hml, hown, hts⟩ hM401 (cwV 0 hts (gV q_323 q_324 q_325 q_297 q_322) rfl rfl rfl hV_J6_intValue_8abf5 ⟨Nat.le_of_ble_eq_true rfl, Nat.le_of_ble_eq_true rfl⟩) ⟨pc_blind, va_Orecv (hX.2.2.1.1.1 128 (by decide)) hS, fun U hU hW => ⟨rfl, hC402 U hU hW⟩⟩ rfl rfl hl.1 rfl (lv_room (Nat.le_of_ble_eq_true rfl)) dX9_shown_61 ⟨(Nat.le_of_ble_eq_true rfl), (Nat.le_of_ble_eq_true rfl)⟩) hS (fun q9 _ h9 => hF399 q9 h9) hF399 (fun r404 u403 t403 H403 L403 ht403 hvm403 hw403 hB403 hz403 hk403 hS => ?_)
  have hP := pq_keep hP hD [] rfl hk403 hB403.1 ht403
  have hG : s.heap.size + 381 ≤ H403.size := Nat.le_trans hG hz403
  refine W.eq (g2 := F0 m 64 ls [.int 0]) (by rw [hw403]) ?_
  refine lv_istore (lv' := [(6, .int 0), (5, .ref a386), (4, .int 0), (3, .int 48), (2, .int 1), (1, .int 0), (0, .ref h0)]) hx hb dX9_shown_64 hl (by decide) rfl (fun ls hl => ?_)
  refine lv_iload hx hb dX9_shown_66 (lv_at hl 2 rfl) ?_
  refine lv_if_ne (tgt := 82) hx hb dX9_shown_68 (by decide) (fun cz => absurd (by decide) cz) (fun _ => ?_)
  refine lv_aload_n hx hb dX9_shown_71 rfl (lv_at hl 6 rfl) ?_
  refine lv_iload_n hx hb dX9_shown_72 rfl (lv_at hl 4 rfl) ?_
  refine lv_iload_n hx hb dX9_shown_73 rfl (lv_at hl 3 rfl) ?_
  refine lv_iload hx hb dX9_shown_74 (lv_at hl 0 rfl) ?_
  have hM407 := k963_showsIt l hl9 dC dI z h0 h1 h2 h4 h5 h7 h8 h9 h10 h11 h12 h13 h14 h3 H403.size kc0 kc2
  obtain ⟨hF405, hC408⟩ := pc_M hM407 hP hD hK hS hX hT hA [0, 1, 2, 3, 4, 5, 6, 7, 8, 9, 10, 11, 12] [0, 1] rfl rfl rfl
  refine va_calli (va_runV (As := [.int 1, .int 48, .int 0]) (rest := []) ⟨hx, hb, hml, hown, hts⟩ hM407 (cwV 3 hts (gV q_429 q_430 q_431 q_60 q_428) rfl rfl rfl hV_X9_showsIt ⟨Nat.le_of_ble_eq_true rfl, Nat.le_of_ble_eq_true rfl⟩) ⟨pc_blind, va_recv hK hP (ci := 8) (q := (RX9, TX9, 6)) (q0 := 0) rfl rfl, fun U hU hW => ⟨rfl, hC408 U hU hW⟩⟩ rfl rfl hl.1 rfl (lv_room (Nat.le_of_ble_eq_true rfl)) dX9_shown_76 ⟨(Nat.le_of_ble_eq_true rfl), (Nat.le_of_ble_eq_true rfl)⟩) hS (fun q9 _ h9 => hF405 q9 h9) hF405 (fun r410 u409 t409 H409 L409 ht409 hvm409 hw409 hB409 hz409 hk409 hS => ?_)
  have hP := pq_keep hP hD [0, 1, 2, 3, 4, 5, 6, 7, 8, 9, 10, 11, 12] rfl hk409 hB409.1 ht409
  have hG : s.heap.size + 408 ≤ H409.size := va_gr (g := 381) (g1 := 27) hG (by rw [← ht409]; exact hB409.2)
  refine W.eq (g2 := F0 m 79 ls [.int 0]) (by rw [hw409]) ?_
  refine W.widen (k := 408) (n := 3792) (by decide) (by decide) ?_
  refine lv_if_eq (tgt := 86) hx hb dX9_shown_79 (by decide) (fun _ => ?_) (fun cz => absurd (by decide) cz)
  refine lv_iconst (v := 0) hx hb dX9_shown_86 (by decide) ?_
  refine lv_istore (lv' := [(4, .int 0), (6, .int 0), (5, .ref a386), (3, .int 48), (2, .int 1), (1, .int 0), (0, .ref h0)]) hx hb dX9_shown_87 hl (by decide) rfl (fun ls hl => ?_)
  refine lv_goto (tgt := 41) hx hb dX9_shown_89 (by decide) ?_
  refine lv_aload hx hb dX9_shown_41 (lv_at hl 2 rfl) ?_
  have hM413 := k728_hasNext l hl9 dC dI z a386 h3 h6 H409.size
  obtain ⟨hF411, hC414⟩ := pc_M hM413 hP hD hK hS hX hT hA [13, 14] [] rfl rfl rfl
  refine va_callFi (va_runF (As := []) (rest := []) (hK.1 1 (RJx35411, TJx35411, 4) rfl).2 ⟨hx, hb, hml, hown, hts⟩ hM413 (va_cwF 0 hts (gF q_261 q_262 q_263 q_246 q_260) rfl rfl rfl hT.2.2.2.2.2.2.1 hF_xIh ⟨Nat.le_of_ble_eq_true rfl, Nat.le_of_ble_eq_true rfl⟩) ⟨pc_blind, va_recv hK hP (ci := 1) (q := (RJx35411, TJx35411, 4)) (q0 := 13) rfl rfl, fun U hU hW => ⟨rfl, hC414 U hU hW⟩⟩ rfl rfl hl.1 rfl (lv_room (Nat.le_of_ble_eq_true rfl)) dX9_shown_43 ⟨(Nat.le_of_ble_eq_true rfl), (Nat.le_of_ble_eq_true rfl)⟩) hS (fun q9 _ h9 => hF411 q9 h9) hF411 (fun r416 u415 t415 H415 L415 ht415 hvm415 hw415 hB415 hz415 hk415 hS => ?_)
  have hP := pq_keep hP hD [13, 14] rfl hk415 hB415.1 ht415
  have hG : s.heap.size + 408 ≤ H415.size := Nat.le_trans hG hz415
  refine W.eq (g2 := F0 m 48 ls [.int 1]) (by rw [hw415]) ?_
  refine lv_if_eq (tgt := 92) hx hb dX9_shown_48 (by decide) (fun cz => absurd cz (by decide)) (fun _ => ?_)
  refine lv_aload hx hb dX9_shown_51 (lv_at hl 2 rfl) ?_
  have hM419 := k954_next l hl9 dC dI z a386 h3 h6 H415.size kc1
  obtain ⟨hF417, hC420⟩ := pc_M hM419 hP hD hK hS hX hT hA [13, 14, 15] [2] rfl rfl rfl
  refine va_callFr (va_runF (As := []) (rest := []) (hK.1 1 (RJx35411, TJx35411, 4) rfl).2 ⟨hx, hb, hml, hown, hts⟩ hM419 (va_cwF 0 hts (gF q_308 q_309 q_310 q_246 q_307) rfl rfl rfl hT.2.2.2.2.2.2.2.1 hF_xIn ⟨Nat.le_of_ble_eq_true rfl, Nat.le_of_ble_eq_true rfl⟩) ⟨pc_blind, va_recv hK hP (ci := 1) (q := (RJx35411, TJx35411, 4)) (q0 := 13) rfl rfl, fun U hU hW => ⟨rfl, hC420 U hU hW⟩⟩ rfl rfl hl.1 rfl (lv_room (Nat.le_of_ble_eq_true rfl)) dX9_shown_53 ⟨(Nat.le_of_ble_eq_true rfl), (Nat.le_of_ble_eq_true rfl)⟩) hS (fun q9 _ h9 => hF417 q9 h9) hF417 (fun u421 r422 t421 H421 L421 ht421 hvm421 hw421 hB421 hz421 hk421 hS => ?_)
  obtain ⟨hr421, hB421⟩ := hB421
  obtain ⟨hP, hD, hK⟩ := pq_jn (wz := [(h0, ce21 h1 h2 h3 h4), (h1, ce331 h5), (h2, ce3 z.1), (h4, ce366 h7), (h5, ce330 kc0 h8 h9 h10 h11 h12 h13 h14), (h7, ce330 kc2 (z.2.2.1 128) (z.2.2.1 129) (z.2.2.1 130) (z.2.2.1 131) (z.2.2.1 132) (z.2.2.1 133) (z.2.2.1 134)), (h8, ce49), (h9, ce49), (h10, ce49), (h11, ce49), (h12, ce49), (h13, ce49), (h14, ce49), (a386, ce374 h3), (h3, ce331 h6), (h6, ce330 kc1 (z.2.2.1 128) (z.2.2.1 128) (z.2.2.1 128) (z.2.2.1 128) (z.2.2.1 128) (z.2.2.1 128) (z.2.2.1 128))]) (tz := [(kc0, .object "java/lang/Object"), (kc2, .object "java/lang/Object"), (kc1, .object "java/lang/Object")]) hP hD hK [13, 14, 15] [0, 1] rfl hk421 hF417 hB421.1 ht421 hvm421 rfl rfl
  have hG : s.heap.size + 408 ≤ H421.size := Nat.le_trans hG hz421
  refine W.eq (g2 := F0 m 58 ls [.ref (z.2.2.1 128)]) (by rw [hr421]) ?_
  refine va_castE (nm := "java/lang/Integer") hx hb hown (hts _ q_320) (va_Orecv (hX.2.2.1.1.1 128 (by decide)) hS) dX9_shown_58 ?_
  have hM425 := k74_intValue l hl9 dC dI z H421.size
  obtain ⟨hF423, hC426⟩ := pc_M hM425 hP hD hK hS hX hT hA [] [] rfl rfl rfl
  refine va_calli (va_runV (As := []) (rest := []) ⟨hx, hb, hml, hown, hts⟩ hM425 (cwV 0 hts (gV q_323 q_324 q_325 q_297 q_322) rfl rfl rfl hV_J6_intValue_8abf5 ⟨Nat.le_of_ble_eq_true rfl, Nat.le_of_ble_eq_true rfl⟩) ⟨pc_blind, va_Orecv (hX.2.2.1.1.1 128 (by decide)) hS, fun U hU hW => ⟨rfl, hC426 U hU hW⟩⟩ rfl rfl hl.1 rfl (lv_room (Nat.le_of_ble_eq_true rfl)) dX9_shown_61 ⟨(Nat.le_of_ble_eq_true rfl), (Nat.le_of_ble_eq_true rfl)⟩) hS (fun q9 _ h9 => hF423 q9 h9) hF423 (fun r428 u427 t427 H427 L427 ht427 hvm427 hw427 hB427 hz427 hk427 hS => ?_)
  have hP := pq_keep hP hD [] rfl hk427 hB427.1 ht427
  have hG : s.heap.size + 408 ≤ H427.size := Nat.le_trans hG hz427
  refine W.eq (g2 := F0 m 64 ls [.int 0]) (by rw [hw427]) ?_
  refine lv_istore (lv' := [(6, .int 0), (4, .int 0), (5, .ref a386), (3, .int 48), (2, .int 1), (1, .int 0), (0, .ref h0)]) hx hb dX9_shown_64 hl (by decide) rfl (fun ls hl => ?_)
  refine lv_iload hx hb dX9_shown_66 (lv_at hl 1 rfl) ?_
  refine lv_if_ne (tgt := 82) hx hb dX9_shown_68 (by decide) (fun cz => absurd (by decide) cz) (fun _ => ?_)
  refine lv_aload_n hx hb dX9_shown_71 rfl (lv_at hl 6 rfl) ?_
  refine lv_iload_n hx hb dX9_shown_72 rfl (lv_at hl 4 rfl) ?_
  refine lv_iload_n hx hb dX9_shown_73 rfl (lv_at hl 3 rfl) ?_
  refine lv_iload hx hb dX9_shown_74 (lv_at hl 0 rfl) ?_
  have hM431 := k963_showsIt l hl9 dC dI z h0 h1 h2 h4 h5 h7 h8 h9 h10 h11 h12 h13 h14 h3 H427.size kc0 kc2
  obtain ⟨hF429, hC432⟩ := pc_M hM431 hP hD hK hS hX hT hA [0, 1, 2, 3, 4, 5, 6, 7, 8, 9, 10, 11, 12] [0, 1] rfl rfl rfl
  refine va_calli (va_runV (As := [.int 1, .int 48, .int 0]) (rest := []) ⟨hx, hb, hml, hown, hts⟩ hM431 (cwV 3 hts (gV q_429 q_430 q_431 q_60 q_428) rfl rfl rfl hV_X9_showsIt ⟨Nat.le_of_ble_eq_true rfl, Nat.le_of_ble_eq_true rfl⟩) ⟨pc_blind, va_recv hK hP (ci := 8) (q := (RX9, TX9, 6)) (q0 := 0) rfl rfl, fun U hU hW => ⟨rfl, hC432 U hU hW⟩⟩ rfl rfl hl.1 rfl (lv_room (Nat.le_of_ble_eq_true rfl)) dX9_shown_76 ⟨(Nat.le_of_ble_eq_true rfl), (Nat.le_of_ble_eq_true rfl)⟩) hS (fun q9 _ h9 => hF429 q9 h9) hF429 (fun r434 u433 t433 H433 L433 ht433 hvm433 hw433 hB433 hz433 hk433 hS => ?_)
  have hP := pq_keep hP hD [0, 1, 2, 3, 4, 5, 6, 7, 8, 9, 10, 11, 12] rfl hk433 hB433.1 ht433
  have hG : s.heap.size + 435 ≤ H433.size := va_gr (g := 408) (g1 := 27) hG (by rw [← ht433]; exact hB433.2)
  refine W.eq (g2 := F0 m 79 ls [.int 0]) (by rw [hw433]) ?_
  refine W.widen (k := 435) (n := 4044) (by decide) (by decide) ?_
  refine lv_if_eq (tgt := 86) hx hb dX9_shown_79 (by decide) (fun _ => ?_) (fun cz => absurd (by decide) cz)
  refine lv_iconst (v := 0) hx hb dX9_shown_86 (by decide) ?_
  refine lv_istore (lv' := [(4, .int 0), (6, .int 0), (5, .ref a386), (3, .int 48), (2, .int 1), (1, .int 0), (0, .ref h0)]) hx hb dX9_shown_87 hl (by decide) rfl (fun ls hl => ?_)
  refine lv_goto (tgt := 41) hx hb dX9_shown_89 (by decide) ?_
  refine lv_aload hx hb dX9_shown_41 (lv_at hl 2 rfl) ?_
  have hM437 := k731_hasNext l hl9 dC dI z a386 h3 h6 H433.size
  obtain ⟨hF435, hC438⟩ := pc_M hM437 hP hD hK hS hX hT hA [13, 14] [] rfl rfl rfl
  refine va_callFi (va_runF (As := []) (rest := []) (hK.1 1 (RJx35411, TJx35411, 4) rfl).2 ⟨hx, hb, hml, hown, hts⟩ hM437 (va_cwF 0 hts (gF q_261 q_262 q_263 q_246 q_260) rfl rfl rfl hT.2.2.2.2.2.2.1 hF_xIh ⟨Nat.le_of_ble_eq_true rfl, Nat.le_of_ble_eq_true rfl⟩) ⟨pc_blind, va_recv hK hP (ci := 1) (q := (RJx35411, TJx35411, 4)) (q0 := 13) rfl rfl, fun U hU hW => ⟨rfl, hC438 U hU hW⟩⟩ rfl rfl hl.1 rfl (lv_room (Nat.le_of_ble_eq_true rfl)) dX9_shown_43 ⟨(Nat.le_of_ble_eq_true rfl), (Nat.le_of_ble_eq_true rfl)⟩) hS (fun q9 _ h9 => hF435 q9 h9) hF435 (fun r440 u439 t439 H439 L439 ht439 hvm439 hw439 hB439 hz439 hk439 hS => ?_)
  have hP := pq_keep hP hD [13, 14] rfl hk439 hB439.1 ht439
  have hG : s.heap.size + 435 ≤ H439.size := Nat.le_trans hG hz439
  refine W.eq (g2 := F0 m 48 ls [.int 1]) (by rw [hw439]) ?_
  refine lv_if_eq (tgt := 92) hx hb dX9_shown_48 (by decide) (fun cz => absurd cz (by decide)) (fun _ => ?_)
  refine lv_aload hx hb dX9_shown_51 (lv_at hl 2 rfl) ?_
  have hM443 := k955_next l hl9 dC dI z a386 h3 h6 H439.size kc1
  obtain ⟨hF441, hC444⟩ := pc_M hM443 hP hD hK hS hX hT hA [13, 14, 15] [2] rfl rfl rfl
  refine va_callFr (va_runF (As := []) (rest := []) (hK.1 1 (RJx35411, TJx35411, 4) rfl).2 ⟨hx, hb, hml, hown, hts⟩ hM443 (va_cwF 0 hts (gF q_308 q_309 q_310 q_246 q_307) rfl rfl rfl hT.2.2.2.2.2.2.2.1 hF_xIn ⟨Nat.le_of_ble_eq_true rfl, Nat.le_of_ble_eq_true rfl⟩) ⟨pc_blind, va_recv hK hP (ci := 1) (q := (RJx35411, TJx35411, 4)) (q0 := 13) rfl rfl, fun U hU hW => ⟨rfl, hC444 U hU hW⟩⟩ rfl rfl hl.1 rfl (lv_room (Nat.le_of_ble_eq_true rfl)) dX9_shown_53 ⟨(Nat.le_of_ble_eq_true rfl), (Nat.le_of_ble_eq_true rfl)⟩) hS (fun q9 _ h9 => hF441 q9 h9) hF441 (fun u445 r446 t445 H445 L445 ht445 hvm445 hw445 hB445 hz445 hk445 hS => ?_)
  obtain ⟨hr445, hB445⟩ := hB445
  obtain ⟨hP, hD, hK⟩ := pq_jn (wz := [(h0, ce21 h1 h2 h3 h4), (h1, ce331 h5), (h2, ce3 z.1), (h4, ce366 h7), (h5, ce330 kc0 h8 h9 h10 h11 h12 h13 h14), (h7, ce330 kc2 (z.2.2.1 128) (z.2.2.1 129) (z.2.2.1 130) (z.2.2.1 131) (z.2.2.1 132) (z.2.2.1 133) (z.2.2.1 134)), (h8, ce49), (h9, ce49), (h10, ce49), (h11, ce49), (h12, ce49), (h13, ce49), (h14, ce49), (a386, ce376 h3), (h3, ce331 h6), (h6, ce330 kc1 (z.2.2.1 128) (z.2.2.1 128) (z.2.2.1 128) (z.2.2.1 128) (z.2.2.1 128) (z.2.2.1 128) (z.2.2.1 128))]) (tz := [(kc0, .object "java/lang/Object"), (kc2, .object "java/lang/Object"), (kc1, .object "java/lang/Object")]) hP hD hK [13, 14, 15] [0, 1] rfl hk445 hF441 hB445.1 ht445 hvm445 rfl rfl
  have hG : s.heap.size + 435 ≤ H445.size := Nat.le_trans hG hz445
  refine W.eq (g2 := F0 m 58 ls [.ref (z.2.2.1 128)]) (by rw [hr445]) ?_
  refine va_castE (nm := "java/lang/Integer") hx hb hown (hts _ q_320) (va_Orecv (hX.2.2.1.1.1 128 (by decide)) hS) dX9_shown_58 ?_
  have hM449 := k74_intValue l hl9 dC dI z H445.size
  obtain ⟨hF447, hC450⟩ := pc_M hM449 hP hD hK hS hX hT hA [] [] rfl rfl rfl
  refine va_calli (va_runV (As := []) (rest := []) ⟨hx, hb, hml, hown, hts⟩ hM449 (cwV 0 hts (gV q_323 q_324 q_325 q_297 q_322) rfl rfl rfl hV_J6_intValue_8abf5 ⟨Nat.le_of_ble_eq_true rfl, Nat.le_of_ble_eq_true rfl⟩) ⟨pc_blind, va_Orecv (hX.2.2.1.1.1 128 (by decide)) hS, fun U hU hW => ⟨rfl, hC450 U hU hW⟩⟩ rfl rfl hl.1 rfl (lv_room (Nat.le_of_ble_eq_true rfl)) dX9_shown_61 ⟨(Nat.le_of_ble_eq_true rfl), (Nat.le_of_ble_eq_true rfl)⟩) hS (fun q9 _ h9 => hF447 q9 h9) hF447 (fun r452 u451 t451 H451 L451 ht451 hvm451 hw451 hB451 hz451 hk451 hS => ?_)
  have hP := pq_keep hP hD [] rfl hk451 hB451.1 ht451
  have hG : s.heap.size + 435 ≤ H451.size := Nat.le_trans hG hz451
  refine W.eq (g2 := F0 m 64 ls [.int 0]) (by rw [hw451]) ?_
  refine lv_istore (lv' := [(6, .int 0), (4, .int 0), (5, .ref a386), (3, .int 48), (2, .int 1), (1, .int 0), (0, .ref h0)]) hx hb dX9_shown_64 hl (by decide) rfl (fun ls hl => ?_)
  refine lv_iload hx hb dX9_shown_66 (lv_at hl 1 rfl) ?_
  refine lv_if_ne (tgt := 82) hx hb dX9_shown_68 (by decide) (fun cz => absurd (by decide) cz) (fun _ => ?_)
  refine lv_aload_n hx hb dX9_shown_71 rfl (lv_at hl 6 rfl) ?_
  refine lv_iload_n hx hb dX9_shown_72 rfl (lv_at hl 4 rfl) ?_
  refine lv_iload_n hx hb dX9_shown_73 rfl (lv_at hl 3 rfl) ?_
  refine lv_iload hx hb dX9_shown_74 (lv_at hl 0 rfl) ?_
  have hM455 := k963_showsIt l hl9 dC dI z h0 h1 h2 h4 h5 h7 h8 h9 h10 h11 h12 h13 h14 h3 H451.size kc0 kc2
  obtain ⟨hF453, hC456⟩ := pc_M hM455 hP hD hK hS hX hT hA [0, 1, 2, 3, 4, 5, 6, 7, 8, 9, 10, 11, 12] [0, 1] rfl rfl rfl
  refine va_calli (va_runV (As := [.int 1, .int 48, .int 0]) (rest := []) ⟨hx, hb, hml, hown, hts⟩ hM455 (cwV 3 hts (gV q_429 q_430 q_431 q_60 q_428) rfl rfl rfl hV_X9_showsIt ⟨Nat.le_of_ble_eq_true rfl, Nat.le_of_ble_eq_true rfl⟩) ⟨pc_blind, va_recv hK hP (ci := 8) (q := (RX9, TX9, 6)) (q0 := 0) rfl rfl, fun U hU hW => ⟨rfl, hC456 U hU hW⟩⟩ rfl rfl hl.1 rfl (lv_room (Nat.le_of_ble_eq_true rfl)) dX9_shown_76 ⟨(Nat.le_of_ble_eq_true rfl), (Nat.le_of_ble_eq_true rfl)⟩) hS (fun q9 _ h9 => hF453 q9 h9) hF453 (fun r458 u457 t457 H457 L457 ht457 hvm457 hw457 hB457 hz457 hk457 hS => ?_)
  have hP := pq_keep hP hD [0, 1, 2, 3, 4, 5, 6, 7, 8, 9, 10, 11, 12] rfl hk457 hB457.1 ht457
  have hG : s.heap.size + 462 ≤ H457.size := va_gr (g := 435) (g1 := 27) hG (by rw [← ht457]; exact hB457.2)
  refine W.eq (g2 := F0 m 79 ls [.int 0]) (by rw [hw457]) ?_
  refine W.widen (k := 462) (n := 4296) (by decide) (by decide) ?_
  refine lv_if_eq (tgt := 86) hx hb dX9_shown_79 (by decide) (fun _ => ?_) (fun cz => absurd (by decide) cz)
  refine lv_iconst (v := 0) hx hb dX9_shown_86 (by decide) ?_
  refine lv_istore (lv' := [(4, .int 0), (6, .int 0), (5, .ref a386), (3, .int 48), (2, .int 1), (1, .int 0), (0, .ref h0)]) hx hb dX9_shown_87 hl (by decide) rfl (fun ls hl => ?_)
  refine lv_goto (tgt := 41) hx hb dX9_shown_89 (by decide) ?_
  refine lv_aload hx hb dX9_shown_41 (lv_at hl 2 rfl) ?_
  have hM461 := k734_hasNext l hl9 dC dI z a386 h3 h6 H457.size
  obtain ⟨hF459, hC462⟩ := pc_M hM461 hP hD hK hS hX hT hA [13, 14] [] rfl rfl rfl
  refine va_callFi (va_runF (As := []) (rest := []) (hK.1 1 (RJx35411, TJx35411, 4) rfl).2 ⟨hx, hb, hml, hown, hts⟩ hM461 (va_cwF 0 hts (gF q_261 q_262 q_263 q_246 q_260) rfl rfl rfl hT.2.2.2.2.2.2.1 hF_xIh ⟨Nat.le_of_ble_eq_true rfl, Nat.le_of_ble_eq_true rfl⟩) ⟨pc_blind, va_recv hK hP (ci := 1) (q := (RJx35411, TJx35411, 4)) (q0 := 13) rfl rfl, fun U hU hW => ⟨rfl, hC462 U hU hW⟩⟩ rfl rfl hl.1 rfl (lv_room (Nat.le_of_ble_eq_true rfl)) dX9_shown_43 ⟨(Nat.le_of_ble_eq_true rfl), (Nat.le_of_ble_eq_true rfl)⟩) hS (fun q9 _ h9 => hF459 q9 h9) hF459 (fun r464 u463 t463 H463 L463 ht463 hvm463 hw463 hB463 hz463 hk463 hS => ?_)
  have hP := pq_keep hP hD [13, 14] rfl hk463 hB463.1 ht463
  have hG : s.heap.size + 462 ≤ H463.size := Nat.le_trans hG hz463
  refine W.eq (g2 := F0 m 48 ls [.int 1]) (by rw [hw463]) ?_
  refine lv_if_eq (tgt := 92) hx hb dX9_shown_48 (by decide) (fun cz => absurd cz (by decide)) (fun _ => ?_)
  refine lv_aload hx hb dX9_shown_51 (lv_at hl 2 rfl) ?_
  have hM467 := k956_next l hl9 dC dI z a386 h3 h6 H463.size kc1
  obtain ⟨hF465, hC468⟩ := pc_M hM467 hP hD hK hS hX hT hA [13, 14, 15] [2] rfl rfl rfl
  refine va_callFr (va_runF (As := []) (rest := []) (hK.1 1 (RJx35411, TJx35411, 4) rfl).2 ⟨hx, hb, hml, hown, hts⟩ hM467 (va_cwF 0 hts (gF q_308 q_309 q_310 q_246 q_307) rfl rfl rfl hT.2.2.2.2.2.2.2.1 hF_xIn ⟨Nat.le_of_ble_eq_true rfl, Nat.le_of_ble_eq_true rfl⟩) ⟨pc_blind, va_recv hK hP (ci := 1) (q := (RJx35411, TJx35411, 4)) (q0 := 13) rfl rfl, fun U hU hW => ⟨rfl, hC468 U hU hW⟩⟩ rfl rfl hl.1 rfl (lv_room (Nat.le_of_ble_eq_true rfl)) dX9_shown_53 ⟨(Nat.le_of_ble_eq_true rfl), (Nat.le_of_ble_eq_true rfl)⟩) hS (fun q9 _ h9 => hF465 q9 h9) hF465 (fun u469 r470 t469 H469 L469 ht469 hvm469 hw469 hB469 hz469 hk469 hS => ?_)
  obtain ⟨hr469, hB469⟩ := hB469
  obtain ⟨hP, hD, hK⟩ := pq_jn (wz := [(h0, ce21 h1 h2 h3 h4), (h1, ce331 h5), (h2, ce3 z.1), (h4, ce366 h7), (h5, ce330 kc0 h8 h9 h10 h11 h12 h13 h14), (h7, ce330 kc2 (z.2.2.1 128) (z.2.2.1 129) (z.2.2.1 130) (z.2.2.1 131) (z.2.2.1 132) (z.2.2.1 133) (z.2.2.1 134)), (h8, ce49), (h9, ce49), (h10, ce49), (h11, ce49), (h12, ce49), (h13, ce49), (h14, ce49), (a386, ce378 h3), (h3, ce331 h6), (h6, ce330 kc1 (z.2.2.1 128) (z.2.2.1 128) (z.2.2.1 128) (z.2.2.1 128) (z.2.2.1 128) (z.2.2.1 128) (z.2.2.1 128))]) (tz := [(kc0, .object "java/lang/Object"), (kc2, .object "java/lang/Object"), (kc1, .object "java/lang/Object")]) hP hD hK [13, 14, 15] [0, 1] rfl hk469 hF465 hB469.1 ht469 hvm469 rfl rfl
  have hG : s.heap.size + 462 ≤ H469.size := Nat.le_trans hG hz469
  refine W.eq (g2 := F0 m 58 ls [.ref (z.2.2.1 128)]) (by rw [hr469]) ?_
  refine va_castE (nm := "java/lang/Integer") hx hb hown (hts _ q_320) (va_Orecv (hX.2.2.1.1.1 128 (by decide)) hS) dX9_shown_58 ?_
  have hM473 := k74_intValue l hl9 dC dI z H469.size
  obtain ⟨hF471, hC474⟩ := pc_M hM473 hP hD hK hS hX hT hA [] [] rfl rfl rfl
  refine va_calli (va_runV (As := []) (rest := []) ⟨hx, hb, hml, hown, hts⟩ hM473 (cwV 0 hts (gV q_323 q_324 q_325 q_297 q_322) rfl rfl rfl hV_J6_intValue_8abf5 ⟨Nat.le_of_ble_eq_true rfl, Nat.le_of_ble_eq_true rfl⟩) ⟨pc_blind, va_Orecv (hX.2.2.1.1.1 128 (by decide)) hS, fun U hU hW => ⟨rfl, hC474 U hU hW⟩⟩ rfl rfl hl.1 rfl (lv_room (Nat.le_of_ble_eq_true rfl)) dX9_shown_61 ⟨(Nat.le_of_ble_eq_true rfl), (Nat.le_of_ble_eq_true rfl)⟩) hS (fun q9 _ h9 => hF471 q9 h9) hF471 (fun r476 u475 t475 H475 L475 ht475 hvm475 hw475 hB475 hz475 hk475 hS => ?_)
  have hP := pq_keep hP hD [] rfl hk475 hB475.1 ht475
  have hG : s.heap.size + 462 ≤ H475.size := Nat.le_trans hG hz475
  refine W.eq (g2 := F0 m 64 ls [.int 0]) (by rw [hw475]) ?_
  refine lv_istore (lv' := [(6, .int 0), (4, .int 0), (5, .ref a386), (3, .int 48), (2, .int 1), (1, .int 0), (0, .ref h0)]) hx hb dX9_shown_64 hl (by decide) rfl (fun ls hl => ?_)
  refine lv_iload hx hb dX9_shown_66 (lv_at hl 1 rfl) ?_
  refine lv_if_ne (tgt := 82) hx hb dX9_shown_68 (by decide) (fun cz => absurd (by decide) cz) (fun _ => ?_)
  refine lv_aload_n hx hb dX9_shown_71 rfl (lv_at hl 6 rfl) ?_
  refine lv_iload_n hx hb dX9_shown_72 rfl (lv_at hl 4 rfl) ?_
  refine lv_iload_n hx hb dX9_shown_73 rfl (lv_at hl 3 rfl) ?_
  refine lv_iload hx hb dX9_shown_74 (lv_at hl 0 rfl) ?_
  have hM479 := k963_showsIt l hl9 dC dI z h0 h1 h2 h4 h5 h7 h8 h9 h10 h11 h12 h13 h14 h3 H475.size kc0 kc2
  obtain ⟨hF477, hC480⟩ := pc_M hM479 hP hD hK hS hX hT hA [0, 1, 2, 3, 4, 5, 6, 7, 8, 9, 10, 11, 12] [0, 1] rfl rfl rfl
  refine va_calli (va_runV (As := [.int 1, .int 48, .int 0]) (rest := []) ⟨hx, hb, hml, hown, hts⟩ hM479 (cwV 3 hts (gV q_429 q_430 q_431 q_60 q_428) rfl rfl rfl hV_X9_showsIt ⟨Nat.le_of_ble_eq_true rfl, Nat.le_of_ble_eq_true rfl⟩) ⟨pc_blind, va_recv hK hP (ci := 8) (q := (RX9, TX9, 6)) (q0 := 0) rfl rfl, fun U hU hW => ⟨rfl, hC480 U hU hW⟩⟩ rfl rfl hl.1 rfl (lv_room (Nat.le_of_ble_eq_true rfl)) dX9_shown_76 ⟨(Nat.le_of_ble_eq_true rfl), (Nat.le_of_ble_eq_true rfl)⟩) hS (fun q9 _ h9 => hF477 q9 h9) hF477 (fun r482 u481 t481 H481 L481 ht481 hvm481 hw481 hB481 hz481 hk481 hS => ?_)
  have hP := pq_keep hP hD [0, 1, 2, 3, 4, 5, 6, 7, 8, 9, 10, 11, 12] rfl hk481 hB481.1 ht481
  have hG : s.heap.size + 489 ≤ H481.size := va_gr (g := 462) (g1 := 27) hG (by rw [← ht481]; exact hB481.2)
  refine W.eq (g2 := F0 m 79 ls [.int 0]) (by rw [hw481]) ?_
  refine W.widen (k := 489) (n := 4548) (by decide) (by decide) ?_
  refine lv_if_eq (tgt := 86) hx hb dX9_shown_79 (by decide) (fun _ => ?_) (fun cz => absurd (by decide) cz)
  refine lv_iconst (v := 0) hx hb dX9_shown_86 (by decide) ?_
  refine lv_istore (lv' := [(4, .int 0), (6, .int 0), (5, .ref a386), (3, .int 48), (2, .int 1), (1, .int 0), (0, .ref h0)]) hx hb dX9_shown_87 hl (by decide) rfl (fun ls hl => ?_)
  refine lv_goto (tgt := 41) hx hb dX9_shown_89 (by decide) ?_
  refine lv_aload hx hb dX9_shown_41 (lv_at hl 2 rfl) ?_
  have hM485 := k737_hasNext l hl9 dC dI z a386 h3 h6 H481.size
  obtain ⟨hF483, hC486⟩ := pc_M hM485 hP hD hK hS hX hT hA [13, 14] [] rfl rfl rfl
  refine va_callFi (va_runF (As := []) (rest := []) (hK.1 1 (RJx35411, TJx35411, 4) rfl).2 ⟨hx, hb, hml, hown, hts⟩ hM485 (va_cwF 0 hts (gF q_261 q_262 q_263 q_246 q_260) rfl rfl rfl hT.2.2.2.2.2.2.1 hF_xIh ⟨Nat.le_of_ble_eq_true rfl, Nat.le_of_ble_eq_true rfl⟩) ⟨pc_blind, va_recv hK hP (ci := 1) (q := (RJx35411, TJx35411, 4)) (q0 := 13) rfl rfl, fun U hU hW => ⟨rfl, hC486 U hU hW⟩⟩ rfl rfl hl.1 rfl (lv_room (Nat.le_of_ble_eq_true rfl)) dX9_shown_43 ⟨(Nat.le_of_ble_eq_true rfl), (Nat.le_of_ble_eq_true rfl)⟩) hS (fun q9 _ h9 => hF483 q9 h9) hF483 (fun r488 u487 t487 H487 L487 ht487 hvm487 hw487 hB487 hz487 hk487 hS => ?_)
  have hP := pq_keep hP hD [13, 14] rfl hk487 hB487.1 ht487
  have hG : s.heap.size + 489 ≤ H487.size := Nat.le_trans hG hz487
  refine W.eq (g2 := F0 m 48 ls [.int 1]) (by rw [hw487]) ?_
  refine lv_if_eq (tgt := 92) hx hb dX9_shown_48 (by decide) (fun cz => absurd cz (by decide)) (fun _ => ?_)
  refine lv_aload hx hb dX9_shown_51 (lv_at hl 2 rfl) ?_
  have hM491 := k957_next l hl9 dC dI z a386 h3 h6 H487.size kc1
  obtain ⟨hF489, hC492⟩ := pc_M hM491 hP hD hK hS hX hT hA [13, 14, 15] [2] rfl rfl rfl
  refine va_callFr (va_runF (As := []) (rest := []) (hK.1 1 (RJx35411, TJx35411, 4) rfl).2 ⟨hx, hb, hml, hown, hts⟩ hM491 (va_cwF 0 hts (gF q_308 q_309 q_310 q_246 q_307) rfl rfl rfl hT.2.2.2.2.2.2.2.1 hF_xIn ⟨Nat.le_of_ble_eq_true rfl, Nat.le_of_ble_eq_true rfl⟩) ⟨pc_blind, va_recv hK hP (ci := 1) (q := (RJx35411, TJx35411, 4)) (q0 := 13) rfl rfl, fun U hU hW => ⟨rfl, hC492 U hU hW⟩⟩ rfl rfl hl.1 rfl (lv_room (Nat.le_of_ble_eq_true rfl)) dX9_shown_53 ⟨(Nat.le_of_ble_eq_true rfl), (Nat.le_of_ble_eq_true rfl)⟩) hS (fun q9 _ h9 => hF489 q9 h9) hF489 (fun u493 r494 t493 H493 L493 ht493 hvm493 hw493 hB493 hz493 hk493 hS => ?_)
  obtain ⟨hr493, hB493⟩ := hB493
  obtain ⟨hP, hD, hK⟩ := pq_jn (wz := [(h0, ce21 h1 h2 h3 h4), (h1, ce331 h5), (h2, ce3 z.1), (h4, ce366 h7), (h5, ce330 kc0 h8 h9 h10 h11 h12 h13 h14), (h7, ce330 kc2 (z.2.2.1 128) (z.2.2.1 129) (z.2.2.1 130) (z.2.2.1 131) (z.2.2.1 132) (z.2.2.1 133) (z.2.2.1 134)), (h8, ce49), (h9, ce49), (h10, ce49), (h11, ce49), (h12, ce49), (h13, ce49), (h14, ce49), (a386, ce380 h3), (h3, ce331 h6), (h6, ce330 kc1 (z.2.2.1 128) (z.2.2.1 128) (z.2.2.1 128) (z.2.2.1 128) (z.2.2.1 128) (z.2.2.1 128) (z.2.2.1 128))]) (tz := [(kc0, .object "java/lang/Object"), (kc2, .object "java/lang/Object"), (kc1, .object "java/lang/Object")]) hP hD hK [13, 14, 15] [0, 1] rfl hk493 hF489 hB493.1 ht493 hvm493 rfl rfl
  have hG : s.heap.size + 489 ≤ H493.size := Nat.le_trans hG hz493
  refine W.eq (g2 := F0 m 58 ls [.ref (z.2.2.1 128)]) (by rw [hr493]) ?_
  refine va_castE (nm := "java/lang/Integer") hx hb hown (hts _ q_320) (va_Orecv (hX.2.2.1.1.1 128 (by decide)) hS) dX9_shown_58 ?_
  have hM497 := k74_intValue l hl9 dC dI z H493.size
  obtain ⟨hF495, hC498⟩ := pc_M hM497 hP hD hK hS hX hT hA [] [] rfl rfl rfl
  refine va_calli (va_runV (As := []) (rest := []) ⟨hx, hb, hml, hown, hts⟩ hM497 (cwV 0 hts (gV q_323 q_324 q_325 q_297 q_322) rfl rfl rfl hV_J6_intValue_8abf5 ⟨Nat.le_of_ble_eq_true rfl, Nat.le_of_ble_eq_true rfl⟩) ⟨pc_blind, va_Orecv (hX.2.2.1.1.1 128 (by decide)) hS, fun U hU hW => ⟨rfl, hC498 U hU hW⟩⟩ rfl rfl hl.1 rfl (lv_room (Nat.le_of_ble_eq_true rfl)) dX9_shown_61 ⟨(Nat.le_of_ble_eq_true rfl), (Nat.le_of_ble_eq_true rfl)⟩) hS (fun q9 _ h9 => hF495 q9 h9) hF495 (fun r500 u499 t499 H499 L499 ht499 hvm499 hw499 hB499 hz499 hk499 hS => ?_)
  have hP := pq_keep hP hD [] rfl hk499 hB499.1 ht499
  have hG : s.heap.size + 489 ≤ H499.size := Nat.le_trans hG hz499
  refine W.eq (g2 := F0 m 64 ls [.int 0]) (by rw [hw499]) ?_
  refine lv_istore (lv' := [(6, .int 0), (4, .int 0), (5, .ref a386), (3, .int 48), (2, .int 1), (1, .int 0), (0, .ref h0)]) hx hb dX9_shown_64 hl (by decide) rfl (fun ls hl => ?_)
  refine lv_iload hx hb dX9_shown_66 (lv_at hl 1 rfl) ?_
  refine lv_if_ne (tgt := 82) hx hb dX9_shown_68 (by decide) (fun cz => absurd (by decide) cz) (fun _ => ?_)
  refine lv_aload_n hx hb dX9_shown_71 rfl (lv_at hl 6 rfl) ?_
  refine lv_iload_n hx hb dX9_shown_72 rfl (lv_at hl 4 rfl) ?_
  refine lv_iload_n hx hb dX9_shown_73 rfl (lv_at hl 3 rfl) ?_
  refine lv_iload hx hb dX9_shown_74 (lv_at hl 0 rfl) ?_
  have hM503 := k963_showsIt l hl9 dC dI z h0 h1 h2 h4 h5 h7 h8 h9 h10 h11 h12 h13 h14 h3 H499.size kc0 kc2
  obtain ⟨hF501, hC504⟩ := pc_M hM503 hP hD hK hS hX hT hA [0, 1, 2, 3, 4, 5, 6, 7, 8, 9, 10, 11, 12] [0, 1] rfl rfl rfl
  refine va_calli (va_runV (As := [.int 1, .int 48, .int 0]) (rest := []) ⟨hx, hb, hml, hown, hts⟩ hM503 (cwV 3 hts (gV q_429 q_430 q_431 q_60 q_428) rfl rfl rfl hV_X9_showsIt ⟨Nat.le_of_ble_eq_true rfl, Nat.le_of_ble_eq_true rfl⟩) ⟨pc_blind, va_recv hK hP (ci := 8) (q := (RX9, TX9, 6)) (q0 := 0) rfl rfl, fun U hU hW => ⟨rfl, hC504 U hU hW⟩⟩ rfl rfl hl.1 rfl (lv_room (Nat.le_of_ble_eq_true rfl)) dX9_shown_76 ⟨(Nat.le_of_ble_eq_true rfl), (Nat.le_of_ble_eq_true rfl)⟩) hS (fun q9 _ h9 => hF501 q9 h9) hF501 (fun r506 u505 t505 H505 L505 ht505 hvm505 hw505 hB505 hz505 hk505 hS => ?_)
  have hP := pq_keep hP hD [0, 1, 2, 3, 4, 5, 6, 7, 8, 9, 10, 11, 12] rfl hk505 hB505.1 ht505
  have hG : s.heap.size + 516 ≤ H505.size := va_gr (g := 489) (g1 := 27) hG (by rw [← ht505]; exact hB505.2)
  refine W.eq (g2 := F0 m 79 ls [.int 0]) (by rw [hw505]) ?_
  refine W.widen (k := 516) (n := 4800) (by decide) (by decide) ?_
  refine lv_if_eq (tgt := 86) hx hb dX9_shown_79 (by decide) (fun _ => ?_) (fun cz => absurd (by decide) cz)
  refine lv_iconst (v := 0) hx hb dX9_shown_86 (by decide) ?_
  refine lv_istore (lv' := [(4, .int 0), (6, .int 0), (5, .ref a386), (3, .int 48), (2, .int 1), (1, .int 0), (0, .ref h0)]) hx hb dX9_shown_87 hl (by decide) rfl (fun ls hl => ?_)
  refine lv_goto (tgt := 41) hx hb dX9_shown_89 (by decide) ?_
  refine lv_aload hx hb dX9_shown_41 (lv_at hl 2 rfl) ?_
  have hM509 := k740_hasNext l hl9 dC dI z a386 h3 h6 H505.size
  obtain ⟨hF507, hC510⟩ := pc_M hM509 hP hD hK hS hX hT hA [13, 14] [] rfl rfl rfl
  refine va_callFi (va_runF (As := []) (rest := []) (hK.1 1 (RJx35411, TJx35411, 4) rfl).2 ⟨hx, hb, hml, hown, hts⟩ hM509 (va_cwF 0 hts (gF q_261 q_262 q_263 q_246 q_260) rfl rfl rfl hT.2.2.2.2.2.2.1 hF_xIh ⟨Nat.le_of_ble_eq_true rfl, Nat.le_of_ble_eq_true rfl⟩) ⟨pc_blind, va_recv hK hP (ci := 1) (q := (RJx35411, TJx35411, 4)) (q0 := 13) rfl rfl, fun U hU hW => ⟨rfl, hC510 U hU hW⟩⟩ rfl rfl hl.1 rfl (lv_room (Nat.le_of_ble_eq_true rfl)) dX9_shown_43 ⟨(Nat.le_of_ble_eq_true rfl), (Nat.le_of_ble_eq_true rfl)⟩) hS (fun q9 _ h9 => hF507 q9 h9) hF507 (fun r512 u511 t511 H511 L511 ht511 hvm511 hw511 hB511 hz511 hk511 hS => ?_)
  have hP := pq_keep hP hD [13, 14] rfl hk511 hB511.1 ht511
  have hG : s.heap.size + 516 ≤ H511.size := Nat.le_trans hG hz511
  refine W.eq (g2 := F0 m 48 ls [.int 1]) (by rw [hw511]) ?_
  refine lv_if_eq (tgt := 92) hx hb dX9_shown_48 (by decide) (fun cz => absurd cz (by decide)) (fun _ => ?_)
  refine lv_aload hx hb dX9_shown_51 (lv_at hl 2 rfl) ?_
  have hM515 := k958_next l hl9 dC dI z a386 h3 h6 H511.size kc1
  obtain ⟨hF513, hC516⟩ := pc_M hM515 hP hD hK hS hX hT hA [13, 14, 15] [2] rfl rfl rfl
  refine va_callFr (va_runF (As := []) (rest := []) (hK.1 1 (RJx35411, TJx35411, 4) rfl).2 ⟨hx, hb, hml, hown, hts⟩ hM515 (va_cwF 0 hts (gF q_308 q_309 q_310 q_246 q_307) rfl rfl rfl hT.2.2.2.2.2.2.2.1 hF_xIn ⟨Nat.le_of_ble_eq_true rfl, Nat.le_of_ble_eq_true rfl⟩) ⟨pc_blind, va_recv hK hP (ci := 1) (q := (RJx35411, TJx35411, 4)) (q0 := 13) rfl rfl, fun U hU hW => ⟨rfl, hC516 U hU hW⟩⟩ rfl rfl hl.1 rfl (lv_room (Nat.le_of_ble_eq_true rfl)) dX9_shown_53 ⟨(Nat.le_of_ble_eq_true rfl), (Nat.le_of_ble_eq_true rfl)⟩) hS (fun q9 _ h9 => hF513 q9 h9) hF513 (fun u517 r518 t517 H517 L517 ht517 hvm517 hw517 hB517 hz517 hk517 hS => ?_)
  obtain ⟨hr517, hB517⟩ := hB517
  obtain ⟨hP, hD, hK⟩ := pq_jn (wz := [(h0, ce21 h1 h2 h3 h4), (h1, ce331 h5), (h2, ce3 z.1), (h4, ce366 h7), (h5, ce330 kc0 h8 h9 h10 h11 h12 h13 h14), (h7, ce330 kc2 (z.2.2.1 128) (z.2.2.1 129) (z.2.2.1 130) (z.2.2.1 131) (z.2.2.1 132) (z.2.2.1 133) (z.2.2.1 134)), (h8, ce49), (h9, ce49), (h10, ce49), (h11, ce49), (h12, ce49), (h13, ce49), (h14, ce49), (a386, ce382 h3), (h3, ce331 h6), (h6, ce330 kc1 (z.2.2.1 128) (z.2.2.1 128) (z.2.2.1 128) (z.2.2.1 128) (z.2.2.1 128) (z.2.2.1 128) (z.2.2.1 128))]) (tz := [(kc0, .object "java/lang/Object"), (kc2, .object "java/lang/Object"), (kc1, .object "java/lang/Object")]) hP hD hK [13, 14, 15] [0, 1] rfl hk517 hF513 hB517.1 ht517 hvm517 rfl rfl
  have hG : s.heap.size + 516 ≤ H517.size := Nat.le_trans hG hz517
  refine W.eq (g2 := F0 m 58 ls [.ref (z.2.2.1 128)]) (by rw [hr517]) ?_
  refine va_castE (nm := "java/lang/Integer") hx hb hown (hts _ q_320) (va_Orecv (hX.2.2.1.1.1 128 (by decide)) hS) dX9_shown_58 ?_
  have hM521 := k74_intValue l hl9 dC dI z H517.size
  obtain ⟨hF519, hC522⟩ := pc_M hM521 hP hD hK hS hX hT hA [] [] rfl rfl rfl
  refine va_calli (va_runV (As := []) (rest := []) ⟨hx, hb, hml, hown, hts⟩ hM521 (cwV 0 hts (gV q_323 q_324 q_325 q_297 q_322) rfl rfl rfl hV_J6_intValue_8abf5 ⟨Nat.le_of_ble_eq_true rfl, Nat.le_of_ble_eq_true rfl⟩) ⟨pc_blind, va_Orecv (hX.2.2.1.1.1 128 (by decide)) hS, fun U hU hW => ⟨rfl, hC522 U hU hW⟩⟩ rfl rfl hl.1 rfl (lv_room (Nat.le_of_ble_eq_true rfl)) dX9_shown_61 ⟨(Nat.le_of_ble_eq_true rfl), (Nat.le_of_ble_eq_true rfl)⟩) hS (fun q9 _ h9 => hF519 q9 h9) hF519 (fun r524 u523 t523 H523 L523 ht523 hvm523 hw523 hB523 hz523 hk523 hS => ?_)
  have hP := pq_keep hP hD [] rfl hk523 hB523.1 ht523
  have hG : s.heap.size + 516 ≤ H523.size := Nat.le_trans hG hz523
  refine W.eq (g2 := F0 m 64 ls [.int 0]) (by rw [hw523]) ?_
  refine lv_istore (lv' := [(6, .int 0), (4, .int 0), (5, .ref a386), (3, .int 48), (2, .int 1), (1, .int 0), (0, .ref h0)]) hx hb dX9_shown_64 hl (by decide) rfl (fun ls hl => ?_)
  refine lv_iload hx hb dX9_shown_66 (lv_at hl 1 rfl) ?_
  refine lv_if_ne (tgt := 82) hx hb dX9_shown_68 (by decide) (fun cz => absurd (by decide) cz) (fun _ => ?_)
  refine lv_aload_n hx hb dX9_shown_71 rfl (lv_at hl 6 rfl) ?_
  refine lv_iload_n hx hb dX9_shown_72 rfl (lv_at hl 4 rfl) ?_
  refine lv_iload_n hx hb dX9_shown_73 rfl (lv_at hl 3 rfl) ?_
  refine lv_iload hx hb dX9_shown_74 (lv_at hl 0 rfl) ?_
  have hM527 := k963_showsIt l hl9 dC dI z h0 h1 h2 h4 h5 h7 h8 h9 h10 h11 h12 h13 h14 h3 H523.size kc0 kc2
  obtain ⟨hF525, hC528⟩ := pc_M hM527 hP hD hK hS hX hT hA [0, 1, 2, 3, 4, 5, 6, 7, 8, 9, 10, 11, 12] [0, 1] rfl rfl rfl
  refine va_calli (va_runV (As := [.int 1, .int 48, .int 0]) (rest := []) ⟨hx, hb, hml, hown, hts⟩ hM527 (cwV 3 hts (gV q_429 q_430 q_431 q_60 q_428) rfl rfl rfl hV_X9_showsIt ⟨Nat.le_of_ble_eq_true rfl, Nat.le_of_ble_eq_true rfl⟩) ⟨pc_blind, va_recv hK hP (ci := 8) (q := (RX9, TX9, 6)) (q0 := 0) rfl rfl, fun U hU hW => ⟨rfl, hC528 U hU hW⟩⟩ rfl rfl hl.1 rfl (lv_room (Nat.le_of_ble_eq_true rfl)) dX9_shown_76 ⟨(Nat.le_of_ble_eq_true rfl), (Nat.le_of_ble_eq_true rfl)⟩) hS (fun q9 _ h9 => hF525 q9 h9) hF525 (fun r530 u529 t529 H529 L529 ht529 hvm529 hw529 hB529 hz529 hk529 hS => ?_)
  have hP := pq_keep hP hD [0, 1, 2, 3, 4, 5, 6, 7, 8, 9, 10, 11, 12] rfl hk529 hB529.1 ht529
  have hG : s.heap.size + 543 ≤ H529.size := va_gr (g := 516) (g1 := 27) hG (by rw [← ht529]; exact hB529.2)
  refine W.eq (g2 := F0 m 79 ls [.int 0]) (by rw [hw529]) ?_
  refine W.widen (k := 543) (n := 5052) (by decide) (by decide) ?_
  refine lv_if_eq (tgt := 86) hx hb dX9_shown_79 (by decide) (fun _ => ?_) (fun cz => absurd (by decide) cz)
  refine lv_iconst (v := 0) hx hb dX9_shown_86 (by decide) ?_
  refine lv_istore (lv' := [(4, .int 0), (6, .int 0), (5, .ref a386), (3, .int 48), (2, .int 1), (1, .int 0), (0, .ref h0)]) hx hb dX9_shown_87 hl (by decide) rfl (fun ls hl => ?_)
  refine lv_goto (tgt := 41) hx hb dX9_shown_89 (by decide) ?_
  refine lv_aload hx hb dX9_shown_41 (lv_at hl 2 rfl) ?_
  have hM533 := k743_hasNext l hl9 dC dI z a386 h3 h6 H529.size
  obtain ⟨hF531, hC534⟩ := pc_M hM533 hP hD hK hS hX hT hA [13, 14] [] rfl rfl rfl
  refine va_callFi (va_runF (As := []) (rest := []) (hK.1 1 (RJx35411, TJx35411, 4) rfl).2 ⟨hx, hb, hml, hown, hts⟩ hM533 (va_cwF 0 hts (gF q_261 q_262 q_263 q_246 q_260) rfl rfl rfl hT.2.2.2.2.2.2.1 hF_xIh ⟨Nat.le_of_ble_eq_true rfl, Nat.le_of_ble_eq_true rfl⟩) ⟨pc_blind, va_recv hK hP (ci := 1) (q := (RJx35411, TJx35411, 4)) (q0 := 13) rfl rfl, fun U hU hW => ⟨rfl, hC534 U hU hW⟩⟩ rfl rfl hl.1 rfl (lv_room (Nat.le_of_ble_eq_true rfl)) dX9_shown_43 ⟨(Nat.le_of_ble_eq_true rfl), (Nat.le_of_ble_eq_true rfl)⟩) hS (fun q9 _ h9 => hF531 q9 h9) hF531 (fun r536 u535 t535 H535 L535 ht535 hvm535 hw535 hB535 hz535 hk535 hS => ?_)
  have hP := pq_keep hP hD [13, 14] rfl hk535 hB535.1 ht535
  have hG : s.heap.size + 543 ≤ H535.size := Nat.le_trans hG hz535
  refine W.eq (g2 := F0 m 48 ls [.int 1]) (by rw [hw535]) ?_
  refine lv_if_eq (tgt := 92) hx hb dX9_shown_48 (by decide) (fun cz => absurd cz (by decide)) (fun _ => ?_)
  refine lv_aload hx hb dX9_shown_51 (lv_at hl 2 rfl) ?_
  have hM539 := k959_next l hl9 dC dI z a386 h3 h6 H535.size kc1
  obtain ⟨hF537, hC540⟩ := pc_M hM539 hP hD hK hS hX hT hA [13, 14, 15] [2] rfl rfl rfl
  refine va_callFr (va_runF (As := []) (rest := []) (hK.1 1 (RJx35411, TJx35411, 4) rfl).2 ⟨hx, hb, hml, hown, hts⟩ hM539 (va_cwF 0 hts (gF q_308 q_309 q_310 q_246 q_307) rfl rfl rfl hT.2.2.2.2.2.2.2.1 hF_xIn ⟨Nat.le_of_ble_eq_true rfl, Nat.le_of_ble_eq_true rfl⟩) ⟨pc_blind, va_recv hK hP (ci := 1) (q := (RJx35411, TJx35411, 4)) (q0 := 13) rfl rfl, fun U hU hW => ⟨rfl, hC540 U hU hW⟩⟩ rfl rfl hl.1 rfl (lv_room (Nat.le_of_ble_eq_true rfl)) dX9_shown_53 ⟨(Nat.le_of_ble_eq_true rfl), (Nat.le_of_ble_eq_true rfl)⟩) hS (fun q9 _ h9 => hF537 q9 h9) hF537 (fun u541 r542 t541 H541 L541 ht541 hvm541 hw541 hB541 hz541 hk541 hS => ?_)
  obtain ⟨hr541, hB541⟩ := hB541
  obtain ⟨hP, hD, hK⟩ := pq_jn (wz := [(h0, ce21 h1 h2 h3 h4), (h1, ce331 h5), (h2, ce3 z.1), (h4, ce366 h7), (h5, ce330 kc0 h8 h9 h10 h11 h12 h13 h14), (h7, ce330 kc2 (z.2.2.1 128) (z.2.2.1 129) (z.2.2.1 130) (z.2.2.1 131) (z.2.2.1 132) (z.2.2.1 133) (z.2.2.1 134)), (h8, ce49), (h9, ce49), (h10, ce49), (h11, ce49), (h12, ce49), (h13, ce49), (h14, ce49), (a386, ce384 h3), (h3, ce331 h6), (h6, ce330 kc1 (z.2.2.1 128) (z.2.2.1 128) (z.2.2.1 128) (z.2.2.1 128) (z.2.2.1 128) (z.2.2.1 128) (z.2.2.1 128))]) (tz := [(kc0, .object "java/lang/Object"), (kc2, .object "java/lang/Object"), (kc1, .object "java/lang/Object")]) hP hD hK [13, 14, 15] [0, 1] rfl hk541 hF537 hB541.1 ht541 hvm541 rfl rfl
  have hG : s.heap.size + 543 ≤ H541.size := Nat.le_trans hG hz541
  refine W.eq (g2 := F0 m 58 ls [.ref (z.2.2.1 128)]) (by rw [hr541]) ?_
  refine va_castE (nm := "java/lang/Integer") hx hb hown (hts _ q_320) (va_Orecv (hX.2.2.1.1.1 128 (by decide)) hS) dX9_shown_58 ?_
  have hM545 := k74_intValue l hl9 dC dI z H541.size
  obtain ⟨hF543, hC546⟩ := pc_M hM545 hP hD hK hS hX hT hA [] [] rfl rfl rfl
  refine va_calli (va_runV (As := []) (rest := []) ⟨hx, hb, hml, hown, hts⟩ hM545 (cwV 0 hts (gV q_323 q_324 q_325 q_297 q_322) rfl rfl rfl hV_J6_intValue_8abf5 ⟨Nat.le_of_ble_eq_true rfl, Nat.le_of_ble_eq_true rfl⟩) ⟨pc_blind, va_Orecv (hX.2.2.1.1.1 128 (by decide)) hS, fun U hU hW => ⟨rfl, hC546 U hU hW⟩⟩ rfl rfl hl.1 rfl (lv_room (Nat.le_of_ble_eq_true rfl)) dX9_shown_61 ⟨(Nat.le_of_ble_eq_true rfl), (Nat.le_of_ble_eq_true rfl)⟩) hS (fun q9 _ h9 => hF543 q9 h9) hF543 (fun r548 u547 t547 H547 L547 ht547 hvm547 hw547 hB547 hz547 hk547 hS => ?_)
  have hP := pq_keep hP hD [] rfl hk547 hB547.1 ht547
  have hG : s.heap.size + 543 ≤ H547.size := Nat.le_trans hG hz547
  refine W.eq (g2 := F0 m 64 ls [.int 0]) (by rw [hw547]) ?_
  refine lv_istore (lv' := [(6, .int 0), (4, .int 0), (5, .ref a386), (3, .int 48), (2, .int 1), (1, .int 0), (0, .ref h0)]) hx hb dX9_shown_64 hl (by decide) rfl (fun ls hl => ?_)
  refine lv_iload hx hb dX9_shown_66 (lv_at hl 1 rfl) ?_
  refine lv_if_ne (tgt := 82) hx hb dX9_shown_68 (by decide) (fun cz => absurd (by decide) cz) (fun _ => ?_)
  refine lv_aload_n hx hb dX9_shown_71 rfl (lv_at hl 6 rfl) ?_
  refine lv_iload_n hx hb dX9_shown_72 rfl (lv_at hl 4 rfl) ?_
  refine lv_iload_n hx hb dX9_shown_73 rfl (lv_at hl 3 rfl) ?_
  refine lv_iload hx hb dX9_shown_74 (lv_at hl 0 rfl) ?_
  have hM551 := k963_showsIt l hl9 dC dI z h0 h1 h2 h4 h5 h7 h8 h9 h10 h11 h12 h13 h14 h3 H547.size kc0 kc2
  obtain ⟨hF549, hC552⟩ := pc_M hM551 hP hD hK hS hX hT hA [0, 1, 2, 3, 4, 5, 6, 7, 8, 9, 10, 11, 12] [0, 1] rfl rfl rfl
  refine va_calli (va_runV (As := [.int 1, .int 48, .int 0]) (rest := []) ⟨hx, hb, hml, hown, hts⟩ hM551 (cwV 3 hts (gV q_429 q_430 q_431 q_60 q_428) rfl rfl rfl hV_X9_showsIt ⟨Nat.le_of_ble_eq_true rfl, Nat.le_of_ble_eq_true rfl⟩) ⟨pc_blind, va_recv hK hP (ci := 8) (q := (RX9, TX9, 6)) (q0 := 0) rfl rfl, fun U hU hW => ⟨rfl, hC552 U hU hW⟩⟩ rfl rfl hl.1 rfl (lv_room (Nat.le_of_ble_eq_true rfl)) dX9_shown_76 ⟨(Nat.le_of_ble_eq_true rfl), (Nat.le_of_ble_eq_true rfl)⟩) hS (fun q9 _ h9 => hF549 q9 h9) hF549 (fun r554 u553 t553 H553 L553 ht553 hvm553 hw553 hB553 hz553 hk553 hS => ?_)
  have hP := pq_keep hP hD [0, 1, 2, 3, 4, 5, 6, 7, 8, 9, 10, 11, 12] rfl hk553 hB553.1 ht553
  have hG : s.heap.size + 570 ≤ H553.size := va_gr (g := 543) (g1 := 27) hG (by rw [← ht553]; exact hB553.2)
  refine W.eq (g2 := F0 m 79 ls [.int 0]) (by rw [hw553]) ?_
  refine W.widen (k := 570) (n := 5304) (by decide) (by decide) ?_
  refine lv_if_eq (tgt := 86) hx hb dX9_shown_79 (by decide) (fun _ => ?_) (fun cz => absurd (by decide) cz)
  refine lv_iconst (v := 0) hx hb dX9_shown_86 (by decide) ?_
  refine lv_istore (lv' := [(4, .int 0), (6, .int 0), (5, .ref a386), (3, .int 48), (2, .int 1), (1, .int 0), (0, .ref h0)]) hx hb dX9_shown_87 hl (by decide) rfl (fun ls hl => ?_)
  refine lv_goto (tgt := 41) hx hb dX9_shown_89 (by decide) ?_
  refine lv_aload hx hb dX9_shown_41 (lv_at hl 2 rfl) ?_
  have hM557 := k746_hasNext l hl9 dC dI z a386 h3 h6 H553.size
  obtain ⟨hF555, hC558⟩ := pc_M hM557 hP hD hK hS hX hT hA [13, 14] [] rfl rfl rfl
  refine va_callFi (va_runF (As := []) (rest := []) (hK.1 1 (RJx35411, TJx35411, 4) rfl).2 ⟨hx, hb, hml, hown, hts⟩ hM557 (va_cwF 0 hts (gF q_261 q_262 q_263 q_246 q_260) rfl rfl rfl hT.2.2.2.2.2.2.1 hF_xIh ⟨Nat.le_of_ble_eq_true rfl, Nat.le_of_ble_eq_true rfl⟩) ⟨pc_blind, va_recv hK hP (ci := 1) (q := (RJx35411, TJx35411, 4)) (q0 := 13) rfl rfl, fun U hU hW => ⟨rfl, hC558 U hU hW⟩⟩ rfl rfl hl.1 rfl (lv_room (Nat.le_of_ble_eq_true rfl)) dX9_shown_43 ⟨(Nat.le_of_ble_eq_true rfl), (Nat.le_of_ble_eq_true rfl)⟩) hS (fun q9 _ h9 => hF555 q9 h9) hF555 (fun r560 u559 t559 H559 L559 ht559 hvm559 hw559 hB559 hz559 hk559 hS => ?_)
  have hP := pq_keep hP hD [13, 14] rfl hk559 hB559.1 ht559
  have hG : s.heap.size + 570 ≤ H559.size := Nat.le_trans hG hz559
  refine W.eq (g2 := F0 m 48 ls [.int 0]) (by rw [hw559]) ?_
  refine lv_if_eq (tgt := 92) hx hb dX9_shown_48 (by decide) (fun _ => ?_) (fun cz => absurd (by decide) cz)
  refine lv_iload_n hx hb dX9_shown_92 rfl (lv_at hl 5 rfl) ?_
  refine lv_iload hx hb dX9_shown_93 (lv_at hl 0 rfl) ?_
  refine lv_if_eq (tgt := 102) hx hb dX9_shown_95 (by decide) (fun _ => ?_) (fun cz => absurd (by decide) cz)
  refine lv_iconst (v := 0) hx hb dX9_shown_102 (by decide) ?_
  refine lv_iadd hx hb dX9_shown_103 ?_
  refine lv_topi (fun y561 ey561 => ?_)
  obtain rfl : y561 = 0 := ey561.trans (by decide)
  refine lv_istore_n (lv' := [(1, .int 0), (4, .int 0), (6, .int 0), (5, .ref a386), (3, .int 48), (2, .int 1), (0, .ref h0)]) hx hb dX9_shown_104 rfl hl (by decide) rfl (fun ls hl => ?_)
  refine lv_iload_n hx hb dX9_shown_105 rfl (lv_at hl 4 rfl) ?_
  refine lv_iconst (v := 1) hx hb dX9_shown_106 (by decide) ?_
  refine lv_iadd hx hb dX9_shown_107 ?_
  refine lv_topi (fun y562 ey562 => ?_)
  obtain rfl : y562 = 49 := ey562.trans (by decide)
  refine lv_i2c (v := 49) hx hb dX9_shown_108 (by decide) ?_
  refine lv_istore_n (lv' := [(3, .int 49), (1, .int 0), (4, .int 0), (6, .int 0), (5, .ref a386), (2, .int 1), (0, .ref h0)]) hx hb dX9_shown_109 rfl hl (by decide) rfl (fun ls hl => ?_)
  refine lv_goto (tgt := 23) hx hb dX9_shown_110 (by decide) ?_
  exact hend _ _ _ hS (hP.sub [0, 1, 2, 14, 3, 4, 15, 5, 6, 7, 8, 9, 10, 11, 12] rfl) (hD.sub [0, 1, 2, 14, 3, 4, 15, 5, 6, 7, 8, 9, 10, 11, 12] rfl rfl) (lv_sub hl [0, 1, 5, 6] rfl) hG

set_option maxHeartbeats 8000000 in
set_option maxRecDepth 100000 in
theorem k986_shown_g5 {p : Program} {l : Launch} {e : Env} {s : State} {m : MethodId} {args : Array Value} {below : List Frame} {meth : Method} {c : Code} {Q : State → Prop} {A : Nat → Prop} {H : Heap} {locs : List Loc} {ls : Array Slot} {dC : Nat → ClassId} {dI : Nat → Nat → Nat} {z : XZ} {h0 h1 h2 h3 h4 h5 h6 h7 h8 h9 h10 h11 h12 h13 h14 : Nat} {kc0 kc1 kc2 : ClassId} (hl9 : l.stackTraces = false) (hx : p.tables.exec = Jvm.exec) (hb : c.code = cX9_shown) (hml : c.maxLocals = 7) (hown : s.vm.findClass RX9 = some m.cls) (hts : ∀ w ∈ wsL_law, w.before args s = true) (hA : ∀ q : Nat, s.heap.size ≤ q → A q) (hX : XE z A s s.heap) (hT : XT s) (hS : va_S A s.heap H locs) (hP : va_P (dC, dI) xCl [(h0, ce21 h1 h2 h3 h4), (h1, ce331 h5), (h2, ce3 z.1), (h3, ce331 h6), (h4, ce366 h7), (h5, ce330 kc0 h8 h9 h10 h11 h12 h13 h14), (h6, ce330 kc1 (z.2.2.1 128) (z.2.2.1 128) (z.2.2.1 128) (z.2.2.1 128) (z.2.2.1 128) (z.2.2.1 128) (z.2.2.1 128)), (h7, ce330 kc2 (z.2.2.1 128) (z.2.2.1 129) (z.2.2.1 130) (z.2.2.1 131) (z.2.2.1 132) (z.2.2.1 133) (z.2.2.1 134)), (h8, ce49), (h9, ce49), (h10, ce49), (h11, ce49), (h12, ce49), (h13, ce49), (h14, ce49)] H) (hD : va_D A [(h0, ce21 h1 h2 h3 h4), (h1, ce331 h5), (h2, ce3 z.1), (h3, ce331 h6), (h4, ce366 h7), (h5, ce330 kc0 h8 h9 h10 h11 h12 h13 h14), (h6, ce330 kc1 (z.2.2.1 128) (z.2.2.1 128) (z.2.2.1 128) (z.2.2.1 128) (z.2.2.1 128) (z.2.2.1 128) (z.2.2.1 128)), (h7, ce330 kc2 (z.2.2.1 128) (z.2.2.1 129) (z.2.2.1 130) (z.2.2.1 131) (z.2.2.1 132) (z.2.2.1 133) (z.2.2.1 134)), (h8, ce49), (h9, ce49), (h10, ce49), (h11, ce49), (h12, ce49), (h13, ce49), (h14, ce49)]) (hK : va_K (dC, dI) xCl [(kc0, .object "java/lang/Object"), (kc1, .object "java/lang/Object"), (kc2, .object "java/lang/Object")] s) (hl : lv_has ls 7 [(3, .int 49), (1, .int 0), (2, .int 1), (0, .ref h0)]) (hG : s.heap.size + 570 ≤ H.size) (hend : ∀ (H' : Heap) (locs' : List Loc) (ls' : Array Slot), va_S A s.heap H' locs' → va_P (dC, dI) xCl [(h0, ce21 h1 h2 h3 h4), (h1, ce331 h5), (h2, ce3 z.1), (h3, ce331 h6), (h4, ce366 h7), (h5, ce330 kc0 h8 h9 h10 h11 h12 h13 h14), (h6, ce330 kc1 (z.2.2.1 128) (z.2.2.1 128) (z.2.2.1 128) (z.2.2.1 128) (z.2.2.1 128) (z.2.2.1 128) (z.2.2.1 128)), (h7, ce330 kc2 (z.2.2.1 128) (z.2.2.1 129) (z.2.2.1 130) (z.2.2.1 131) (z.2.2.1 132) (z.2.2.1 133) (z.2.2.1 134)), (h8, ce49), (h9, ce49), (h10, ce49), (h11, ce49), (h12, ce49), (h13, ce49), (h14, ce49)] H' → va_D A [(h0, ce21 h1 h2 h3 h4), (h1, ce331 h5), (h2, ce3 z.1), (h3, ce331 h6), (h4, ce366 h7), (h5, ce330 kc0 h8 h9 h10 h11 h12 h13 h14), (h6, ce330 kc1 (z.2.2.1 128) (z.2.2.1 128) (z.2.2.1 128) (z.2.2.1 128) (z.2.2.1 128) (z.2.2.1 128) (z.2.2.1 128)), (h7, ce330 kc2 (z.2.2.1 128) (z.2.2.1 129) (z.2.2.1 130) (z.2.2.1 131) (z.2.2.1 132) (z.2.2.1 133) (z.2.2.1 134)), (h8, ce49), (h9, ce49), (h10, ce49), (h11, ce49), (h12, ce49), (h13, ce49), (h14, ce49)] → lv_has ls' 7 [(3, .int 50), (1, .int 0), (2, .int 1), (0, .ref h0)] → s.heap.size + 760 ≤ H'.size → W p l e ({ frames := 5, cells := 2660, slots := 24752, locals := 121 } : Room) s m args below meth c H' locs' 760 7072 Q (F0 m 23 ls' [])) : W p l e ({ frames := 5, cells := 2660, slots := 24752, locals := 121 } : Room) s m args below meth c H locs 570 5304 Q (F0 m 23 ls []) := by
  refine lv_iload_n hx hb dX9_shown_23 rfl (lv_at hl 0 rfl) ?_
  refine lv_bipush (v := 49) hx hb dX9_shown_24 (by decide) ?_
  refine lv_icmp_gt (tgt := 113) hx hb dX9_shown_26 (by decide) (fun cz => absurd cz (by decide)) (fun _ => ?_)
  refine lv_iconst (v := 0) hx hb dX9_shown_29 (by decide) ?_
  refine lv_istore (lv' := [(4, .int 0), (3, .int 49), (1, .int 0), (2, .int 1), (0, .ref h0)]) hx hb dX9_shown_30 hl (by decide) rfl (fun ls hl => ?_)
  refine lv_aload_n hx hb dX9_shown_32 rfl (lv_at hl 4 rfl) ?_
  refine va_get (D := (dC, dI)) (ci := 8) (v := .ref h3) (C := RX9) (T := TX9) (N := 6) hx hb hts in_X9 hown hK hP 0 rfl rfl 3 (by decide) (hts _ q_66) (fun _ h9 => h9) rfl dX9_shown_33 ?_
  have hM565 := k724_iterator l hl9 dC dI z h3 h6 H.size
  obtain ⟨hF563, hC566⟩ := pc_M hM565 hP hD hK hS hX hT hA [3] [] rfl rfl rfl
  refine va_callr (va_runV (As := []) (rest := []) ⟨hx, hb, hml, hown, hts⟩ hM565 (cwV 0 hts (gV q_256 q_257 q_258 q_12 q_255) rfl rfl rfl hV_Jx4a65c_iterator_32c93 ⟨Nat.le_of_ble_eq_true rfl, Nat.le_of_ble_eq_true rfl⟩) ⟨pc_blind, va_recv hK hP (ci := 0) (q := (RJx4a65c, TJx4a65c, 3)) (q0 := 3) rfl rfl, fun U hU hW => ⟨rfl, hC566 U hU hW⟩⟩ rfl rfl hl.1 rfl (lv_room (Nat.le_of_ble_eq_true rfl)) dX9_shown_36 ⟨(Nat.le_of_ble_eq_true rfl), (Nat.le_of_ble_eq_true rfl)⟩) hS (fun q9 _ h9 => hF563 q9 h9) hF563 (fun u567 r568 t567 H567 L567 ht567 hvm567 hw567 hB567 hz567 hk567 hS => ?_)
  obtain ⟨a569, hr567, hB567⟩ := hB567
  obtain ⟨hP, hD, hK⟩ := pq_jn (wz := [(h0, ce21 h1 h2 h3 h4), (h1, ce331 h5), (h2, ce3 z.1), (h4, ce366 h7), (h5, ce330 kc0 h8 h9 h10 h11 h12 h13 h14), (h6, ce330 kc1 (z.2.2.1 128) (z.2.2.1 128) (z.2.2.1 128) (z.2.2.1 128) (z.2.2.1 128) (z.2.2.1 128) (z.2.2.1 128)), (h7, ce330 kc2 (z.2.2.1 128) (z.2.2.1 129) (z.2.2.1 130) (z.2.2.1 131) (z.2.2.1 132) (z.2.2.1 133) (z.2.2.1 134)), (h8, ce49), (h9, ce49), (h10, ce49), (h11, ce49), (h12, ce49), (h13, ce49), (h14, ce49), (h3, ce331 h6), (a569, ce370 h3)]) (tz := [(kc0, .object "java/lang/Object"), (kc1, .object "java/lang/Object"), (kc2, .object "java/lang/Object")]) hP hD hK [3] [0, 1, 2] rfl hk567 hF563 hB567.1 ht567 hvm567 rfl rfl
  have hG : s.heap.size + 571 ≤ H567.size := va_gr (g := 570) (g1 := 1) hG (by rw [← ht567]; exact hB567.2)
  refine W.eq (g2 := F0 m 39 ls [.ref a569]) (by rw [hr567]) ?_
  refine W.widen (k := 571) (n := 5308) (by decide) (by decide) ?_
  refine lv_astore (lv' := [(5, .ref a569), (4, .int 0), (3, .int 49), (1, .int 0), (2, .int 1), (0, .ref h0)]) hx hb dX9_shown_39 hl (by decide) rfl (fun ls hl => ?_)
  refine lv_aload hx hb dX9_shown_41 (lv_at hl 0 rfl) ?_
  have hM572 := k725_hasNext l hl9 dC dI z a569 h3 h6 H567.size
  obtain ⟨hF570, hC573⟩ := pc_M hM572 hP hD hK hS hX hT hA [15, 14] [] rfl rfl rfl
  refine va_callFi (va_runF (As := []) (rest := []) (hK.1 1 (RJx35411, TJx35411, 4) rfl).2 ⟨hx, hb, hml, hown, hts⟩ hM572 (va_cwF 0 hts (gF q_261 q_262 q_263 q_246 q_260) rfl rfl rfl hT.2.2.2.2.2.2.1 hF_xIh ⟨Nat.le_of_ble_eq_true rfl, Nat.le_of_ble_eq_true rfl⟩) ⟨pc_blind, va_recv hK hP (ci := 1) (q := (RJx35411, TJx35411, 4)) (q0 := 15) rfl rfl, fun U hU hW => ⟨rfl, hC573 U hU hW⟩⟩ rfl rfl hl.1 rfl (lv_room (Nat.le_of_ble_eq_true rfl)) dX9_shown_43 ⟨(Nat.le_of_ble_eq_true rfl), (Nat.le_of_ble_eq_true rfl)⟩) hS (fun q9 _ h9 => hF570 q9 h9) hF570 (fun r575 u574 t574 H574 L574 ht574 hvm574 hw574 hB574 hz574 hk574 hS => ?_)
  have hP := pq_keep hP hD [15, 14] rfl hk574 hB574.1 ht574
  have hG : s.heap.size + 571 ≤ H574.size := Nat.le_trans hG hz574
  refine W.eq (g2 := F0 m 48 ls [.int 1]) (by rw [hw574]) ?_
  refine lv_if_eq (tgt := 92) hx hb dX9_shown_48 (by decide) (fun cz => absurd cz (by decide)) (fun _ => ?_)
  refine lv_aload hx hb dX9_shown_51 (lv_at hl 0 rfl) ?_
  have hM578 := k942_next l hl9 dC dI z a569 h3 h6 H574.size kc1
  obtain ⟨hF576, hC579⟩ := pc_M hM578 hP hD hK hS hX hT hA [15, 14, 5] [1] rfl rfl rfl
  refine va_callFr (va_runF (As := []) (rest := []) (hK.1 1 (RJx35411, TJx35411, 4) rfl).2 ⟨hx, hb, hml, hown, hts⟩ hM578 (va_cwF 0 hts (gF q_308 q_309 q_310 q_246 q_307) rfl rfl rfl hT.2.2.2.2.2.2.2.1 hF_xIn ⟨Nat.le_of_ble_eq_true rfl, Nat.le_of_ble_eq_true rfl⟩) ⟨pc_blind, va_recv hK hP (ci := 1) (q := (RJx35411, TJx35411, 4)) (q0 := 15) rfl rfl, fun U hU hW => ⟨rfl, hC579 U hU hW⟩⟩ rfl rfl hl.1 rfl (lv_room (Nat.le_of_ble_eq_true rfl)) dX9_shown_53 ⟨(Nat.le_of_ble_eq_true rfl), (Nat.le_of_ble_eq_true rfl)⟩) hS (fun q9 _ h9 => hF576 q9 h9) hF576 (fun u580 r581 t580 H580 L580 ht580 hvm580 hw580 hB580 hz580 hk580 hS => ?_)
  obtain ⟨hr580, hB580⟩ := hB580
  obtain ⟨hP, hD, hK⟩ := pq_jn (wz := [(h0, ce21 h1 h2 h3 h4), (h1, ce331 h5), (h2, ce3 z.1), (h4, ce366 h7), (h5, ce330 kc0 h8 h9 h10 h11 h12 h13 h14), (h7, ce330 kc2 (z.2.2.1 128) (z.2.2.1 129) (z.2.2.1 130) (z.2.2.1 131) (z.2.2.1 132) (z.2.2.1 133) (z.2.2.1 134)), (h8, ce49), (h9, ce49), (h10, ce49), (h11, ce49), (h12, ce49), (h13, ce49), (h14, ce49), (a569, ce372 h3), (h3, ce331 h6), (h6, ce330 kc1 (z.2.2.1 128) (z.2.2.1 128) (z.2.2.1 128) (z.2.2.1 128) (z.2.2.1 128) (z.2.2.1 128) (z.2.2.1 128))]) (tz := [(kc0, .object "java/lang/Object"), (kc2, .object "java/lang/Object"), (kc1, .object "java/lang/Object")]) hP hD hK [15, 14, 5] [0, 2] rfl hk580 hF576 hB580.1 ht580 hvm580 rfl rfl
  have hG : s.heap.size + 571 ≤ H580.size := Nat.le_trans hG hz580
  refine W.eq (g2 := F0 m 58 ls [.ref (z.2.2.1 128)]) (by rw [hr580]) ?_
  refine va_castE (nm := "java/lang/Integer") hx hb hown (hts _ q_320) (va_Orecv (hX.2.2.1.1.1 128 (by decide)) hS) dX9_shown_58 ?_
  have hM584 := k74_intValue l hl9 dC dI z H580.size
  obtain ⟨hF582, hC585⟩ := pc_M hM584 hP hD hK hS hX hT hA [] [] rfl rfl rfl
  refine va_calli (va_runV (As := []) (rest := []) ⟨hx, hb, hml, hown, hts⟩ hM584 (cwV 0 hts (gV q_323 q_324 q_325 q_297 q_322) rfl rfl rfl hV_J6_intValue_8abf5 ⟨Nat.le_of_ble_eq_true rfl, Nat.le_of_ble_eq_true rfl⟩) ⟨pc_blind, va_Orecv (hX.2.2.1.1.1 128 (by decide)) hS, fun U hU hW => ⟨rfl, hC585 U hU hW⟩⟩ rfl rfl hl.1 rfl (lv_room (Nat.le_of_ble_eq_true rfl)) dX9_shown_61 ⟨(Nat.le_of_ble_eq_true rfl), (Nat.le_of_ble_eq_true rfl)⟩) hS (fun q9 _ h9 => hF582 q9 h9) hF582 (fun r587 u586 t586 H586 L586 ht586 hvm586 hw586 hB586 hz586 hk586 hS => ?_)
  have hP := pq_keep hP hD [] rfl hk586 hB586.1 ht586
  have hG : s.heap.size + 571 ≤ H586.size := Nat.le_trans hG hz586
  refine W.eq (g2 := F0 m 64 ls [.int 0]) (by rw [hw586]) ?_
  refine lv_istore (lv' := [(6, .int 0), (5, .ref a569), (4, .int 0), (3, .int 49), (1, .int 0), (2, .int 1), (0, .ref h0)]) hx hb dX9_shown_64 hl (by decide) rfl (fun ls hl => ?_)
  refine lv_iload hx hb dX9_shown_66 (lv_at hl 2 rfl) ?_
  refine lv_if_ne (tgt := 82) hx hb dX9_shown_68 (by decide) (fun cz => absurd (by decide) cz) (fun _ => ?_)
  refine lv_aload_n hx hb dX9_shown_71 rfl (lv_at hl 6 rfl) ?_
  refine lv_iload_n hx hb dX9_shown_72 rfl (lv_at hl 5 rfl) ?_
  refine lv_iload_n hx hb dX9_shown_73 rfl (lv_at hl 3 rfl) ?_
  refine lv_iload hx hb dX9_shown_74 (lv_at hl 0 rfl) ?_
  have hM590 := k965_showsIt l hl9 dC dI z h0 h1 h2 h4 h5 h7 h8 h9 h10 h11 h12 h13 h14 h3 H586.size kc0 kc2
  obtain ⟨hF588, hC591⟩ := pc_M hM590 hP hD hK hS hX hT hA [0, 1, 2, 3, 4, 5, 6, 7, 8, 9, 10, 11, 12] [0, 1] rfl rfl rfl
  refine va_calli (va_runV (As := [.int 1, .int 49, .int 0]) (rest := []) ⟨hx, hb, hml, hown, hts⟩ hM590 (cwV 3 hts (gV q_429 q_430 q_431 q_60 q_428) rfl rfl rfl hV_X9_showsIt ⟨Nat.le_of_ble_eq_true rfl, Nat.le_of_ble_eq_true rfl⟩) ⟨pc_blind, va_recv hK hP (ci := 8) (q := (RX9, TX9, 6)) (q0 := 0) rfl rfl, fun U hU hW => ⟨rfl, hC591 U hU hW⟩⟩ rfl rfl hl.1 rfl (lv_room (Nat.le_of_ble_eq_true rfl)) dX9_shown_76 ⟨(Nat.le_of_ble_eq_true rfl), (Nat.le_of_ble_eq_true rfl)⟩) hS (fun q9 _ h9 => hF588 q9 h9) hF588 (fun r593 u592 t592 H592 L592 ht592 hvm592 hw592 hB592 hz592 hk592 hS => ?_)
  have hP := pq_keep hP hD [0, 1, 2, 3, 4, 5, 6, 7, 8, 9, 10, 11, 12] rfl hk592 hB592.1 ht592
  have hG : s.heap.size + 598 ≤ H592.size := va_gr (g := 571) (g1 := 27) hG (by rw [← ht592]; exact hB592.2)
  refine W.eq (g2 := F0 m 79 ls [.int 0]) (by rw [hw592]) ?_
  refine W.widen (k := 598) (n := 5560) (by decide) (by decide) ?_
  refine lv_if_eq (tgt := 86) hx hb dX9_shown_79 (by decide) (fun _ => ?_) (fun cz => absurd (by decide) cz)
  refine lv_iconst (v := 0) hx hb dX9_shown_86 (by decide) ?_
  refine lv_istore (lv' := [(4, .int 0), (6, .int 0), (5, .ref a569), (3, .int 49), (1, .int 0), (2, .int 1), (0, .ref h0)]) hx hb dX9_shown_87 hl (by decide) rfl (fun ls hl => ?_)
  refine lv_goto (tgt := 41) hx hb dX9_shown_89 (by decide) ?_
  refine lv_aload hx hb dX9_shown_41 (lv_at hl 2 rfl) ?_
  have hM596 := k728_hasNext l hl9 dC dI z a569 h3 h6 H592.size
  obtain ⟨hF594, hC597⟩ := pc_M hM596 hP hD hK hS hX hT hA [13, 14] [] rfl rfl rfl
  refine va_callFi (va_runF (As := []) (rest := []) (hK.1 1 (RJx35411, TJx35411, 4) rfl).2 ⟨hx, hb, hml, hown, hts⟩ hM596 (va_cwF 0 hts (gF q_261 q_262 q_263 q_246 q_260) rfl rfl rfl hT.2.2.2.2.2.2.1 hF_xIh ⟨Nat.le_of_ble_eq_true rfl, Nat.le_of_ble_eq_true rfl⟩) ⟨pc_blind, va_recv hK hP (ci := 1) (q := (RJx35411, TJx35411, 4)) (q0 := 13) rfl rfl, fun U hU hW => ⟨rfl, hC597 U hU hW⟩⟩ rfl rfl hl.1 rfl (lv_room (Nat.le_of_ble_eq_true rfl)) dX9_shown_43 ⟨(Nat.le_of_ble_eq_true rfl), (Nat.le_of_ble_eq_true rfl)⟩) hS (fun q9 _ h9 => hF594 q9 h9) hF594 (fun r599 u598 t598 H598 L598 ht598 hvm598 hw598 hB598 hz598 hk598 hS => ?_)
  have hP := pq_keep hP hD [13, 14] rfl hk598 hB598.1 ht598
  have hG : s.heap.size + 598 ≤ H598.size := Nat.le_trans hG hz598
  refine W.eq (g2 := F0 m 48 ls [.int 1]) (by rw [hw598]) ?_
  refine lv_if_eq (tgt := 92) hx hb dX9_shown_48 (by decide) (fun cz => absurd cz (by decide)) (fun _ => ?_)
  refine lv_aload hx hb dX9_shown_51 (lv_at hl 2 rfl) ?_
  have hM602 := k954_next l hl9 dC dI z a569 h3 h6 H598.size kc1
  obtain ⟨hF600, hC603⟩ := pc_M hM602 hP hD hK hS hX hT hA [13, 14, 15] [2] rfl rfl rfl
  refine va_callFr (va_runF (As := []) (rest := []) (hK.1 1 (RJx35411, TJx35411, 4) rfl).2 ⟨hx, hb, hml, hown, hts⟩ hM602 (va_cwF 0 hts (gF q_308 q_309 q_310 q_246 q_307) rfl rfl rfl hT.2.2.2.2.2.2.2.1 hF_xIn ⟨Nat.le_of_ble_eq_true rfl, Nat.le_of_ble_eq_true rfl⟩) ⟨pc_blind, va_recv hK hP (ci := 1) (q := (RJx35411, TJx35411, 4)) (q0 := 13) rfl rfl, fun U hU hW => ⟨rfl, hC603 U hU hW⟩⟩ rfl rfl hl.1 rfl (lv_room (Nat.le_of_ble_eq_true rfl)) dX9_shown_53 ⟨(Nat.le_of_ble_eq_true rfl), (Nat.le_of_ble_eq_true rfl)⟩) hS (fun q9 _ h9 => hF600 q9 h9) hF600 (fun u604 r605 t604 H604 L604 ht604 hvm604 hw604 hB604 hz604 hk604 hS => ?_)
  obtain ⟨hr604, hB604⟩ := hB604
  obtain ⟨hP, hD, hK⟩ := pq_jn (wz := [(h0, ce21 h1 h2 h3 h4), (h1, ce331 h5), (h2, ce3 z.1), (h4, ce366 h7), (h5, ce330 kc0 h8 h9 h10 h11 h12 h13 h14), (h7, ce330 kc2 (z.2.2.1 128) (z.2.2.1 129) (z.2.2.1 130) (z.2.2.1 131) (z.2.2.1 132) (z.2.2.1 133) (z.2.2.1 134)), (h8, ce49), (h9, ce49), (h10, ce49), (h11, ce49), (h12, ce49), (h13, ce49), (h14, ce49), (a569, ce374 h3), (h3, ce331 h6), (h6, ce330 kc1 (z.2.2.1 128) (z.2.2.1 128) (z.2.2.1 128) (z.2.2.1 128) (z.2.2.1 128) (z.2.2.1 128) (z.2.2.1 128))]) (tz := [(kc0, .object "java/lang/Object"), (kc2, .object "java/lang/Object"), (kc1, .object "java/lang/Object")]) hP hD hK [13, 14, 15] [0, 1] rfl hk604 hF600 hB604.1 ht604 hvm604 rfl rfl
  have hG : s.heap.size + 598 ≤ H604.size := Nat.le_trans hG hz604
  refine W.eq (g2 := F0 m 58 ls [.ref (z.2.2.1 128)]) (by rw [hr604]) ?_
  refine va_castE (nm := "java/lang/Integer") hx hb hown (hts _ q_320) (va_Orecv (hX.2.2.1.1.1 128 (by decide)) hS) dX9_shown_58 ?_
  have hM608 := k74_intValue l hl9 dC dI z H604.size
  obtain ⟨hF606, hC609⟩ := pc_M hM608 hP hD hK hS hX hT hA [] [] rfl rfl rfl
  refine va_calli (va_runV (As := []) (rest := []) ⟨hx, hb, hml, hown, hts⟩ hM608 (cwV 0 hts (gV q_323 q_324 q_325 q_297 q_322) rfl rfl rfl hV_J6_intValue_8abf5 ⟨Nat.le_of_ble_eq_true rfl, Nat.le_of_ble_eq_true rfl⟩) ⟨pc_blind, va_Orecv (hX.2.2.1.1.1 128 (by decide)) hS, fun U hU hW => ⟨rfl, hC609 U hU hW⟩⟩ rfl rfl hl.1 rfl (lv_room (Nat.le_of_ble_eq_true rfl)) dX9_shown_61 ⟨(Nat.le_of_ble_eq_true rfl), (Nat.le_of_ble_eq_true rfl)⟩) hS (fun q9 _ h9 => hF606 q9 h9) hF606 (fun r611 u610 t610 H610 L610 ht610 hvm610 hw610 hB610 hz610 hk610 hS => ?_)
  have hP := pq_keep hP hD [] rfl hk610 hB610.1 ht610
  have hG : s.heap.size + 598 ≤ H610.size := Nat.le_trans hG hz610
  refine W.eq (g2 := F0 m 64 ls [.int 0]) (by rw [hw610]) ?_
  refine lv_istore (lv' := [(6, .int 0), (4, .int 0), (5, .ref a569), (3, .int 49), (1, .int 0), (2, .int 1), (0, .ref h0)]) hx hb dX9_shown_64 hl (by decide) rfl (fun ls hl => ?_)
  refine lv_iload hx hb dX9_shown_66 (lv_at hl 1 rfl) ?_
  refine lv_if_ne (tgt := 82) hx hb dX9_shown_68 (by decide) (fun cz => absurd (by decide) cz) (fun _ => ?_)
  refine lv_aload_n hx hb dX9_shown_71 rfl (lv_at hl 6 rfl) ?_
  refine lv_iload_n hx hb dX9_shown_72 rfl (lv_at hl 5 rfl) ?_
  refine lv_iload_n hx hb dX9_shown_73 rfl (lv_at hl 3 rfl) ?_
  refine lv_iload hx hb dX9_shown_74 (lv_at hl 0 rfl) ?_
  have hM614 := k965_showsIt l hl9 dC dI z h0 h1 h2 h4 h5 h7 h8 h9 h10 h11 h12 h13 h14 h3 H610.size kc0 kc2
  obtain ⟨hF612, hC615⟩ := pc_M hM614 hP hD hK hS hX hT hA [0, 1, 2, 3, 4, 5, 6, 7, 8, 9, 10, 11, 12] [0, 1] rfl rfl rfl
  refine va_calli (va_runV (As := [.int 1, .int 49, .int 0]) (rest := []) ⟨hx, hb, hml, hown, hts⟩ hM614 (cwV 3 hts (gV q_429 q_430 q_431 q_60 q_428) rfl rfl rfl hV_X9_showsIt ⟨Nat.le_of_ble_eq_true rfl, Nat.le_of_ble_eq_true rfl⟩) ⟨pc_blind, va_recv hK hP (ci := 8) (q := (RX9, TX9, 6)) (q0 := 0) rfl rfl, fun U hU hW => ⟨rfl, hC615 U hU hW⟩⟩ rfl rfl hl.1 rfl (lv_room (Nat.le_of_ble_eq_true rfl)) dX9_shown_76 ⟨(Nat.le_of_ble_eq_true rfl), (Nat.le_of_ble_eq_true rfl)⟩) hS (fun q9 _ h9 => hF612 q9 h9) hF612 (fun r617 u616 t616 H616 L616 ht616 hvm616 hw616 hB616 hz616 hk616 hS => ?_)
  have hP := pq_keep hP hD [0, 1, 2, 3, 4, 5, 6, 7, 8, 9, 10, 11, 12] rfl hk616 hB616.1 ht616
  have hG : s.heap.size + 625 ≤ H616.size := va_gr (g := 598) (g1 := 27) hG (by rw [← ht616]; exact hB616.2)
  refine W.eq (g2 := F0 m 79 ls [.int 0]) (by rw [hw616]) ?_
  refine W.widen (k := 625) (n := 5812) (by decide) (by decide) ?_
  refine lv_if_eq (tgt := 86) hx hb dX9_shown_79 (by decide) (fun _ => ?_) (fun cz => absurd (by decide) cz)
  refine lv_iconst (v := 0) hx hb dX9_shown_86 (by decide) ?_
  refine lv_istore (lv' := [(4, .int 0), (6, .int 0), (5, .ref a569), (3, .int 49), (1, .int 0), (2, .int 1), (0, .ref h0)]) hx hb dX9_shown_87 hl (by decide) rfl (fun ls hl => ?_)
  refine lv_goto (tgt := 41) hx hb dX9_shown_89 (by decide) ?_
  refine lv_aload hx hb dX9_shown_41 (lv_at hl 2 rfl) ?_
  have hM620 := k731_hasNext l hl9 dC dI z a569 h3 h6 H616.size
  obtain ⟨hF618, hC621⟩ := pc_M hM620 hP hD hK hS hX hT hA [13, 14] [] rfl rfl rfl
  refine va_callFi (va_runF (As := []) (rest := []) (hK.1 1 (RJx35411, TJx35411, 4) rfl).2 ⟨hx, hb, hml, hown, hts⟩ hM620 (va_cwF 0 hts (gF q_261 q_262 q_263 q_246 q_260) rfl rfl rfl hT.2.2.2.2.2.2.1 hF_xIh ⟨Nat.le_of_ble_eq_true rfl, Nat.le_of_ble_eq_true rfl⟩) ⟨pc_blind, va_recv hK hP (ci := 1) (q := (RJx35411, TJx35411, 4)) (q0 := 13) rfl rfl, fun U hU hW => ⟨rfl, hC621 U hU hW⟩⟩ rfl rfl hl.1 rfl (lv_room (Nat.le_of_ble_eq_true rfl)) dX9_shown_43 ⟨(Nat.le_of_ble_eq_true rfl), (Nat.le_of_ble_eq_true rfl)⟩) hS (fun q9 _ h9 => hF618 q9 h9) hF618 (fun r623 u622 t622 H622 L622 ht622 hvm622 hw622 hB622 hz622 hk622 hS => ?_)
  have hP := pq_keep hP hD [13, 14] rfl hk622 hB622.1 ht622
  have hG : s.heap.size + 625 ≤ H622.size := Nat.le_trans hG hz622
  refine W.eq (g2 := F0 m 48 ls [.int 1]) (by rw [hw622]) ?_
  refine lv_if_eq (tgt := 92) hx hb dX9_shown_48 (by decide) (fun cz => absurd cz (by decide)) (fun _ => ?_)
  refine lv_aload hx hb dX9_shown_51 (lv_at hl 2 rfl) ?_
  have hM626 := k955_next l hl9 dC dI z a569 h3 h6 H622.size kc1
  obtain ⟨hF624, hC627⟩ := pc_M hM626 hP hD hK hS hX hT hA [13, 14, 15] [2] rfl rfl rfl
  refine va_callFr (va_runF (As := []) (rest := []) (hK.1 1 (RJx35411, TJx35411, 4) rfl).2 ⟨hx, hb, hml, hown, hts⟩ hM626 (va_cwF 0 hts (gF q_308 q_309 q_310 q_246 q_307) rfl rfl rfl hT.2.2.2.2.2.2.2.1 hF_xIn ⟨Nat.le_of_ble_eq_true rfl, Nat.le_of_ble_eq_true rfl⟩) ⟨pc_blind, va_recv hK hP (ci := 1) (q := (RJx35411, TJx35411, 4)) (q0 := 13) rfl rfl, fun U hU hW => ⟨rfl, hC627 U hU hW⟩⟩ rfl rfl hl.1 rfl (lv_room (Nat.le_of_ble_eq_true rfl)) dX9_shown_53 ⟨(Nat.le_of_ble_eq_true rfl), (Nat.le_of_ble_eq_true rfl)⟩) hS (fun q9 _ h9 => hF624 q9 h9) hF624 (fun u628 r629 t628 H628 L628 ht628 hvm628 hw628 hB628 hz628 hk628 hS => ?_)
  obtain ⟨hr628, hB628⟩ := hB628
  obtain ⟨hP, hD, hK⟩ := pq_jn (wz := [(h0, ce21 h1 h2 h3 h4), (h1, ce331 h5), (h2, ce3 z.1), (h4, ce366 h7), (h5, ce330 kc0 h8 h9 h10 h11 h12 h13 h14), (h7, ce330 kc2 (z.2.2.1 128) (z.2.2.1 129) (z.2.2.1 130) (z.2.2.1 131) (z.2.2.1 132) (z.2.2.1 133) (z.2.2.1 134)), (h8, ce49), (h9, ce49), (h10, ce49), (h11, ce49), (h12, ce49), (h13, ce49), (h14, ce49), (a569, ce376 h3), (h3, ce331 h6), (h6, ce330 kc1 (z.2.2.1 128) (z.2.2.1 128) (z.2.2.1 128) (z.2.2.1 128) (z.2.2.1 128) (z.2.2.1 128) (z.2.2.1 128))]) (tz := [(kc0, .object "java/lang/Object"), (kc2, .object "java/lang/Object"), (kc1, .object "java/lang/Object")]) hP hD hK [13, 14, 15] [0, 1] rfl hk628 hF624 hB628.1 ht628 hvm628 rfl rfl
  have hG : s.heap.size + 625 ≤ H628.size := Nat.le_trans hG hz628
  refine W.eq (g2 := F0 m 58 ls [.ref (z.2.2.1 128)]) (by rw [hr628]) ?_
  refine va_castE (nm := "java/lang/Integer") hx hb hown (hts _ q_320) (va_Orecv (hX.2.2.1.1.1 128 (by decide)) hS) dX9_shown_58 ?_
  have hM632 := k74_intValue l hl9 dC dI z H628.size
  obtain ⟨hF630, hC633⟩ := pc_M hM632 hP hD hK hS hX hT hA [] [] rfl rfl rfl
  refine va_calli (va_runV (As := []) (rest := []) ⟨hx, hb, hml, hown, hts⟩ hM632 (cwV 0 hts (gV q_323 q_324 q_325 q_297 q_322) rfl rfl rfl hV_J6_intValue_8abf5 ⟨Nat.le_of_ble_eq_true rfl, Nat.le_of_ble_eq_true rfl⟩) ⟨pc_blind, va_Orecv (hX.2.2.1.1.1 128 (by decide)) hS, fun U hU hW => ⟨rfl, hC633 U hU hW⟩⟩ rfl rfl hl.1 rfl (lv_room (Nat.le_of_ble_eq_true rfl)) dX9_shown_61 ⟨(Nat.le_of_ble_eq_true rfl), (Nat.le_of_ble_eq_true rfl)⟩) hS (fun q9 _ h9 => hF630 q9 h9) hF630 (fun r635 u634 t634 H634 L634 ht634 hvm634 hw634 hB634 hz634 hk634 hS => ?_)
  have hP := pq_keep hP hD [] rfl hk634 hB634.1 ht634
  have hG : s.heap.size + 625 ≤ H634.size := Nat.le_trans hG hz634
  refine W.eq (g2 := F0 m 64 ls [.int 0]) (by rw [hw634]) ?_
  refine lv_istore (lv' := [(6, .int 0), (4, .int 0), (5, .ref a569), (3, .int 49), (1, .int 0), (2, .int 1), (0, .ref h0)]) hx hb dX9_shown_64 hl (by decide) rfl (fun ls hl => ?_)
  refine lv_iload hx hb dX9_shown_66 (lv_at hl 1 rfl) ?_
  refine lv_if_ne (tgt := 82) hx hb dX9_shown_68 (by decide) (fun cz => absurd (by decide) cz) (fun _ => ?_)
  refine lv_aload_n hx hb dX9_shown_71 rfl (lv_at hl 6 rfl) ?_
  refine lv_iload_n hx hb dX9_shown_72 rfl (lv_at hl 5 rfl) ?_
  refine lv_iload_n hx hb dX9_shown_73 rfl (lv_at hl 3 rfl) ?_
  refine lv_iload hx hb dX9_shown_74 (lv_at hl 0 rfl) ?_
  have hM638 := k965_showsIt l hl9 dC dI z h0 h1 h2 h4 h5 h7 h8 h9 h10 h11 h12 h13 h14 h3 H634.size kc0 kc2
  obtain ⟨hF636, hC639⟩ := pc_M hM638 hP hD hK hS hX hT hA [0, 1, 2, 3, 4, 5, 6, 7, 8, 9, 10, 11, 12] [0, 1] rfl rfl rfl
  refine va_calli (va_runV (As := [.int 1, .int 49, .int 0]) (rest := []) ⟨hx, hb, hml, hown, hts⟩ hM638 (cwV 3 hts (gV q_429 q_430 q_431 q_60 q_428) rfl rfl rfl hV_X9_showsIt ⟨Nat.le_of_ble_eq_true rfl, Nat.le_of_ble_eq_true rfl⟩) ⟨pc_blind, va_recv hK hP (ci := 8) (q := (RX9, TX9, 6)) (q0 := 0) rfl rfl, fun U hU hW => ⟨rfl, hC639 U hU hW⟩⟩ rfl rfl hl.1 rfl (lv_room (Nat.le_of_ble_eq_true rfl)) dX9_shown_76 ⟨(Nat.le_of_ble_eq_true rfl), (Nat.le_of_ble_eq_true rfl)⟩) hS (fun q9 _ h9 => hF636 q9 h9) hF636 (fun r641 u640 t640 H640 L640 ht640 hvm640 hw640 hB640 hz640 hk640 hS => ?_)
  have hP := pq_keep hP hD [0, 1, 2, 3, 4, 5, 6, 7, 8, 9, 10, 11, 12] rfl hk640 hB640.1 ht640
  have hG : s.heap.size + 652 ≤ H640.size := va_gr (g := 625) (g1 := 27) hG (by rw [← ht640]; exact hB640.2)
  refine W.eq (g2 := F0 m 79 ls [.int 0]) (by rw [hw640]) ?_
  refine W.widen (k := 652) (n := 6064) (by decide) (by decide) ?_
  refine lv_if_eq (tgt := 86) hx hb dX9_shown_79 (by decide) (fun _ => ?_) (fun cz => absurd (by decide) cz)
  refine lv_iconst (v := 0) hx hb dX9_shown_86 (by decide) ?_
  refine lv_istore (lv' := [(4, .int 0), (6, .int 0), (5, .ref a569), (3, .int 49), (1, .int 0), (2, .int 1), (0, .ref h0)]) hx hb dX9_shown_87 hl (by decide) rfl (fun ls hl => ?_)
  refine lv_goto (tgt := 41) hx hb dX9_shown_89 (by decide) ?_
  refine lv_aload hx hb dX9_shown_41 (lv_at hl 2 rfl) ?_
  have hM644 := k734_hasNext l hl9 dC dI z a569 h3 h6 H640.size
  obtain ⟨hF642, hC645⟩ := pc_M hM644 hP hD hK hS hX hT hA [13, 14] [] rfl rfl rfl
  refine va_callFi (va_runF (As := []) (rest := []) (hK.1 1 (RJx35411, TJx35411, 4) rfl).2 ⟨hx, hb, hml, hown, hts⟩ hM644 (va_cwF 0 hts (gF q_261 q_262 q_263 q_246 q_260) rfl rfl rfl hT.2.2.2.2.2.2.1 hF_xIh ⟨Nat.le_of_ble_eq_true rfl, Nat.le_of_ble_eq_true rfl⟩) ⟨pc_blind, va_recv hK hP (ci := 1) (q := (RJx35411, TJx35411, 4)) (q0 := 13) rfl rfl, fun U hU hW => ⟨rfl, hC645 U hU hW⟩⟩ rfl rfl hl.1 rfl (lv_room (Nat.le_of_ble_eq_true rfl)) dX9_shown_43 ⟨(Nat.le_of_ble_eq_true rfl), (Nat.le_of_ble_eq_true rfl)⟩) hS (fun q9 _ h9 => hF642 q9 h9) hF642 (fun r647 u646 t646 H646 L646 ht646 hvm646 hw646 hB646 hz646 hk646 hS => ?_)
  have hP := pq_keep hP hD [13, 14] rfl hk646 hB646.1 ht646
  have hG : s.heap.size + 652 ≤ H646.size := Nat.le_trans hG hz646
  refine W.eq (g2 := F0 m 48 ls [.int 1]) (by rw [hw646]) ?_
  refine lv_if_eq (tgt := 92) hx hb dX9_shown_48 (by decide) (fun cz => absurd cz (by decide)) (fun _ => ?_)
  refine lv_aload hx hb dX9_shown_51 (lv_at hl 2 rfl) ?_
  have hM650 := k956_next l hl9 dC dI z a569 h3 h6 H646.size kc1
  obtain ⟨hF648, hC651⟩ := pc_M hM650 hP hD hK hS hX hT hA [13, 14, 15] [2] rfl rfl rfl
  refine va_callFr (va_runF (As := []) (rest := []) (hK.1 1 (RJx35411, TJx35411, 4) rfl).2 ⟨hx, hb, hml, hown, hts⟩ hM650 (va_cwF 0 hts (gF q_308 q_309 q_310 q_246 q_307) rfl rfl rfl hT.2.2.2.2.2.2.2.1 hF_xIn ⟨Nat.le_of_ble_eq_true rfl, Nat.le_of_ble_eq_true rfl⟩) ⟨pc_blind, va_recv hK hP (ci := 1) (q := (RJx35411, TJx35411, 4)) (q0 := 13) rfl rfl, fun U hU hW => ⟨rfl, hC651 U hU hW⟩⟩ rfl rfl hl.1 rfl (lv_room (Nat.le_of_ble_eq_true rfl)) dX9_shown_53 ⟨(Nat.le_of_ble_eq_true rfl), (Nat.le_of_ble_eq_true rfl)⟩) hS (fun q9 _ h9 => hF648 q9 h9) hF648 (fun u652 r653 t652 H652 L652 ht652 hvm652 hw652 hB652 hz652 hk652 hS => ?_)
  obtain ⟨hr652, hB652⟩ := hB652
  obtain ⟨hP, hD, hK⟩ := pq_jn (wz := [(h0, ce21 h1 h2 h3 h4), (h1, ce331 h5), (h2, ce3 z.1), (h4, ce366 h7), (h5, ce330 kc0 h8 h9 h10 h11 h12 h13 h14), (h7, ce330 kc2 (z.2.2.1 128) (z.2.2.1 129) (z.2.2.1 130) (z.2.2.1 131) (z.2.2.1 132) (z.2.2.1 133) (z.2.2.1 134)), (h8, ce49), (h9, ce49), (h10, ce49), (h11, ce49), (h12, ce49), (h13, ce49), (h14, ce49), (a569, ce378 h3), (h3, ce331 h6), (h6, ce330 kc1 (z.2.2.1 128) (z.2.2.1 128) (z.2.2.1 128) (z.2.2.1 128) (z.2.2.1 128) (z.2.2.1 128) (z.2.2.1 128))]) (tz := [(kc0, .object "java/lang/Object"), (kc2, .object "java/lang/Object"), (kc1, .object "java/lang/Object")]) hP hD hK [13, 14, 15] [0, 1] rfl hk652 hF648 hB652.1 ht652 hvm652 rfl rfl
  have hG : s.heap.size + 652 ≤ H652.size := Nat.le_trans hG hz652
  refine W.eq (g2 := F0 m 58 ls [.ref (z.2.2.1 128)]) (by rw [hr652]) ?_
  refine va_castE (nm := "java/lang/Integer") hx hb hown (hts _ q_320) (va_Orecv (hX.2.2.1.1.1 128 (by decide)) hS) dX9_shown_58 ?_
  have hM656 := k74_intValue l hl9 dC dI z H652.size
  obtain ⟨hF654, hC657⟩ := pc_M hM656 hP hD hK hS hX hT hA [] [] rfl rfl rfl
  refine va_calli (va_runV (As := []) (rest := []) ⟨hx, hb, hml, hown, hts⟩ hM656 (cwV 0 hts (gV q_323 q_324 q_325 q_297 q_322) rfl rfl rfl hV_J6_intValue_8abf5 ⟨Nat.le_of_ble_eq_true rfl, Nat.le_of_ble_eq_true rfl⟩) ⟨pc_blind, va_Orecv (hX.2.2.1.1.1 128 (by decide)) hS, fun U hU hW => ⟨rfl, hC657 U hU hW⟩⟩ rfl rfl hl.1 rfl (lv_room (Nat.le_of_ble_eq_true rfl)) dX9_shown_61 ⟨(Nat.le_of_ble_eq_true rfl), (Nat.le_of_ble_eq_true rfl)⟩) hS (fun q9 _ h9 => hF654 q9 h9) hF654 (fun r659 u658 t658 H658 L658 ht658 hvm658 hw658 hB658 hz658 hk658 hS => ?_)
  have hP := pq_keep hP hD [] rfl hk658 hB658.1 ht658
  have hG : s.heap.size + 652 ≤ H658.size := Nat.le_trans hG hz658
  refine W.eq (g2 := F0 m 64 ls [.int 0]) (by rw [hw658]) ?_
  refine lv_istore (lv' := [(6, .int 0), (4, .int 0), (5, .ref a569), (3, .int 49), (1, .int 0), (2, .int 1), (0, .ref h0)]) hx hb dX9_shown_64 hl (by decide) rfl (fun ls hl => ?_)
  refine lv_iload hx hb dX9_shown_66 (lv_at hl 1 rfl) ?_
  refine lv_if_ne (tgt := 82) hx hb dX9_shown_68 (by decide) (fun cz => absurd (by decide) cz) (fun _ => ?_)
  refine lv_aload_n hx hb dX9_shown_71 rfl (lv_at hl 6 rfl) ?_
  refine lv_iload_n hx hb dX9_shown_72 rfl (lv_at hl 5 rfl) ?_
  refine lv_iload_n hx hb dX9_shown_73 rfl (lv_at hl 3 rfl) ?_
  refine lv_iload hx hb dX9_shown_74 (lv_at hl 0 rfl) ?_
  have hM662 := k965_showsIt l hl9 dC dI z h0 h1 h2 h4 h5 h7 h8 h9 h10 h11 h12 h13 h14 h3 H658.size kc0 kc2
  obtain ⟨hF660, hC663⟩ := pc_M hM662 hP hD hK hS hX hT hA [0, 1, 2, 3, 4, 5, 6, 7, 8, 9, 10, 11, 12] [0, 1] rfl rfl rfl
  refine va_calli (va_runV (As := [.int 1, .int 49, .int 0]) (rest := []) ⟨hx, hb, hml, hown, hts⟩ hM662 (cwV 3 hts (gV q_429 q_430 q_431 q_60 q_428) rfl rfl rfl hV_X9_showsIt ⟨Nat.le_of_ble_eq_true rfl, Nat.le_of_ble_eq_true rfl⟩) ⟨pc_blind, va_recv hK hP (ci := 8) (q := (RX9, TX9, 6)) (q0 := 0) rfl rfl, fun U hU hW => ⟨rfl, hC663 U hU hW⟩⟩ rfl rfl hl.1 rfl (lv_room (Nat.le_of_ble_eq_true rfl)) dX9_shown_76 ⟨(Nat.le_of_ble_eq_true rfl), (Nat.le_of_ble_eq_true rfl)⟩) hS (fun q9 _ h9 => hF660 q9 h9) hF660 (fun r665 u664 t664 H664 L664 ht664 hvm664 hw664 hB664 hz664 hk664 hS => ?_)
  have hP := pq_keep hP hD [0, 1, 2, 3, 4, 5, 6, 7, 8, 9, 10, 11, 12] rfl hk664 hB664.1 ht664
  have hG : s.heap.size + 679 ≤ H664.size := va_gr (g := 652) (g1 := 27) hG (by rw [← ht664]; exact hB664.2)
  refine W.eq (g2 := F0 m 79 ls [.int 0]) (by rw [hw664]) ?_
  refine W.widen (k := 679) (n := 6316) (by decide) (by decide) ?_
  refine lv_if_eq (tgt := 86) hx hb dX9_shown_79 (by decide) (fun _ => ?_) (fun cz => absurd (by decide) cz)
  refine lv_iconst (v := 0) hx hb dX9_shown_86 (by decide) ?_
  refine lv_istore (lv' := [(4, .int 0), (6, .int 0), (5, .ref a569), (3, .int 49), (1, .int 0), (2, .int 1), (0, .ref h0)]) hx hb dX9_shown_87 hl (by decide) rfl (fun ls hl => ?_)
  refine lv_goto (tgt := 41) hx hb dX9_shown_89 (by decide) ?_
  refine lv_aload hx hb dX9_shown_41 (lv_at hl 2 rfl) ?_
  have hM668 := k737_hasNext l hl9 dC dI z a569 h3 h6 H664.size
  obtain ⟨hF666, hC669⟩ := pc_M hM668 hP hD hK hS hX hT hA [13, 14] [] rfl rfl rfl
  refine va_callFi (va_runF (As := []) (rest := []) (hK.1 1 (RJx35411, TJx35411, 4) rfl).2 ⟨hx, hb, hml, hown, hts⟩ hM668 (va_cwF 0 hts (gF q_261 q_262 q_263 q_246 q_260) rfl rfl rfl hT.2.2.2.2.2.2.1 hF_xIh ⟨Nat.le_of_ble_eq_true rfl, Nat.le_of_ble_eq_true rfl⟩) ⟨pc_blind, va_recv hK hP (ci := 1) (q := (RJx35411, TJx35411, 4)) (q0 := 13) rfl rfl, fun U hU hW => ⟨rfl, hC669 U hU hW⟩⟩ rfl rfl hl.1 rfl (lv_room (Nat.le_of_ble_eq_true rfl)) dX9_shown_43 ⟨(Nat.le_of_ble_eq_true rfl), (Nat.le_of_ble_eq_true rfl)⟩) hS (fun q9 _ h9 => hF666 q9 h9) hF666 (fun r671 u670 t670 H670 L670 ht670 hvm670 hw670 hB670 hz670 hk670 hS => ?_)
  have hP := pq_keep hP hD [13, 14] rfl hk670 hB670.1 ht670
  have hG : s.heap.size + 679 ≤ H670.size := Nat.le_trans hG hz670
  refine W.eq (g2 := F0 m 48 ls [.int 1]) (by rw [hw670]) ?_
  refine lv_if_eq (tgt := 92) hx hb dX9_shown_48 (by decide) (fun cz => absurd cz (by decide)) (fun _ => ?_)
  refine lv_aload hx hb dX9_shown_51 (lv_at hl 2 rfl) ?_
  have hM674 := k957_next l hl9 dC dI z a569 h3 h6 H670.size kc1
  obtain ⟨hF672, hC675⟩ := pc_M hM674 hP hD hK hS hX hT hA [13, 14, 15] [2] rfl rfl rfl
  refine va_callFr (va_runF (As := []) (rest := []) (hK.1 1 (RJx35411, TJx35411, 4) rfl).2 ⟨hx, hb, hml, hown, hts⟩ hM674 (va_cwF 0 hts (gF q_308 q_309 q_310 q_246 q_307) rfl rfl rfl hT.2.2.2.2.2.2.2.1 hF_xIn ⟨Nat.le_of_ble_eq_true rfl, Nat.le_of_ble_eq_true rfl⟩) ⟨pc_blind, va_recv hK hP (ci := 1) (q := (RJx35411, TJx35411, 4)) (q0 := 13) rfl rfl, fun U hU hW => ⟨rfl, hC675 U hU hW⟩⟩ rfl rfl hl.1 rfl (lv_room (Nat.le_of_ble_eq_true rfl)) dX9_shown_53 ⟨(Nat.le_of_ble_eq_true rfl), (Nat.le_of_ble_eq_true rfl)⟩) hS (fun q9 _ h9 => hF672 q9 h9) hF672 (fun u676 r677 t676 H676 L676 ht676 hvm676 hw676 hB676 hz676 hk676 hS => ?_)
  obtain ⟨hr676, hB676⟩ := hB676
  obtain ⟨hP, hD, hK⟩ := pq_jn (wz := [(h0, ce21 h1 h2 h3 h4), (h1, ce331 h5), (h2, ce3 z.1), (h4, ce366 h7), (h5, ce330 kc0 h8 h9 h10 h11 h12 h13 h14), (h7, ce330 kc2 (z.2.2.1 128) (z.2.2.1 129) (z.2.2.1 130) (z.2.2.1 131) (z.2.2.1 132) (z.2.2.1 133) (z.2.2.1 134)), (h8, ce49), (h9, ce49), (h10, ce49), (h11, ce49), (h12, ce49), (h13, ce49), (h14, ce49), (a569, ce380 h3), (h3, ce331 h6), (h6, ce330 kc1 (z.2.2.1 128) (z.2.2.1 128) (z.2.2.1 128) (z.2.2.1 128) (z.2.2.1 128) (z.2.2.1 128) (z.2.2.1 128))]) (tz := [(kc0, .object "java/lang/Object"), (kc2, .object "java/lang/Object"), (kc1, .object "java/lang/Object")]) hP hD hK [13, 14, 15] [0, 1] rfl hk676 hF672 hB676.1 ht676 hvm676 rfl rfl
  have hG : s.heap.size + 679 ≤ H676.size := Nat.le_trans hG hz676
  refine W.eq (g2 := F0 m 58 ls [.ref (z.2.2.1 128)]) (by rw [hr676]) ?_
  refine va_castE (nm := "java/lang/Integer") hx hb hown (hts _ q_320) (va_Orecv (hX.2.2.1.1.1 128 (by decide)) hS) dX9_shown_58 ?_
  have hM680 := k74_intValue l hl9 dC dI z H676.size
  obtain ⟨hF678, hC681⟩ := pc_M hM680 hP hD hK hS hX hT hA [] [] rfl rfl rfl
  refine va_calli (va_runV (As := []) (rest := []) ⟨hx, hb, hml, hown, hts⟩ hM680 (cwV 0 hts (gV q_323 q_324 q_325 q_297 q_322) rfl rfl rfl hV_J6_intValue_8abf5 ⟨Nat.le_of_ble_eq_true rfl, Nat.le_of_ble_eq_true rfl⟩) ⟨pc_blind, va_Orecv (hX.2.2.1.1.1 128 (by decide)) hS, fun U hU hW => ⟨rfl, hC681 U hU hW⟩⟩ rfl rfl hl.1 rfl (lv_room (Nat.le_of_ble_eq_true rfl)) dX9_shown_61 ⟨(Nat.le_of_ble_eq_true rfl), (Nat.le_of_ble_eq_true rfl)⟩) hS (fun q9 _ h9 => hF678 q9 h9) hF678 (fun r683 u682 t682 H682 L682 ht682 hvm682 hw682 hB682 hz682 hk682 hS => ?_)
  have hP := pq_keep hP hD [] rfl hk682 hB682.1 ht682
  have hG : s.heap.size + 679 ≤ H682.size := Nat.le_trans hG hz682
  refine W.eq (g2 := F0 m 64 ls [.int 0]) (by rw [hw682]) ?_
  refine lv_istore (lv' := [(6, .int 0), (4, .int 0), (5, .ref a569), (3, .int 49), (1, .int 0), (2, .int 1), (0, .ref h0)]) hx hb dX9_shown_64 hl (by decide) rfl (fun ls hl => ?_)
  refine lv_iload hx hb dX9_shown_66 (lv_at hl 1 rfl) ?_
  refine lv_if_ne (tgt := 82) hx hb dX9_shown_68 (by decide) (fun cz => absurd (by decide) cz) (fun _ => ?_)
  refine lv_aload_n hx hb dX9_shown_71 rfl (lv_at hl 6 rfl) ?_
  refine lv_iload_n hx hb dX9_shown_72 rfl (lv_at hl 5 rfl) ?_
  refine lv_iload_n hx hb dX9_shown_73 rfl (lv_at hl 3 rfl) ?_
  refine lv_iload hx hb dX9_shown_74 (lv_at hl 0 rfl) ?_
  have hM686 := k965_showsIt l hl9 dC dI z h0 h1 h2 h4 h5 h7 h8 h9 h10 h11 h12 h13 h14 h3 H682.size kc0 kc2
  obtain ⟨hF684, hC687⟩ := pc_M hM686 hP hD hK hS hX hT hA [0, 1, 2, 3, 4, 5, 6, 7, 8, 9, 10, 11, 12] [0, 1] rfl rfl rfl
  refine va_calli (va_runV (As := [.int 1, .int 49, .int 0]) (rest := []) ⟨hx, hb, hml, hown, hts⟩ hM686 (cwV 3 hts (gV q_429 q_430 q_431 q_60 q_428) rfl rfl rfl hV_X9_showsIt ⟨Nat.le_of_ble_eq_true rfl, Nat.le_of_ble_eq_true rfl⟩) ⟨pc_blind, va_recv hK hP (ci := 8) (q := (RX9, TX9, 6)) (q0 := 0) rfl rfl, fun U hU hW => ⟨rfl, hC687 U hU hW⟩⟩ rfl rfl hl.1 rfl (lv_room (Nat.le_of_ble_eq_true rfl)) dX9_shown_76 ⟨(Nat.le_of_ble_eq_true rfl), (Nat.le_of_ble_eq_true rfl)⟩) hS (fun q9 _ h9 => hF684 q9 h9) hF684 (fun r689 u688 t688 H688 L688 ht688 hvm688 hw688 hB688 hz688 hk688 hS => ?_)
  have hP := pq_keep hP hD [0, 1, 2, 3, 4, 5, 6, 7, 8, 9, 10, 11, 12] rfl hk688 hB688.1 ht688
  have hG : s.heap.size + 706 ≤ H688.size := va_gr (g := 679) (g1 := 27) hG (by rw [← ht688]; exact hB688.2)
  refine W.eq (g2 := F0 m 79 ls [.int 0]) (by rw [hw688]) ?_
  refine W.widen (k := 706) (n := 6568) (by decide) (by decide) ?_
  refine lv_if_eq (tgt := 86) hx hb dX9_shown_79 (by decide) (fun _ => ?_) (fun cz => absurd (by decide) cz)
  refine lv_iconst (v := 0) hx hb dX9_shown_86 (by decide) ?_
  refine lv_istore (lv' := [(4, .int 0), (6, .int 0), (5, .ref a569), (3, .int 49), (1, .int 0), (2, .int 1), (0, .ref h0)]) hx hb dX9_shown_87 hl (by decide) rfl (fun ls hl => ?_)
  refine lv_goto (tgt := 41) hx hb dX9_shown_89 (by decide) ?_
  refine lv_aload hx hb dX9_shown_41 (lv_at hl 2 rfl) ?_
  have hM692 := k740_hasNext l hl9 dC dI z a569 h3 h6 H688.size
  obtain ⟨hF690, hC693⟩ := pc_M hM692 hP hD hK hS hX hT hA [13, 14] [] rfl rfl rfl
  refine va_callFi (va_runF (As := []) (rest := []) (hK.1 1 (RJx35411, TJx35411, 4) rfl).2 ⟨hx, hb, hml, hown, hts⟩ hM692 (va_cwF 0 hts (gF q_261 q_262 q_263 q_246 q_260) rfl rfl rfl hT.2.2.2.2.2.2.1 hF_xIh ⟨Nat.le_of_ble_eq_true rfl, Nat.le_of_ble_eq_true rfl⟩) ⟨pc_blind, va_recv hK hP (ci := 1) (q := (RJx35411, TJx35411, 4)) (q0 := 13) rfl rfl, fun U hU hW => ⟨rfl, hC693 U hU hW⟩⟩ rfl rfl hl.1 rfl (lv_room (Nat.le_of_ble_eq_true rfl)) dX9_shown_43 ⟨(Nat.le_of_ble_eq_true rfl), (Nat.le_of_ble_eq_true rfl)⟩) hS (fun q9 _ h9 => hF690 q9 h9) hF690 (fun r695 u694 t694 H694 L694 ht694 hvm694 hw694 hB694 hz694 hk694 hS => ?_)
  have hP := pq_keep hP hD [13, 14] rfl hk694 hB694.1 ht694
  have hG : s.heap.size + 706 ≤ H694.size := Nat.le_trans hG hz694
  refine W.eq (g2 := F0 m 48 ls [.int 1]) (by rw [hw694]) ?_
  refine lv_if_eq (tgt := 92) hx hb dX9_shown_48 (by decide) (fun cz => absurd cz (by decide)) (fun _ => ?_)
  refine lv_aload hx hb dX9_shown_51 (lv_at hl 2 rfl) ?_
  have hM698 := k958_next l hl9 dC dI z a569 h3 h6 H694.size kc1
  obtain ⟨hF696, hC699⟩ := pc_M hM698 hP hD hK hS hX hT hA [13, 14, 15] [2] rfl rfl rfl
  refine va_callFr (va_runF (As := []) (rest := []) (hK.1 1 (RJx35411, TJx35411, 4) rfl).2 ⟨hx, hb, hml, hown, hts⟩ hM698 (va_cwF 0 hts (gF q_308 q_309 q_310 q_246 q_307) rfl rfl rfl hT.2.2.2.2.2.2.2.1 hF_xIn ⟨Nat.le_of_ble_eq_true rfl, Nat.le_of_ble_eq_true rfl⟩) ⟨pc_blind, va_recv hK hP (ci := 1) (q := (RJx35411, TJx35411, 4)) (q0 := 13) rfl rfl, fun U hU hW => ⟨rfl, hC699 U hU hW⟩⟩ rfl rfl hl.1 rfl (lv_room (Nat.le_of_ble_eq_true rfl)) dX9_shown_53 ⟨(Nat.le_of_ble_eq_true rfl), (Nat.le_of_ble_eq_true rfl)⟩) hS (fun q9 _ h9 => hF696 q9 h9) hF696 (fun u700 r701 t700 H700 L700 ht700 hvm700 hw700 hB700 hz700 hk700 hS => ?_)
  obtain ⟨hr700, hB700⟩ := hB700
  obtain ⟨hP, hD, hK⟩ := pq_jn (wz := [(h0, ce21 h1 h2 h3 h4), (h1, ce331 h5), (h2, ce3 z.1), (h4, ce366 h7), (h5, ce330 kc0 h8 h9 h10 h11 h12 h13 h14), (h7, ce330 kc2 (z.2.2.1 128) (z.2.2.1 129) (z.2.2.1 130) (z.2.2.1 131) (z.2.2.1 132) (z.2.2.1 133) (z.2.2.1 134)), (h8, ce49), (h9, ce49), (h10, ce49), (h11, ce49), (h12, ce49), (h13, ce49), (h14, ce49), (a569, ce382 h3), (h3, ce331 h6), (h6, ce330 kc1 (z.2.2.1 128) (z.2.2.1 128) (z.2.2.1 128) (z.2.2.1 128) (z.2.2.1 128) (z.2.2.1 128) (z.2.2.1 128))]) (tz := [(kc0, .object "java/lang/Object"), (kc2, .object "java/lang/Object"), (kc1, .object "java/lang/Object")]) hP hD hK [13, 14, 15] [0, 1] rfl hk700 hF696 hB700.1 ht700 hvm700 rfl rfl
  have hG : s.heap.size + 706 ≤ H700.size := Nat.le_trans hG hz700
  refine W.eq (g2 := F0 m 58 ls [.ref (z.2.2.1 128)]) (by rw [hr700]) ?_
  refine va_castE (nm := "java/lang/Integer") hx hb hown (hts _ q_320) (va_Orecv (hX.2.2.1.1.1 128 (by decide)) hS) dX9_shown_58 ?_
  have hM704 := k74_intValue l hl9 dC dI z H700.size
  obtain ⟨hF702, hC705⟩ := pc_M hM704 hP hD hK hS hX hT hA [] [] rfl rfl rfl
  refine va_calli (va_runV (As := []) (rest := []) ⟨hx, hb, hml, hown, hts⟩ hM704 (cwV 0 hts (gV q_323 q_324 q_325 q_297 q_322) rfl rfl rfl hV_J6_intValue_8abf5 ⟨Nat.le_of_ble_eq_true rfl, Nat.le_of_ble_eq_true rfl⟩) ⟨pc_blind, va_Orecv (hX.2.2.1.1.1 128 (by decide)) hS, fun U hU hW => ⟨rfl, hC705 U hU hW⟩⟩ rfl rfl hl.1 rfl (lv_room (Nat.le_of_ble_eq_true rfl)) dX9_shown_61 ⟨(Nat.le_of_ble_eq_true rfl), (Nat.le_of_ble_eq_true rfl)⟩) hS (fun q9 _ h9 => hF702 q9 h9) hF702 (fun r707 u706 t706 H706 L706 ht706 hvm706 hw706 hB706 hz706 hk706 hS => ?_)
  have hP := pq_keep hP hD [] rfl hk706 hB706.1 ht706
  have hG : s.heap.size + 706 ≤ H706.size := Nat.le_trans hG hz706
  refine W.eq (g2 := F0 m 64 ls [.int 0]) (by rw [hw706]) ?_
  refine lv_istore (lv' := [(6, .int 0), (4, .int 0), (5, .ref a569), (3, .int 49), (1, .int 0), (2, .int 1), (0, .ref h0)]) hx hb dX9_shown_64 hl (by decide) rfl (fun ls hl => ?_)
  refine lv_iload hx hb dX9_shown_66 (lv_at hl 1 rfl) ?_
  refine lv_if_ne (tgt := 82) hx hb dX9_shown_68 (by decide) (fun cz => absurd (by decide) cz) (fun _ => ?_)
  refine lv_aload_n hx hb dX9_shown_71 rfl (lv_at hl 6 rfl) ?_
  refine lv_iload_n hx hb dX9_shown_72 rfl (lv_at hl 5 rfl) ?_
  refine lv_iload_n hx hb dX9_shown_73 rfl (lv_at hl 3 rfl) ?_
  refine lv_iload hx hb dX9_shown_74 (lv_at hl 0 rfl) ?_
  have hM710 := k965_showsIt l hl9 dC dI z h0 h1 h2 h4 h5 h7 h8 h9 h10 h11 h12 h13 h14 h3 H706.size kc0 kc2
  obtain ⟨hF708, hC711⟩ := pc_M hM710 hP hD hK hS hX hT hA [0, 1, 2, 3, 4, 5, 6, 7, 8, 9, 10, 11, 12] [0, 1] rfl rfl rfl
  refine va_calli (va_runV (As := [.int 1, .int 49, .int 0]) (rest := []) ⟨hx, hb, hml, hown, hts⟩ hM710 (cwV 3 hts (gV q_429 q_430 q_431 q_60 q_428) rfl rfl rfl hV_X9_showsIt ⟨Nat.le_of_ble_eq_true rfl, Nat.le_of_ble_eq_true rfl⟩) ⟨pc_blind, va_recv hK hP (ci := 8) (q := (RX9, TX9, 6)) (q0 := 0) rfl rfl, fun U hU hW => ⟨rfl, hC711 U hU hW⟩⟩ rfl rfl hl.1 rfl (lv_room (Nat.le_of_ble_eq_true rfl)) dX9_shown_76 ⟨(Nat.le_of_ble_eq_true rfl), (Nat.le_of_ble_eq_true rfl)⟩) hS (fun q9 _ h9 => hF708 q9 h9) hF708 (fun r713 u712 t712 H712 L712 ht712 hvm712 hw712 hB712 hz712 hk712 hS => ?_)
  have hP := pq_keep hP hD [0, 1, 2, 3, 4, 5, 6, 7, 8, 9, 10, 11, 12] rfl hk712 hB712.1 ht712
  have hG : s.heap.size + 733 ≤ H712.size := va_gr (g := 706) (g1 := 27) hG (by rw [← ht712]; exact hB712.2)
  refine W.eq (g2 := F0 m 79 ls [.int 0]) (by rw [hw712]) ?_
  refine W.widen (k := 733) (n := 6820) (by decide) (by decide) ?_
  refine lv_if_eq (tgt := 86) hx hb dX9_shown_79 (by decide) (fun _ => ?_) (fun cz => absurd (by decide) cz)
  refine lv_iconst (v := 0) hx hb dX9_shown_86 (by decide) ?_
  refine lv_istore (lv' := [(4, .int 0), (6, .int 0), (5, .ref a569), (3, .int 49), (1, .int 0), (2, .int 1), (0, .ref h0)]) hx hb dX9_shown_87 hl (by decide) rfl (fun ls hl => ?_)
  refine lv_goto (tgt := 41) hx hb dX9_shown_89 (by decide) ?_
  refine lv_aload hx hb dX9_shown_41 (lv_at hl 2 rfl) ?_
  have hM716 := k743_hasNext l hl9 dC dI z a569 h3 h6 H712.size
  obtain ⟨hF714, hC717⟩ := pc_M hM716 hP hD hK hS hX hT hA [13, 14] [] rfl rfl rfl
  refine va_callFi (va_runF (As := []) (rest := []) (hK.1 1 (RJx35411, TJx35411, 4) rfl).2 ⟨hx, hb, hml, hown, hts⟩ hM716 (va_cwF 0 hts (gF q_261 q_262 q_263 q_246 q_260) rfl rfl rfl hT.2.2.2.2.2.2.1 hF_xIh ⟨Nat.le_of_ble_eq_true rfl, Nat.le_of_ble_eq_true rfl⟩) ⟨pc_blind, va_recv hK hP (ci := 1) (q := (RJx35411, TJx35411, 4)) (q0 := 13) rfl rfl, fun U hU hW => ⟨rfl, hC717 U hU hW⟩⟩ rfl rfl hl.1 rfl (lv_room (Nat.le_of_ble_eq_true rfl)) dX9_shown_43 ⟨(Nat.le_of_ble_eq_true rfl), (Nat.le_of_ble_eq_true rfl)⟩) hS (fun q9 _ h9 => hF714 q9 h9) hF714 (fun r719 u718 t718 H718 L718 ht718 hvm718 hw718 hB718 hz718 hk718 hS => ?_)
  have hP := pq_keep hP hD [13, 14] rfl hk718 hB718.1 ht718
  have hG : s.heap.size + 733 ≤ H718.size := Nat.le_trans hG hz718
  refine W.eq (g2 := F0 m 48 ls [.int 1]) (by rw [hw718]) ?_
  refine lv_if_eq (tgt := 92) hx hb dX9_shown_48 (by decide) (fun cz => absurd cz (by decide)) (fun _ => ?_)
  refine lv_aload hx hb dX9_shown_51 (lv_at hl 2 rfl) ?_
  have hM722 := k959_next l hl9 dC dI z a569 h3 h6 H718.size kc1
  obtain ⟨hF720, hC723⟩ := pc_M hM722 hP hD hK hS hX hT hA [13, 14, 15] [2] rfl rfl rfl
  refine va_callFr (va_runF (As := []) (rest := []) (hK.1 1 (RJx35411, TJx35411, 4) rfl).2 ⟨hx, hb, hml, hown, hts⟩ hM722 (va_cwF 0 hts (gF q_308 q_309 q_310 q_246 q_307) rfl rfl rfl hT.2.2.2.2.2.2.2.1 hF_xIn ⟨Nat.le_of_ble_eq_true rfl, Nat.le_of_ble_eq_true rfl⟩) ⟨pc_blind, va_recv hK hP (ci := 1) (q := (RJx35411, TJx35411, 4)) (q0 := 13) rfl rfl, fun U hU hW => ⟨rfl, hC723 U hU hW⟩⟩ rfl rfl hl.1 rfl (lv_room (Nat.le_of_ble_eq_true rfl)) dX9_shown_53 ⟨(Nat.le_of_ble_eq_true rfl), (Nat.le_of_ble_eq_true rfl)⟩) hS (fun q9 _ h9 => hF720 q9 h9) hF720 (fun u724 r725 t724 H724 L724 ht724 hvm724 hw724 hB724 hz724 hk724 hS => ?_)
  obtain ⟨hr724, hB724⟩ := hB724
  obtain ⟨hP, hD, hK⟩ := pq_jn (wz := [(h0, ce21 h1 h2 h3 h4), (h1, ce331 h5), (h2, ce3 z.1), (h4, ce366 h7), (h5, ce330 kc0 h8 h9 h10 h11 h12 h13 h14), (h7, ce330 kc2 (z.2.2.1 128) (z.2.2.1 129) (z.2.2.1 130) (z.2.2.1 131) (z.2.2.1 132) (z.2.2.1 133) (z.2.2.1 134)), (h8, ce49), (h9, ce49), (h10, ce49), (h11, ce49), (h12, ce49), (h13, ce49), (h14, ce49), (a569, ce384 h3), (h3, ce331 h6), (h6, ce330 kc1 (z.2.2.1 128) (z.2.2.1 128) (z.2.2.1 128) (z.2.2.1 128) (z.2.2.1 128) (z.2.2.1 128) (z.2.2.1 128))]) (tz := [(kc0, .object "java/lang/Object"), (kc2, .object "java/lang/Object"), (kc1, .object "java/lang/Object")]) hP hD hK [13, 14, 15] [0, 1] rfl hk724 hF720 hB724.1 ht724 hvm724 rfl rfl
  have hG : s.heap.size + 733 ≤ H724.size := Nat.le_trans hG hz724
  refine W.eq (g2 := F0 m 58 ls [.ref (z.2.2.1 128)]) (by rw [hr724]) ?_
  refine va_castE (nm := "java/lang/Integer") hx hb hown (hts _ q_320) (va_Orecv (hX.2.2.1.1.1 128 (by decide)) hS) dX9_shown_58 ?_
  have hM728 := k74_intValue l hl9 dC dI z H724.size
  obtain ⟨hF726, hC729⟩ := pc_M hM728 hP hD hK hS hX hT hA [] [] rfl rfl rfl
  refine va_calli (va_runV (As := []) (rest := []) ⟨hx, hb, hml, hown, hts⟩ hM728 (cwV 0 hts (gV q_323 q_324 q_325 q_297 q_322) rfl rfl rfl hV_J6_intValue_8abf5 ⟨Nat.le_of_ble_eq_true rfl, Nat.le_of_ble_eq_true rfl⟩) ⟨pc_blind, va_Orecv (hX.2.2.1.1.1 128 (by decide)) hS, fun U hU hW => ⟨rfl, hC729 U hU hW⟩⟩ rfl rfl hl.1 rfl (lv_room (Nat.le_of_ble_eq_true rfl)) dX9_shown_61 ⟨(Nat.le_of_ble_eq_true rfl), (Nat.le_of_ble_eq_true rfl)⟩) hS (fun q9 _ h9 => hF726 q9 h9) hF726 (fun r731 u730 t730 H730 L730 ht730 hvm730 hw730 hB730 hz730 hk730 hS => ?_)
  have hP := pq_keep hP hD [] rfl hk730 hB730.1 ht730
  have hG : s.heap.size + 733 ≤ H730.size := Nat.le_trans hG hz730
  refine W.eq (g2 := F0 m 64 ls [.int 0]) (by rw [hw730]) ?_
  refine lv_istore (lv' := [(6, .int 0), (4, .int 0), (5, .ref a569), (3, .int 49), (1, .int 0), (2, .int 1), (0, .ref h0)]) hx hb dX9_shown_64 hl (by decide) rfl (fun ls hl => ?_)
  refine lv_iload hx hb dX9_shown_66 (lv_at hl 1 rfl) ?_
  refine lv_if_ne (tgt := 82) hx hb dX9_shown_68 (by decide) (fun cz => absurd (by decide) cz) (fun _ => ?_)
  refine lv_aload_n hx hb dX9_shown_71 rfl (lv_at hl 6 rfl) ?_
  refine lv_iload_n hx hb dX9_shown_72 rfl (lv_at hl 5 rfl) ?_
  refine lv_iload_n hx hb dX9_shown_73 rfl (lv_at hl 3 rfl) ?_
  refine lv_iload hx hb dX9_shown_74 (lv_at hl 0 rfl) ?_
  have hM734 := k965_showsIt l hl9 dC dI z h0 h1 h2 h4 h5 h7 h8 h9 h10 h11 h12 h13 h14 h3 H730.size kc0 kc2
  obtain ⟨hF732, hC735⟩ := pc_M hM734 hP hD hK hS hX hT hA [0, 1, 2, 3, 4, 5, 6, 7, 8, 9, 10, 11, 12] [0, 1] rfl rfl rfl
  refine va_calli (va_runV (As := [.int 1, .int 49, .int 0]) (rest := []) ⟨hx, hb, hml, hown, hts⟩ hM734 (cwV 3 hts (gV q_429 q_430 q_431 q_60 q_428) rfl rfl rfl hV_X9_showsIt ⟨Nat.le_of_ble_eq_true rfl, Nat.le_of_ble_eq_true rfl⟩) ⟨pc_blind, va_recv hK hP (ci := 8) (q := (RX9, TX9, 6)) (q0 := 0) rfl rfl, fun U hU hW => ⟨rfl, hC735 U hU hW⟩⟩ rfl rfl hl.1 rfl (lv_room (Nat.le_of_ble_eq_true rfl)) dX9_shown_76 ⟨(Nat.le_of_ble_eq_true rfl), (Nat.le_of_ble_eq_true rfl)⟩) hS (fun q9 _ h9 => hF732 q9 h9) hF732 (fun r737 u736 t736 H736 L736 ht736 hvm736 hw736 hB736 hz736 hk736 hS => ?_)
  have hP := pq_keep hP hD [0, 1, 2, 3, 4, 5, 6, 7, 8, 9, 10, 11, 12] rfl hk736 hB736.1 ht736
  have hG : s.heap.size + 760 ≤ H736.size := va_gr (g := 733) (g1 := 27) hG (by rw [← ht736]; exact hB736.2)
  refine W.eq (g2 := F0 m 79 ls [.int 0]) (by rw [hw736]) ?_
  refine W.widen (k := 760) (n := 7072) (by decide) (by decide) ?_
  refine lv_if_eq (tgt := 86) hx hb dX9_shown_79 (by decide) (fun _ => ?_) (fun cz => absurd (by decide) cz)
  refine lv_iconst (v := 0) hx hb dX9_shown_86 (by decide) ?_
  refine lv_istore (lv' := [(4, .int 0), (6, .int 0), (5, .ref a569), (3, .int 49), (1, .int 0), (2, .int 1), (0, .ref h0)]) hx hb dX9_shown_87 hl (by decide) rfl (fun ls hl => ?_)
  refine lv_goto (tgt := 41) hx hb dX9_shown_89 (by decide) ?_
  refine lv_aload hx hb dX9_shown_41 (lv_at hl 2 rfl) ?_
  have hM740 := k746_hasNext l hl9 dC dI z a569 h3 h6 H736.size
  obtain ⟨hF738, hC741⟩ := pc_M hM740 hP hD hK hS hX hT hA [13, 14] [] rfl rfl rfl
  refine va_callFi (va_runF (As := []) (rest := []) (hK.1 1 (RJx35411, TJx35411, 4) rfl).2 ⟨hx, hb, hml, hown, hts⟩ hM740 (va_cwF 0 hts (gF q_261 q_262 q_263 q_246 q_260) rfl rfl rfl hT.2.2.2.2.2.2.1 hF_xIh ⟨Nat.le_of_ble_eq_true rfl, Nat.le_of_ble_eq_true rfl⟩) ⟨pc_blind, va_recv hK hP (ci := 1) (q := (RJx35411, TJx35411, 4)) (q0 := 13) rfl rfl, fun U hU hW => ⟨rfl, hC741 U hU hW⟩⟩ rfl rfl hl.1 rfl (lv_room (Nat.le_of_ble_eq_true rfl)) dX9_shown_43 ⟨(Nat.le_of_ble_eq_true rfl), (Nat.le_of_ble_eq_true rfl)⟩) hS (fun q9 _ h9 => hF738 q9 h9) hF738 (fun r743 u742 t742 H742 L742 ht742 hvm742 hw742 hB742 hz742 hk742 hS => ?_)
  have hP := pq_keep hP hD [13, 14] rfl hk742 hB742.1 ht742
  have hG : s.heap.size + 760 ≤ H742.size := Nat.le_trans hG hz742
  refine W.eq (g2 := F0 m 48 ls [.int 0]) (by rw [hw742]) ?_
  refine lv_if_eq (tgt := 92) hx hb dX9_shown_48 (by decide) (fun _ => ?_) (fun cz => absurd (by decide) cz)
  refine lv_iload_n hx hb dX9_shown_92 rfl (lv_at hl 4 rfl) ?_
  refine lv_iload hx hb dX9_shown_93 (lv_at hl 0 rfl) ?_
  refine lv_if_eq (tgt := 102) hx hb dX9_shown_95 (by decide) (fun _ => ?_) (fun cz => absurd (by decide) cz)
  refine lv_iconst (v := 0) hx hb dX9_shown_102 (by decide) ?_
  refine lv_iadd hx hb dX9_shown_103 ?_
  refine lv_topi (fun y744 ey744 => ?_)
  obtain rfl : y744 = 0 := ey744.trans (by decide)
  refine lv_istore_n (lv' := [(1, .int 0), (4, .int 0), (6, .int 0), (5, .ref a569), (3, .int 49), (2, .int 1), (0, .ref h0)]) hx hb dX9_shown_104 rfl hl (by decide) rfl (fun ls hl => ?_)
  refine lv_iload_n hx hb dX9_shown_105 rfl (lv_at hl 4 rfl) ?_
  refine lv_iconst (v := 1) hx hb dX9_shown_106 (by decide) ?_
  refine lv_iadd hx hb dX9_shown_107 ?_
  refine lv_topi (fun y745 ey745 => ?_)
  obtain rfl : y745 = 50 := ey745.trans (by decide)
  refine lv_i2c (v := 50) hx hb dX9_shown_108 (by decide) ?_
  refine lv_istore_n (lv' := [(3, .int 50), (1, .int 0), (4, .int 0), (6, .int 0), (5, .ref a569), (2, .int 1), (0, .ref h0)]) hx hb dX9_shown_109 rfl hl (by decide) rfl (fun ls hl => ?_)
  refine lv_goto (tgt := 23) hx hb dX9_shown_110 (by decide) ?_
  exact hend _ _ _ hS (hP.sub [0, 1, 2, 14, 3, 4, 15, 5, 6, 7, 8, 9, 10, 11, 12] rfl) (hD.sub [0, 1, 2, 14, 3, 4, 15, 5, 6, 7, 8, 9, 10, 11, 12] rfl rfl) (lv_sub hl [0, 1, 5, 6] rfl) hG

set_option maxHeartbeats 8000000 in
set_option maxRecDepth 100000 in
theorem k986_shown_g6 {p : Program} {l : Launch} {e : Env} {s : State} {m : MethodId} {args : Array Value} {below : List Frame} {meth : Method} {c : Code} {Q : State → Prop} {A : Nat → Prop} {H : Heap} {locs : List Loc} {ls : Array Slot} {dC : Nat → ClassId} {dI : Nat → Nat → Nat} {z : XZ} {h0 h1 h2 h3 h4 h5 h6 h7 h8 h9 h10 h11 h12 h13 h14 : Nat} {kc0 kc1 kc2 : ClassId} (hl9 : l.stackTraces = false) (hx : p.tables.exec = Jvm.exec) (hb : c.code = cX9_shown) (hml : c.maxLocals = 7) (hown : s.vm.findClass RX9 = some m.cls) (hts : ∀ w ∈ wsL_law, w.before args s = true) (hA : ∀ q : Nat, s.heap.size ≤ q → A q) (hX : XE z A s s.heap) (hT : XT s) (hS : va_S A s.heap H locs) (hP : va_P (dC, dI) xCl [(h0, ce21 h1 h2 h3 h4), (h1, ce331 h5), (h2, ce3 z.1), (h3, ce331 h6), (h4, ce366 h7), (h5, ce330 kc0 h8 h9 h10 h11 h12 h13 h14), (h6, ce330 kc1 (z.2.2.1 128) (z.2.2.1 128) (z.2.2.1 128) (z.2.2.1 128) (z.2.2.1 128) (z.2.2.1 128) (z.2.2.1 128)), (h7, ce330 kc2 (z.2.2.1 128) (z.2.2.1 129) (z.2.2.1 130) (z.2.2.1 131) (z.2.2.1 132) (z.2.2.1 133) (z.2.2.1 134)), (h8, ce49), (h9, ce49), (h10, ce49), (h11, ce49), (h12, ce49), (h13, ce49), (h14, ce49)] H) (hD : va_D A [(h0, ce21 h1 h2 h3 h4), (h1, ce331 h5), (h2, ce3 z.1), (h3, ce331 h6), (h4, ce366 h7), (h5, ce330 kc0 h8 h9 h10 h11 h12 h13 h14), (h6, ce330 kc1 (z.2.2.1 128) (z.2.2.1 128) (z.2.2.1 128) (z.2.2.1 128) (z.2.2.1 128) (z.2.2.1 128) (z.2.2.1 128)), (h7, ce330 kc2 (z.2.2.1 128) (z.2.2.1 129) (z.2.2.1 130) (z.2.2.1 131) (z.2.2.1 132) (z.2.2.1 133) (z.2.2.1 134)), (h8, ce49), (h9, ce49), (h10, ce49), (h11, ce49), (h12, ce49), (h13, ce49), (h14, ce49)]) (hK : va_K (dC, dI) xCl [(kc0, .object "java/lang/Object"), (kc1, .object "java/lang/Object"), (kc2, .object "java/lang/Object")] s) (hl : lv_has ls 7 [(3, .int 50), (1, .int 0), (2, .int 1), (0, .ref h0)]) (hG : s.heap.size + 760 ≤ H.size) (hend : ∀ (H' : Heap) (locs' : List Loc) (ls' : Array Slot), va_S A s.heap H' locs' → va_P (dC, dI) xCl [(h0, ce21 h1 h2 h3 h4), (h1, ce331 h5), (h2, ce3 z.1), (h3, ce331 h6), (h4, ce366 h7), (h5, ce330 kc0 h8 h9 h10 h11 h12 h13 h14), (h6, ce330 kc1 (z.2.2.1 128) (z.2.2.1 128) (z.2.2.1 128) (z.2.2.1 128) (z.2.2.1 128) (z.2.2.1 128) (z.2.2.1 128)), (h7, ce330 kc2 (z.2.2.1 128) (z.2.2.1 129) (z.2.2.1 130) (z.2.2.1 131) (z.2.2.1 132) (z.2.2.1 133) (z.2.2.1 134)), (h8, ce49), (h9, ce49), (h10, ce49), (h11, ce49), (h12, ce49), (h13, ce49), (h14, ce49)] H' → va_D A [(h0, ce21 h1 h2 h3 h4), (h1, ce331 h5), (h2, ce3 z.1), (h3, ce331 h6), (h4, ce366 h7), (h5, ce330 kc0 h8 h9 h10 h11 h12 h13 h14), (h6, ce330 kc1 (z.2.2.1 128) (z.2.2.1 128) (z.2.2.1 128) (z.2.2.1 128) (z.2.2.1 128) (z.2.2.1 128) (z.2.2.1 128)), (h7, ce330 kc2 (z.2.2.1 128) (z.2.2.1 129) (z.2.2.1 130) (z.2.2.1 131) (z.2.2.1 132) (z.2.2.1 133) (z.2.2.1 134)), (h8, ce49), (h9, ce49), (h10, ce49), (h11, ce49), (h12, ce49), (h13, ce49), (h14, ce49)] → lv_has ls' 7 [(3, .int 48), (2, .int 2), (1, .int 0), (0, .ref h0)] → s.heap.size + 760 ≤ H'.size → W p l e ({ frames := 5, cells := 2660, slots := 24752, locals := 121 } : Room) s m args below meth c H' locs' 760 7072 Q (F0 m 23 ls' [])) : W p l e ({ frames := 5, cells := 2660, slots := 24752, locals := 121 } : Room) s m args below meth c H locs 760 7072 Q (F0 m 23 ls []) := by
  refine lv_iload_n hx hb dX9_shown_23 rfl (lv_at hl 0 rfl) ?_
  refine lv_bipush (v := 49) hx hb dX9_shown_24 (by decide) ?_
  refine lv_icmp_gt (tgt := 113) hx hb dX9_shown_26 (by decide) (fun _ => ?_) (fun cz => absurd (by decide) cz)
  refine lv_iinc (v := 2) (lv' := [(2, .int 2), (3, .int 50), (1, .int 0), (0, .ref h0)]) hx hb dX9_shown_113 hl (k := 2) rfl (by decide) (by decide) rfl (fun ls hl => ?_)
  refine lv_goto (tgt := 9) hx hb dX9_shown_116 (by decide) ?_
  refine lv_iload_n hx hb dX9_shown_9 rfl (lv_at hl 0 rfl) ?_
  refine lv_aload_n hx hb dX9_shown_10 rfl (lv_at hl 3 rfl) ?_
  refine va_get (D := (dC, dI)) (ci := 8) (v := .ref h1) (C := RX9) (T := TX9) (N := 6) hx hb hts in_X9 hown hK hP 0 rfl rfl 1 (by decide) (hts _ q_64) (fun _ h9 => h9) rfl dX9_shown_11 ?_
  have hM748 := k20_size l hl9 dC dI z h1 h5 H.size 7 7
  obtain ⟨hF746, hC749⟩ := pc_M hM748 hP hD hK hS hX hT hA [1] [] rfl rfl rfl
  refine va_calli (va_runV (As := []) (rest := [.int 2]) ⟨hx, hb, hml, hown, hts⟩ hM748 (cwV 0 hts (gV q_272 q_77 q_78 q_12 q_75) rfl rfl rfl hV_Jx4a65c_size_8abf5 ⟨Nat.le_of_ble_eq_true rfl, Nat.le_of_ble_eq_true rfl⟩) ⟨pc_blind, va_recv hK hP (ci := 0) (q := (RJx4a65c, TJx4a65c, 3)) (q0 := 1) rfl rfl, fun U hU hW => ⟨rfl, hC749 U hU hW⟩⟩ rfl rfl hl.1 rfl (lv_room (Nat.le_of_ble_eq_true rfl)) dX9_shown_14 ⟨(Nat.le_of_ble_eq_true rfl), (Nat.le_of_ble_eq_true rfl)⟩) hS (fun q9 _ h9 => hF746 q9 h9) hF746 (fun r751 u750 t750 H750 L750 ht750 hvm750 hw750 hB750 hz750 hk750 hS => ?_)
  have hP := pq_keep hP hD [1] rfl hk750 hB750.1 ht750
  have hG : s.heap.size + 760 ≤ H750.size := Nat.le_trans hG hz750
  refine W.eq (g2 := F0 m 17 ls [.int 7, .int 2]) (by rw [hw750]) ?_
  refine lv_icmp_ge (tgt := 119) hx hb dX9_shown_17 (by decide) (fun cz => absurd cz (by decide)) (fun _ => ?_)
  refine lv_bipush (v := 48) hx hb dX9_shown_20 (by decide) ?_
  refine lv_istore_n (lv' := [(3, .int 48), (2, .int 2), (1, .int 0), (0, .ref h0)]) hx hb dX9_shown_22 rfl hl (by decide) rfl (fun ls hl => ?_)
  exact hend _ _ _ hS (hP.sub [0, 1, 2, 3, 4, 5, 6, 7, 8, 9, 10, 11, 12, 13, 14] rfl) (hD.sub [0, 1, 2, 3, 4, 5, 6, 7, 8, 9, 10, 11, 12, 13, 14] rfl rfl) (lv_sub hl [0, 1, 2, 3] rfl) hG

set_option maxHeartbeats 8000000 in
set_option maxRecDepth 100000 in
theorem k986_shown_g7 {p : Program} {l : Launch} {e : Env} {s : State} {m : MethodId} {args : Array Value} {below : List Frame} {meth : Method} {c : Code} {Q : State → Prop} {A : Nat → Prop} {H : Heap} {locs : List Loc} {ls : Array Slot} {dC : Nat → ClassId} {dI : Nat → Nat → Nat} {z : XZ} {h0 h1 h2 h3 h4 h5 h6 h7 h8 h9 h10 h11 h12 h13 h14 : Nat} {kc0 kc1 kc2 : ClassId} (hl9 : l.stackTraces = false) (hx : p.tables.exec = Jvm.exec) (hb : c.code = cX9_shown) (hml : c.maxLocals = 7) (hown : s.vm.findClass RX9 = some m.cls) (hts : ∀ w ∈ wsL_law, w.before args s = true) (hA : ∀ q : Nat, s.heap.size ≤ q → A q) (hX : XE z A s s.heap) (hT : XT s) (hS : va_S A s.heap H locs) (hP : va_P (dC, dI) xCl [(h0, ce21 h1 h2 h3 h4), (h1, ce331 h5), (h2, ce3 z.1), (h3, ce331 h6), (h4, ce366 h7), (h5, ce330 kc0 h8 h9 h10 h11 h12 h13 h14), (h6, ce330 kc1 (z.2.2.1 128) (z.2.2.1 128) (z.2.2.1 128) (z.2.2.1 128) (z.2.2.1 128) (z.2.2.1 128) (z.2.2.1 128)), (h7, ce330 kc2 (z.2.2.1 128) (z.2.2.1 129) (z.2.2.1 130) (z.2.2.1 131) (z.2.2.1 132) (z.2.2.1 133) (z.2.2.1 134)), (h8, ce49), (h9, ce49), (h10, ce49), (h11, ce49), (h12, ce49), (h13, ce49), (h14, ce49)] H) (hD : va_D A [(h0, ce21 h1 h2 h3 h4), (h1, ce331 h5), (h2, ce3 z.1), (h3, ce331 h6), (h4, ce366 h7), (h5, ce330 kc0 h8 h9 h10 h11 h12 h13 h14), (h6, ce330 kc1 (z.2.2.1 128) (z.2.2.1 128) (z.2.2.1 128) (z.2.2.1 128) (z.2.2.1 128) (z.2.2.1 128) (z.2.2.1 128)), (h7, ce330 kc2 (z.2.2.1 128) (z.2.2.1 129) (z.2.2.1 130) (z.2.2.1 131) (z.2.2.1 132) (z.2.2.1 133) (z.2.2.1 134)), (h8, ce49), (h9, ce49), (h10, ce49), (h11, ce49), (h12, ce49), (h13, ce49), (h14, ce49)]) (hK : va_K (dC, dI) xCl [(kc0, .object "java/lang/Object"), (kc1, .object "java/lang/Object"), (kc2, .object "java/lang/Object")] s) (hl : lv_has ls 7 [(3, .int 48), (2, .int 2), (1, .int 0), (0, .ref h0)]) (hG : s.heap.size + 760 ≤ H.size) (hend : ∀ (H' : Heap) (locs' : List Loc) (ls' : Array Slot), va_S A s.heap H' locs' → va_P (dC, dI) xCl [(h0, ce21 h1 h2 h3 h4), (h1, ce331 h5), (h2, ce3 z.1), (h3, ce331 h6), (h4, ce366 h7), (h5, ce330 kc0 h8 h9 h10 h11 h12 h13 h14), (h6, ce330 kc1 (z.2.2.1 128) (z.2.2.1 128) (z.2.2.1 128) (z.2.2.1 128) (z.2.2.1 128) (z.2.2.1 128) (z.2.2.1 128)), (h7, ce330 kc2 (z.2.2.1 128) (z.2.2.1 129) (z.2.2.1 130) (z.2.2.1 131) (z.2.2.1 132) (z.2.2.1 133) (z.2.2.1 134)), (h8, ce49), (h9, ce49), (h10, ce49), (h11, ce49), (h12, ce49), (h13, ce49), (h14, ce49)] H' → va_D A [(h0, ce21 h1 h2 h3 h4), (h1, ce331 h5), (h2, ce3 z.1), (h3, ce331 h6), (h4, ce366 h7), (h5, ce330 kc0 h8 h9 h10 h11 h12 h13 h14), (h6, ce330 kc1 (z.2.2.1 128) (z.2.2.1 128) (z.2.2.1 128) (z.2.2.1 128) (z.2.2.1 128) (z.2.2.1 128) (z.2.2.1 128)), (h7, ce330 kc2 (z.2.2.1 128) (z.2.2.1 129) (z.2.2.1 130) (z.2.2.1 131) (z.2.2.1 132) (z.2.2.1 133) (z.2.2.1 134)), (h8, ce49), (h9, ce49), (h10, ce49), (h11, ce49), (h12, ce49), (h13, ce49), (h14, ce49)] → lv_has ls' 7 [(3, .int 49), (1, .int 0), (2, .int 2), (0, .ref h0)] → s.heap.size + 950 ≤ H'.size → W p l e ({ frames := 5, cells := 2660, slots := 24752, locals := 121 } : Room) s m args below meth c H' locs' 950 8840 Q (F0 m 23 ls' [])) : W p l e ({ frames := 5, cells := 2660, slots := 24752, locals := 121 } : Room) s m args below meth c H locs 760 7072 Q (F0 m 23 ls []) := by
  refine lv_iload_n hx hb dX9_shown_23 rfl (lv_at hl 0 rfl) ?_
  refine lv_bipush (v := 49) hx hb dX9_shown_24 (by decide) ?_
  refine lv_icmp_gt (tgt := 113) hx hb dX9_shown_26 (by decide) (fun cz => absurd cz (by decide)) (fun _ => ?_)
  refine lv_iconst (v := 0) hx hb dX9_shown_29 (by decide) ?_
  refine lv_istore (lv' := [(4, .int 0), (3, .int 48), (2, .int 2), (1, .int 0), (0, .ref h0)]) hx hb dX9_shown_30 hl (by decide) rfl (fun ls hl => ?_)
  refine lv_aload_n hx hb dX9_shown_32 rfl (lv_at hl 4 rfl) ?_
  refine va_get (D := (dC, dI)) (ci := 8) (v := .ref h3) (C := RX9) (T := TX9) (N := 6) hx hb hts in_X9 hown hK hP 0 rfl rfl 3 (by decide) (hts _ q_66) (fun _ h9 => h9) rfl dX9_shown_33 ?_
  have hM754 := k724_iterator l hl9 dC dI z h3 h6 H.size
  obtain ⟨hF752, hC755⟩ := pc_M hM754 hP hD hK hS hX hT hA [3] [] rfl rfl rfl
  refine va_callr (va_runV (As := []) (rest := []) ⟨hx, hb, hml, hown, hts⟩ hM754 (cwV 0 hts (gV q_256 q_257 q_258 q_12 q_255) rfl rfl rfl hV_Jx4a65c_iterator_32c93 ⟨Nat.le_of_ble_eq_true rfl, Nat.le_of_ble_eq_true rfl⟩) ⟨pc_blind, va_recv hK hP (ci := 0) (q := (RJx4a65c, TJx4a65c, 3)) (q0 := 3) rfl rfl, fun U hU hW => ⟨rfl, hC755 U hU hW⟩⟩ rfl rfl hl.1 rfl (lv_room (Nat.le_of_ble_eq_true rfl)) dX9_shown_36 ⟨(Nat.le_of_ble_eq_true rfl), (Nat.le_of_ble_eq_true rfl)⟩) hS (fun q9 _ h9 => hF752 q9 h9) hF752 (fun u756 r757 t756 H756 L756 ht756 hvm756 hw756 hB756 hz756 hk756 hS => ?_)
  obtain ⟨a758, hr756, hB756⟩ := hB756
  obtain ⟨hP, hD, hK⟩ := pq_jn (wz := [(h0, ce21 h1 h2 h3 h4), (h1, ce331 h5), (h2, ce3 z.1), (h4, ce366 h7), (h5, ce330 kc0 h8 h9 h10 h11 h12 h13 h14), (h6, ce330 kc1 (z.2.2.1 128) (z.2.2.1 128) (z.2.2.1 128) (z.2.2.1 128) (z.2.2.1 128) (z.2.2.1 128) (z.2.2.1 128)), (h7, ce330 kc2 (z.2.2.1 128) (z.2.2.1 129) (z.2.2.1 130) (z.2.2.1 131) (z.2.2.1 132) (z.2.2.1 133) (z.2.2.1 134)), (h8, ce49), (h9, ce49), (h10, ce49), (h11, ce49), (h12, ce49), (h13, ce49), (h14, ce49), (h3, ce331 h6), (a758, ce370 h3)]) (tz := [(kc0, .object "java/lang/Object"), (kc1, .object "java/lang/Object"), (kc2, .object "java/lang/Object")]) hP hD hK [3] [0, 1, 2] rfl hk756 hF752 hB756.1 ht756 hvm756 rfl rfl
  have hG : s.heap.size + 761 ≤ H756.size := va_gr (g := 760) (g1 := 1) hG (by rw [← ht756]; exact hB756.2)
  refine W.eq (g2 := F0 m 39 ls [.ref a758]) (by rw [hr756]) ?_
  refine W.widen (k := 761) (n := 7076) (by decide) (by decide) ?_
  refine lv_astore (lv' := [(5, .ref a758), (4, .int 0), (3, .int 48), (2, .int 2), (1, .int 0), (0, .ref h0)]) hx hb dX9_shown_39 hl (by decide) rfl (fun ls hl => ?_)
  refine lv_aload hx hb dX9_shown_41 (lv_at hl 0 rfl) ?_
  have hM761 := k725_hasNext l hl9 dC dI z a758 h3 h6 H756.size
  obtain ⟨hF759, hC762⟩ := pc_M hM761 hP hD hK hS hX hT hA [15, 14] [] rfl rfl rfl
  refine va_callFi (va_runF (As := []) (rest := []) (hK.1 1 (RJx35411, TJx35411, 4) rfl).2 ⟨hx, hb, hml, hown, hts⟩ hM761 (va_cwF 0 hts (gF q_261 q_262 q_263 q_246 q_260) rfl rfl rfl hT.2.2.2.2.2.2.1 hF_xIh ⟨Nat.le_of_ble_eq_true rfl, Nat.le_of_ble_eq_true rfl⟩) ⟨pc_blind, va_recv hK hP (ci := 1) (q := (RJx35411, TJx35411, 4)) (q0 := 15) rfl rfl, fun U hU hW => ⟨rfl, hC762 U hU hW⟩⟩ rfl rfl hl.1 rfl (lv_room (Nat.le_of_ble_eq_true rfl)) dX9_shown_43 ⟨(Nat.le_of_ble_eq_true rfl), (Nat.le_of_ble_eq_true rfl)⟩) hS (fun q9 _ h9 => hF759 q9 h9) hF759 (fun r764 u763 t763 H763 L763 ht763 hvm763 hw763 hB763 hz763 hk763 hS => ?_)
  have hP := pq_keep hP hD [15, 14] rfl hk763 hB763.1 ht763
  have hG : s.heap.size + 761 ≤ H763.size := Nat.le_trans hG hz763
  refine W.eq (g2 := F0 m 48 ls [.int 1]) (by rw [hw763]) ?_
  refine lv_if_eq (tgt := 92) hx hb dX9_shown_48 (by decide) (fun cz => absurd cz (by decide)) (fun _ => ?_)
  refine lv_aload hx hb dX9_shown_51 (lv_at hl 0 rfl) ?_
  have hM767 := k942_next l hl9 dC dI z a758 h3 h6 H763.size kc1
  obtain ⟨hF765, hC768⟩ := pc_M hM767 hP hD hK hS hX hT hA [15, 14, 5] [1] rfl rfl rfl
  refine va_callFr (va_runF (As := []) (rest := []) (hK.1 1 (RJx35411, TJx35411, 4) rfl).2 ⟨hx, hb, hml, hown, hts⟩ hM767 (va_cwF 0 hts (gF q_308 q_309 q_310 q_246 q_307) rfl rfl rfl hT.2.2.2.2.2.2.2.1 hF_xIn ⟨Nat.le_of_ble_eq_true rfl, Nat.le_of_ble_eq_true rfl⟩) ⟨pc_blind, va_recv hK hP (ci := 1) (q := (RJx35411, TJx35411, 4)) (q0 := 15) rfl rfl, fun U hU hW => ⟨rfl, hC768 U hU hW⟩⟩ rfl rfl hl.1 rfl (lv_room (Nat.le_of_ble_eq_true rfl)) dX9_shown_53 ⟨(Nat.le_of_ble_eq_true rfl), (Nat.le_of_ble_eq_true rfl)⟩) hS (fun q9 _ h9 => hF765 q9 h9) hF765 (fun u769 r770 t769 H769 L769 ht769 hvm769 hw769 hB769 hz769 hk769 hS => ?_)
  obtain ⟨hr769, hB769⟩ := hB769
  obtain ⟨hP, hD, hK⟩ := pq_jn (wz := [(h0, ce21 h1 h2 h3 h4), (h1, ce331 h5), (h2, ce3 z.1), (h4, ce366 h7), (h5, ce330 kc0 h8 h9 h10 h11 h12 h13 h14), (h7, ce330 kc2 (z.2.2.1 128) (z.2.2.1 129) (z.2.2.1 130) (z.2.2.1 131) (z.2.2.1 132) (z.2.2.1 133) (z.2.2.1 134)), (h8, ce49), (h9, ce49), (h10, ce49), (h11, ce49), (h12, ce49), (h13, ce49), (h14, ce49), (a758, ce372 h3), (h3, ce331 h6), (h6, ce330 kc1 (z.2.2.1 128) (z.2.2.1 128) (z.2.2.1 128) (z.2.2.1 128) (z.2.2.1 128) (z.2.2.1 128) (z.2.2.1 128))]) (tz := [(kc0, .object "java/lang/Object"), (kc2, .object "java/lang/Object"), (kc1, .object "java/lang/Object")]) hP hD hK [15, 14, 5] [0, 2] rfl hk769 hF765 hB769.1 ht769 hvm769 rfl rfl
  have hG : s.heap.size + 761 ≤ H769.size := Nat.le_trans hG hz769
  refine W.eq (g2 := F0 m 58 ls [.ref (z.2.2.1 128)]) (by rw [hr769]) ?_
  refine va_castE (nm := "java/lang/Integer") hx hb hown (hts _ q_320) (va_Orecv (hX.2.2.1.1.1 128 (by decide)) hS) dX9_shown_58 ?_
  have hM773 := k74_intValue l hl9 dC dI z H769.size
  obtain ⟨hF771, hC774⟩ := pc_M hM773 hP hD hK hS hX hT hA [] [] rfl rfl rfl
  refine va_calli (va_runV (As := []) (rest := []) ⟨hx, hb, hml, hown, hts⟩ hM773 (cwV 0 hts (gV q_323 q_324 q_325 q_297 q_322) rfl rfl rfl hV_J6_intValue_8abf5 ⟨Nat.le_of_ble_eq_true rfl, Nat.le_of_ble_eq_true rfl⟩) ⟨pc_blind, va_Orecv (hX.2.2.1.1.1 128 (by decide)) hS, fun U hU hW => ⟨rfl, hC774 U hU hW⟩⟩ rfl rfl hl.1 rfl (lv_room (Nat.le_of_ble_eq_true rfl)) dX9_shown_61 ⟨(Nat.le_of_ble_eq_true rfl), (Nat.le_of_ble_eq_true rfl)⟩) hS (fun q9 _ h9 => hF771 q9 h9) hF771 (fun r776 u775 t775 H775 L775 ht775 hvm775 hw775 hB775 hz775 hk775 hS => ?_)
  have hP := pq_keep hP hD [] rfl hk775 hB775.1 ht775
  have hG : s.heap.size + 761 ≤ H775.size := Nat.le_trans hG hz775
  refine W.eq (g2 := F0 m 64 ls [.int 0]) (by rw [hw775]) ?_
  refine lv_istore (lv' := [(6, .int 0), (5, .ref a758), (4, .int 0), (3, .int 48), (2, .int 2), (1, .int 0), (0, .ref h0)]) hx hb dX9_shown_64 hl (by decide) rfl (fun ls hl => ?_)
  refine lv_iload hx hb dX9_shown_66 (lv_at hl 2 rfl) ?_
  refine lv_if_ne (tgt := 82) hx hb dX9_shown_68 (by decide) (fun cz => absurd (by decide) cz) (fun _ => ?_)
  refine lv_aload_n hx hb dX9_shown_71 rfl (lv_at hl 6 rfl) ?_
  refine lv_iload_n hx hb dX9_shown_72 rfl (lv_at hl 4 rfl) ?_
  refine lv_iload_n hx hb dX9_shown_73 rfl (lv_at hl 3 rfl) ?_
  refine lv_iload hx hb dX9_shown_74 (lv_at hl 0 rfl) ?_
  have hM779 := k967_showsIt l hl9 dC dI z h0 h1 h2 h4 h5 h7 h8 h9 h10 h11 h12 h13 h14 h3 H775.size kc0 kc2
  obtain ⟨hF777, hC780⟩ := pc_M hM779 hP hD hK hS hX hT hA [0, 1, 2, 3, 4, 5, 6, 7, 8, 9, 10, 11, 12] [0, 1] rfl rfl rfl
  refine va_calli (va_runV (As := [.int 2, .int 48, .int 0]) (rest := []) ⟨hx, hb, hml, hown, hts⟩ hM779 (cwV 3 hts (gV q_429 q_430 q_431 q_60 q_428) rfl rfl rfl hV_X9_showsIt ⟨Nat.le_of_ble_eq_true rfl, Nat.le_of_ble_eq_true rfl⟩) ⟨pc_blind, va_recv hK hP (ci := 8) (q := (RX9, TX9, 6)) (q0 := 0) rfl rfl, fun U hU hW => ⟨rfl, hC780 U hU hW⟩⟩ rfl rfl hl.1 rfl (lv_room (Nat.le_of_ble_eq_true rfl)) dX9_shown_76 ⟨(Nat.le_of_ble_eq_true rfl), (Nat.le_of_ble_eq_true rfl)⟩) hS (fun q9 _ h9 => hF777 q9 h9) hF777 (fun r782 u781 t781 H781 L781 ht781 hvm781 hw781 hB781 hz781 hk781 hS => ?_)
  have hP := pq_keep hP hD [0, 1, 2, 3, 4, 5, 6, 7, 8, 9, 10, 11, 12] rfl hk781 hB781.1 ht781
  have hG : s.heap.size + 788 ≤ H781.size := va_gr (g := 761) (g1 := 27) hG (by rw [← ht781]; exact hB781.2)
  refine W.eq (g2 := F0 m 79 ls [.int 0]) (by rw [hw781]) ?_
  refine W.widen (k := 788) (n := 7328) (by decide) (by decide) ?_
  refine lv_if_eq (tgt := 86) hx hb dX9_shown_79 (by decide) (fun _ => ?_) (fun cz => absurd (by decide) cz)
  refine lv_iconst (v := 0) hx hb dX9_shown_86 (by decide) ?_
  refine lv_istore (lv' := [(4, .int 0), (6, .int 0), (5, .ref a758), (3, .int 48), (2, .int 2), (1, .int 0), (0, .ref h0)]) hx hb dX9_shown_87 hl (by decide) rfl (fun ls hl => ?_)
  refine lv_goto (tgt := 41) hx hb dX9_shown_89 (by decide) ?_
  refine lv_aload hx hb dX9_shown_41 (lv_at hl 2 rfl) ?_
  have hM785 := k728_hasNext l hl9 dC dI z a758 h3 h6 H781.size
  obtain ⟨hF783, hC786⟩ := pc_M hM785 hP hD hK hS hX hT hA [13, 14] [] rfl rfl rfl
  refine va_callFi (va_runF (As := []) (rest := []) (hK.1 1 (RJx35411, TJx35411, 4) rfl).2 ⟨hx, hb, hml, hown, hts⟩ hM785 (va_cwF 0 hts (gF q_261 q_262 q_263 q_246 q_260) rfl rfl rfl hT.2.2.2.2.2.2.1 hF_xIh ⟨Nat.le_of_ble_eq_true rfl, Nat.le_of_ble_eq_true rfl⟩) ⟨pc_blind, va_recv hK hP (ci := 1) (q := (RJx35411, TJx35411, 4)) (q0 := 13) rfl rfl, fun U hU hW => ⟨rfl, hC786 U hU hW⟩⟩ rfl rfl hl.1 rfl (lv_room (Nat.le_of_ble_eq_true rfl)) dX9_shown_43 ⟨(Nat.le_of_ble_eq_true rfl), (Nat.le_of_ble_eq_true rfl)⟩) hS (fun q9 _ h9 => hF783 q9 h9) hF783 (fun r788 u787 t787 H787 L787 ht787 hvm787 hw787 hB787 hz787 hk787 hS => ?_)
  have hP := pq_keep hP hD [13, 14] rfl hk787 hB787.1 ht787
  have hG : s.heap.size + 788 ≤ H787.size := Nat.le_trans hG hz787
  refine W.eq (g2 := F0 m 48 ls [.int 1]) (by rw [hw787]) ?_
  refine lv_if_eq (tgt := 92) hx hb dX9_shown_48 (by decide) (fun cz => absurd cz (by decide)) (fun _ => ?_)
  refine lv_aload hx hb dX9_shown_51 (lv_at hl 2 rfl) ?_
  have hM791 := k954_next l hl9 dC dI z a758 h3 h6 H787.size kc1
  obtain ⟨hF789, hC792⟩ := pc_M hM791 hP hD hK hS hX hT hA [13, 14, 15] [2] rfl rfl rfl
  refine va_callFr (va_runF (As := []) (rest := []) (hK.1 1 (RJx35411, TJx35411, 4) rfl).2 ⟨hx, hb, hml, hown, hts⟩ hM791 (va_cwF 0 hts (gF q_308 q_309 q_310 q_246 q_307) rfl rfl rfl hT.2.2.2.2.2.2.2.1 hF_xIn ⟨Nat.le_of_ble_eq_true rfl, Nat.le_of_ble_eq_true rfl⟩) ⟨pc_blind, va_recv hK hP (ci := 1) (q := (RJx35411, TJx35411, 4)) (q0 := 13) rfl rfl, fun U hU hW => ⟨rfl, hC792 U hU hW⟩⟩ rfl rfl hl.1 rfl (lv_room (Nat.le_of_ble_eq_true rfl)) dX9_shown_53 ⟨(Nat.le_of_ble_eq_true rfl), (Nat.le_of_ble_eq_true rfl)⟩) hS (fun q9 _ h9 => hF789 q9 h9) hF789 (fun u793 r794 t793 H793 L793 ht793 hvm793 hw793 hB793 hz793 hk793 hS => ?_)
  obtain ⟨hr793, hB793⟩ := hB793
  obtain ⟨hP, hD, hK⟩ := pq_jn (wz := [(h0, ce21 h1 h2 h3 h4), (h1, ce331 h5), (h2, ce3 z.1), (h4, ce366 h7), (h5, ce330 kc0 h8 h9 h10 h11 h12 h13 h14), (h7, ce330 kc2 (z.2.2.1 128) (z.2.2.1 129) (z.2.2.1 130) (z.2.2.1 131) (z.2.2.1 132) (z.2.2.1 133) (z.2.2.1 134)), (h8, ce49), (h9, ce49), (h10, ce49), (h11, ce49), (h12, ce49), (h13, ce49), (h14, ce49), (a758, ce374 h3), (h3, ce331 h6), (h6, ce330 kc1 (z.2.2.1 128) (z.2.2.1 128) (z.2.2.1 128) (z.2.2.1 128) (z.2.2.1 128) (z.2.2.1 128) (z.2.2.1 128))]) (tz := [(kc0, .object "java/lang/Object"), (kc2, .object "java/lang/Object"), (kc1, .object "java/lang/Object")]) hP hD hK [13, 14, 15] [0, 1] rfl hk793 hF789 hB793.1 ht793 hvm793 rfl rfl
  have hG : s.heap.size + 788 ≤ H793.size := Nat.le_trans hG hz793
  refine W.eq (g2 := F0 m 58 ls [.ref (z.2.2.1 128)]) (by rw [hr793]) ?_
  refine va_castE (nm := "java/lang/Integer") hx hb hown (hts _ q_320) (va_Orecv (hX.2.2.1.1.1 128 (by decide)) hS) dX9_shown_58 ?_
  have hM797 := k74_intValue l hl9 dC dI z H793.size
  obtain ⟨hF795, hC798⟩ := pc_M hM797 hP hD hK hS hX hT hA [] [] rfl rfl rfl
  refine va_calli (va_runV (As := []) (rest := []) ⟨hx, hb, hml, hown, hts⟩ hM797 (cwV 0 hts (gV q_323 q_324 q_325 q_297 q_322) rfl rfl rfl hV_J6_intValue_8abf5 ⟨Nat.le_of_ble_eq_true rfl, Nat.le_of_ble_eq_true rfl⟩) ⟨pc_blind, va_Orecv (hX.2.2.1.1.1 128 (by decide)) hS, fun U hU hW => ⟨rfl, hC798 U hU hW⟩⟩ rfl rfl hl.1 rfl (lv_room (Nat.le_of_ble_eq_true rfl)) dX9_shown_61 ⟨(Nat.le_of_ble_eq_true rfl), (Nat.le_of_ble_eq_true rfl)⟩) hS (fun q9 _ h9 => hF795 q9 h9) hF795 (fun r800 u799 t799 H799 L799 ht799 hvm799 hw799 hB799 hz799 hk799 hS => ?_)
  have hP := pq_keep hP hD [] rfl hk799 hB799.1 ht799
  have hG : s.heap.size + 788 ≤ H799.size := Nat.le_trans hG hz799
  refine W.eq (g2 := F0 m 64 ls [.int 0]) (by rw [hw799]) ?_
  refine lv_istore (lv' := [(6, .int 0), (4, .int 0), (5, .ref a758), (3, .int 48), (2, .int 2), (1, .int 0), (0, .ref h0)]) hx hb dX9_shown_64 hl (by decide) rfl (fun ls hl => ?_)
  refine lv_iload hx hb dX9_shown_66 (lv_at hl 1 rfl) ?_
  refine lv_if_ne (tgt := 82) hx hb dX9_shown_68 (by decide) (fun cz => absurd (by decide) cz) (fun _ => ?_)
  refine lv_aload_n hx hb dX9_shown_71 rfl (lv_at hl 6 rfl) ?_
  refine lv_iload_n hx hb dX9_shown_72 rfl (lv_at hl 4 rfl) ?_
  refine lv_iload_n hx hb dX9_shown_73 rfl (lv_at hl 3 rfl) ?_
  refine lv_iload hx hb dX9_shown_74 (lv_at hl 0 rfl) ?_
  have hM803 := k967_showsIt l hl9 dC dI z h0 h1 h2 h4 h5 h7 h8 h9 h10 h11 h12 h13 h14 h3 H799.size kc0 kc2
  obtain ⟨hF801, hC804⟩ := pc_M hM803 hP hD hK hS hX hT hA [0, 1, 2, 3, 4, 5, 6, 7, 8, 9, 10, 11, 12] [0, 1] rfl rfl rfl
  refine va_calli (va_runV (As := [.int 2, .int 48, .int 0]) (rest := []) ⟨hx, hb, hml, hown, hts⟩ hM803 (cwV 3 hts (gV q_429 q_430 q_431 q_60 q_428) rfl rfl rfl hV_X9_showsIt ⟨Nat.le_of_ble_eq_true rfl, Nat.le_of_ble_eq_true rfl⟩) ⟨pc_blind, va_recv hK hP (ci := 8) (q := (RX9, TX9, 6)) (q0 := 0) rfl rfl, fun U hU hW => ⟨rfl, hC804 U hU hW⟩⟩ rfl rfl hl.1 rfl (lv_room (Nat.le_of_ble_eq_true rfl)) dX9_shown_76 ⟨(Nat.le_of_ble_eq_true rfl), (Nat.le_of_ble_eq_true rfl)⟩) hS (fun q9 _ h9 => hF801 q9 h9) hF801 (fun r806 u805 t805 H805 L805 ht805 hvm805 hw805 hB805 hz805 hk805 hS => ?_)
  have hP := pq_keep hP hD [0, 1, 2, 3, 4, 5, 6, 7, 8, 9, 10, 11, 12] rfl hk805 hB805.1 ht805
  have hG : s.heap.size + 815 ≤ H805.size := va_gr (g := 788) (g1 := 27) hG (by rw [← ht805]; exact hB805.2)
  refine W.eq (g2 := F0 m 79 ls [.int 0]) (by rw [hw805]) ?_
  refine W.widen (k := 815) (n := 7580) (by decide) (by decide) ?_
  refine lv_if_eq (tgt := 86) hx hb dX9_shown_79 (by decide) (fun _ => ?_) (fun cz => absurd (by decide) cz)
  refine lv_iconst (v := 0) hx hb dX9_shown_86 (by decide) ?_
  refine lv_istore (lv' := [(4, .int 0), (6, .int 0), (5, .ref a758), (3, .int 48), (2, .int 2), (1, .int 0), (0, .ref h0)]) hx hb dX9_shown_87 hl (by decide) rfl (fun ls hl => ?_)
  refine lv_goto (tgt := 41) hx hb dX9_shown_89 (by decide) ?_
  refine lv_aload hx hb dX9_shown_41 (lv_at hl 2 rfl) ?_
  have hM809 := k731_hasNext l hl9 dC dI z a758 h3 h6 H805.size
  obtain ⟨hF807, hC810⟩ := pc_M hM809 hP hD hK hS hX hT hA [13, 14] [] rfl rfl rfl
  refine va_callFi (va_runF (As := []) (rest := []) (hK.1 1 (RJx35411, TJx35411, 4) rfl).2 ⟨hx, hb, hml, hown, hts⟩ hM809 (va_cwF 0 hts (gF q_261 q_262 q_263 q_246 q_260) rfl rfl rfl hT.2.2.2.2.2.2.1 hF_xIh ⟨Nat.le_of_ble_eq_true rfl, Nat.le_of_ble_eq_true rfl⟩) ⟨pc_blind, va_recv hK hP (ci := 1) (q := (RJx35411, TJx35411, 4)) (q0 := 13) rfl rfl, fun U hU hW => ⟨rfl, hC810 U hU hW⟩⟩ rfl rfl hl.1 rfl (lv_room (Nat.le_of_ble_eq_true rfl)) dX9_shown_43 ⟨(Nat.le_of_ble_eq_true rfl), (Nat.le_of_ble_eq_true rfl)⟩) hS (fun q9 _ h9 => hF807 q9 h9) hF807 (fun r812 u811 t811 H811 L811 ht811 hvm811 hw811 hB811 hz811 hk811 hS => ?_)
  have hP := pq_keep hP hD [13, 14] rfl hk811 hB811.1 ht811
  have hG : s.heap.size + 815 ≤ H811.size := Nat.le_trans hG hz811
  refine W.eq (g2 := F0 m 48 ls [.int 1]) (by rw [hw811]) ?_
  refine lv_if_eq (tgt := 92) hx hb dX9_shown_48 (by decide) (fun cz => absurd cz (by decide)) (fun _ => ?_)
  refine lv_aload hx hb dX9_shown_51 (lv_at hl 2 rfl) ?_
  have hM815 := k955_next l hl9 dC dI z a758 h3 h6 H811.size kc1
  obtain ⟨hF813, hC816⟩ := pc_M hM815 hP hD hK hS hX hT hA [13, 14, 15] [2] rfl rfl rfl
  refine va_callFr (va_runF (As := []) (rest := []) (hK.1 1 (RJx35411, TJx35411, 4) rfl).2 ⟨hx, hb, hml, hown, hts⟩ hM815 (va_cwF 0 hts (gF q_308 q_309 q_310 q_246 q_307) rfl rfl rfl hT.2.2.2.2.2.2.2.1 hF_xIn ⟨Nat.le_of_ble_eq_true rfl, Nat.le_of_ble_eq_true rfl⟩) ⟨pc_blind, va_recv hK hP (ci := 1) (q := (RJx35411, TJx35411, 4)) (q0 := 13) rfl rfl, fun U hU hW => ⟨rfl, hC816 U hU hW⟩⟩ rfl rfl hl.1 rfl (lv_room (Nat.le_of_ble_eq_true rfl)) dX9_shown_53 ⟨(Nat.le_of_ble_eq_true rfl), (Nat.le_of_ble_eq_true rfl)⟩) hS (fun q9 _ h9 => hF813 q9 h9) hF813 (fun u817 r818 t817 H817 L817 ht817 hvm817 hw817 hB817 hz817 hk817 hS => ?_)
  obtain ⟨hr817, hB817⟩ := hB817
  obtain ⟨hP, hD, hK⟩ := pq_jn (wz := [(h0, ce21 h1 h2 h3 h4), (h1, ce331 h5), (h2, ce3 z.1), (h4, ce366 h7), (h5, ce330 kc0 h8 h9 h10 h11 h12 h13 h14), (h7, ce330 kc2 (z.2.2.1 128) (z.2.2.1 129) (z.2.2.1 130) (z.2.2.1 131) (z.2.2.1 132) (z.2.2.1 133) (z.2.2.1 134)), (h8, ce49), (h9, ce49), (h10, ce49), (h11, ce49), (h12, ce49), (h13, ce49), (h14, ce49), (a758, ce376 h3), (h3, ce331 h6), (h6, ce330 kc1 (z.2.2.1 128) (z.2.2.1 128) (z.2.2.1 128) (z.2.2.1 128) (z.2.2.1 128) (z.2.2.1 128) (z.2.2.1 128))]) (tz := [(kc0, .object "java/lang/Object"), (kc2, .object "java/lang/Object"), (kc1, .object "java/lang/Object")]) hP hD hK [13, 14, 15] [0, 1] rfl hk817 hF813 hB817.1 ht817 hvm817 rfl rfl
  have hG : s.heap.size + 815 ≤ H817.size := Nat.le_trans hG hz817
  refine W.eq (g2 := F0 m 58 ls [.ref (z.2.2.1 128)]) (by rw [hr817]) ?_
  refine va_castE (nm := "java/lang/Integer") hx hb hown (hts _ q_320) (va_Orecv (hX.2.2.1.1.1 128 (by decide)) hS) dX9_shown_58 ?_
  have hM821 := k74_intValue l hl9 dC dI z H817.size
  obtain ⟨hF819, hC822⟩ := pc_M hM821 hP hD hK hS hX hT hA [] [] rfl rfl rfl
  refine va_calli (va_runV (As := []) (rest := []) ⟨hx, hb, hml, hown, hts⟩ hM821 (cwV 0 hts (gV q_323 q_324 q_325 q_297 q_322) rfl rfl rfl hV_J6_intValue_8abf5 ⟨Nat.le_of_ble_eq_true rfl, Nat.le_of_ble_eq_true rfl⟩) ⟨pc_blind, va_Orecv (hX.2.2.1.1.1 128 (by decide)) hS, fun U hU hW => ⟨rfl, hC822 U hU hW⟩⟩ rfl rfl hl.1 rfl (lv_room (Nat.le_of_ble_eq_true rfl)) dX9_shown_61 ⟨(Nat.le_of_ble_eq_true rfl), (Nat.le_of_ble_eq_true rfl)⟩) hS (fun q9 _ h9 => hF819 q9 h9) hF819 (fun r824 u823 t823 H823 L823 ht823 hvm823 hw823 hB823 hz823 hk823 hS => ?_)
  have hP := pq_keep hP hD [] rfl hk823 hB823.1 ht823
  have hG : s.heap.size + 815 ≤ H823.size := Nat.le_trans hG hz823
  refine W.eq (g2 := F0 m 64 ls [.int 0]) (by rw [hw823]) ?_
  refine lv_istore (lv' := [(6, .int 0), (4, .int 0), (5, .ref a758), (3, .int 48), (2, .int 2), (1, .int 0), (0, .ref h0)]) hx hb dX9_shown_64 hl (by decide) rfl (fun ls hl => ?_)
  refine lv_iload hx hb dX9_shown_66 (lv_at hl 1 rfl) ?_
  refine lv_if_ne (tgt := 82) hx hb dX9_shown_68 (by decide) (fun cz => absurd (by decide) cz) (fun _ => ?_)
  refine lv_aload_n hx hb dX9_shown_71 rfl (lv_at hl 6 rfl) ?_
  refine lv_iload_n hx hb dX9_shown_72 rfl (lv_at hl 4 rfl) ?_
  refine lv_iload_n hx hb dX9_shown_73 rfl (lv_at hl 3 rfl) ?_
  refine lv_iload hx hb dX9_shown_74 (lv_at hl 0 rfl) ?_
  have hM827 := k967_showsIt l hl9 dC dI z h0 h1 h2 h4 h5 h7 h8 h9 h10 h11 h12 h13 h14 h3 H823.size kc0 kc2
  obtain ⟨hF825, hC828⟩ := pc_M hM827 hP hD hK hS hX hT hA [0, 1, 2, 3, 4, 5, 6, 7, 8, 9, 10, 11, 12] [0, 1] rfl rfl rfl
  refine va_calli (va_runV (As := [.int 2, .int 48, .int 0]) (rest := []) ⟨hx, hb, hml, hown, hts⟩ hM827 (cwV 3 hts (gV q_429 q_430 q_431 q_60 q_428) rfl rfl rfl hV_X9_showsIt ⟨Nat.le_of_ble_eq_true rfl, Nat.le_of_ble_eq_true rfl⟩) ⟨pc_blind, va_recv hK hP (ci := 8) (q := (RX9, TX9, 6)) (q0 := 0) rfl rfl, fun U hU hW => ⟨rfl, hC828 U hU hW⟩⟩ rfl rfl hl.1 rfl (lv_room (Nat.le_of_ble_eq_true rfl)) dX9_shown_76 ⟨(Nat.le_of_ble_eq_true rfl), (Nat.le_of_ble_eq_true rfl)⟩) hS (fun q9 _ h9 => hF825 q9 h9) hF825 (fun r830 u829 t829 H829 L829 ht829 hvm829 hw829 hB829 hz829 hk829 hS => ?_)
  have hP := pq_keep hP hD [0, 1, 2, 3, 4, 5, 6, 7, 8, 9, 10, 11, 12] rfl hk829 hB829.1 ht829
  have hG : s.heap.size + 842 ≤ H829.size := va_gr (g := 815) (g1 := 27) hG (by rw [← ht829]; exact hB829.2)
  refine W.eq (g2 := F0 m 79 ls [.int 0]) (by rw [hw829]) ?_
  refine W.widen (k := 842) (n := 7832) (by decide) (by decide) ?_
  refine lv_if_eq (tgt := 86) hx hb dX9_shown_79 (by decide) (fun _ => ?_) (fun cz => absurd (by decide) cz)
  refine lv_iconst (v := 0) hx hb dX9_shown_86 (by decide) ?_
  refine lv_istore (lv' := [(4, .int 0), (6, .int 0), (5, .ref a758), (3, .int 48), (2, .int 2), (1, .int 0), (0, .ref h0)]) hx hb dX9_shown_87 hl (by decide) rfl (fun ls hl => ?_)
  refine lv_goto (tgt := 41) hx hb dX9_shown_89 (by decide) ?_
  refine lv_aload hx hb dX9_shown_41 (lv_at hl 2 rfl) ?_
  have hM833 := k734_hasNext l hl9 dC dI z a758 h3 h6 H829.size
  obtain ⟨hF831, hC834⟩ := pc_M hM833 hP hD hK hS hX hT hA [13, 14] [] rfl rfl rfl
  refine va_callFi (va_runF (As := []) (rest := []) (hK.1 1 (RJx35411, TJx35411, 4) rfl).2 ⟨hx, hb, hml, hown, hts⟩ hM833 (va_cwF 0 hts (gF q_261 q_262 q_263 q_246 q_260) rfl rfl rfl hT.2.2.2.2.2.2.1 hF_xIh ⟨Nat.le_of_ble_eq_true rfl, Nat.le_of_ble_eq_true rfl⟩) ⟨pc_blind, va_recv hK hP (ci := 1) (q := (RJx35411, TJx35411, 4)) (q0 := 13) rfl rfl, fun U hU hW => ⟨rfl, hC834 U hU hW⟩⟩ rfl rfl hl.1 rfl (lv_room (Nat.le_of_ble_eq_true rfl)) dX9_shown_43 ⟨(Nat.le_of_ble_eq_true rfl), (Nat.le_of_ble_eq_true rfl)⟩) hS (fun q9 _ h9 => hF831 q9 h9) hF831 (fun r836 u835 t835 H835 L835 ht835 hvm835 hw835 hB835 hz835 hk835 hS => ?_)
  have hP := pq_keep hP hD [13, 14] rfl hk835 hB835.1 ht835
  have hG : s.heap.size + 842 ≤ H835.size := Nat.le_trans hG hz835
  refine W.eq (g2 := F0 m 48 ls [.int 1]) (by rw [hw835]) ?_
  refine lv_if_eq (tgt := 92) hx hb dX9_shown_48 (by decide) (fun cz => absurd cz (by decide)) (fun _ => ?_)
  refine lv_aload hx hb dX9_shown_51 (lv_at hl 2 rfl) ?_
  have hM839 := k956_next l hl9 dC dI z a758 h3 h6 H835.size kc1
  obtain ⟨hF837, hC840⟩ := pc_M hM839 hP hD hK hS hX hT hA [13, 14, 15] [2] rfl rfl rfl
  refine va_callFr (va_runF (As := []) (rest := []) (hK.1 1 (RJx35411, TJx35411, 4) rfl).2 ⟨hx, hb, hml, hown, hts⟩ hM839 (va_cwF 0 hts (gF q_308 q_309 q_310 q_246 q_307) rfl rfl rfl hT.2.2.2.2.2.2.2.1 hF_xIn ⟨Nat.le_of_ble_eq_true rfl, Nat.le_of_ble_eq_true rfl⟩) ⟨pc_blind, va_recv hK hP (ci := 1) (q := (RJx35411, TJx35411, 4)) (q0 := 13) rfl rfl, fun U hU hW => ⟨rfl, hC840 U hU hW⟩⟩ rfl rfl hl.1 rfl (lv_room (Nat.le_of_ble_eq_true rfl)) dX9_shown_53 ⟨(Nat.le_of_ble_eq_true rfl), (Nat.le_of_ble_eq_true rfl)⟩) hS (fun q9 _ h9 => hF837 q9 h9) hF837 (fun u841 r842 t841 H841 L841 ht841 hvm841 hw841 hB841 hz841 hk841 hS => ?_)
  obtain ⟨hr841, hB841⟩ := hB841
  obtain ⟨hP, hD, hK⟩ := pq_jn (wz := [(h0, ce21 h1 h2 h3 h4), (h1, ce331 h5), (h2, ce3 z.1), (h4, ce366 h7), (h5, ce330 kc0 h8 h9 h10 h11 h12 h13 h14), (h7, ce330 kc2 (z.2.2.1 128) (z.2.2.1 129) (z.2.2.1 130) (z.2.2.1 131) (z.2.2.1 132) (z.2.2.1 133) (z.2.2.1 134)), (h8, ce49), (h9, ce49), (h10, ce49), (h11, ce49), (h12, ce49), (h13, ce49), (h14, ce49), (a758, ce378 h3), (h3, ce331 h6), (h6, ce330 kc1 (z.2.2.1 128) (z.2.2.1 128) (z.2.2.1 128) (z.2.2.1 128) (z.2.2.1 128) (z.2.2.1 128) (z.2.2.1 128))]) (tz := [(kc0, .object "java/lang/Object"), (kc2, .object "java/lang/Object"), (kc1, .object "java/lang/Object")]) hP hD hK [13, 14, 15] [0, 1] rfl hk841 hF837 hB841.1 ht841 hvm841 rfl rfl
  have hG : s.heap.size + 842 ≤ H841.size := Nat.le_trans hG hz841
  refine W.eq (g2 := F0 m 58 ls [.ref (z.2.2.1 128)]) (by rw [hr841]) ?_
  refine va_castE (nm := "java/lang/Integer") hx hb hown (hts _ q_320) (va_Orecv (hX.2.2.1.1.1 128 (by decide)) hS) dX9_shown_58 ?_
  have hM845 := k74_intValue l hl9 dC dI z H841.size
  obtain ⟨hF843, hC846⟩ := pc_M hM845 hP hD hK hS hX hT hA [] [] rfl rfl rfl
  refine va_calli (va_runV (As := []) (rest := []) ⟨hx, hb, hml, hown, hts⟩ hM845 (cwV 0 hts (gV q_323 q_324 q_325 q_297 q_322) rfl rfl rfl hV_J6_intValue_8abf5 ⟨Nat.le_of_ble_eq_true rfl, Nat.le_of_ble_eq_true rfl⟩) ⟨pc_blind, va_Orecv (hX.2.2.1.1.1 128 (by decide)) hS, fun U hU hW => ⟨rfl, hC846 U hU hW⟩⟩ rfl rfl hl.1 rfl (lv_room (Nat.le_of_ble_eq_true rfl)) dX9_shown_61 ⟨(Nat.le_of_ble_eq_true rfl), (Nat.le_of_ble_eq_true rfl)⟩) hS (fun q9 _ h9 => hF843 q9 h9) hF843 (fun r848 u847 t847 H847 L847 ht847 hvm847 hw847 hB847 hz847 hk847 hS => ?_)
  have hP := pq_keep hP hD [] rfl hk847 hB847.1 ht847
  have hG : s.heap.size + 842 ≤ H847.size := Nat.le_trans hG hz847
  refine W.eq (g2 := F0 m 64 ls [.int 0]) (by rw [hw847]) ?_
  refine lv_istore (lv' := [(6, .int 0), (4, .int 0), (5, .ref a758), (3, .int 48), (2, .int 2), (1, .int 0), (0, .ref h0)]) hx hb dX9_shown_64 hl (by decide) rfl (fun ls hl => ?_)
  refine lv_iload hx hb dX9_shown_66 (lv_at hl 1 rfl) ?_
  refine lv_if_ne (tgt := 82) hx hb dX9_shown_68 (by decide) (fun cz => absurd (by decide) cz) (fun _ => ?_)
  refine lv_aload_n hx hb dX9_shown_71 rfl (lv_at hl 6 rfl) ?_
  refine lv_iload_n hx hb dX9_shown_72 rfl (lv_at hl 4 rfl) ?_
  refine lv_iload_n hx hb dX9_shown_73 rfl (lv_at hl 3 rfl) ?_
  refine lv_iload hx hb dX9_shown_74 (lv_at hl 0 rfl) ?_
  have hM851 := k967_showsIt l hl9 dC dI z h0 h1 h2 h4 h5 h7 h8 h9 h10 h11 h12 h13 h14 h3 H847.size kc0 kc2
  obtain ⟨hF849, hC852⟩ := pc_M hM851 hP hD hK hS hX hT hA [0, 1, 2, 3, 4, 5, 6, 7, 8, 9, 10, 11, 12] [0, 1] rfl rfl rfl
  refine va_calli (va_runV (As := [.int 2, .int 48, .int 0]) (rest := []) ⟨hx, hb, hml, hown, hts⟩ hM851 (cwV 3 hts (gV q_429 q_430 q_431 q_60 q_428) rfl rfl rfl hV_X9_showsIt ⟨Nat.le_of_ble_eq_true rfl, Nat.le_of_ble_eq_true rfl⟩) ⟨pc_blind, va_recv hK hP (ci := 8) (q := (RX9, TX9, 6)) (q0 := 0) rfl rfl, fun U hU hW => ⟨rfl, hC852 U hU hW⟩⟩ rfl rfl hl.1 rfl (lv_room (Nat.le_of_ble_eq_true rfl)) dX9_shown_76 ⟨(Nat.le_of_ble_eq_true rfl), (Nat.le_of_ble_eq_true rfl)⟩) hS (fun q9 _ h9 => hF849 q9 h9) hF849 (fun r854 u853 t853 H853 L853 ht853 hvm853 hw853 hB853 hz853 hk853 hS => ?_)
  have hP := pq_keep hP hD [0, 1, 2, 3, 4, 5, 6, 7, 8, 9, 10, 11, 12] rfl hk853 hB853.1 ht853
  have hG : s.heap.size + 869 ≤ H853.size := va_gr (g := 842) (g1 := 27) hG (by rw [← ht853]; exact hB853.2)
  refine W.eq (g2 := F0 m 79 ls [.int 0]) (by rw [hw853]) ?_
  refine W.widen (k := 869) (n := 8084) (by decide) (by decide) ?_
  refine lv_if_eq (tgt := 86) hx hb dX9_shown_79 (by decide) (fun _ => ?_) (fun cz => absurd (by decide) cz)
  refine lv_iconst (v := 0) hx hb dX9_shown_86 (by decide) ?_
  refine lv_istore (lv' := [(4, .int 0), (6, .int 0), (5, .ref a758), (3, .int 48), (2, .int 2), (1, .int 0), (0, .ref h0)]) hx hb dX9_shown_87 hl (by decide) rfl (fun ls hl => ?_)
  refine lv_goto (tgt := 41) hx hb dX9_shown_89 (by decide) ?_
  refine lv_aload hx hb dX9_shown_41 (lv_at hl 2 rfl) ?_
  have hM857 := k737_hasNext l hl9 dC dI z a758 h3 h6 H853.size
  obtain ⟨hF855, hC858⟩ := pc_M hM857 hP hD hK hS hX hT hA [13, 14] [] rfl rfl rfl
  refine va_callFi (va_runF (As := []) (rest := []) (hK.1 1 (RJx35411, TJx35411, 4) rfl).2 ⟨hx, hb, hml, hown, hts⟩ hM857 (va_cwF 0 hts (gF q_261 q_262 q_263 q_246 q_260) rfl rfl rfl hT.2.2.2.2.2.2.1 hF_xIh ⟨Nat.le_of_ble_eq_true rfl, Nat.le_of_ble_eq_true rfl⟩) ⟨pc_blind, va_recv hK hP (ci := 1) (q := (RJx35411, TJx35411, 4)) (q0 := 13) rfl rfl, fun U hU hW => ⟨rfl, hC858 U hU hW⟩⟩ rfl rfl hl.1 rfl (lv_room (Nat.le_of_ble_eq_true rfl)) dX9_shown_43 ⟨(Nat.le_of_ble_eq_true rfl), (Nat.le_of_ble_eq_true rfl)⟩) hS (fun q9 _ h9 => hF855 q9 h9) hF855 (fun r860 u859 t859 H859 L859 ht859 hvm859 hw859 hB859 hz859 hk859 hS => ?_)
  have hP := pq_keep hP hD [13, 14] rfl hk859 hB859.1 ht859
  have hG : s.heap.size + 869 ≤ H859.size := Nat.le_trans hG hz859
  refine W.eq (g2 := F0 m 48 ls [.int 1]) (by rw [hw859]) ?_
  refine lv_if_eq (tgt := 92) hx hb dX9_shown_48 (by decide) (fun cz => absurd cz (by decide)) (fun _ => ?_)
  refine lv_aload hx hb dX9_shown_51 (lv_at hl 2 rfl) ?_
  have hM863 := k957_next l hl9 dC dI z a758 h3 h6 H859.size kc1
  obtain ⟨hF861, hC864⟩ := pc_M hM863 hP hD hK hS hX hT hA [13, 14, 15] [2] rfl rfl rfl
  refine va_callFr (va_runF (As := []) (rest := []) (hK.1 1 (RJx35411, TJx35411, 4) rfl).2 ⟨hx, hb, hml, hown, hts⟩ hM863 (va_cwF 0 hts (gF q_308 q_309 q_310 q_246 q_307) rfl rfl rfl hT.2.2.2.2.2.2.2.1 hF_xIn ⟨Nat.le_of_ble_eq_true rfl, Nat.le_of_ble_eq_true rfl⟩) ⟨pc_blind, va_recv hK hP (ci := 1) (q := (RJx35411, TJx35411, 4)) (q0 := 13) rfl rfl, fun U hU hW => ⟨rfl, hC864 U hU hW⟩⟩ rfl rfl hl.1 rfl (lv_room (Nat.le_of_ble_eq_true rfl)) dX9_shown_53 ⟨(Nat.le_of_ble_eq_true rfl), (Nat.le_of_ble_eq_true rfl)⟩) hS (fun q9 _ h9 => hF861 q9 h9) hF861 (fun u865 r866 t865 H865 L865 ht865 hvm865 hw865 hB865 hz865 hk865 hS => ?_)
  obtain ⟨hr865, hB865⟩ := hB865
  obtain ⟨hP, hD, hK⟩ := pq_jn (wz := [(h0, ce21 h1 h2 h3 h4), (h1, ce331 h5), (h2, ce3 z.1), (h4, ce366 h7), (h5, ce330 kc0 h8 h9 h10 h11 h12 h13 h14), (h7, ce330 kc2 (z.2.2.1 128) (z.2.2.1 129) (z.2.2.1 130) (z.2.2.1 131) (z.2.2.1 132) (z.2.2.1 133) (z.2.2.1 134)), (h8, ce49), (h9, ce49), (h10, ce49), (h11, ce49), (h12, ce49), (h13, ce49), (h14, ce49), (a758, ce380 h3), (h3, ce331 h6), (h6, ce330 kc1 (z.2.2.1 128) (z.2.2.1 128) (z.2.2.1 128) (z.2.2.1 128) (z.2.2.1 128) (z.2.2.1 128) (z.2.2.1 128))]) (tz := [(kc0, .object "java/lang/Object"), (kc2, .object "java/lang/Object"), (kc1, .object "java/lang/Object")]) hP hD hK [13, 14, 15] [0, 1] rfl hk865 hF861 hB865.1 ht865 hvm865 rfl rfl
  have hG : s.heap.size + 869 ≤ H865.size := Nat.le_trans hG hz865
  refine W.eq (g2 := F0 m 58 ls [.ref (z.2.2.1 128)]) (by rw [hr865]) ?_
  refine va_castE (nm := "java/lang/Integer") hx hb hown (hts _ q_320) (va_Orecv (hX.2.2.1.1.1 128 (by decide)) hS) dX9_shown_58 ?_
  have hM869 := k74_intValue l hl9 dC dI z H865.size
  obtain ⟨hF867, hC870⟩ := pc_M hM869 hP hD hK hS hX hT hA [] [] rfl rfl rfl
  refine va_calli (va_runV (As := []) (rest := []) ⟨hx, hb, hml, hown, hts⟩ hM869 (cwV 0 hts (gV q_323 q_324 q_325 q_297 q_322) rfl rfl rfl hV_J6_intValue_8abf5 ⟨Nat.le_of_ble_eq_true rfl, Nat.le_of_ble_eq_true rfl⟩) ⟨pc_blind, va_Orecv (hX.2.2.1.1.1 128 (by decide)) hS, fun U hU hW => ⟨rfl, hC870 U hU hW⟩⟩ rfl rfl hl.1 rfl (lv_room (Nat.le_of_ble_eq_true rfl)) dX9_shown_61 ⟨(Nat.le_of_ble_eq_true rfl), (Nat.le_of_ble_eq_true rfl)⟩) hS (fun q9 _ h9 => hF867 q9 h9) hF867 (fun r872 u871 t871 H871 L871 ht871 hvm871 hw871 hB871 hz871 hk871 hS => ?_)
  have hP := pq_keep hP hD [] rfl hk871 hB871.1 ht871
  have hG : s.heap.size + 869 ≤ H871.size := Nat.le_trans hG hz871
  refine W.eq (g2 := F0 m 64 ls [.int 0]) (by rw [hw871]) ?_
  refine lv_istore (lv' := [(6, .int 0), (4, .int 0), (5, .ref a758), (3, .int 48), (2, .int 2), (1, .int 0), (0, .ref h0)]) hx hb dX9_shown_64 hl (by decide) rfl (fun ls hl => ?_)
  refine lv_iload hx hb dX9_shown_66 (lv_at hl 1 rfl) ?_
  refine lv_if_ne (tgt := 82) hx hb dX9_shown_68 (by decide) (fun cz => absurd (by decide) cz) (fun _ => ?_)
  refine lv_aload_n hx hb dX9_shown_71 rfl (lv_at hl 6 rfl) ?_
  refine lv_iload_n hx hb dX9_shown_72 rfl (lv_at hl 4 rfl) ?_
  refine lv_iload_n hx hb dX9_shown_73 rfl (lv_at hl 3 rfl) ?_
  refine lv_iload hx hb dX9_shown_74 (lv_at hl 0 rfl) ?_
  have hM875 := k967_showsIt l hl9 dC dI z h0 h1 h2 h4 h5 h7 h8 h9 h10 h11 h12 h13 h14 h3 H871.size kc0 kc2
  obtain ⟨hF873, hC876⟩ := pc_M hM875 hP hD hK hS hX hT hA [0, 1, 2, 3, 4, 5, 6, 7, 8, 9, 10, 11, 12] [0, 1] rfl rfl rfl
  refine va_calli (va_runV (As := [.int 2, .int 48, .int 0]) (rest := []) ⟨hx, hb, hml, hown, hts⟩ hM875 (cwV 3 hts (gV q_429 q_430 q_431 q_60 q_428) rfl rfl rfl hV_X9_showsIt ⟨Nat.le_of_ble_eq_true rfl, Nat.le_of_ble_eq_true rfl⟩) ⟨pc_blind, va_recv hK hP (ci := 8) (q := (RX9, TX9, 6)) (q0 := 0) rfl rfl, fun U hU hW => ⟨rfl, hC876 U hU hW⟩⟩ rfl rfl hl.1 rfl (lv_room (Nat.le_of_ble_eq_true rfl)) dX9_shown_76 ⟨(Nat.le_of_ble_eq_true rfl), (Nat.le_of_ble_eq_true rfl)⟩) hS (fun q9 _ h9 => hF873 q9 h9) hF873 (fun r878 u877 t877 H877 L877 ht877 hvm877 hw877 hB877 hz877 hk877 hS => ?_)
  have hP := pq_keep hP hD [0, 1, 2, 3, 4, 5, 6, 7, 8, 9, 10, 11, 12] rfl hk877 hB877.1 ht877
  have hG : s.heap.size + 896 ≤ H877.size := va_gr (g := 869) (g1 := 27) hG (by rw [← ht877]; exact hB877.2)
  refine W.eq (g2 := F0 m 79 ls [.int 0]) (by rw [hw877]) ?_
  refine W.widen (k := 896) (n := 8336) (by decide) (by decide) ?_
  refine lv_if_eq (tgt := 86) hx hb dX9_shown_79 (by decide) (fun _ => ?_) (fun cz => absurd (by decide) cz)
  refine lv_iconst (v := 0) hx hb dX9_shown_86 (by decide) ?_
  refine lv_istore (lv' := [(4, .int 0), (6, .int 0), (5, .ref a758), (3, .int 48), (2, .int 2), (1, .int 0), (0, .ref h0)]) hx hb dX9_shown_87 hl (by decide) rfl (fun ls hl => ?_)
  refine lv_goto (tgt := 41) hx hb dX9_shown_89 (by decide) ?_
  refine lv_aload hx hb dX9_shown_41 (lv_at hl 2 rfl) ?_
  have hM881 := k740_hasNext l hl9 dC dI z a758 h3 h6 H877.size
  obtain ⟨hF879, hC882⟩ := pc_M hM881 hP hD hK hS hX hT hA [13, 14] [] rfl rfl rfl
  refine va_callFi (va_runF (As := []) (rest := []) (hK.1 1 (RJx35411, TJx35411, 4) rfl).2 ⟨hx, hb, hml, hown, hts⟩ hM881 (va_cwF 0 hts (gF q_261 q_262 q_263 q_246 q_260) rfl rfl rfl hT.2.2.2.2.2.2.1 hF_xIh ⟨Nat.le_of_ble_eq_true rfl, Nat.le_of_ble_eq_true rfl⟩) ⟨pc_blind, va_recv hK hP (ci := 1) (q := (RJx35411, TJx35411, 4)) (q0 := 13) rfl rfl, fun U hU hW => ⟨rfl, hC882 U hU hW⟩⟩ rfl rfl hl.1 rfl (lv_room (Nat.le_of_ble_eq_true rfl)) dX9_shown_43 ⟨(Nat.le_of_ble_eq_true rfl), (Nat.le_of_ble_eq_true rfl)⟩) hS (fun q9 _ h9 => hF879 q9 h9) hF879 (fun r884 u883 t883 H883 L883 ht883 hvm883 hw883 hB883 hz883 hk883 hS => ?_)
  have hP := pq_keep hP hD [13, 14] rfl hk883 hB883.1 ht883
  have hG : s.heap.size + 896 ≤ H883.size := Nat.le_trans hG hz883
  refine W.eq (g2 := F0 m 48 ls [.int 1]) (by rw [hw883]) ?_
  refine lv_if_eq (tgt := 92) hx hb dX9_shown_48 (by decide) (fun cz => absurd cz (by decide)) (fun _ => ?_)
  refine lv_aload hx hb dX9_shown_51 (lv_at hl 2 rfl) ?_
  have hM887 := k958_next l hl9 dC dI z a758 h3 h6 H883.size kc1
  obtain ⟨hF885, hC888⟩ := pc_M hM887 hP hD hK hS hX hT hA [13, 14, 15] [2] rfl rfl rfl
  refine va_callFr (va_runF (As := []) (rest := []) (hK.1 1 (RJx35411, TJx35411, 4) rfl).2 ⟨hx, hb, hml, hown, hts⟩ hM887 (va_cwF 0 hts (gF q_308 q_309 q_310 q_246 q_307) rfl rfl rfl hT.2.2.2.2.2.2.2.1 hF_xIn ⟨Nat.le_of_ble_eq_true rfl, Nat.le_of_ble_eq_true rfl⟩) ⟨pc_blind, va_recv hK hP (ci := 1) (q := (RJx35411, TJx35411, 4)) (q0 := 13) rfl rfl, fun U hU hW => ⟨rfl, hC888 U hU hW⟩⟩ rfl rfl hl.1 rfl (lv_room (Nat.le_of_ble_eq_true rfl)) dX9_shown_53 ⟨(Nat.le_of_ble_eq_true rfl), (Nat.le_of_ble_eq_true rfl)⟩) hS (fun q9 _ h9 => hF885 q9 h9) hF885 (fun u889 r890 t889 H889 L889 ht889 hvm889 hw889 hB889 hz889 hk889 hS => ?_)
  obtain ⟨hr889, hB889⟩ := hB889
  obtain ⟨hP, hD, hK⟩ := pq_jn (wz := [(h0, ce21 h1 h2 h3 h4), (h1, ce331 h5), (h2, ce3 z.1), (h4, ce366 h7), (h5, ce330 kc0 h8 h9 h10 h11 h12 h13 h14), (h7, ce330 kc2 (z.2.2.1 128) (z.2.2.1 129) (z.2.2.1 130) (z.2.2.1 131) (z.2.2.1 132) (z.2.2.1 133) (z.2.2.1 134)), (h8, ce49), (h9, ce49), (h10, ce49), (h11, ce49), (h12, ce49), (h13, ce49), (h14, ce49), (a758, ce382 h3), (h3, ce331 h6), (h6, ce330 kc1 (z.2.2.1 128) (z.2.2.1 128) (z.2.2.1 128) (z.2.2.1 128) (z.2.2.1 128) (z.2.2.1 128) (z.2.2.1 128))]) (tz := [(kc0, .object "java/lang/Object"), (kc2, .object "java/lang/Object"), (kc1, .object "java/lang/Object")]) hP hD hK [13, 14, 15] [0, 1] rfl hk889 hF885 hB889.1 ht889 hvm889 rfl rfl
  have hG : s.heap.size + 896 ≤ H889.size := Nat.le_trans hG hz889
  refine W.eq (g2 := F0 m 58 ls [.ref (z.2.2.1 128)]) (by rw [hr889]) ?_
  refine va_castE (nm := "java/lang/Integer") hx hb hown (hts _ q_320) (va_Orecv (hX.2.2.1.1.1 128 (by decide)) hS) dX9_shown_58 ?_
  have hM893 := k74_intValue l hl9 dC dI z H889.size
  obtain ⟨hF891, hC894⟩ := pc_M hM893 hP hD hK hS hX hT hA [] [] rfl rfl rfl
  refine va_calli (va_runV (As := []) (rest := []) ⟨hx, hb, hml, hown, hts⟩ hM893 (cwV 0 hts (gV q_323 q_324 q_325 q_297 q_322) rfl rfl rfl hV_J6_intValue_8abf5 ⟨Nat.le_of_ble_eq_true rfl, Nat.le_of_ble_eq_true rfl⟩) ⟨pc_blind, va_Orecv (hX.2.2.1.1.1 128 (by decide)) hS, fun U hU hW => ⟨rfl, hC894 U hU hW⟩⟩ rfl rfl hl.1 rfl (lv_room (Nat.le_of_ble_eq_true rfl)) dX9_shown_61 ⟨(Nat.le_of_ble_eq_true rfl), (Nat.le_of_ble_eq_true rfl)⟩) hS (fun q9 _ h9 => hF891 q9 h9) hF891 (fun r896 u895 t895 H895 L895 ht895 hvm895 hw895 hB895 hz895 hk895 hS => ?_)
  have hP := pq_keep hP hD [] rfl hk895 hB895.1 ht895
  have hG : s.heap.size + 896 ≤ H895.size := Nat.le_trans hG hz895
  refine W.eq (g2 := F0 m 64 ls [.int 0]) (by rw [hw895]) ?_
  refine lv_istore (lv' := [(6, .int 0), (4, .int 0), (5, .ref a758), (3, .int 48), (2, .int 2), (1, .int 0), (0, .ref h0)]) hx hb dX9_shown_64 hl (by decide) rfl (fun ls hl => ?_)
  refine lv_iload hx hb dX9_shown_66 (lv_at hl 1 rfl) ?_
  refine lv_if_ne (tgt := 82) hx hb dX9_shown_68 (by decide) (fun cz => absurd (by decide) cz) (fun _ => ?_)
  refine lv_aload_n hx hb dX9_shown_71 rfl (lv_at hl 6 rfl) ?_
  refine lv_iload_n hx hb dX9_shown_72 rfl (lv_at hl 4 rfl) ?_
  refine lv_iload_n hx hb dX9_shown_73 rfl (lv_at hl 3 rfl) ?_
  refine lv_iload hx hb dX9_shown_74 (lv_at hl 0 rfl) ?_
  have hM899 := k967_showsIt l hl9 dC dI z h0 h1 h2 h4 h5 h7 h8 h9 h10 h11 h12 h13 h14 h3 H895.size kc0 kc2
  obtain ⟨hF897, hC900⟩ := pc_M hM899 hP hD hK hS hX hT hA [0, 1, 2, 3, 4, 5, 6, 7, 8, 9, 10, 11, 12] [0, 1] rfl rfl rfl
  refine va_calli (va_runV (As := [.int 2, .int 48, .int 0]) (rest := []) ⟨hx, hb, hml, hown, hts⟩ hM899 (cwV 3 hts (gV q_429 q_430 q_431 q_60 q_428) rfl rfl rfl hV_X9_showsIt ⟨Nat.le_of_ble_eq_true rfl, Nat.le_of_ble_eq_true rfl⟩) ⟨pc_blind, va_recv hK hP (ci := 8) (q := (RX9, TX9, 6)) (q0 := 0) rfl rfl, fun U hU hW => ⟨rfl, hC900 U hU hW⟩⟩ rfl rfl hl.1 rfl (lv_room (Nat.le_of_ble_eq_true rfl)) dX9_shown_76 ⟨(Nat.le_of_ble_eq_true rfl), (Nat.le_of_ble_eq_true rfl)⟩) hS (fun q9 _ h9 => hF897 q9 h9) hF897 (fun r902 u901 t901 H901 L901 ht901 hvm901 hw901 hB901 hz901 hk901 hS => ?_)
  have hP := pq_keep hP hD [0, 1, 2, 3, 4, 5, 6, 7, 8, 9, 10, 11, 12] rfl hk901 hB901.1 ht901
  have hG : s.heap.size + 923 ≤ H901.size := va_gr (g := 896) (g1 := 27) hG (by rw [← ht901]; exact hB901.2)
  refine W.eq (g2 := F0 m 79 ls [.int 0]) (by rw [hw901]) ?_
  refine W.widen (k := 923) (n := 8588) (by decide) (by decide) ?_
  refine lv_if_eq (tgt := 86) hx hb dX9_shown_79 (by decide) (fun _ => ?_) (fun cz => absurd (by decide) cz)
  refine lv_iconst (v := 0) hx hb dX9_shown_86 (by decide) ?_
  refine lv_istore (lv' := [(4, .int 0), (6, .int 0), (5, .ref a758), (3, .int 48), (2, .int 2), (1, .int 0), (0, .ref h0)]) hx hb dX9_shown_87 hl (by decide) rfl (fun ls hl => ?_)
  refine lv_goto (tgt := 41) hx hb dX9_shown_89 (by decide) ?_
  refine lv_aload hx hb dX9_shown_41 (lv_at hl 2 rfl) ?_
  have hM905 := k743_hasNext l hl9 dC dI z a758 h3 h6 H901.size
  obtain ⟨hF903, hC906⟩ := pc_M hM905 hP hD hK hS hX hT hA [13, 14] [] rfl rfl rfl
  refine va_callFi (va_runF (As := []) (rest := []) (hK.1 1 (RJx35411, TJx35411, 4) rfl).2 ⟨hx, hb, hml, hown, hts⟩ hM905 (va_cwF 0 hts (gF q_261 q_262 q_263 q_246 q_260) rfl rfl rfl hT.2.2.2.2.2.2.1 hF_xIh ⟨Nat.le_of_ble_eq_true rfl, Nat.le_of_ble_eq_true rfl⟩) ⟨pc_blind, va_recv hK hP (ci := 1) (q := (RJx35411, TJx35411, 4)) (q0 := 13) rfl rfl, fun U hU hW => ⟨rfl, hC906 U hU hW⟩⟩ rfl rfl hl.1 rfl (lv_room (Nat.le_of_ble_eq_true rfl)) dX9_shown_43 ⟨(Nat.le_of_ble_eq_true rfl), (Nat.le_of_ble_eq_true rfl)⟩) hS (fun q9 _ h9 => hF903 q9 h9) hF903 (fun r908 u907 t907 H907 L907 ht907 hvm907 hw907 hB907 hz907 hk907 hS => ?_)
  have hP := pq_keep hP hD [13, 14] rfl hk907 hB907.1 ht907
  have hG : s.heap.size + 923 ≤ H907.size := Nat.le_trans hG hz907
  refine W.eq (g2 := F0 m 48 ls [.int 1]) (by rw [hw907]) ?_
  refine lv_if_eq (tgt := 92) hx hb dX9_shown_48 (by decide) (fun cz => absurd cz (by decide)) (fun _ => ?_)
  refine lv_aload hx hb dX9_shown_51 (lv_at hl 2 rfl) ?_
  have hM911 := k959_next l hl9 dC dI z a758 h3 h6 H907.size kc1
  obtain ⟨hF909, hC912⟩ := pc_M hM911 hP hD hK hS hX hT hA [13, 14, 15] [2] rfl rfl rfl
  refine va_callFr (va_runF (As := []) (rest := []) (hK.1 1 (RJx35411, TJx35411, 4) rfl).2 ⟨hx, hb, hml, hown, hts⟩ hM911 (va_cwF 0 hts (gF q_308 q_309 q_310 q_246 q_307) rfl rfl rfl hT.2.2.2.2.2.2.2.1 hF_xIn ⟨Nat.le_of_ble_eq_true rfl, Nat.le_of_ble_eq_true rfl⟩) ⟨pc_blind, va_recv hK hP (ci := 1) (q := (RJx35411, TJx35411, 4)) (q0 := 13) rfl rfl, fun U hU hW => ⟨rfl, hC912 U hU hW⟩⟩ rfl rfl hl.1 rfl (lv_room (Nat.le_of_ble_eq_true rfl)) dX9_shown_53 ⟨(Nat.le_of_ble_eq_true rfl), (Nat.le_of_ble_eq_true rfl)⟩) hS (fun q9 _ h9 => hF909 q9 h9) hF909 (fun u913 r914 t913 H913 L913 ht913 hvm913 hw913 hB913 hz913 hk913 hS => ?_)
  obtain ⟨hr913, hB913⟩ := hB913
  obtain ⟨hP, hD, hK⟩ := pq_jn (wz := [(h0, ce21 h1 h2 h3 h4), (h1, ce331 h5), (h2, ce3 z.1), (h4, ce366 h7), (h5, ce330 kc0 h8 h9 h10 h11 h12 h13 h14), (h7, ce330 kc2 (z.2.2.1 128) (z.2.2.1 129) (z.2.2.1 130) (z.2.2.1 131) (z.2.2.1 132) (z.2.2.1 133) (z.2.2.1 134)), (h8, ce49), (h9, ce49), (h10, ce49), (h11, ce49), (h12, ce49), (h13, ce49), (h14, ce49), (a758, ce384 h3), (h3, ce331 h6), (h6, ce330 kc1 (z.2.2.1 128) (z.2.2.1 128) (z.2.2.1 128) (z.2.2.1 128) (z.2.2.1 128) (z.2.2.1 128) (z.2.2.1 128))]) (tz := [(kc0, .object "java/lang/Object"), (kc2, .object "java/lang/Object"), (kc1, .object "java/lang/Object")]) hP hD hK [13, 14, 15] [0, 1] rfl hk913 hF909 hB913.1 ht913 hvm913 rfl rfl
  have hG : s.heap.size + 923 ≤ H913.size := Nat.le_trans hG hz913
  refine W.eq (g2 := F0 m 58 ls [.ref (z.2.2.1 128)]) (by rw [hr913]) ?_
  refine va_castE (nm := "java/lang/Integer") hx hb hown (hts _ q_320) (va_Orecv (hX.2.2.1.1.1 128 (by decide)) hS) dX9_shown_58 ?_
  have hM917 := k74_intValue l hl9 dC dI z H913.size
  obtain ⟨hF915, hC918⟩ := pc_M hM917 hP hD hK hS hX hT hA [] [] rfl rfl rfl
  refine va_calli (va_runV (As := []) (rest := []) ⟨hx, hb, hml, hown, hts⟩ hM917 (cwV 0 hts (gV q_323 q_324 q_325 q_297 q_322) rfl rfl rfl hV_J6_intValue_8abf5 ⟨Nat.le_of_ble_eq_true rfl, Nat.le_of_ble_eq_true rfl⟩) ⟨pc_blind, va_Orecv (hX.2.2.1.1.1 128 (by decide)) hS, fun U hU hW => ⟨rfl, hC918 U hU hW⟩⟩ rfl rfl hl.1 rfl (lv_room (Nat.le_of_ble_eq_true rfl)) dX9_shown_61 ⟨(Nat.le_of_ble_eq_true rfl), (Nat.le_of_ble_eq_true rfl)⟩) hS (fun q9 _ h9 => hF915 q9 h9) hF915 (fun r920 u919 t919 H919 L919 ht919 hvm919 hw919 hB919 hz919 hk919 hS => ?_)
  have hP := pq_keep hP hD [] rfl hk919 hB919.1 ht919
  have hG : s.heap.size + 923 ≤ H919.size := Nat.le_trans hG hz919
  refine W.eq (g2 := F0 m 64 ls [.int 0]) (by rw [hw919]) ?_
  refine lv_istore (lv' := [(6, .int 0), (4, .int 0), (5, .ref a758), (3, .int 48), (2, .int 2), (1, .int 0), (0, .ref h0)]) hx hb dX9_shown_64 hl (by decide) rfl (fun ls hl => ?_)
  refine lv_iload hx hb dX9_shown_66 (lv_at hl 1 rfl) ?_
  refine lv_if_ne (tgt := 82) hx hb dX9_shown_68 (by decide) (fun cz => absurd (by decide) cz) (fun _ => ?_)
  refine lv_aload_n hx hb dX9_shown_71 rfl (lv_at hl 6 rfl) ?_
  refine lv_iload_n hx hb dX9_shown_72 rfl (lv_at hl 4 rfl) ?_
  refine lv_iload_n hx hb dX9_shown_73 rfl (lv_at hl 3 rfl) ?_
  refine lv_iload hx hb dX9_shown_74 (lv_at hl 0 rfl) ?_
  have hM923 := k967_showsIt l hl9 dC dI z h0 h1 h2 h4 h5 h7 h8 h9 h10 h11 h12 h13 h14 h3 H919.size kc0 kc2
  obtain ⟨hF921, hC924⟩ := pc_M hM923 hP hD hK hS hX hT hA [0, 1, 2, 3, 4, 5, 6, 7, 8, 9, 10, 11, 12] [0, 1] rfl rfl rfl
  refine va_calli (va_runV (As := [.int 2, .int 48, .int 0]) (rest := []) ⟨hx, hb, hml, hown, hts⟩ hM923 (cwV 3 hts (gV q_429 q_430 q_431 q_60 q_428) rfl rfl rfl hV_X9_showsIt ⟨Nat.le_of_ble_eq_true rfl, Nat.le_of_ble_eq_true rfl⟩) ⟨pc_blind, va_recv hK hP (ci := 8) (q := (RX9, TX9, 6)) (q0 := 0) rfl rfl, fun U hU hW => ⟨rfl, hC924 U hU hW⟩⟩ rfl rfl hl.1 rfl (lv_room (Nat.le_of_ble_eq_true rfl)) dX9_shown_76 ⟨(Nat.le_of_ble_eq_true rfl), (Nat.le_of_ble_eq_true rfl)⟩) hS (fun q9 _ h9 => hF921 q9 h9) hF921 (fun r926 u925 t925 H925 L925 ht925 hvm925 hw925 hB925 hz925 hk925 hS => ?_)
  have hP := pq_keep hP hD [0, 1, 2, 3, 4, 5, 6, 7, 8, 9, 10, 11, 12] rfl hk925 hB925.1 ht925
  have hG : s.heap.size + 950 ≤ H925.size := va_gr (g := 923) (g1 := 27) hG (by rw [← ht925]; exact hB925.2)
  refine W.eq (g2 := F0 m 79 ls [.int 0]) (by rw [hw925]) ?_
  refine W.widen (k := 950) (n := 8840) (by decide) (by decide) ?_
  refine lv_if_eq (tgt := 86) hx hb dX9_shown_79 (by decide) (fun _ => ?_) (fun cz => absurd (by decide) cz)
  refine lv_iconst (v := 0) hx hb dX9_shown_86 (by decide) ?_
  refine lv_istore (lv' := [(4, .int 0), (6, .int 0), (5, .ref a758), (3, .int 48), (2, .int 2), (1, .int 0), (0, .ref h0)]) hx hb dX9_shown_87 hl (by decide) rfl (fun ls hl => ?_)
  refine lv_goto (tgt := 41) hx hb dX9_shown_89 (by decide) ?_
  refine lv_aload hx hb dX9_shown_41 (lv_at hl 2 rfl) ?_
  have hM929 := k746_hasNext l hl9 dC dI z a758 h3 h6 H925.size
  obtain ⟨hF927, hC930⟩ := pc_M hM929 hP hD hK hS hX hT hA [13, 14] [] rfl rfl rfl
  refine va_callFi (va_runF (As := []) (rest := []) (hK.1 1 (RJx35411, TJx35411, 4) rfl).2 ⟨hx, hb, hml, hown, hts⟩ hM929 (va_cwF 0 hts (gF q_261 q_262 q_263 q_246 q_260) rfl rfl rfl hT.2.2.2.2.2.2.1 hF_xIh ⟨Nat.le_of_ble_eq_true rfl, Nat.le_of_ble_eq_true rfl⟩) ⟨pc_blind, va_recv hK hP (ci := 1) (q := (RJx35411, TJx35411, 4)) (q0 := 13) rfl rfl, fun U hU hW => ⟨rfl, hC930 U hU hW⟩⟩ rfl rfl hl.1 rfl (lv_room (Nat.le_of_ble_eq_true rfl)) dX9_shown_43 ⟨(Nat.le_of_ble_eq_true rfl), (Nat.le_of_ble_eq_true rfl)⟩) hS (fun q9 _ h9 => hF927 q9 h9) hF927 (fun r932 u931 t931 H931 L931 ht931 hvm931 hw931 hB931 hz931 hk931 hS => ?_)
  have hP := pq_keep hP hD [13, 14] rfl hk931 hB931.1 ht931
  have hG : s.heap.size + 950 ≤ H931.size := Nat.le_trans hG hz931
  refine W.eq (g2 := F0 m 48 ls [.int 0]) (by rw [hw931]) ?_
  refine lv_if_eq (tgt := 92) hx hb dX9_shown_48 (by decide) (fun _ => ?_) (fun cz => absurd (by decide) cz)
  refine lv_iload_n hx hb dX9_shown_92 rfl (lv_at hl 5 rfl) ?_
  refine lv_iload hx hb dX9_shown_93 (lv_at hl 0 rfl) ?_
  refine lv_if_eq (tgt := 102) hx hb dX9_shown_95 (by decide) (fun _ => ?_) (fun cz => absurd (by decide) cz)
  refine lv_iconst (v := 0) hx hb dX9_shown_102 (by decide) ?_
  refine lv_iadd hx hb dX9_shown_103 ?_
  refine lv_topi (fun y933 ey933 => ?_)
  obtain rfl : y933 = 0 := ey933.trans (by decide)
  refine lv_istore_n (lv' := [(1, .int 0), (4, .int 0), (6, .int 0), (5, .ref a758), (3, .int 48), (2, .int 2), (0, .ref h0)]) hx hb dX9_shown_104 rfl hl (by decide) rfl (fun ls hl => ?_)
  refine lv_iload_n hx hb dX9_shown_105 rfl (lv_at hl 4 rfl) ?_
  refine lv_iconst (v := 1) hx hb dX9_shown_106 (by decide) ?_
  refine lv_iadd hx hb dX9_shown_107 ?_
  refine lv_topi (fun y934 ey934 => ?_)
  obtain rfl : y934 = 49 := ey934.trans (by decide)
  refine lv_i2c (v := 49) hx hb dX9_shown_108 (by decide) ?_
  refine lv_istore_n (lv' := [(3, .int 49), (1, .int 0), (4, .int 0), (6, .int 0), (5, .ref a758), (2, .int 2), (0, .ref h0)]) hx hb dX9_shown_109 rfl hl (by decide) rfl (fun ls hl => ?_)
  refine lv_goto (tgt := 23) hx hb dX9_shown_110 (by decide) ?_
  exact hend _ _ _ hS (hP.sub [0, 1, 2, 14, 3, 4, 15, 5, 6, 7, 8, 9, 10, 11, 12] rfl) (hD.sub [0, 1, 2, 14, 3, 4, 15, 5, 6, 7, 8, 9, 10, 11, 12] rfl rfl) (lv_sub hl [0, 1, 5, 6] rfl) hG

set_option maxHeartbeats 8000000 in
set_option maxRecDepth 100000 in
theorem k986_shown_g8 {p : Program} {l : Launch} {e : Env} {s : State} {m : MethodId} {args : Array Value} {below : List Frame} {meth : Method} {c : Code} {Q : State → Prop} {A : Nat → Prop} {H : Heap} {locs : List Loc} {ls : Array Slot} {dC : Nat → ClassId} {dI : Nat → Nat → Nat} {z : XZ} {h0 h1 h2 h3 h4 h5 h6 h7 h8 h9 h10 h11 h12 h13 h14 : Nat} {kc0 kc1 kc2 : ClassId} (hl9 : l.stackTraces = false) (hx : p.tables.exec = Jvm.exec) (hb : c.code = cX9_shown) (hml : c.maxLocals = 7) (hown : s.vm.findClass RX9 = some m.cls) (hts : ∀ w ∈ wsL_law, w.before args s = true) (hA : ∀ q : Nat, s.heap.size ≤ q → A q) (hX : XE z A s s.heap) (hT : XT s) (hS : va_S A s.heap H locs) (hP : va_P (dC, dI) xCl [(h0, ce21 h1 h2 h3 h4), (h1, ce331 h5), (h2, ce3 z.1), (h3, ce331 h6), (h4, ce366 h7), (h5, ce330 kc0 h8 h9 h10 h11 h12 h13 h14), (h6, ce330 kc1 (z.2.2.1 128) (z.2.2.1 128) (z.2.2.1 128) (z.2.2.1 128) (z.2.2.1 128) (z.2.2.1 128) (z.2.2.1 128)), (h7, ce330 kc2 (z.2.2.1 128) (z.2.2.1 129) (z.2.2.1 130) (z.2.2.1 131) (z.2.2.1 132) (z.2.2.1 133) (z.2.2.1 134)), (h8, ce49), (h9, ce49), (h10, ce49), (h11, ce49), (h12, ce49), (h13, ce49), (h14, ce49)] H) (hD : va_D A [(h0, ce21 h1 h2 h3 h4), (h1, ce331 h5), (h2, ce3 z.1), (h3, ce331 h6), (h4, ce366 h7), (h5, ce330 kc0 h8 h9 h10 h11 h12 h13 h14), (h6, ce330 kc1 (z.2.2.1 128) (z.2.2.1 128) (z.2.2.1 128) (z.2.2.1 128) (z.2.2.1 128) (z.2.2.1 128) (z.2.2.1 128)), (h7, ce330 kc2 (z.2.2.1 128) (z.2.2.1 129) (z.2.2.1 130) (z.2.2.1 131) (z.2.2.1 132) (z.2.2.1 133) (z.2.2.1 134)), (h8, ce49), (h9, ce49), (h10, ce49), (h11, ce49), (h12, ce49), (h13, ce49), (h14, ce49)]) (hK : va_K (dC, dI) xCl [(kc0, .object "java/lang/Object"), (kc1, .object "java/lang/Object"), (kc2, .object "java/lang/Object")] s) (hl : lv_has ls 7 [(3, .int 49), (1, .int 0), (2, .int 2), (0, .ref h0)]) (hG : s.heap.size + 950 ≤ H.size) (hend : ∀ (H' : Heap) (locs' : List Loc) (ls' : Array Slot), va_S A s.heap H' locs' → va_P (dC, dI) xCl [(h0, ce21 h1 h2 h3 h4), (h1, ce331 h5), (h2, ce3 z.1), (h3, ce331 h6), (h4, ce366 h7), (h5, ce330 kc0 h8 h9 h10 h11 h12 h13 h14), (h6, ce330 kc1 (z.2.2.1 128) (z.2.2.1 128) (z.2.2.1 128) (z.2.2.1 128) (z.2.2.1 128) (z.2.2.1 128) (z.2.2.1 128)), (h7, ce330 kc2 (z.2.2.1 128) (z.2.2.1 129) (z.2.2.1 130) (z.2.2.1 131) (z.2.2.1 132) (z.2.2.1 133) (z.2.2.1 134)), (h8, ce49), (h9, ce49), (h10, ce49), (h11, ce49), (h12, ce49), (h13, ce49), (h14, ce49)] H' → va_D A [(h0, ce21 h1 h2 h3 h4), (h1, ce331 h5), (h2, ce3 z.1), (h3, ce331 h6), (h4, ce366 h7), (h5, ce330 kc0 h8 h9 h10 h11 h12 h13 h14), (h6, ce330 kc1 (z.2.2.1 128) (z.2.2.1 128) (z.2.2.1 128) (z.2.2.1 128) (z.2.2.1 128) (z.2.2.1 128) (z.2.2.1 128)), (h7, ce330 kc2 (z.2.2.1 128) (z.2.2.1 129) (z.2.2.1 130) (z.2.2.1 131) (z.2.2.1 132) (z.2.2.1 133) (z.2.2.1 134)), (h8, ce49), (h9, ce49), (h10, ce49), (h11, ce49), (h12, ce49), (h13, ce49), (h14, ce49)] → lv_has ls' 7 [(3, .int 50), (1, .int 0), (2, .int 2), (0, .ref h0)] → s.heap.size + 1140 ≤ H'.size → W p l e ({ frames := 5, cells := 2660, slots := 24752, locals := 121 } : Room) s m args below meth c H' locs' 1140 10608 Q (F0 m 23 ls' [])) : W p l e ({ frames := 5, cells := 2660, slots := 24752, locals := 121 } : Room) s m args below meth c H locs 950 8840 Q (F0 m 23 ls []) := by
  refine lv_iload_n hx hb dX9_shown_23 rfl (lv_at hl 0 rfl) ?_
  refine lv_bipush (v := 49) hx hb dX9_shown_24 (by decide) ?_
  refine lv_icmp_gt (tgt := 113) hx hb dX9_shown_26 (by decide) (fun cz => absurd cz (by decide)) (fun _ => ?_)
  refine lv_iconst (v := 0) hx hb dX9_shown_29 (by decide) ?_
  refine lv_istore (lv' := [(4, .int 0), (3, .int 49), (1, .int 0), (2, .int 2), (0, .ref h0)]) hx hb dX9_shown_30 hl (by decide) rfl (fun ls hl => ?_)
  refine lv_aload_n hx hb dX9_shown_32 rfl (lv_at hl 4 rfl) ?_
  refine va_get (D := (dC, dI)) (ci := 8) (v := .ref h3) (C := RX9) (T := TX9) (N := 6) hx hb hts in_X9 hown hK hP 0 rfl rfl 3 (by decide) (hts _ q_66) (fun _ h9 => h9) rfl dX9_shown_33 ?_
  have hM937 := k724_iterator l hl9 dC dI z h3 h6 H.size
  obtain ⟨hF935, hC938⟩ := pc_M hM937 hP hD hK hS hX hT hA [3] [] rfl rfl rfl
  refine va_callr (va_runV (As := []) (rest := []) ⟨hx, hb, hml, hown, hts⟩ hM937 (cwV 0 hts (gV q_256 q_257 q_258 q_12 q_255) rfl rfl rfl hV_Jx4a65c_iterator_32c93 ⟨Nat.le_of_ble_eq_true rfl, Nat.le_of_ble_eq_true rfl⟩) ⟨pc_blind, va_recv hK hP (ci := 0) (q := (RJx4a65c, TJx4a65c, 3)) (q0 := 3) rfl rfl, fun U hU hW => ⟨rfl, hC938 U hU hW⟩⟩ rfl rfl hl.1 rfl (lv_room (Nat.le_of_ble_eq_true rfl)) dX9_shown_36 ⟨(Nat.le_of_ble_eq_true rfl), (Nat.le_of_ble_eq_true rfl)⟩) hS (fun q9 _ h9 => hF935 q9 h9) hF935 (fun u939 r940 t939 H939 L939 ht939 hvm939 hw939 hB939 hz939 hk939 hS => ?_)
  obtain ⟨a941, hr939, hB939⟩ := hB939
  obtain ⟨hP, hD, hK⟩ := pq_jn (wz := [(h0, ce21 h1 h2 h3 h4), (h1, ce331 h5), (h2, ce3 z.1), (h4, ce366 h7), (h5, ce330 kc0 h8 h9 h10 h11 h12 h13 h14), (h6, ce330 kc1 (z.2.2.1 128) (z.2.2.1 128) (z.2.2.1 128) (z.2.2.1 128) (z.2.2.1 128) (z.2.2.1 128) (z.2.2.1 128)), (h7, ce330 kc2 (z.2.2.1 128) (z.2.2.1 129) (z.2.2.1 130) (z.2.2.1 131) (z.2.2.1 132) (z.2.2.1 133) (z.2.2.1 134)), (h8, ce49), (h9, ce49), (h10, ce49), (h11, ce49), (h12, ce49), (h13, ce49), (h14, ce49), (h3, ce331 h6), (a941, ce370 h3)]) (tz := [(kc0, .object "java/lang/Object"), (kc1, .object "java/lang/Object"), (kc2, .object "java/lang/Object")]) hP hD hK [3] [0, 1, 2] rfl hk939 hF935 hB939.1 ht939 hvm939 rfl rfl
  have hG : s.heap.size + 951 ≤ H939.size := va_gr (g := 950) (g1 := 1) hG (by rw [← ht939]; exact hB939.2)
  refine W.eq (g2 := F0 m 39 ls [.ref a941]) (by rw [hr939]) ?_
  refine W.widen (k := 951) (n := 8844) (by decide) (by decide) ?_
  refine lv_astore (lv' := [(5, .ref a941), (4, .int 0), (3, .int 49), (1, .int 0), (2, .int 2), (0, .ref h0)]) hx hb dX9_shown_39 hl (by decide) rfl (fun ls hl => ?_)
  refine lv_aload hx hb dX9_shown_41 (lv_at hl 0 rfl) ?_
  have hM944 := k725_hasNext l hl9 dC dI z a941 h3 h6 H939.size
  obtain ⟨hF942, hC945⟩ := pc_M hM944 hP hD hK hS hX hT hA [15, 14] [] rfl rfl rfl
  refine va_callFi (va_runF (As := []) (rest := []) (hK.1 1 (RJx35411, TJx35411, 4) rfl).2 ⟨hx, hb, hml, hown, hts⟩ hM944 (va_cwF 0 hts (gF q_261 q_262 q_263 q_246 q_260) rfl rfl rfl hT.2.2.2.2.2.2.1 hF_xIh ⟨Nat.le_of_ble_eq_true rfl, Nat.le_of_ble_eq_true rfl⟩) ⟨pc_blind, va_recv hK hP (ci := 1) (q := (RJx35411, TJx35411, 4)) (q0 := 15) rfl rfl, fun U hU hW => ⟨rfl, hC945 U hU hW⟩⟩ rfl rfl hl.1 rfl (lv_room (Nat.le_of_ble_eq_true rfl)) dX9_shown_43 ⟨(Nat.le_of_ble_eq_true rfl), (Nat.le_of_ble_eq_true rfl)⟩) hS (fun q9 _ h9 => hF942 q9 h9) hF942 (fun r947 u946 t946 H946 L946 ht946 hvm946 hw946 hB946 hz946 hk946 hS => ?_)
  have hP := pq_keep hP hD [15, 14] rfl hk946 hB946.1 ht946
  have hG : s.heap.size + 951 ≤ H946.size := Nat.le_trans hG hz946
  refine W.eq (g2 := F0 m 48 ls [.int 1]) (by rw [hw946]) ?_
  refine lv_if_eq (tgt := 92) hx hb dX9_shown_48 (by decide) (fun cz => absurd cz (by decide)) (fun _ => ?_)
  refine lv_aload hx hb dX9_shown_51 (lv_at hl 0 rfl) ?_
  have hM950 := k942_next l hl9 dC dI z a941 h3 h6 H946.size kc1
  obtain ⟨hF948, hC951⟩ := pc_M hM950 hP hD hK hS hX hT hA [15, 14, 5] [1] rfl rfl rfl
  refine va_callFr (va_runF (As := []) (rest := []) (hK.1 1 (RJx35411, TJx35411, 4) rfl).2 ⟨hx, hb, hml, hown, hts⟩ hM950 (va_cwF 0 hts (gF q_308 q_309 q_310 q_246 q_307) rfl rfl rfl hT.2.2.2.2.2.2.2.1 hF_xIn ⟨Nat.le_of_ble_eq_true rfl, Nat.le_of_ble_eq_true rfl⟩) ⟨pc_blind, va_recv hK hP (ci := 1) (q := (RJx35411, TJx35411, 4)) (q0 := 15) rfl rfl, fun U hU hW => ⟨rfl, hC951 U hU hW⟩⟩ rfl rfl hl.1 rfl (lv_room (Nat.le_of_ble_eq_true rfl)) dX9_shown_53 ⟨(Nat.le_of_ble_eq_true rfl), (Nat.le_of_ble_eq_true rfl)⟩) hS (fun q9 _ h9 => hF948 q9 h9) hF948 (fun u952 r953 t952 H952 L952 ht952 hvm952 hw952 hB952 hz952 hk952 hS => ?_)
  obtain ⟨hr952, hB952⟩ := hB952
  obtain ⟨hP, hD, hK⟩ := pq_jn (wz := [(h0, ce21 h1 h2 h3 h4), (h1, ce331 h5), (h2, ce3 z.1), (h4, ce366 h7), (h5, ce330 kc0 h8 h9 h10 h11 h12 h13 h14), (h7, ce330 kc2 (z.2.2.1 128) (z.2.2.1 129) (z.2.2.1 130) (z.2.2.1 131) (z.2.2.1 132) (z.2.2.1 133) (z.2.2.1 134)), (h8, ce49), (h9, ce49), (h10, ce49), (h11, ce49), (h12, ce49), (h13, ce49), (h14, ce49), (a941, ce372 h3), (h3, ce331 h6), (h6, ce330 kc1 (z.2.2.1 128) (z.2.2.1 128) (z.2.2.1 128) (z.2.2.1 128) (z.2.2.1 128) (z.2.2.1 128) (z.2.2.1 128))]) (tz := [(kc0, .object "java/lang/Object"), (kc2, .object "java/lang/Object"), (kc1, .object "java/lang/Object")]) hP hD hK [15, 14, 5] [0, 2] rfl hk952 hF948 hB952.1 ht952 hvm952 rfl rfl
  have hG : s.heap.size + 951 ≤ H952.size := Nat.le_trans hG hz952
  refine W.eq (g2 := F0 m 58 ls [.ref (z.2.2.1 128)]) (by rw [hr952]) ?_
  refine va_castE (nm := "java/lang/Integer") hx hb hown (hts _ q_320) (va_Orecv (hX.2.2.1.1.1 128 (by decide)) hS) dX9_shown_58 ?_
  have hM956 := k74_intValue l hl9 dC dI z H952.size
  obtain ⟨hF954, hC957⟩ := pc_M hM956 hP hD hK hS hX hT hA [] [] rfl rfl rfl
  refine va_calli (va_runV (As := []) (rest := []) ⟨hx, hb, hml, hown, hts⟩ hM956 (cwV 0 hts (gV q_323 q_324 q_325 q_297 q_322) rfl rfl rfl hV_J6_intValue_8abf5 ⟨Nat.le_of_ble_eq_true rfl, Nat.le_of_ble_eq_true rfl⟩) ⟨pc_blind, va_Orecv (hX.2.2.1.1.1 128 (by decide)) hS, fun U hU hW => ⟨rfl, hC957 U hU hW⟩⟩ rfl rfl hl.1 rfl (lv_room (Nat.le_of_ble_eq_true rfl)) dX9_shown_61 ⟨(Nat.le_of_ble_eq_true rfl), (Nat.le_of_ble_eq_true rfl)⟩) hS (fun q9 _ h9 => hF954 q9 h9) hF954 (fun r959 u958 t958 H958 L958 ht958 hvm958 hw958 hB958 hz958 hk958 hS => ?_)
  have hP := pq_keep hP hD [] rfl hk958 hB958.1 ht958
  have hG : s.heap.size + 951 ≤ H958.size := Nat.le_trans hG hz958
  refine W.eq (g2 := F0 m 64 ls [.int 0]) (by rw [hw958]) ?_
  refine lv_istore (lv' := [(6, .int 0), (5, .ref a941), (4, .int 0), (3, .int 49), (1, .int 0), (2, .int 2), (0, .ref h0)]) hx hb dX9_shown_64 hl (by decide) rfl (fun ls hl => ?_)
  refine lv_iload hx hb dX9_shown_66 (lv_at hl 2 rfl) ?_
  refine lv_if_ne (tgt := 82) hx hb dX9_shown_68 (by decide) (fun cz => absurd (by decide) cz) (fun _ => ?_)
  refine lv_aload_n hx hb dX9_shown_71 rfl (lv_at hl 6 rfl) ?_
  refine lv_iload_n hx hb dX9_shown_72 rfl (lv_at hl 5 rfl) ?_
  refine lv_iload_n hx hb dX9_shown_73 rfl (lv_at hl 3 rfl) ?_
  refine lv_iload hx hb dX9_shown_74 (lv_at hl 0 rfl) ?_
  have hM962 := k969_showsIt l hl9 dC dI z h0 h1 h2 h4 h5 h7 h8 h9 h10 h11 h12 h13 h14 h3 H958.size kc0 kc2
  obtain ⟨hF960, hC963⟩ := pc_M hM962 hP hD hK hS hX hT hA [0, 1, 2, 3, 4, 5, 6, 7, 8, 9, 10, 11, 12] [0, 1] rfl rfl rfl
  refine va_calli (va_runV (As := [.int 2, .int 49, .int 0]) (rest := []) ⟨hx, hb, hml, hown, hts⟩ hM962 (cwV 3 hts (gV q_429 q_430 q_431 q_60 q_428) rfl rfl rfl hV_X9_showsIt ⟨Nat.le_of_ble_eq_true rfl, Nat.le_of_ble_eq_true rfl⟩) ⟨pc_blind, va_recv hK hP (ci := 8) (q := (RX9, TX9, 6)) (q0 := 0) rfl rfl, fun U hU hW => ⟨rfl, hC963 U hU hW⟩⟩ rfl rfl hl.1 rfl (lv_room (Nat.le_of_ble_eq_true rfl)) dX9_shown_76 ⟨(Nat.le_of_ble_eq_true rfl), (Nat.le_of_ble_eq_true rfl)⟩) hS (fun q9 _ h9 => hF960 q9 h9) hF960 (fun r965 u964 t964 H964 L964 ht964 hvm964 hw964 hB964 hz964 hk964 hS => ?_)
  have hP := pq_keep hP hD [0, 1, 2, 3, 4, 5, 6, 7, 8, 9, 10, 11, 12] rfl hk964 hB964.1 ht964
  have hG : s.heap.size + 978 ≤ H964.size := va_gr (g := 951) (g1 := 27) hG (by rw [← ht964]; exact hB964.2)
  refine W.eq (g2 := F0 m 79 ls [.int 0]) (by rw [hw964]) ?_
  refine W.widen (k := 978) (n := 9096) (by decide) (by decide) ?_
  refine lv_if_eq (tgt := 86) hx hb dX9_shown_79 (by decide) (fun _ => ?_) (fun cz => absurd (by decide) cz)
  refine lv_iconst (v := 0) hx hb dX9_shown_86 (by decide) ?_
  refine lv_istore (lv' := [(4, .int 0), (6, .int 0), (5, .ref a941), (3, .int 49), (1, .int 0), (2, .int 2), (0, .ref h0)]) hx hb dX9_shown_87 hl (by decide) rfl (fun ls hl => ?_)
  refine lv_goto (tgt := 41) hx hb dX9_shown_89 (by decide) ?_
  refine lv_aload hx hb dX9_shown_41 (lv_at hl 2 rfl) ?_
  have hM968 := k728_hasNext l hl9 dC dI z a941 h3 h6 H964.size
  obtain ⟨hF966, hC969⟩ := pc_M hM968 hP hD hK hS hX hT hA [13, 14] [] rfl rfl rfl
  refine va_callFi (va_runF (As := []) (rest := []) (hK.1 1 (RJx35411, TJx35411, 4) rfl).2 ⟨hx, hb, hml, hown, hts⟩ hM968 (va_cwF 0 hts (gF q_261 q_262 q_263 q_246 q_260) rfl rfl rfl hT.2.2.2.2.2.2.1 hF_xIh ⟨Nat.le_of_ble_eq_true rfl, Nat.le_of_ble_eq_true rfl⟩) ⟨pc_blind, va_recv hK hP (ci := 1) (q := (RJx35411, TJx35411, 4)) (q0 := 13) rfl rfl, fun U hU hW => ⟨rfl, hC969 U hU hW⟩⟩ rfl rfl hl.1 rfl (lv_room (Nat.le_of_ble_eq_true rfl)) dX9_shown_43 ⟨(Nat.le_of_ble_eq_true rfl), (Nat.le_of_ble_eq_true rfl)⟩) hS (fun q9 _ h9 => hF966 q9 h9) hF966 (fun r971 u970 t970 H970 L970 ht970 hvm970 hw970 hB970 hz970 hk970 hS => ?_)
  have hP := pq_keep hP hD [13, 14] rfl hk970 hB970.1 ht970
  have hG : s.heap.size + 978 ≤ H970.size := Nat.le_trans hG hz970
  refine W.eq (g2 := F0 m 48 ls [.int 1]) (by rw [hw970]) ?_
  refine lv_if_eq (tgt := 92) hx hb dX9_shown_48 (by decide) (fun cz => absurd cz (by decide)) (fun _ => ?_)
  refine lv_aload hx hb dX9_shown_51 (lv_at hl 2 rfl) ?_
  have hM974 := k954_next l hl9 dC dI z a941 h3 h6 H970.size kc1
  obtain ⟨hF972, hC975⟩ := pc_M hM974 hP hD hK hS hX hT hA [13, 14, 15] [2] rfl rfl rfl
  refine va_callFr (va_runF (As := []) (rest := []) (hK.1 1 (RJx35411, TJx35411, 4) rfl).2 ⟨hx, hb, hml, hown, hts⟩ hM974 (va_cwF 0 hts (gF q_308 q_309 q_310 q_246 q_307) rfl rfl rfl hT.2.2.2.2.2.2.2.1 hF_xIn ⟨Nat.le_of_ble_eq_true rfl, Nat.le_of_ble_eq_true rfl⟩) ⟨pc_blind, va_recv hK hP (ci := 1) (q := (RJx35411, TJx35411, 4)) (q0 := 13) rfl rfl, fun U hU hW => ⟨rfl, hC975 U hU hW⟩⟩ rfl rfl hl.1 rfl (lv_room (Nat.le_of_ble_eq_true rfl)) dX9_shown_53 ⟨(Nat.le_of_ble_eq_true rfl), (Nat.le_of_ble_eq_true rfl)⟩) hS (fun q9 _ h9 => hF972 q9 h9) hF972 (fun u976 r977 t976 H976 L976 ht976 hvm976 hw976 hB976 hz976 hk976 hS => ?_)
  obtain ⟨hr976, hB976⟩ := hB976
  obtain ⟨hP, hD, hK⟩ := pq_jn (wz := [(h0, ce21 h1 h2 h3 h4), (h1, ce331 h5), (h2, ce3 z.1), (h4, ce366 h7), (h5, ce330 kc0 h8 h9 h10 h11 h12 h13 h14), (h7, ce330 kc2 (z.2.2.1 128) (z.2.2.1 129) (z.2.2.1 130) (z.2.2.1 131) (z.2.2.1 132) (z.2.2.1 133) (z.2.2.1 134)), (h8, ce49), (h9, ce49), (h10, ce49), (h11, ce49), (h12, ce49), (h13, ce49), (h14, ce49), (a941, ce374 h3), (h3, ce331 h6), (h6, ce330 kc1 (z.2.2.1 128) (z.2.2.1 128) (z.2.2.1 128) (z.2.2.1 128) (z.2.2.1 128) (z.2.2.1 128) (z.2.2.1 128))]) (tz := [(kc0, .object "java/lang/Object"), (kc2, .object "java/lang/Object"), (kc1, .object "java/lang/Object")]) hP hD hK [13, 14, 15] [0, 1] rfl hk976 hF972 hB976.1 ht976 hvm976 rfl rfl
  have hG : s.heap.size + 978 ≤ H976.size := Nat.le_trans hG hz976
  refine W.eq (g2 := F0 m 58 ls [.ref (z.2.2.1 128)]) (by rw [hr976]) ?_
  refine va_castE (nm := "java/lang/Integer") hx hb hown (hts _ q_320) (va_Orecv (hX.2.2.1.1.1 128 (by decide)) hS) dX9_shown_58 ?_
  have hM980 := k74_intValue l hl9 dC dI z H976.size
  obtain ⟨hF978, hC981⟩ := pc_M hM980 hP hD hK hS hX hT hA [] [] rfl rfl rfl
  refine va_calli (va_runV (As := []) (rest := []) ⟨hx, hb, hml, hown, hts⟩ hM980 (cwV 0 hts (gV q_323 q_324 q_325 q_297 q_322) rfl rfl rfl hV_J6_intValue_8abf5 ⟨Nat.le_of_ble_eq_true rfl, Nat.le_of_ble_eq_true rfl⟩) ⟨pc_blind, va_Orecv (hX.2.2.1.1.1 128 (by decide)) hS, fun U hU hW => ⟨rfl, hC981 U hU hW⟩⟩ rfl rfl hl.1 rfl (lv_room (Nat.le_of_ble_eq_true rfl)) dX9_shown_61 ⟨(Nat.le_of_ble_eq_true rfl), (Nat.le_of_ble_eq_true rfl)⟩) hS (fun q9 _ h9 => hF978 q9 h9) hF978 (fun r983 u982 t982 H982 L982 ht982 hvm982 hw982 hB982 hz982 hk982 hS => ?_)
  have hP := pq_keep hP hD [] rfl hk982 hB982.1 ht982
  have hG : s.heap.size + 978 ≤ H982.size := Nat.le_trans hG hz982
  refine W.eq (g2 := F0 m 64 ls [.int 0]) (by rw [hw982]) ?_
  refine lv_istore (lv' := [(6, .int 0), (4, .int 0), (5, .ref a941), (3, .int 49), (1, .int 0), (2, .int 2), (0, .ref h0)]) hx hb dX9_shown_64 hl (by decide) rfl (fun ls hl => ?_)
  refine lv_iload hx hb dX9_shown_66 (lv_at hl 1 rfl) ?_
  refine lv_if_ne (tgt := 82) hx hb dX9_shown_68 (by decide) (fun cz => absurd (by decide) cz) (fun _ => ?_)
  refine lv_aload_n hx hb dX9_shown_71 rfl (lv_at hl 6 rfl) ?_
  refine lv_iload_n hx hb dX9_shown_72 rfl (lv_at hl 5 rfl) ?_
  refine lv_iload_n hx hb dX9_shown_73 rfl (lv_at hl 3 rfl) ?_
  refine lv_iload hx hb dX9_shown_74 (lv_at hl 0 rfl) ?_
  have hM986 := k969_showsIt l hl9 dC dI z h0 h1 h2 h4 h5 h7 h8 h9 h10 h11 h12 h13 h14 h3 H982.size kc0 kc2
  obtain ⟨hF984, hC987⟩ := pc_M hM986 hP hD hK hS hX hT hA [0, 1, 2, 3, 4, 5, 6, 7, 8, 9, 10, 11, 12] [0, 1] rfl rfl rfl
  refine va_calli (va_runV (As := [.int 2, .int 49, .int 0]) (rest := []) ⟨hx, hb, hml, hown, hts⟩ hM986 (cwV 3 hts (gV q_429 q_430 q_431 q_60 q_428) rfl rfl rfl hV_X9_showsIt ⟨Nat.le_of_ble_eq_true rfl, Nat.le_of_ble_eq_true rfl⟩) ⟨pc_blind, va_recv hK hP (ci := 8) (q := (RX9, TX9, 6)) (q0 := 0) rfl rfl, fun U hU hW => ⟨rfl, hC987 U hU hW⟩⟩ rfl rfl hl.1 rfl (lv_room (Nat.le_of_ble_eq_true rfl)) dX9_shown_76 ⟨(Nat.le_of_ble_eq_true rfl), (Nat.le_of_ble_eq_true rfl)⟩) hS (fun q9 _ h9 => hF984 q9 h9) hF984 (fun r989 u988 t988 H988 L988 ht988 hvm988 hw988 hB988 hz988 hk988 hS => ?_)
  have hP := pq_keep hP hD [0, 1, 2, 3, 4, 5, 6, 7, 8, 9, 10, 11, 12] rfl hk988 hB988.1 ht988
  have hG : s.heap.size + 1005 ≤ H988.size := va_gr (g := 978) (g1 := 27) hG (by rw [← ht988]; exact hB988.2)
  refine W.eq (g2 := F0 m 79 ls [.int 0]) (by rw [hw988]) ?_
  refine W.widen (k := 1005) (n := 9348) (by decide) (by decide) ?_
  refine lv_if_eq (tgt := 86) hx hb dX9_shown_79 (by decide) (fun _ => ?_) (fun cz => absurd (by decide) cz)
  refine lv_iconst (v := 0) hx hb dX9_shown_86 (by decide) ?_
  refine lv_istore (lv' := [(4, .int 0), (6, .int 0), (5, .ref a941), (3, .int 49), (1, .int 0), (2, .int 2), (0, .ref h0)]) hx hb dX9_shown_87 hl (by decide) rfl (fun ls hl => ?_)
  refine lv_goto (tgt := 41) hx hb dX9_shown_89 (by decide) ?_
  refine lv_aload hx hb dX9_shown_41 (lv_at hl 2 rfl) ?_
  have hM992 := k731_hasNext l hl9 dC dI z a941 h3 h6 H988.size
  obtain ⟨hF990, hC993⟩ := pc_M hM992 hP hD hK hS hX hT hA [13, 14] [] rfl rfl rfl
  refine va_callFi (va_runF (As := []) (rest := []) (hK.1 1 (RJx35411, TJx35411, 4) rfl).2 ⟨hx, hb, hml, hown, hts⟩ hM992 (va_cwF 0 hts (gF q_261 q_262 q_263 q_246 q_260) rfl rfl rfl hT.2.2.2.2.2.2.1 hF_xIh ⟨Nat.le_of_ble_eq_true rfl, Nat.le_of_ble_eq_true rfl⟩) ⟨pc_blind, va_recv hK hP (ci := 1) (q := (RJx35411, TJx35411, 4)) (q0 := 13) rfl rfl, fun U hU hW => ⟨rfl, hC993 U hU hW⟩⟩ rfl rfl hl.1 rfl (lv_room (Nat.le_of_ble_eq_true rfl)) dX9_shown_43 ⟨(Nat.le_of_ble_eq_true rfl), (Nat.le_of_ble_eq_true rfl)⟩) hS (fun q9 _ h9 => hF990 q9 h9) hF990 (fun r995 u994 t994 H994 L994 ht994 hvm994 hw994 hB994 hz994 hk994 hS => ?_)
  have hP := pq_keep hP hD [13, 14] rfl hk994 hB994.1 ht994
  have hG : s.heap.size + 1005 ≤ H994.size := Nat.le_trans hG hz994
  refine W.eq (g2 := F0 m 48 ls [.int 1]) (by rw [hw994]) ?_
  refine lv_if_eq (tgt := 92) hx hb dX9_shown_48 (by decide) (fun cz => absurd cz (by decide)) (fun _ => ?_)
  refine lv_aload hx hb dX9_shown_51 (lv_at hl 2 rfl) ?_
  have hM998 := k955_next l hl9 dC dI z a941 h3 h6 H994.size kc1
  obtain ⟨hF996, hC999⟩ := pc_M hM998 hP hD hK hS hX hT hA [13, 14, 15] [2] rfl rfl rfl
  refine va_callFr (va_runF (As := []) (rest := []) (hK.1 1 (RJx35411, TJx35411, 4) rfl).2 ⟨hx, hb, hml, hown, hts⟩ hM998 (va_cwF 0 hts (gF q_308 q_309 q_310 q_246 q_307) rfl rfl rfl hT.2.2.2.2.2.2.2.1 hF_xIn ⟨Nat.le_of_ble_eq_true rfl, Nat.le_of_ble_eq_true rfl⟩) ⟨pc_blind, va_recv hK hP (ci := 1) (q := (RJx35411, TJx35411, 4)) (q0 := 13) rfl rfl, fun U hU hW => ⟨rfl, hC999 U hU hW⟩⟩ rfl rfl hl.1 rfl (lv_room (Nat.le_of_ble_eq_true rfl)) dX9_shown_53 ⟨(Nat.le_of_ble_eq_true rfl), (Nat.le_of_ble_eq_true rfl)⟩) hS (fun q9 _ h9 => hF996 q9 h9) hF996 (fun u1000 r1001 t1000 H1000 L1000 ht1000 hvm1000 hw1000 hB1000 hz1000 hk1000 hS => ?_)
  obtain ⟨hr1000, hB1000⟩ := hB1000
  obtain ⟨hP, hD, hK⟩ := pq_jn (wz := [(h0, ce21 h1 h2 h3 h4), (h1, ce331 h5), (h2, ce3 z.1), (h4, ce366 h7), (h5, ce330 kc0 h8 h9 h10 h11 h12 h13 h14), (h7, ce330 kc2 (z.2.2.1 128) (z.2.2.1 129) (z.2.2.1 130) (z.2.2.1 131) (z.2.2.1 132) (z.2.2.1 133) (z.2.2.1 134)), (h8, ce49), (h9, ce49), (h10, ce49), (h11, ce49), (h12, ce49), (h13, ce49), (h14, ce49), (a941, ce376 h3), (h3, ce331 h6), (h6, ce330 kc1 (z.2.2.1 128) (z.2.2.1 128) (z.2.2.1 128) (z.2.2.1 128) (z.2.2.1 128) (z.2.2.1 128) (z.2.2.1 128))]) (tz := [(kc0, .object "java/lang/Object"), (kc2, .object "java/lang/Object"), (kc1, .object "java/lang/Object")]) hP hD hK [13, 14, 15] [0, 1] rfl hk1000 hF996 hB1000.1 ht1000 hvm1000 rfl rfl
  have hG : s.heap.size + 1005 ≤ H1000.size := Nat.le_trans hG hz1000
  refine W.eq (g2 := F0 m 58 ls [.ref (z.2.2.1 128)]) (by rw [hr1000]) ?_
  refine va_castE (nm := "java/lang/Integer") hx hb hown (hts _ q_320) (va_Orecv (hX.2.2.1.1.1 128 (by decide)) hS) dX9_shown_58 ?_
  have hM1004 := k74_intValue l hl9 dC dI z H1000.size
  obtain ⟨hF1002, hC1005⟩ := pc_M hM1004 hP hD hK hS hX hT hA [] [] rfl rfl rfl
  refine va_calli (va_runV (As := []) (rest := []) ⟨hx, hb, hml, hown, hts⟩ hM1004 (cwV 0 hts (gV q_323 q_324 q_325 q_297 q_322) rfl rfl rfl hV_J6_intValue_8abf5 ⟨Nat.le_of_ble_eq_true rfl, Nat.le_of_ble_eq_true rfl⟩) ⟨pc_blind, va_Orecv (hX.2.2.1.1.1 128 (by decide)) hS, fun U hU hW => ⟨rfl, hC1005 U hU hW⟩⟩ rfl rfl hl.1 rfl (lv_room (Nat.le_of_ble_eq_true rfl)) dX9_shown_61 ⟨(Nat.le_of_ble_eq_true rfl), (Nat.le_of_ble_eq_true rfl)⟩) hS (fun q9 _ h9 => hF1002 q9 h9) hF1002 (fun r1007 u1006 t1006 H1006 L1006 ht1006 hvm1006 hw1006 hB1006 hz1006 hk1006 hS => ?_)
  have hP := pq_keep hP hD [] rfl hk1006 hB1006.1 ht1006
  have hG : s.heap.size + 1005 ≤ H1006.size := Nat.le_trans hG hz1006
  refine W.eq (g2 := F0 m 64 ls [.int 0]) (by rw [hw1006]) ?_
  refine lv_istore (lv' := [(6, .int 0), (4, .int 0), (5, .ref a941), (3, .int 49), (1, .int 0), (2, .int 2), (0, .ref h0)]) hx hb dX9_shown_64 hl (by decide) rfl (fun ls hl => ?_)
  refine lv_iload hx hb dX9_shown_66 (lv_at hl 1 rfl) ?_
  refine lv_if_ne (tgt := 82) hx hb dX9_shown_68 (by decide) (fun cz => absurd (by decide) cz) (fun _ => ?_)
  refine lv_aload_n hx hb dX9_shown_71 rfl (lv_at hl 6 rfl) ?_
  refine lv_iload_n hx hb dX9_shown_72 rfl (lv_at hl 5 rfl) ?_
  refine lv_iload_n hx hb dX9_shown_73 rfl (lv_at hl 3 rfl) ?_
  refine lv_iload hx hb dX9_shown_74 (lv_at hl 0 rfl) ?_
  have hM1010 := k969_showsIt l hl9 dC dI z h0 h1 h2 h4 h5 h7 h8 h9 h10 h11 h12 h13 h14 h3 H1006.size kc0 kc2
  obtain ⟨hF1008, hC1011⟩ := pc_M hM1010 hP hD hK hS hX hT hA [0, 1, 2, 3, 4, 5, 6, 7, 8, 9, 10, 11, 12] [0, 1] rfl rfl rfl
  refine va_calli (va_runV (As := [.int 2, .int 49, .int 0]) (rest := []) ⟨hx, hb, hml, hown, hts⟩ hM1010 (cwV 3 hts (gV q_429 q_430 q_431 q_60 q_428) rfl rfl rfl hV_X9_showsIt ⟨Nat.le_of_ble_eq_true rfl, Nat.le_of_ble_eq_true rfl⟩) ⟨pc_blind, va_recv hK hP (ci := 8) (q := (RX9, TX9, 6)) (q0 := 0) rfl rfl, fun U hU hW => ⟨rfl, hC1011 U hU hW⟩⟩ rfl rfl hl.1 rfl (lv_room (Nat.le_of_ble_eq_true rfl)) dX9_shown_76 ⟨(Nat.le_of_ble_eq_true rfl), (Nat.le_of_ble_eq_true rfl)⟩) hS (fun q9 _ h9 => hF1008 q9 h9) hF1008 (fun r1013 u1012 t1012 H1012 L1012 ht1012 hvm1012 hw1012 hB1012 hz1012 hk1012 hS => ?_)
  have hP := pq_keep hP hD [0, 1, 2, 3, 4, 5, 6, 7, 8, 9, 10, 11, 12] rfl hk1012 hB1012.1 ht1012
  have hG : s.heap.size + 1032 ≤ H1012.size := va_gr (g := 1005) (g1 := 27) hG (by rw [← ht1012]; exact hB1012.2)
  refine W.eq (g2 := F0 m 79 ls [.int 0]) (by rw [hw1012]) ?_
  refine W.widen (k := 1032) (n := 9600) (by decide) (by decide) ?_
  refine lv_if_eq (tgt := 86) hx hb dX9_shown_79 (by decide) (fun _ => ?_) (fun cz => absurd (by decide) cz)
  refine lv_iconst (v := 0) hx hb dX9_shown_86 (by decide) ?_
  refine lv_istore (lv' := [(4, .int 0), (6, .int 0), (5, .ref a941), (3, .int 49), (1, .int 0), (2, .int 2), (0, .ref h0)]) hx hb dX9_shown_87 hl (by decide) rfl (fun ls hl => ?_)
  refine lv_goto (tgt := 41) hx hb dX9_shown_89 (by decide) ?_
  refine lv_aload hx hb dX9_shown_41 (lv_at hl 2 rfl) ?_
  have hM1016 := k734_hasNext l hl9 dC dI z a941 h3 h6 H1012.size
  obtain ⟨hF1014, hC1017⟩ := pc_M hM1016 hP hD hK hS hX hT hA [13, 14] [] rfl rfl rfl
  refine va_callFi (va_runF (As := []) (rest := []) (hK.1 1 (RJx35411, TJx35411, 4) rfl).2 ⟨hx, hb, hml, hown, hts⟩ hM1016 (va_cwF 0 hts (gF q_261 q_262 q_263 q_246 q_260) rfl rfl rfl hT.2.2.2.2.2.2.1 hF_xIh ⟨Nat.le_of_ble_eq_true rfl, Nat.le_of_ble_eq_true rfl⟩) ⟨pc_blind, va_recv hK hP (ci := 1) (q := (RJx35411, TJx35411, 4)) (q0 := 13) rfl rfl, fun U hU hW => ⟨rfl, hC1017 U hU hW⟩⟩ rfl rfl hl.1 rfl (lv_room (Nat.le_of_ble_eq_true rfl)) dX9_shown_43 ⟨(Nat.le_of_ble_eq_true rfl), (Nat.le_of_ble_eq_true rfl)⟩) hS (fun q9 _ h9 => hF1014 q9 h9) hF1014 (fun r1019 u1018 t1018 H1018 L1018 ht1018 hvm1018 hw1018 hB1018 hz1018 hk1018 hS => ?_)
  have hP := pq_keep hP hD [13, 14] rfl hk1018 hB1018.1 ht1018
  have hG : s.heap.size + 1032 ≤ H1018.size := Nat.le_trans hG hz1018
  refine W.eq (g2 := F0 m 48 ls [.int 1]) (by rw [hw1018]) ?_
  refine lv_if_eq (tgt := 92) hx hb dX9_shown_48 (by decide) (fun cz => absurd cz (by decide)) (fun _ => ?_)
  refine lv_aload hx hb dX9_shown_51 (lv_at hl 2 rfl) ?_
  have hM1022 := k956_next l hl9 dC dI z a941 h3 h6 H1018.size kc1
  obtain ⟨hF1020, hC1023⟩ := pc_M hM1022 hP hD hK hS hX hT hA [13, 14, 15] [2] rfl rfl rfl
  refine va_callFr (va_runF (As := []) (rest := []) (hK.1 1 (RJx35411, TJx35411, 4) rfl).2 ⟨hx, hb, hml, hown, hts⟩ hM1022 (va_cwF 0 hts (gF q_308 q_309 q_310 q_246 q_307) rfl rfl rfl hT.2.2.2.2.2.2.2.1 hF_xIn ⟨Nat.le_of_ble_eq_true rfl, Nat.le_of_ble_eq_true rfl⟩) ⟨pc_blind, va_recv hK hP (ci := 1) (q := (RJx35411, TJx35411, 4)) (q0 := 13) rfl rfl, fun U hU hW => ⟨rfl, hC1023 U hU hW⟩⟩ rfl rfl hl.1 rfl (lv_room (Nat.le_of_ble_eq_true rfl)) dX9_shown_53 ⟨(Nat.le_of_ble_eq_true rfl), (Nat.le_of_ble_eq_true rfl)⟩) hS (fun q9 _ h9 => hF1020 q9 h9) hF1020 (fun u1024 r1025 t1024 H1024 L1024 ht1024 hvm1024 hw1024 hB1024 hz1024 hk1024 hS => ?_)
  obtain ⟨hr1024, hB1024⟩ := hB1024
  obtain ⟨hP, hD, hK⟩ := pq_jn (wz := [(h0, ce21 h1 h2 h3 h4), (h1, ce331 h5), (h2, ce3 z.1), (h4, ce366 h7), (h5, ce330 kc0 h8 h9 h10 h11 h12 h13 h14), (h7, ce330 kc2 (z.2.2.1 128) (z.2.2.1 129) (z.2.2.1 130) (z.2.2.1 131) (z.2.2.1 132) (z.2.2.1 133) (z.2.2.1 134)), (h8, ce49), (h9, ce49), (h10, ce49), (h11, ce49), (h12, ce49), (h13, ce49), (h14, ce49), (a941, ce378 h3), (h3, ce331 h6), (h6, ce330 kc1 (z.2.2.1 128) (z.2.2.1 128) (z.2.2.1 128) (z.2.2.1 128) (z.2.2.1 128) (z.2.2.1 128) (z.2.2.1 128))]) (tz := [(kc0, .object "java/lang/Object"), (kc2, .object "java/lang/Object"), (kc1, .object "java/lang/Object")]) hP hD hK [13, 14, 15] [0, 1] rfl hk1024 hF1020 hB1024.1 ht1024 hvm1024 rfl rfl
  have hG : s.heap.size + 1032 ≤ H1024.size := Nat.le_trans hG hz1024
  refine W.eq (g2 := F0 m 58 ls [.ref (z.2.2.1 128)]) (by rw [hr1024]) ?_
  refine va_castE (nm := "java/lang/Integer") hx hb hown (hts _ q_320) (va_Orecv (hX.2.2.1.1.1 128 (by decide)) hS) dX9_shown_58 ?_
  have hM1028 := k74_intValue l hl9 dC dI z H1024.size
  obtain ⟨hF1026, hC1029⟩ := pc_M hM1028 hP hD hK hS hX hT hA [] [] rfl rfl rfl
  refine va_calli (va_runV (As := []) (rest := []) ⟨hx, hb, hml, hown, hts⟩ hM1028 (cwV 0 hts (gV q_323 q_324 q_325 q_297 q_322) rfl rfl rfl hV_J6_intValue_8abf5 ⟨Nat.le_of_ble_eq_true rfl, Nat.le_of_ble_eq_true rfl⟩) ⟨pc_blind, va_Orecv (hX.2.2.1.1.1 128 (by decide)) hS, fun U hU hW => ⟨rfl, hC1029 U hU hW⟩⟩ rfl rfl hl.1 rfl (lv_room (Nat.le_of_ble_eq_true rfl)) dX9_shown_61 ⟨(Nat.le_of_ble_eq_true rfl), (Nat.le_of_ble_eq_true rfl)⟩) hS (fun q9 _ h9 => hF1026 q9 h9) hF1026 (fun r1031 u1030 t1030 H1030 L1030 ht1030 hvm1030 hw1030 hB1030 hz1030 hk1030 hS => ?_)
  have hP := pq_keep hP hD [] rfl hk1030 hB1030.1 ht1030
  have hG : s.heap.size + 1032 ≤ H1030.size := Nat.le_trans hG hz1030
  refine W.eq (g2 := F0 m 64 ls [.int 0]) (by rw [hw1030]) ?_
  refine lv_istore (lv' := [(6, .int 0), (4, .int 0), (5, .ref a941), (3, .int 49), (1, .int 0), (2, .int 2), (0, .ref h0)]) hx hb dX9_shown_64 hl (by decide) rfl (fun ls hl => ?_)
  refine lv_iload hx hb dX9_shown_66 (lv_at hl 1 rfl) ?_
  refine lv_if_ne (tgt := 82) hx hb dX9_shown_68 (by decide) (fun cz => absurd (by decide) cz) (fun _ => ?_)
  refine lv_aload_n hx hb dX9_shown_71 rfl (lv_at hl 6 rfl) ?_
  refine lv_iload_n hx hb dX9_shown_72 rfl (lv_at hl 5 rfl) ?_
  refine lv_iload_n hx hb dX9_shown_73 rfl (lv_at hl 3 rfl) ?_
  refine lv_iload hx hb dX9_shown_74 (lv_at hl 0 rfl) ?_
  have hM1034 := k969_showsIt l hl9 dC dI z h0 h1 h2 h4 h5 h7 h8 h9 h10 h11 h12 h13 h14 h3 H1030.size kc0 kc2
  obtain ⟨hF1032, hC1035⟩ := pc_M hM1034 hP hD hK hS hX hT hA [0, 1, 2, 3, 4, 5, 6, 7, 8, 9, 10, 11, 12] [0, 1] rfl rfl rfl
  refine va_calli (va_runV (As := [.int 2, .int 49, .int 0]) (rest := []) ⟨hx, hb, hml, hown, hts⟩ hM1034 (cwV 3 hts (gV q_429 q_430 q_431 q_60 q_428) rfl rfl rfl hV_X9_showsIt ⟨Nat.le_of_ble_eq_true rfl, Nat.le_of_ble_eq_true rfl⟩) ⟨pc_blind, va_recv hK hP (ci := 8) (q := (RX9, TX9, 6)) (q0 := 0) rfl rfl, fun U hU hW => ⟨rfl, hC1035 U hU hW⟩⟩ rfl rfl hl.1 rfl (lv_room (Nat.le_of_ble_eq_true rfl)) dX9_shown_76 ⟨(Nat.le_of_ble_eq_true rfl), (Nat.le_of_ble_eq_true rfl)⟩) hS (fun q9 _ h9 => hF1032 q9 h9) hF1032 (fun r1037 u1036 t1036 H1036 L1036 ht1036 hvm1036 hw1036 hB1036 hz1036 hk1036 hS => ?_)
  have hP := pq_keep hP hD [0, 1, 2, 3, 4, 5, 6, 7, 8, 9, 10, 11, 12] rfl hk1036 hB1036.1 ht1036
  have hG : s.heap.size + 1059 ≤ H1036.size := va_gr (g := 1032) (g1 := 27) hG (by rw [← ht1036]; exact hB1036.2)
  refine W.eq (g2 := F0 m 79 ls [.int 0]) (by rw [hw1036]) ?_
  refine W.widen (k := 1059) (n := 9852) (by decide) (by decide) ?_
  refine lv_if_eq (tgt := 86) hx hb dX9_shown_79 (by decide) (fun _ => ?_) (fun cz => absurd (by decide) cz)
  refine lv_iconst (v := 0) hx hb dX9_shown_86 (by decide) ?_
  refine lv_istore (lv' := [(4, .int 0), (6, .int 0), (5, .ref a941), (3, .int 49), (1, .int 0), (2, .int 2), (0, .ref h0)]) hx hb dX9_shown_87 hl (by decide) rfl (fun ls hl => ?_)
  refine lv_goto (tgt := 41) hx hb dX9_shown_89 (by decide) ?_
  refine lv_aload hx hb dX9_shown_41 (lv_at hl 2 rfl) ?_
  have hM1040 := k737_hasNext l hl9 dC dI z a941 h3 h6 H1036.size
  obtain ⟨hF1038, hC1041⟩ := pc_M hM1040 hP hD hK hS hX hT hA [13, 14] [] rfl rfl rfl
  refine va_callFi (va_runF (As := []) (rest := []) (hK.1 1 (RJx35411, TJx35411, 4) rfl).2 ⟨hx, hb, hml, hown, hts⟩ hM1040 (va_cwF 0 hts (gF q_261 q_262 q_263 q_246 q_260) rfl rfl rfl hT.2.2.2.2.2.2.1 hF_xIh ⟨Nat.le_of_ble_eq_true rfl, Nat.le_of_ble_eq_true rfl⟩) ⟨pc_blind, va_recv hK hP (ci := 1) (q := (RJx35411, TJx35411, 4)) (q0 := 13) rfl rfl, fun U hU hW => ⟨rfl, hC1041 U hU hW⟩⟩ rfl rfl hl.1 rfl (lv_room (Nat.le_of_ble_eq_true rfl)) dX9_shown_43 ⟨(Nat.le_of_ble_eq_true rfl), (Nat.le_of_ble_eq_true rfl)⟩) hS (fun q9 _ h9 => hF1038 q9 h9) hF1038 (fun r1043 u1042 t1042 H1042 L1042 ht1042 hvm1042 hw1042 hB1042 hz1042 hk1042 hS => ?_)
  have hP := pq_keep hP hD [13, 14] rfl hk1042 hB1042.1 ht1042
  have hG : s.heap.size + 1059 ≤ H1042.size := Nat.le_trans hG hz1042
  refine W.eq (g2 := F0 m 48 ls [.int 1]) (by rw [hw1042]) ?_
  refine lv_if_eq (tgt := 92) hx hb dX9_shown_48 (by decide) (fun cz => absurd cz (by decide)) (fun _ => ?_)
  refine lv_aload hx hb dX9_shown_51 (lv_at hl 2 rfl) ?_
  have hM1046 := k957_next l hl9 dC dI z a941 h3 h6 H1042.size kc1
  obtain ⟨hF1044, hC1047⟩ := pc_M hM1046 hP hD hK hS hX hT hA [13, 14, 15] [2] rfl rfl rfl
  refine va_callFr (va_runF (As := []) (rest := []) (hK.1 1 (RJx35411, TJx35411, 4) rfl).2 ⟨hx, hb, hml, hown, hts⟩ hM1046 (va_cwF 0 hts (gF q_308 q_309 q_310 q_246 q_307) rfl rfl rfl hT.2.2.2.2.2.2.2.1 hF_xIn ⟨Nat.le_of_ble_eq_true rfl, Nat.le_of_ble_eq_true rfl⟩) ⟨pc_blind, va_recv hK hP (ci := 1) (q := (RJx35411, TJx35411, 4)) (q0 := 13) rfl rfl, fun U hU hW => ⟨rfl, hC1047 U hU hW⟩⟩ rfl rfl hl.1 rfl (lv_room (Nat.le_of_ble_eq_true rfl)) dX9_shown_53 ⟨(Nat.le_of_ble_eq_true rfl), (Nat.le_of_ble_eq_true rfl)⟩) hS (fun q9 _ h9 => hF1044 q9 h9) hF1044 (fun u1048 r1049 t1048 H1048 L1048 ht1048 hvm1048 hw1048 hB1048 hz1048 hk1048 hS => ?_)
  obtain ⟨hr1048, hB1048⟩ := hB1048
  obtain ⟨hP, hD, hK⟩ := pq_jn (wz := [(h0, ce21 h1 h2 h3 h4), (h1, ce331 h5), (h2, ce3 z.1), (h4, ce366 h7), (h5, ce330 kc0 h8 h9 h10 h11 h12 h13 h14), (h7, ce330 kc2 (z.2.2.1 128) (z.2.2.1 129) (z.2.2.1 130) (z.2.2.1 131) (z.2.2.1 132) (z.2.2.1 133) (z.2.2.1 134)), (h8, ce49), (h9, ce49), (h10, ce49), (h11, ce49), (h12, ce49), (h13, ce49), (h14, ce49), (a941, ce380 h3), (h3, ce331 h6), (h6, ce330 kc1 (z.2.2.1 128) (z.2.2.1 128) (z.2.2.1 128) (z.2.2.1 128) (z.2.2.1 128) (z.2.2.1 128) (z.2.2.1 128))]) (tz := [(kc0, .object "java/lang/Object"), (kc2, .object "java/lang/Object"), (kc1, .object "java/lang/Object")]) hP hD hK [13, 14, 15] [0, 1] rfl hk1048 hF1044 hB1048.1 ht1048 hvm1048 rfl rfl
  have hG : s.heap.size + 1059 ≤ H1048.size := Nat.le_trans hG hz1048
  refine W.eq (g2 := F0 m 58 ls [.ref (z.2.2.1 128)]) (by rw [hr1048]) ?_
  refine va_castE (nm := "java/lang/Integer") hx hb hown (hts _ q_320) (va_Orecv (hX.2.2.1.1.1 128 (by decide)) hS) dX9_shown_58 ?_
  have hM1052 := k74_intValue l hl9 dC dI z H1048.size
  obtain ⟨hF1050, hC1053⟩ := pc_M hM1052 hP hD hK hS hX hT hA [] [] rfl rfl rfl
  refine va_calli (va_runV (As := []) (rest := []) ⟨hx, hb, hml, hown, hts⟩ hM1052 (cwV 0 hts (gV q_323 q_324 q_325 q_297 q_322) rfl rfl rfl hV_J6_intValue_8abf5 ⟨Nat.le_of_ble_eq_true rfl, Nat.le_of_ble_eq_true rfl⟩) ⟨pc_blind, va_Orecv (hX.2.2.1.1.1 128 (by decide)) hS, fun U hU hW => ⟨rfl, hC1053 U hU hW⟩⟩ rfl rfl hl.1 rfl (lv_room (Nat.le_of_ble_eq_true rfl)) dX9_shown_61 ⟨(Nat.le_of_ble_eq_true rfl), (Nat.le_of_ble_eq_true rfl)⟩) hS (fun q9 _ h9 => hF1050 q9 h9) hF1050 (fun r1055 u1054 t1054 H1054 L1054 ht1054 hvm1054 hw1054 hB1054 hz1054 hk1054 hS => ?_)
  have hP := pq_keep hP hD [] rfl hk1054 hB1054.1 ht1054
  have hG : s.heap.size + 1059 ≤ H1054.size := Nat.le_trans hG hz1054
  refine W.eq (g2 := F0 m 64 ls [.int 0]) (by rw [hw1054]) ?_
  refine lv_istore (lv' := [(6, .int 0), (4, .int 0), (5, .ref a941), (3, .int 49), (1, .int 0), (2, .int 2), (0, .ref h0)]) hx hb dX9_shown_64 hl (by decide) rfl (fun ls hl => ?_)
  refine lv_iload hx hb dX9_shown_66 (lv_at hl 1 rfl) ?_
  refine lv_if_ne (tgt := 82) hx hb dX9_shown_68 (by decide) (fun cz => absurd (by decide) cz) (fun _ => ?_)
  refine lv_aload_n hx hb dX9_shown_71 rfl (lv_at hl 6 rfl) ?_
  refine lv_iload_n hx hb dX9_shown_72 rfl (lv_at hl 5 rfl) ?_
  refine lv_iload_n hx hb dX9_shown_73 rfl (lv_at hl 3 rfl) ?_
  refine lv_iload hx hb dX9_shown_74 (lv_at hl 0 rfl) ?_
  have hM1058 := k969_showsIt l hl9 dC dI z h0 h1 h2 h4 h5 h7 h8 h9 h10 h11 h12 h13 h14 h3 H1054.size kc0 kc2
  obtain ⟨hF1056, hC1059⟩ := pc_M hM1058 hP hD hK hS hX hT hA [0, 1, 2, 3, 4, 5, 6, 7, 8, 9, 10, 11, 12] [0, 1] rfl rfl rfl
  refine va_calli (va_runV (As := [.int 2, .int 49, .int 0]) (rest := []) ⟨hx, hb, hml, hown, hts⟩ hM1058 (cwV 3 hts (gV q_429 q_430 q_431 q_60 q_428) rfl rfl rfl hV_X9_showsIt ⟨Nat.le_of_ble_eq_true rfl, Nat.le_of_ble_eq_true rfl⟩) ⟨pc_blind, va_recv hK hP (ci := 8) (q := (RX9, TX9, 6)) (q0 := 0) rfl rfl, fun U hU hW => ⟨rfl, hC1059 U hU hW⟩⟩ rfl rfl hl.1 rfl (lv_room (Nat.le_of_ble_eq_true rfl)) dX9_shown_76 ⟨(Nat.le_of_ble_eq_true rfl), (Nat.le_of_ble_eq_true rfl)⟩) hS (fun q9 _ h9 => hF1056 q9 h9) hF1056 (fun r1061 u1060 t1060 H1060 L1060 ht1060 hvm1060 hw1060 hB1060 hz1060 hk1060 hS => ?_)
  have hP := pq_keep hP hD [0, 1, 2, 3, 4, 5, 6, 7, 8, 9, 10, 11, 12] rfl hk1060 hB1060.1 ht1060
  have hG : s.heap.size + 1086 ≤ H1060.size := va_gr (g := 1059) (g1 := 27) hG (by rw [← ht1060]; exact hB1060.2)
  refine W.eq (g2 := F0 m 79 ls [.int 0]) (by rw [hw1060]) ?_
  refine W.widen (k := 1086) (n := 10104) (by decide) (by decide) ?_
  refine lv_if_eq (tgt := 86) hx hb dX9_shown_79 (by decide) (fun _ => ?_) (fun cz => absurd (by decide) cz)
  refine lv_iconst (v := 0) hx hb dX9_shown_86 (by decide) ?_
  refine lv_istore (lv' := [(4, .int 0), (6, .int 0), (5, .ref a941), (3, .int 49), (1, .int 0), (2, .int 2), (0, .ref h0)]) hx hb dX9_shown_87 hl (by decide) rfl (fun ls hl => ?_)
  refine lv_goto (tgt := 41) hx hb dX9_shown_89 (by decide) ?_
  refine lv_aload hx hb dX9_shown_41 (lv_at hl 2 rfl) ?_
  have hM1064 := k740_hasNext l hl9 dC dI z a941 h3 h6 H1060.size
  obtain ⟨hF1062, hC1065⟩ := pc_M hM1064 hP hD hK hS hX hT hA [13, 14] [] rfl rfl rfl
  refine va_callFi (va_runF (As := []) (rest := []) (hK.1 1 (RJx35411, TJx35411, 4) rfl).2 ⟨hx, hb, hml, hown, hts⟩ hM1064 (va_cwF 0 hts (gF q_261 q_262 q_263 q_246 q_260) rfl rfl rfl hT.2.2.2.2.2.2.1 hF_xIh ⟨Nat.le_of_ble_eq_true rfl, Nat.le_of_ble_eq_true rfl⟩) ⟨pc_blind, va_recv hK hP (ci := 1) (q := (RJx35411, TJx35411, 4)) (q0 := 13) rfl rfl, fun U hU hW => ⟨rfl, hC1065 U hU hW⟩⟩ rfl rfl hl.1 rfl (lv_room (Nat.le_of_ble_eq_true rfl)) dX9_shown_43 ⟨(Nat.le_of_ble_eq_true rfl), (Nat.le_of_ble_eq_true rfl)⟩) hS (fun q9 _ h9 => hF1062 q9 h9) hF1062 (fun r1067 u1066 t1066 H1066 L1066 ht1066 hvm1066 hw1066 hB1066 hz1066 hk1066 hS => ?_)
  have hP := pq_keep hP hD [13, 14] rfl hk1066 hB1066.1 ht1066
  have hG : s.heap.size + 1086 ≤ H1066.size := Nat.le_trans hG hz1066
  refine W.eq (g2 := F0 m 48 ls [.int 1]) (by rw [hw1066]) ?_
  refine lv_if_eq (tgt := 92) hx hb dX9_shown_48 (by decide) (fun cz => absurd cz (by decide)) (fun _ => ?_)
  refine lv_aload hx hb dX9_shown_51 (lv_at hl 2 rfl) ?_
  have hM1070 := k958_next l hl9 dC dI z a941 h3 h6 H1066.size kc1
  obtain ⟨hF1068, hC1071⟩ := pc_M hM1070 hP hD hK hS hX hT hA [13, 14, 15] [2] rfl rfl rfl
  refine va_callFr (va_runF (As := []) (rest := []) (hK.1 1 (RJx35411, TJx35411, 4) rfl).2 ⟨hx, hb, hml, hown, hts⟩ hM1070 (va_cwF 0 hts (gF q_308 q_309 q_310 q_246 q_307) rfl rfl rfl hT.2.2.2.2.2.2.2.1 hF_xIn ⟨Nat.le_of_ble_eq_true rfl, Nat.le_of_ble_eq_true rfl⟩) ⟨pc_blind, va_recv hK hP (ci := 1) (q := (RJx35411, TJx35411, 4)) (q0 := 13) rfl rfl, fun U hU hW => ⟨rfl, hC1071 U hU hW⟩⟩ rfl rfl hl.1 rfl (lv_room (Nat.le_of_ble_eq_true rfl)) dX9_shown_53 ⟨(Nat.le_of_ble_eq_true rfl), (Nat.le_of_ble_eq_true rfl)⟩) hS (fun q9 _ h9 => hF1068 q9 h9) hF1068 (fun u1072 r1073 t1072 H1072 L1072 ht1072 hvm1072 hw1072 hB1072 hz1072 hk1072 hS => ?_)
  obtain ⟨hr1072, hB1072⟩ := hB1072
  obtain ⟨hP, hD, hK⟩ := pq_jn (wz := [(h0, ce21 h1 h2 h3 h4), (h1, ce331 h5), (h2, ce3 z.1), (h4, ce366 h7), (h5, ce330 kc0 h8 h9 h10 h11 h12 h13 h14), (h7, ce330 kc2 (z.2.2.1 128) (z.2.2.1 129) (z.2.2.1 130) (z.2.2.1 131) (z.2.2.1 132) (z.2.2.1 133) (z.2.2.1 134)), (h8, ce49), (h9, ce49), (h10, ce49), (h11, ce49), (h12, ce49), (h13, ce49), (h14, ce49), (a941, ce382 h3), (h3, ce331 h6), (h6, ce330 kc1 (z.2.2.1 128) (z.2.2.1 128) (z.2.2.1 128) (z.2.2.1 128) (z.2.2.1 128) (z.2.2.1 128) (z.2.2.1 128))]) (tz := [(kc0, .object "java/lang/Object"), (kc2, .object "java/lang/Object"), (kc1, .object "java/lang/Object")]) hP hD hK [13, 14, 15] [0, 1] rfl hk1072 hF1068 hB1072.1 ht1072 hvm1072 rfl rfl
  have hG : s.heap.size + 1086 ≤ H1072.size := Nat.le_trans hG hz1072
  refine W.eq (g2 := F0 m 58 ls [.ref (z.2.2.1 128)]) (by rw [hr1072]) ?_
  refine va_castE (nm := "java/lang/Integer") hx hb hown (hts _ q_320) (va_Orecv (hX.2.2.1.1.1 128 (by decide)) hS) dX9_shown_58 ?_
  have hM1076 := k74_intValue l hl9 dC dI z H1072.size
  obtain ⟨hF1074, hC1077⟩ := pc_M hM1076 hP hD hK hS hX hT hA [] [] rfl rfl rfl
  refine va_calli (va_runV (As := []) (rest := []) ⟨hx, hb, hml, hown, hts⟩ hM1076 (cwV 0 hts (gV q_323 q_324 q_325 q_297 q_322) rfl rfl rfl hV_J6_intValue_8abf5 ⟨Nat.le_of_ble_eq_true rfl, Nat.le_of_ble_eq_true rfl⟩) ⟨pc_blind, va_Orecv (hX.2.2.1.1.1 128 (by decide)) hS, fun U hU hW => ⟨rfl, hC1077 U hU hW⟩⟩ rfl rfl hl.1 rfl (lv_room (Nat.le_of_ble_eq_true rfl)) dX9_shown_61 ⟨(Nat.le_of_ble_eq_true rfl), (Nat.le_of_ble_eq_true rfl)⟩) hS (fun q9 _ h9 => hF1074 q9 h9) hF1074 (fun r1079 u1078 t1078 H1078 L1078 ht1078 hvm1078 hw1078 hB1078 hz1078 hk1078 hS => ?_)
  have hP := pq_keep hP hD [] rfl hk1078 hB1078.1 ht1078
  have hG : s.heap.size + 1086 ≤ H1078.size := Nat.le_trans hG hz1078
  refine W.eq (g2 := F0 m 64 ls [.int 0]) (by rw [hw1078]) ?_
  refine lv_istore (lv' := [(6, .int 0), (4, .int 0), (5, .ref a941), (3, .int 49), (1, .int 0), (2, .int 2), (0, .ref h0)]) hx hb dX9_shown_64 hl (by decide) rfl (fun ls hl => ?_)
  refine lv_iload hx hb dX9_shown_66 (lv_at hl 1 rfl) ?_
  refine lv_if_ne (tgt := 82) hx hb dX9_shown_68 (by decide) (fun cz => absurd (by decide) cz) (fun _ => ?_)
  refine lv_aload_n hx hb dX9_shown_71 rfl (lv_at hl 6 rfl) ?_
  refine lv_iload_n hx hb dX9_shown_72 rfl (lv_at hl 5 rfl) ?_
  refine lv_iload_n hx hb dX9_shown_73 rfl (lv_at hl 3 rfl) ?_
  refine lv_iload hx hb dX9_shown_74 (lv_at hl 0 rfl) ?_
  have hM1082 := k969_showsIt l hl9 dC dI z h0 h1 h2 h4 h5 h7 h8 h9 h10 h11 h12 h13 h14 h3 H1078.size kc0 kc2
  obtain ⟨hF1080, hC1083⟩ := pc_M hM1082 hP hD hK hS hX hT hA [0, 1, 2, 3, 4, 5, 6, 7, 8, 9, 10, 11, 12] [0, 1] rfl rfl rfl
  refine va_calli (va_runV (As := [.int 2, .int 49, .int 0]) (rest := []) ⟨hx, hb, hml, hown, hts⟩ hM1082 (cwV 3 hts (gV q_429 q_430 q_431 q_60 q_428) rfl rfl rfl hV_X9_showsIt ⟨Nat.le_of_ble_eq_true rfl, Nat.le_of_ble_eq_true rfl⟩) ⟨pc_blind, va_recv hK hP (ci := 8) (q := (RX9, TX9, 6)) (q0 := 0) rfl rfl, fun U hU hW => ⟨rfl, hC1083 U hU hW⟩⟩ rfl rfl hl.1 rfl (lv_room (Nat.le_of_ble_eq_true rfl)) dX9_shown_76 ⟨(Nat.le_of_ble_eq_true rfl), (Nat.le_of_ble_eq_true rfl)⟩) hS (fun q9 _ h9 => hF1080 q9 h9) hF1080 (fun r1085 u1084 t1084 H1084 L1084 ht1084 hvm1084 hw1084 hB1084 hz1084 hk1084 hS => ?_)
  have hP := pq_keep hP hD [0, 1, 2, 3, 4, 5, 6, 7, 8, 9, 10, 11, 12] rfl hk1084 hB1084.1 ht1084
  have hG : s.heap.size + 1113 ≤ H1084.size := va_gr (g := 1086) (g1 := 27) hG (by rw [← ht1084]; exact hB1084.2)
  refine W.eq (g2 := F0 m 79 ls [.int 0]) (by rw [hw1084]) ?_
  refine W.widen (k := 1113) (n := 10356) (by decide) (by decide) ?_
  refine lv_if_eq (tgt := 86) hx hb dX9_shown_79 (by decide) (fun _ => ?_) (fun cz => absurd (by decide) cz)
  refine lv_iconst (v := 0) hx hb dX9_shown_86 (by decide) ?_
  refine lv_istore (lv' := [(4, .int 0), (6, .int 0), (5, .ref a941), (3, .int 49), (1, .int 0), (2, .int 2), (0, .ref h0)]) hx hb dX9_shown_87 hl (by decide) rfl (fun ls hl => ?_)
  refine lv_goto (tgt := 41) hx hb dX9_shown_89 (by decide) ?_
  refine lv_aload hx hb dX9_shown_41 (lv_at hl 2 rfl) ?_
  have hM1088 := k743_hasNext l hl9 dC dI z a941 h3 h6 H1084.size
  obtain ⟨hF1086, hC1089⟩ := pc_M hM1088 hP hD hK hS hX hT hA [13, 14] [] rfl rfl rfl
  refine va_callFi (va_runF (As := []) (rest := []) (hK.1 1 (RJx35411, TJx35411, 4) rfl).2 ⟨hx, hb, hml, hown, hts⟩ hM1088 (va_cwF 0 hts (gF q_261 q_262 q_263 q_246 q_260) rfl rfl rfl hT.2.2.2.2.2.2.1 hF_xIh ⟨Nat.le_of_ble_eq_true rfl, Nat.le_of_ble_eq_true rfl⟩) ⟨pc_blind, va_recv hK hP (ci := 1) (q := (RJx35411, TJx35411, 4)) (q0 := 13) rfl rfl, fun U hU hW => ⟨rfl, hC1089 U hU hW⟩⟩ rfl rfl hl.1 rfl (lv_room (Nat.le_of_ble_eq_true rfl)) dX9_shown_43 ⟨(Nat.le_of_ble_eq_true rfl), (Nat.le_of_ble_eq_true rfl)⟩) hS (fun q9 _ h9 => hF1086 q9 h9) hF1086 (fun r1091 u1090 t1090 H1090 L1090 ht1090 hvm1090 hw1090 hB1090 hz1090 hk1090 hS => ?_)
  have hP := pq_keep hP hD [13, 14] rfl hk1090 hB1090.1 ht1090
  have hG : s.heap.size + 1113 ≤ H1090.size := Nat.le_trans hG hz1090
  refine W.eq (g2 := F0 m 48 ls [.int 1]) (by rw [hw1090]) ?_
  refine lv_if_eq (tgt := 92) hx hb dX9_shown_48 (by decide) (fun cz => absurd cz (by decide)) (fun _ => ?_)
  refine lv_aload hx hb dX9_shown_51 (lv_at hl 2 rfl) ?_
  have hM1094 := k959_next l hl9 dC dI z a941 h3 h6 H1090.size kc1
  obtain ⟨hF1092, hC1095⟩ := pc_M hM1094 hP hD hK hS hX hT hA [13, 14, 15] [2] rfl rfl rfl
  refine va_callFr (va_runF (As := []) (rest := []) (hK.1 1 (RJx35411, TJx35411, 4) rfl).2 ⟨hx, hb, hml, hown, hts⟩ hM1094 (va_cwF 0 hts (gF q_308 q_309 q_310 q_246 q_307) rfl rfl rfl hT.2.2.2.2.2.2.2.1 hF_xIn ⟨Nat.le_of_ble_eq_true rfl, Nat.le_of_ble_eq_true rfl⟩) ⟨pc_blind, va_recv hK hP (ci := 1) (q := (RJx35411, TJx35411, 4)) (q0 := 13) rfl rfl, fun U hU hW => ⟨rfl, hC1095 U hU hW⟩⟩ rfl rfl hl.1 rfl (lv_room (Nat.le_of_ble_eq_true rfl)) dX9_shown_53 ⟨(Nat.le_of_ble_eq_true rfl), (Nat.le_of_ble_eq_true rfl)⟩) hS (fun q9 _ h9 => hF1092 q9 h9) hF1092 (fun u1096 r1097 t1096 H1096 L1096 ht1096 hvm1096 hw1096 hB1096 hz1096 hk1096 hS => ?_)
  obtain ⟨hr1096, hB1096⟩ := hB1096
  obtain ⟨hP, hD, hK⟩ := pq_jn (wz := [(h0, ce21 h1 h2 h3 h4), (h1, ce331 h5), (h2, ce3 z.1), (h4, ce366 h7), (h5, ce330 kc0 h8 h9 h10 h11 h12 h13 h14), (h7, ce330 kc2 (z.2.2.1 128) (z.2.2.1 129) (z.2.2.1 130) (z.2.2.1 131) (z.2.2.1 132) (z.2.2.1 133) (z.2.2.1 134)), (h8, ce49), (h9, ce49), (h10, ce49), (h11, ce49), (h12, ce49), (h13, ce49), (h14, ce49), (a941, ce384 h3), (h3, ce331 h6), (h6, ce330 kc1 (z.2.2.1 128) (z.2.2.1 128) (z.2.2.1 128) (z.2.2.1 128) (z.2.2.1 128) (z.2.2.1 128) (z.2.2.1 128))]) (tz := [(kc0, .object "java/lang/Object"), (kc2, .object "java/lang/Object"), (kc1, .object "java/lang/Object")]) hP hD hK [13, 14, 15] [0, 1] rfl hk1096 hF1092 hB1096.1 ht1096 hvm1096 rfl rfl
  have hG : s.heap.size + 1113 ≤ H1096.size := Nat.le_trans hG hz1096
  refine W.eq (g2 := F0 m 58 ls [.ref (z.2.2.1 128)]) (by rw [hr1096]) ?_
  refine va_castE (nm := "java/lang/Integer") hx hb hown (hts _ q_320) (va_Orecv (hX.2.2.1.1.1 128 (by decide)) hS) dX9_shown_58 ?_
  have hM1100 := k74_intValue l hl9 dC dI z H1096.size
  obtain ⟨hF1098, hC1101⟩ := pc_M hM1100 hP hD hK hS hX hT hA [] [] rfl rfl rfl
  refine va_calli (va_runV (As := []) (rest := []) ⟨hx, hb, hml, hown, hts⟩ hM1100 (cwV 0 hts (gV q_323 q_324 q_325 q_297 q_322) rfl rfl rfl hV_J6_intValue_8abf5 ⟨Nat.le_of_ble_eq_true rfl, Nat.le_of_ble_eq_true rfl⟩) ⟨pc_blind, va_Orecv (hX.2.2.1.1.1 128 (by decide)) hS, fun U hU hW => ⟨rfl, hC1101 U hU hW⟩⟩ rfl rfl hl.1 rfl (lv_room (Nat.le_of_ble_eq_true rfl)) dX9_shown_61 ⟨(Nat.le_of_ble_eq_true rfl), (Nat.le_of_ble_eq_true rfl)⟩) hS (fun q9 _ h9 => hF1098 q9 h9) hF1098 (fun r1103 u1102 t1102 H1102 L1102 ht1102 hvm1102 hw1102 hB1102 hz1102 hk1102 hS => ?_)
  have hP := pq_keep hP hD [] rfl hk1102 hB1102.1 ht1102
  have hG : s.heap.size + 1113 ≤ H1102.size := Nat.le_trans hG hz1102
  refine W.eq (g2 := F0 m 64 ls [.int 0]) (by rw [hw1102]) ?_
  refine lv_istore (lv' := [(6, .int 0), (4, .int 0), (5, .ref a941), (3, .int 49), (1, .int 0), (2, .int 2), (0, .ref h0)]) hx hb dX9_shown_64 hl (by decide) rfl (fun ls hl => ?_)
  refine lv_iload hx hb dX9_shown_66 (lv_at hl 1 rfl) ?_
  refine lv_if_ne (tgt := 82) hx hb dX9_shown_68 (by decide) (fun cz => absurd (by decide) cz) (fun _ => ?_)
  refine lv_aload_n hx hb dX9_shown_71 rfl (lv_at hl 6 rfl) ?_
  refine lv_iload_n hx hb dX9_shown_72 rfl (lv_at hl 5 rfl) ?_
  refine lv_iload_n hx hb dX9_shown_73 rfl (lv_at hl 3 rfl) ?_
  refine lv_iload hx hb dX9_shown_74 (lv_at hl 0 rfl) ?_
  have hM1106 := k969_showsIt l hl9 dC dI z h0 h1 h2 h4 h5 h7 h8 h9 h10 h11 h12 h13 h14 h3 H1102.size kc0 kc2
  obtain ⟨hF1104, hC1107⟩ := pc_M hM1106 hP hD hK hS hX hT hA [0, 1, 2, 3, 4, 5, 6, 7, 8, 9, 10, 11, 12] [0, 1] rfl rfl rfl
  refine va_calli (va_runV (As := [.int 2, .int 49, .int 0]) (rest := []) ⟨hx, hb, hml, hown, hts⟩ hM1106 (cwV 3 hts (gV q_429 q_430 q_431 q_60 q_428) rfl rfl rfl hV_X9_showsIt ⟨Nat.le_of_ble_eq_true rfl, Nat.le_of_ble_eq_true rfl⟩) ⟨pc_blind, va_recv hK hP (ci := 8) (q := (RX9, TX9, 6)) (q0 := 0) rfl rfl, fun U hU hW => ⟨rfl, hC1107 U hU hW⟩⟩ rfl rfl hl.1 rfl (lv_room (Nat.le_of_ble_eq_true rfl)) dX9_shown_76 ⟨(Nat.le_of_ble_eq_true rfl), (Nat.le_of_ble_eq_true rfl)⟩) hS (fun q9 _ h9 => hF1104 q9 h9) hF1104 (fun r1109 u1108 t1108 H1108 L1108 ht1108 hvm1108 hw1108 hB1108 hz1108 hk1108 hS => ?_)
  have hP := pq_keep hP hD [0, 1, 2, 3, 4, 5, 6, 7, 8, 9, 10, 11, 12] rfl hk1108 hB1108.1 ht1108
  have hG : s.heap.size + 1140 ≤ H1108.size := va_gr (g := 1113) (g1 := 27) hG (by rw [← ht1108]; exact hB1108.2)
  refine W.eq (g2 := F0 m 79 ls [.int 0]) (by rw [hw1108]) ?_
  refine W.widen (k := 1140) (n := 10608) (by decide) (by decide) ?_
  refine lv_if_eq (tgt := 86) hx hb dX9_shown_79 (by decide) (fun _ => ?_) (fun cz => absurd (by decide) cz)
  refine lv_iconst (v := 0) hx hb dX9_shown_86 (by decide) ?_
  refine lv_istore (lv' := [(4, .int 0), (6, .int 0), (5, .ref a941), (3, .int 49), (1, .int 0), (2, .int 2), (0, .ref h0)]) hx hb dX9_shown_87 hl (by decide) rfl (fun ls hl => ?_)
  refine lv_goto (tgt := 41) hx hb dX9_shown_89 (by decide) ?_
  refine lv_aload hx hb dX9_shown_41 (lv_at hl 2 rfl) ?_
  have hM1112 := k746_hasNext l hl9 dC dI z a941 h3 h6 H1108.size
  obtain ⟨hF1110, hC1113⟩ := pc_M hM1112 hP hD hK hS hX hT hA [13, 14] [] rfl rfl rfl
  refine va_callFi (va_runF (As := []) (rest := []) (hK.1 1 (RJx35411, TJx35411, 4) rfl).2 ⟨hx, hb, hml, hown, hts⟩ hM1112 (va_cwF 0 hts (gF q_261 q_262 q_263 q_246 q_260) rfl rfl rfl hT.2.2.2.2.2.2.1 hF_xIh ⟨Nat.le_of_ble_eq_true rfl, Nat.le_of_ble_eq_true rfl⟩) ⟨pc_blind, va_recv hK hP (ci := 1) (q := (RJx35411, TJx35411, 4)) (q0 := 13) rfl rfl, fun U hU hW => ⟨rfl, hC1113 U hU hW⟩⟩ rfl rfl hl.1 rfl (lv_room (Nat.le_of_ble_eq_true rfl)) dX9_shown_43 ⟨(Nat.le_of_ble_eq_true rfl), (Nat.le_of_ble_eq_true rfl)⟩) hS (fun q9 _ h9 => hF1110 q9 h9) hF1110 (fun r1115 u1114 t1114 H1114 L1114 ht1114 hvm1114 hw1114 hB1114 hz1114 hk1114 hS => ?_)
  have hP := pq_keep hP hD [13, 14] rfl hk1114 hB1114.1 ht1114
  have hG : s.heap.size + 1140 ≤ H1114.size := Nat.le_trans hG hz1114
  refine W.eq (g2 := F0 m 48 ls [.int 0]) (by rw [hw1114]) ?_
  refine lv_if_eq (tgt := 92) hx hb dX9_shown_48 (by decide) (fun _ => ?_) (fun cz => absurd (by decide) cz)
  refine lv_iload_n hx hb dX9_shown_92 rfl (lv_at hl 4 rfl) ?_
  refine lv_iload hx hb dX9_shown_93 (lv_at hl 0 rfl) ?_
  refine lv_if_eq (tgt := 102) hx hb dX9_shown_95 (by decide) (fun _ => ?_) (fun cz => absurd (by decide) cz)
  refine lv_iconst (v := 0) hx hb dX9_shown_102 (by decide) ?_
  refine lv_iadd hx hb dX9_shown_103 ?_
  refine lv_topi (fun y1116 ey1116 => ?_)
  obtain rfl : y1116 = 0 := ey1116.trans (by decide)
  refine lv_istore_n (lv' := [(1, .int 0), (4, .int 0), (6, .int 0), (5, .ref a941), (3, .int 49), (2, .int 2), (0, .ref h0)]) hx hb dX9_shown_104 rfl hl (by decide) rfl (fun ls hl => ?_)
  refine lv_iload_n hx hb dX9_shown_105 rfl (lv_at hl 4 rfl) ?_
  refine lv_iconst (v := 1) hx hb dX9_shown_106 (by decide) ?_
  refine lv_iadd hx hb dX9_shown_107 ?_
  refine lv_topi (fun y1117 ey1117 => ?_)
  obtain rfl : y1117 = 50 := ey1117.trans (by decide)
  refine lv_i2c (v := 50) hx hb dX9_shown_108 (by decide) ?_
  refine lv_istore_n (lv' := [(3, .int 50), (1, .int 0), (4, .int 0), (6, .int 0), (5, .ref a941), (2, .int 2), (0, .ref h0)]) hx hb dX9_shown_109 rfl hl (by decide) rfl (fun ls hl => ?_)
  refine lv_goto (tgt := 23) hx hb dX9_shown_110 (by decide) ?_
  exact hend _ _ _ hS (hP.sub [0, 1, 2, 14, 3, 4, 15, 5, 6, 7, 8, 9, 10, 11, 12] rfl) (hD.sub [0, 1, 2, 14, 3, 4, 15, 5, 6, 7, 8, 9, 10, 11, 12] rfl rfl) (lv_sub hl [0, 1, 5, 6] rfl) hG

set_option maxHeartbeats 8000000 in
set_option maxRecDepth 100000 in
theorem k986_shown_g9 {p : Program} {l : Launch} {e : Env} {s : State} {m : MethodId} {args : Array Value} {below : List Frame} {meth : Method} {c : Code} {Q : State → Prop} {A : Nat → Prop} {H : Heap} {locs : List Loc} {ls : Array Slot} {dC : Nat → ClassId} {dI : Nat → Nat → Nat} {z : XZ} {h0 h1 h2 h3 h4 h5 h6 h7 h8 h9 h10 h11 h12 h13 h14 : Nat} {kc0 kc1 kc2 : ClassId} (hl9 : l.stackTraces = false) (hx : p.tables.exec = Jvm.exec) (hb : c.code = cX9_shown) (hml : c.maxLocals = 7) (hown : s.vm.findClass RX9 = some m.cls) (hts : ∀ w ∈ wsL_law, w.before args s = true) (hA : ∀ q : Nat, s.heap.size ≤ q → A q) (hX : XE z A s s.heap) (hT : XT s) (hS : va_S A s.heap H locs) (hP : va_P (dC, dI) xCl [(h0, ce21 h1 h2 h3 h4), (h1, ce331 h5), (h2, ce3 z.1), (h3, ce331 h6), (h4, ce366 h7), (h5, ce330 kc0 h8 h9 h10 h11 h12 h13 h14), (h6, ce330 kc1 (z.2.2.1 128) (z.2.2.1 128) (z.2.2.1 128) (z.2.2.1 128) (z.2.2.1 128) (z.2.2.1 128) (z.2.2.1 128)), (h7, ce330 kc2 (z.2.2.1 128) (z.2.2.1 129) (z.2.2.1 130) (z.2.2.1 131) (z.2.2.1 132) (z.2.2.1 133) (z.2.2.1 134)), (h8, ce49), (h9, ce49), (h10, ce49), (h11, ce49), (h12, ce49), (h13, ce49), (h14, ce49)] H) (hD : va_D A [(h0, ce21 h1 h2 h3 h4), (h1, ce331 h5), (h2, ce3 z.1), (h3, ce331 h6), (h4, ce366 h7), (h5, ce330 kc0 h8 h9 h10 h11 h12 h13 h14), (h6, ce330 kc1 (z.2.2.1 128) (z.2.2.1 128) (z.2.2.1 128) (z.2.2.1 128) (z.2.2.1 128) (z.2.2.1 128) (z.2.2.1 128)), (h7, ce330 kc2 (z.2.2.1 128) (z.2.2.1 129) (z.2.2.1 130) (z.2.2.1 131) (z.2.2.1 132) (z.2.2.1 133) (z.2.2.1 134)), (h8, ce49), (h9, ce49), (h10, ce49), (h11, ce49), (h12, ce49), (h13, ce49), (h14, ce49)]) (hK : va_K (dC, dI) xCl [(kc0, .object "java/lang/Object"), (kc1, .object "java/lang/Object"), (kc2, .object "java/lang/Object")] s) (hl : lv_has ls 7 [(3, .int 50), (1, .int 0), (2, .int 2), (0, .ref h0)]) (hG : s.heap.size + 1140 ≤ H.size) (hend : ∀ (H' : Heap) (locs' : List Loc) (ls' : Array Slot), va_S A s.heap H' locs' → va_P (dC, dI) xCl [(h0, ce21 h1 h2 h3 h4), (h1, ce331 h5), (h2, ce3 z.1), (h3, ce331 h6), (h4, ce366 h7), (h5, ce330 kc0 h8 h9 h10 h11 h12 h13 h14), (h6, ce330 kc1 (z.2.2.1 128) (z.2.2.1 128) (z.2.2.1 128) (z.2.2.1 128) (z.2.2.1 128) (z.2.2.1 128) (z.2.2.1 128)), (h7, ce330 kc2 (z.2.2.1 128) (z.2.2.1 129) (z.2.2.1 130) (z.2.2.1 131) (z.2.2.1 132) (z.2.2.1 133) (z.2.2.1 134)), (h8, ce49), (h9, ce49), (h10, ce49), (h11, ce49), (h12, ce49), (h13, ce49), (h14, ce49)] H' → va_D A [(h0, ce21 h1 h2 h3 h4), (h1, ce331 h5), (h2, ce3 z.1), (h3, ce331 h6), (h4, ce366 h7), (h5, ce330 kc0 h8 h9 h10 h11 h12 h13 h14), (h6, ce330 kc1 (z.2.2.1 128) (z.2.2.1 128) (z.2.2.1 128) (z.2.2.1 128) (z.2.2.1 128) (z.2.2.1 128) (z.2.2.1 128)), (h7, ce330 kc2 (z.2.2.1 128) (z.2.2.1 129) (z.2.2.1 130) (z.2.2.1 131) (z.2.2.1 132) (z.2.2.1 133) (z.2.2.1 134)), (h8, ce49), (h9, ce49), (h10, ce49), (h11, ce49), (h12, ce49), (h13, ce49), (h14, ce49)] → lv_has ls' 7 [(3, .int 48), (2, .int 3), (1, .int 0), (0, .ref h0)] → s.heap.size + 1140 ≤ H'.size → W p l e ({ frames := 5, cells := 2660, slots := 24752, locals := 121 } : Room) s m args below meth c H' locs' 1140 10608 Q (F0 m 23 ls' [])) : W p l e ({ frames := 5, cells := 2660, slots := 24752, locals := 121 } : Room) s m args below meth c H locs 1140 10608 Q (F0 m 23 ls []) := by
  refine lv_iload_n hx hb dX9_shown_23 rfl (lv_at hl 0 rfl) ?_
  refine lv_bipush (v := 49) hx hb dX9_shown_24 (by decide) ?_
  refine lv_icmp_gt (tgt := 113) hx hb dX9_shown_26 (by decide) (fun _ => ?_) (fun cz => absurd (by decide) cz)
  refine lv_iinc (v := 3) (lv' := [(2, .int 3), (3, .int 50), (1, .int 0), (0, .ref h0)]) hx hb dX9_shown_113 hl (k := 2) rfl (by decide) (by decide) rfl (fun ls hl => ?_)
  refine lv_goto (tgt := 9) hx hb dX9_shown_116 (by decide) ?_
  refine lv_iload_n hx hb dX9_shown_9 rfl (lv_at hl 0 rfl) ?_
  refine lv_aload_n hx hb dX9_shown_10 rfl (lv_at hl 3 rfl) ?_
  refine va_get (D := (dC, dI)) (ci := 8) (v := .ref h1) (C := RX9) (T := TX9) (N := 6) hx hb hts in_X9 hown hK hP 0 rfl rfl 1 (by decide) (hts _ q_64) (fun _ h9 => h9) rfl dX9_shown_11 ?_
  have hM1120 := k20_size l hl9 dC dI z h1 h5 H.size 7 7
  obtain ⟨hF1118, hC1121⟩ := pc_M hM1120 hP hD hK hS hX hT hA [1] [] rfl rfl rfl
  refine va_calli (va_runV (As := []) (rest := [.int 3]) ⟨hx, hb, hml, hown, hts⟩ hM1120 (cwV 0 hts (gV q_272 q_77 q_78 q_12 q_75) rfl rfl rfl hV_Jx4a65c_size_8abf5 ⟨Nat.le_of_ble_eq_true rfl, Nat.le_of_ble_eq_true rfl⟩) ⟨pc_blind, va_recv hK hP (ci := 0) (q := (RJx4a65c, TJx4a65c, 3)) (q0 := 1) rfl rfl, fun U hU hW => ⟨rfl, hC1121 U hU hW⟩⟩ rfl rfl hl.1 rfl (lv_room (Nat.le_of_ble_eq_true rfl)) dX9_shown_14 ⟨(Nat.le_of_ble_eq_true rfl), (Nat.le_of_ble_eq_true rfl)⟩) hS (fun q9 _ h9 => hF1118 q9 h9) hF1118 (fun r1123 u1122 t1122 H1122 L1122 ht1122 hvm1122 hw1122 hB1122 hz1122 hk1122 hS => ?_)
  have hP := pq_keep hP hD [1] rfl hk1122 hB1122.1 ht1122
  have hG : s.heap.size + 1140 ≤ H1122.size := Nat.le_trans hG hz1122
  refine W.eq (g2 := F0 m 17 ls [.int 7, .int 3]) (by rw [hw1122]) ?_
  refine lv_icmp_ge (tgt := 119) hx hb dX9_shown_17 (by decide) (fun cz => absurd cz (by decide)) (fun _ => ?_)
  refine lv_bipush (v := 48) hx hb dX9_shown_20 (by decide) ?_
  refine lv_istore_n (lv' := [(3, .int 48), (2, .int 3), (1, .int 0), (0, .ref h0)]) hx hb dX9_shown_22 rfl hl (by decide) rfl (fun ls hl => ?_)
  exact hend _ _ _ hS (hP.sub [0, 1, 2, 3, 4, 5, 6, 7, 8, 9, 10, 11, 12, 13, 14] rfl) (hD.sub [0, 1, 2, 3, 4, 5, 6, 7, 8, 9, 10, 11, 12, 13, 14] rfl rfl) (lv_sub hl [0, 1, 2, 3] rfl) hG
