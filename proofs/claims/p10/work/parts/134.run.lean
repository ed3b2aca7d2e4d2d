set_option maxHeartbeats 8000000 in
set_option maxRecDepth 100000 in
theorem k669_shown_g13 {p : Program} {l : Launch} {e : Env} {s : State} {m : MethodId} {args : Array Value} {below : List Frame} {meth : Method} {c : Code} {Q : State → Prop} {A : Nat → Prop} {H : Heap} {locs : List Loc} {ls : Array Slot} {dC : Nat → ClassId} {dI : Nat → Nat → Nat} {z : XZ} {h0 h1 h2 h3 h4 h5 h6 h7 h8 h9 h10 h11 h12 : Nat} {kc0 kc1 kc2 : ClassId} (hl9 : l.stackTraces = false) (hx : p.tables.exec = Jvm.exec) (hb : c.code = cX9_shown) (hml : c.maxLocals = 7) (hown : s.vm.findClass RX9 = some m.cls) (hts : ∀ w ∈ wsL_law, w.before args s = true) (hA : ∀ q : Nat, s.heap.size ≤ q → A q) (hX : XE z A s s.heap) (hT : XT s) (hS : va_S A s.heap H locs) (hP : va_P (dC, dI) xCl [(h0, ce21 h1 h2 h3 h4), (h1, ce201 h5), (h2, ce3 z.1), (h3, ce276 h6), (h4, ce226 h7), (h5, ce200 kc0 h8 h9 h10 h11 h12), (h6, ce275 kc1 (z.2.2.1 128) (z.2.2.1 128) (z.2.2.1 128) (z.2.2.1 128) (z.2.2.1 128) (z.2.2.1 128) (z.2.2.1 128)), (h7, ce200 kc2 (z.2.2.1 128) (z.2.2.1 129) (z.2.2.1 130) (z.2.2.1 131) (z.2.2.1 132)), (h8, ce49), (h9, ce49), (h10, ce49), (h11, ce49), (h12, ce49)] H) (hD : va_D A [(h0, ce21 h1 h2 h3 h4), (h1, ce201 h5), (h2, ce3 z.1), (h3, ce276 h6), (h4, ce226 h7), (h5, ce200 kc0 h8 h9 h10 h11 h12), (h6, ce275 kc1 (z.2.2.1 128) (z.2.2.1 128) (z.2.2.1 128) (z.2.2.1 128) (z.2.2.1 128) (z.2.2.1 128) (z.2.2.1 128)), (h7, ce200 kc2 (z.2.2.1 128) (z.2.2.1 129) (z.2.2.1 130) (z.2.2.1 131) (z.2.2.1 132)), (h8, ce49), (h9, ce49), (h10, ce49), (h11, ce49), (h12, ce49)]) (hK : va_K (dC, dI) xCl [(kc0, .object "java/lang/Object"), (kc1, .object "java/lang/Object"), (kc2, .object "java/lang/Object")] s) (hl : lv_has ls 7 [(3, .int 48), (2, .int 4), (1, .int 0), (0, .ref h0)]) (hG : s.heap.size + 1184 ≤ H.size) (hend : ∀ (H' : Heap) (locs' : List Loc) (ls' : Array Slot), va_S A s.heap H' locs' → va_P (dC, dI) xCl [(h0, ce21 h1 h2 h3 h4), (h1, ce201 h5), (h2, ce3 z.1), (h3, ce276 h6), (h4, ce226 h7), (h5, ce200 kc0 h8 h9 h10 h11 h12), (h6, ce275 kc1 (z.2.2.1 128) (z.2.2.1 128) (z.2.2.1 128) (z.2.2.1 128) (z.2.2.1 128) (z.2.2.1 128) (z.2.2.1 128)), (h7, ce200 kc2 (z.2.2.1 128) (z.2.2.1 129) (z.2.2.1 130) (z.2.2.1 131) (z.2.2.1 132)), (h8, ce49), (h9, ce49), (h10, ce49), (h11, ce49), (h12, ce49)] H' → va_D A [(h0, ce21 h1 h2 h3 h4), (h1, ce201 h5), (h2, ce3 z.1), (h3, ce276 h6), (h4, ce226 h7), (h5, ce200 kc0 h8 h9 h10 h11 h12), (h6, ce275 kc1 (z.2.2.1 128) (z.2.2.1 128) (z.2.2.1 128) (z.2.2.1 128) (z.2.2.1 128) (z.2.2.1 128) (z.2.2.1 128)), (h7, ce200 kc2 (z.2.2.1 128) (z.2.2.1 129) (z.2.2.1 130) (z.2.2.1 131) (z.2.2.1 132)), (h8, ce49), (h9, ce49), (h10, ce49), (h11, ce49), (h12, ce49)] → lv_has ls' 7 [(3, .int 49), (1, .int 0), (2, .int 4), (0, .ref h0)] → s.heap.size + 1332 ≤ H'.size → W p l e ({ frames := 5, cells := 1480, slots := 16000, locals := 121 } : Room) s m args below meth c H' locs' 1332 14400 Q (F0 m 23 ls' [])) : W p l e ({ frames := 5, cells := 1480, slots := 16000, locals := 121 } : Room) s m args below meth c H locs 1184 12800 Q (F0 m 23 ls []) := by
  refine lv_iload_n hx hb dX9_shown_23 rfl (lv_at hl 0 rfl) ?_
  refine lv_bipush (v := 49) hx hb dX9_shown_24 (by decide) ?_
  refine lv_icmp_gt (tgt := 113) hx hb dX9_shown_26 (by decide) (fun cz => absurd cz (by decide)) (fun _ => ?_)
  refine lv_iconst (v := 0) hx hb dX9_shown_29 (by decide) ?_
  refine lv_istore (lv' := [(4, .int 0), (3, .int 48), (2, .int 4), (1, .int 0), (0, .ref h0)]) hx hb dX9_shown_30 hl (by decide) rfl (fun ls hl => ?_)
  refine lv_aload_n hx hb dX9_shown_32 rfl (lv_at hl 4 rfl) ?_
  refine va_get (D := (dC, dI)) (ci := 8) (v := .ref h3) (C := RX9) (T := TX9) (N := 6) hx hb hts in_X9 hown hK hP 0 rfl rfl 3 (by decide) (hts _ q_66) (fun _ h9 => h9) rfl dX9_shown_33 ?_
  have hM1498 := k619_iterator l hl9 dC dI z h3 h6 H.size
  obtain ⟨hF1496, hC1499⟩ := pc_M hM1498 hP hD hK hS hX hT hA [3] [] rfl rfl rfl
  refine va_callr (va_runV (As := []) (rest := []) ⟨hx, hb, hml, hown, hts⟩ hM1498 (cwV 0 hts (gV q_256 q_257 q_258 q_12 q_255) rfl rfl rfl hV_Jx4a65c_iterator_32c93 ⟨Nat.le_of_ble_eq_true rfl, Nat.le_of_ble_eq_true rfl⟩) ⟨pc_blind, va_recv hK hP (ci := 0) (q := (RJx4a65c, TJx4a65c, 3)) (q0 := 3) rfl rfl, fun U hU hW => ⟨rfl, hC1499 U hU hW⟩⟩ rfl rfl hl.1 rfl (lv_room (Nat.le_of_ble_eq_true rfl)) dX9_shown_36 ⟨(Nat.le_of_ble_eq_true rfl), (Nat.le_of_ble_eq_true rfl)⟩) hS (fun q9 _ h9 => hF1496 q9 h9) hF1496 (fun u1500 r1501 t1500 H1500 L1500 ht1500 hvm1500 hw1500 hB1500 hz1500 hk1500 hS => ?_)
  obtain ⟨a1502, hr1500, hB1500⟩ := hB1500
  obtain ⟨hP, hD, hK⟩ := pq_jn (wz := [(h0, ce21 h1 h2 h3 h4), (h1, ce201 h5), (h2, ce3 z.1), (h4, ce226 h7), (h5, ce200 kc0 h8 h9 h10 h11 h12), (h6, ce275 kc1 (z.2.2.1 128) (z.2.2.1 128) (z.2.2.1 128) (z.2.2.1 128) (z.2.2.1 128) (z.2.2.1 128) (z.2.2.1 128)), (h7, ce200 kc2 (z.2.2.1 128) (z.2.2.1 129) (z.2.2.1 130) (z.2.2.1 131) (z.2.2.1 132)), (h8, ce49), (h9, ce49), (h10, ce49), (h11, ce49), (h12, ce49), (h3, ce276 h6), (a1502, ce292 h3)]) (tz := [(kc0, .object "java/lang/Object"), (kc1, .object "java/lang/Object"), (kc2, .object "java/lang/Object")]) hP hD hK [3] [0, 1, 2] rfl hk1500 hF1496 hB1500.1 ht1500 hvm1500 rfl rfl
  have hG : s.heap.size + 1185 ≤ H1500.size := va_gr (g := 1184) (g1 := 1) hG (by rw [← ht1500]; exact hB1500.2)
  refine W.eq (g2 := F0 m 39 ls [.ref a1502]) (by rw [hr1500]) ?_
  refine W.widen (k := 1185) (n := 12804) (by decide) (by decide) ?_
  refine lv_astore (lv' := [(5, .ref a1502), (4, .int 0), (3, .int 48), (2, .int 4), (1, .int 0), (0, .ref h0)]) hx hb dX9_shown_39 hl (by decide) rfl (fun ls hl => ?_)
  refine lv_aload hx hb dX9_shown_41 (lv_at hl 0 rfl) ?_
  have hM1505 := k620_hasNext l hl9 dC dI z a1502 h3 h6 H1500.size
  obtain ⟨hF1503, hC1506⟩ := pc_M hM1505 hP hD hK hS hX hT hA [13, 12] [] rfl rfl rfl
  refine va_callFi (va_runF (As := []) (rest := []) (hK.1 1 (RJx35411, TJx35411, 4) rfl).2 ⟨hx, hb, hml, hown, hts⟩ hM1505 (va_cwF 0 hts (gF q_261 q_262 q_263 q_246 q_260) rfl rfl rfl hT.2.2.2.2.2.2.1 hF_xIh ⟨Nat.le_of_ble_eq_true rfl, Nat.le_of_ble_eq_true rfl⟩) ⟨pc_blind, va_recv hK hP (ci := 1) (q := (RJx35411, TJx35411, 4)) (q0 := 13) rfl rfl, fun U hU hW => ⟨rfl, hC1506 U hU hW⟩⟩ rfl rfl hl.1 rfl (lv_room (Nat.le_of_ble_eq_true rfl)) dX9_shown_43 ⟨(Nat.le_of_ble_eq_true rfl), (Nat.le_of_ble_eq_true rfl)⟩) hS (fun q9 _ h9 => hF1503 q9 h9) hF1503 (fun r1508 u1507 t1507 H1507 L1507 ht1507 hvm1507 hw1507 hB1507 hz1507 hk1507 hS => ?_)
  have hP := pq_keep hP hD [13, 12] rfl hk1507 hB1507.1 ht1507
  have hG : s.heap.size + 1185 ≤ H1507.size := Nat.le_trans hG hz1507
  refine W.eq (g2 := F0 m 48 ls [.int 1]) (by rw [hw1507]) ?_
  refine lv_if_eq (tgt := 92) hx hb dX9_shown_48 (by decide) (fun cz => absurd cz (by decide)) (fun _ => ?_)
  refine lv_aload hx hb dX9_shown_51 (lv_at hl 0 rfl) ?_
  have hM1511 := k622_next l hl9 dC dI z a1502 h3 h6 H1507.size kc1
  obtain ⟨hF1509, hC1512⟩ := pc_M hM1511 hP hD hK hS hX hT hA [13, 12, 5] [1] rfl rfl rfl
  refine va_callFr (va_runF (As := []) (rest := []) (hK.1 1 (RJx35411, TJx35411, 4) rfl).2 ⟨hx, hb, hml, hown, hts⟩ hM1511 (va_cwF 0 hts (gF q_308 q_309 q_310 q_246 q_307) rfl rfl rfl hT.2.2.2.2.2.2.2.1 hF_xIn ⟨Nat.le_of_ble_eq_true rfl, Nat.le_of_ble_eq_true rfl⟩) ⟨pc_blind, va_recv hK hP (ci := 1) (q := (RJx35411, TJx35411, 4)) (q0 := 13) rfl rfl, fun U hU hW => ⟨rfl, hC1512 U hU hW⟩⟩ rfl rfl hl.1 rfl (lv_room (Nat.le_of_ble_eq_true rfl)) dX9_shown_53 ⟨(Nat.le_of_ble_eq_true rfl), (Nat.le_of_ble_eq_true rfl)⟩) hS (fun q9 _ h9 => hF1509 q9 h9) hF1509 (fun u1513 r1514 t1513 H1513 L1513 ht1513 hvm1513 hw1513 hB1513 hz1513 hk1513 hS => ?_)
  obtain ⟨hr1513, hB1513⟩ := hB1513
  obtain ⟨hP, hD, hK⟩ := pq_jn (wz := [(h0, ce21 h1 h2 h3 h4), (h1, ce201 h5), (h2, ce3 z.1), (h4, ce226 h7), (h5, ce200 kc0 h8 h9 h10 h11 h12), (h7, ce200 kc2 (z.2.2.1 128) (z.2.2.1 129) (z.2.2.1 130) (z.2.2.1 131) (z.2.2.1 132)), (h8, ce49), (h9, ce49), (h10, ce49), (h11, ce49), (h12, ce49), (a1502, ce294 h3), (h3, ce276 h6), (h6, ce275 kc1 (z.2.2.1 128) (z.2.2.1 128) (z.2.2.1 128) (z.2.2.1 128) (z.2.2.1 128) (z.2.2.1 128) (z.2.2.1 128))]) (tz := [(kc0, .object "java/lang/Object"), (kc2, .object "java/lang/Object"), (kc1, .object "java/lang/Object")]) hP hD hK [13, 12, 5] [0, 2] rfl hk1513 hF1509 hB1513.1 ht1513 hvm1513 rfl rfl
  have hG : s.heap.size + 1185 ≤ H1513.size := Nat.le_trans hG hz1513
  refine W.eq (g2 := F0 m 58 ls [.ref (z.2.2.1 128)]) (by rw [hr1513]) ?_
  refine va_castE (nm := "java/lang/Integer") hx hb hown (hts _ q_320) (va_Orecv (hX.2.2.1.1.1 128 (by decide)) hS) dX9_shown_58 ?_
  have hM1517 := k74_intValue l hl9 dC dI z H1513.size
  obtain ⟨hF1515, hC1518⟩ := pc_M hM1517 hP hD hK hS hX hT hA [] [] rfl rfl rfl
  refine va_calli (va_runV (As := []) (rest := []) ⟨hx, hb, hml, hown, hts⟩ hM1517 (cwV 0 hts (gV q_323 q_324 q_325 q_297 q_322) rfl rfl rfl hV_J6_intValue_8abf5 ⟨Nat.le_of_ble_eq_true rfl, Nat.le_of_ble_eq_true rfl⟩) ⟨pc_blind, va_Orecv (hX.2.2.1.1.1 128 (by decide)) hS, fun U hU hW => ⟨rfl, hC1518 U hU hW⟩⟩ rfl rfl hl.1 rfl (lv_room (Nat.le_of_ble_eq_true rfl)) dX9_shown_61 ⟨(Nat.le_of_ble_eq_true rfl), (Nat.le_of_ble_eq_true rfl)⟩) hS (fun q9 _ h9 => hF1515 q9 h9) hF1515 (fun r1520 u1519 t1519 H1519 L1519 ht1519 hvm1519 hw1519 hB1519 hz1519 hk1519 hS => ?_)
  have hP := pq_keep hP hD [] rfl hk1519 hB1519.1 ht1519
  have hG : s.heap.size + 1185 ≤ H1519.size := Nat.le_trans hG hz1519
  refine W.eq (g2 := F0 m 64 ls [.int 0]) (by rw [hw1519]) ?_
  refine lv_istore (lv' := [(6, .int 0), (5, .ref a1502), (4, .int 0), (3, .int 48), (2, .int 4), (1, .int 0), (0, .ref h0)]) hx hb dX9_shown_64 hl (by decide) rfl (fun ls hl => ?_)
  refine lv_iload hx hb dX9_shown_66 (lv_at hl 2 rfl) ?_
  refine lv_if_ne (tgt := 82) hx hb dX9_shown_68 (by decide) (fun cz => absurd (by decide) cz) (fun _ => ?_)
  refine lv_aload_n hx hb dX9_shown_71 rfl (lv_at hl 6 rfl) ?_
  refine lv_iload_n hx hb dX9_shown_72 rfl (lv_at hl 4 rfl) ?_
  refine lv_iload_n hx hb dX9_shown_73 rfl (lv_at hl 3 rfl) ?_
  refine lv_iload hx hb dX9_shown_74 (lv_at hl 0 rfl) ?_
  have hM1523 := k666_showsIt l hl9 dC dI z h0 h1 h2 h4 h5 h7 h8 h9 h10 h11 h12 h3 H1519.size kc0 kc2
  obtain ⟨hF1521, hC1524⟩ := pc_M hM1523 hP hD hK hS hX hT hA [0, 1, 2, 3, 4, 5, 6, 7, 8, 9, 10] [0, 1] rfl rfl rfl
  refine va_calli (va_runV (As := [.int 4, .int 48, .int 0]) (rest := []) ⟨hx, hb, hml, hown, hts⟩ hM1523 (cwV 3 hts (gV q_429 q_430 q_431 q_60 q_428) rfl rfl rfl hV_X9_showsIt ⟨Nat.le_of_ble_eq_true rfl, Nat.le_of_ble_eq_true rfl⟩) ⟨pc_blind, va_recv hK hP (ci := 8) (q := (RX9, TX9, 6)) (q0 := 0) rfl rfl, fun U hU hW => ⟨rfl, hC1524 U hU hW⟩⟩ rfl rfl hl.1 rfl (lv_room (Nat.le_of_ble_eq_true rfl)) dX9_shown_76 ⟨(Nat.le_of_ble_eq_true rfl), (Nat.le_of_ble_eq_true rfl)⟩) hS (fun q9 _ h9 => hF1521 q9 h9) hF1521 (fun r1526 u1525 t1525 H1525 L1525 ht1525 hvm1525 hw1525 hB1525 hz1525 hk1525 hS => ?_)
  have hP := pq_keep hP hD [0, 1, 2, 3, 4, 5, 6, 7, 8, 9, 10] rfl hk1525 hB1525.1 ht1525
  have hG : s.heap.size + 1206 ≤ H1525.size := va_gr (g := 1185) (g1 := 21) hG (by rw [← ht1525]; exact hB1525.2)
  refine W.eq (g2 := F0 m 79 ls [.int 0]) (by rw [hw1525]) ?_
  refine W.widen (k := 1206) (n := 13032) (by decide) (by decide) ?_
  refine lv_if_eq (tgt := 86) hx hb dX9_shown_79 (by decide) (fun _ => ?_) (fun cz => absurd (by decide) cz)
  refine lv_iconst (v := 0) hx hb dX9_shown_86 (by decide) ?_
  refine lv_istore (lv' := [(4, .int 0), (6, .int 0), (5, .ref a1502), (3, .int 48), (2, .int 4), (1, .int 0), (0, .ref h0)]) hx hb dX9_shown_87 hl (by decide) rfl (fun ls hl => ?_)
  refine lv_goto (tgt := 41) hx hb dX9_shown_89 (by decide) ?_
  refine lv_aload hx hb dX9_shown_41 (lv_at hl 2 rfl) ?_
  have hM1529 := k632_hasNext l hl9 dC dI z a1502 h3 h6 H1525.size
  obtain ⟨hF1527, hC1530⟩ := pc_M hM1529 hP hD hK hS hX hT hA [11, 12] [] rfl rfl rfl
  refine va_callFi (va_runF (As := []) (rest := []) (hK.1 1 (RJx35411, TJx35411, 4) rfl).2 ⟨hx, hb, hml, hown, hts⟩ hM1529 (va_cwF 0 hts (gF q_261 q_262 q_263 q_246 q_260) rfl rfl rfl hT.2.2.2.2.2.2.1 hF_xIh ⟨Nat.le_of_ble_eq_true rfl, Nat.le_of_ble_eq_true rfl⟩) ⟨pc_blind, va_recv hK hP (ci := 1) (q := (RJx35411, TJx35411, 4)) (q0 := 11) rfl rfl, fun U hU hW => ⟨rfl, hC1530 U hU hW⟩⟩ rfl rfl hl.1 rfl (lv_room (Nat.le_of_ble_eq_true rfl)) dX9_shown_43 ⟨(Nat.le_of_ble_eq_true rfl), (Nat.le_of_ble_eq_true rfl)⟩) hS (fun q9 _ h9 => hF1527 q9 h9) hF1527 (fun r1532 u1531 t1531 H1531 L1531 ht1531 hvm1531 hw1531 hB1531 hz1531 hk1531 hS => ?_)
  have hP := pq_keep hP hD [11, 12] rfl hk1531 hB1531.1 ht1531
  have hG : s.heap.size + 1206 ≤ H1531.size := Nat.le_trans hG hz1531
  refine W.eq (g2 := F0 m 48 ls [.int 1]) (by rw [hw1531]) ?_
  refine lv_if_eq (tgt := 92) hx hb dX9_shown_48 (by decide) (fun cz => absurd cz (by decide)) (fun _ => ?_)
  refine lv_aload hx hb dX9_shown_51 (lv_at hl 2 rfl) ?_
  have hM1535 := k634_next l hl9 dC dI z a1502 h3 h6 H1531.size kc1
  obtain ⟨hF1533, hC1536⟩ := pc_M hM1535 hP hD hK hS hX hT hA [11, 12, 13] [2] rfl rfl rfl
  refine va_callFr (va_runF (As := []) (rest := []) (hK.1 1 (RJx35411, TJx35411, 4) rfl).2 ⟨hx, hb, hml, hown, hts⟩ hM1535 (va_cwF 0 hts (gF q_308 q_309 q_310 q_246 q_307) rfl rfl rfl hT.2.2.2.2.2.2.2.1 hF_xIn ⟨Nat.le_of_ble_eq_true rfl, Nat.le_of_ble_eq_true rfl⟩) ⟨pc_blind, va_recv hK hP (ci := 1) (q := (RJx35411, TJx35411, 4)) (q0 := 11) rfl rfl, fun U hU hW => ⟨rfl, hC1536 U hU hW⟩⟩ rfl rfl hl.1 rfl (lv_room (Nat.le_of_ble_eq_true rfl)) dX9_shown_53 ⟨(Nat.le_of_ble_eq_true rfl), (Nat.le_of_ble_eq_true rfl)⟩) hS (fun q9 _ h9 => hF1533 q9 h9) hF1533 (fun u1537 r1538 t1537 H1537 L1537 ht1537 hvm1537 hw1537 hB1537 hz1537 hk1537 hS => ?_)
  obtain ⟨hr1537, hB1537⟩ := hB1537
  obtain ⟨hP, hD, hK⟩ := pq_jn (wz := [(h0, ce21 h1 h2 h3 h4), (h1, ce201 h5), (h2, ce3 z.1), (h4, ce226 h7), (h5, ce200 kc0 h8 h9 h10 h11 h12), (h7, ce200 kc2 (z.2.2.1 128) (z.2.2.1 129) (z.2.2.1 130) (z.2.2.1 131) (z.2.2.1 132)), (h8, ce49), (h9, ce49), (h10, ce49), (h11, ce49), (h12, ce49), (a1502, ce310 h3), (h3, ce276 h6), (h6, ce275 kc1 (z.2.2.1 128) (z.2.2.1 128) (z.2.2.1 128) (z.2.2.1 128) (z.2.2.1 128) (z.2.2.1 128) (z.2.2.1 128))]) (tz := [(kc0, .object "java/lang/Object"), (kc2, .object "java/lang/Object"), (kc1, .object "java/lang/Object")]) hP hD hK [11, 12, 13] [0, 1] rfl hk1537 hF1533 hB1537.1 ht1537 hvm1537 rfl rfl
  have hG : s.heap.size + 1206 ≤ H1537.size := Nat.le_trans hG hz1537
  refine W.eq (g2 := F0 m 58 ls [.ref (z.2.2.1 128)]) (by rw [hr1537]) ?_
  refine va_castE (nm := "java/lang/Integer") hx hb hown (hts _ q_320) (va_Orecv (hX.2.2.1.1.1 128 (by decide)) hS) dX9_shown_58 ?_
  have hM1541 := k74_intValue l hl9 dC dI z H1537.size
  obtain ⟨hF1539, hC1542⟩ := pc_M hM1541 hP hD hK hS hX hT hA [] [] rfl rfl rfl
  refine va_calli (va_runV (As := []) (rest := []) ⟨hx, hb, hml, hown, hts⟩ hM1541 (cwV 0 hts (gV q_323 q_324 q_325 q_297 q_322) rfl rfl rfl hV_J6_intValue_8abf5 ⟨Nat.le_of_ble_eq_true rfl, Nat.le_of_ble_eq_true rfl⟩) ⟨pc_blind, va_Orecv (hX.2.2.1.1.1 128 (by decide)) hS, fun U hU hW => ⟨rfl, hC1542 U hU hW⟩⟩ rfl rfl hl.1 rfl (lv_room (Nat.le_of_ble_eq_true rfl)) dX9_shown_61 ⟨(Nat.le_of_ble_eq_true rfl), (Nat.le_of_ble_eq_true rfl)⟩) hS (fun q9 _ h9 => hF1539 q9 h9) hF1539 (fun r1544 u1543 t1543 H1543 L1543 ht1543 hvm1543 hw1543 hB1543 hz1543 hk1543 hS => ?_)
  have hP := pq_keep hP hD [] rfl hk1543 hB1543.1 ht1543
  have hG : s.heap.size + 1206 ≤ H1543.size := Nat.le_trans hG hz1543
  refine W.eq (g2 := F0 m 64 ls [.int 0]) (by rw [hw1543]) ?_
  refine lv_istore (lv' := [(6, .int 0), (4, .int 0), (5, .ref a1502), (3, .int 48), (2, .int 4), (1, .int 0), (0, .ref h0)]) hx hb dX9_shown_64 hl (by decide) rfl (fun ls hl => ?_)
  refine lv_iload hx hb dX9_shown_66 (lv_at hl 1 rfl) ?_
  refine lv_if_ne (tgt := 82) hx hb dX9_shown_68 (by decide) (fun cz => absurd (by decide) cz) (fun _ => ?_)
  refine lv_aload_n hx hb dX9_shown_71 rfl (lv_at hl 6 rfl) ?_
  refine lv_iload_n hx hb dX9_shown_72 rfl (lv_at hl 4 rfl) ?_
  refine lv_iload_n hx hb dX9_shown_73 rfl (lv_at hl 3 rfl) ?_
  refine lv_iload hx hb dX9_shown_74 (lv_at hl 0 rfl) ?_
  have hM1547 := k666_showsIt l hl9 dC dI z h0 h1 h2 h4 h5 h7 h8 h9 h10 h11 h12 h3 H1543.size kc0 kc2
  obtain ⟨hF1545, hC1548⟩ := pc_M hM1547 hP hD hK hS hX hT hA [0, 1, 2, 3, 4, 5, 6, 7, 8, 9, 10] [0, 1] rfl rfl rfl
  refine va_calli (va_runV (As := [.int 4, .int 48, .int 0]) (rest := []) ⟨hx, hb, hml, hown, hts⟩ hM1547 (cwV 3 hts (gV q_429 q_430 q_431 q_60 q_428) rfl rfl rfl hV_X9_showsIt ⟨Nat.le_of_ble_eq_true rfl, Nat.le_of_ble_eq_true rfl⟩) ⟨pc_blind, va_recv hK hP (ci := 8) (q := (RX9, TX9, 6)) (q0 := 0) rfl rfl, fun U hU hW => ⟨rfl, hC1548 U hU hW⟩⟩ rfl rfl hl.1 rfl (lv_room (Nat.le_of_ble_eq_true rfl)) dX9_shown_76 ⟨(Nat.le_of_ble_eq_true rfl), (Nat.le_of_ble_eq_true rfl)⟩) hS (fun q9 _ h9 => hF1545 q9 h9) hF1545 (fun r1550 u1549 t1549 H1549 L1549 ht1549 hvm1549 hw1549 hB1549 hz1549 hk1549 hS => ?_)
  have hP := pq_keep hP hD [0, 1, 2, 3, 4, 5, 6, 7, 8, 9, 10] rfl hk1549 hB1549.1 ht1549
  have hG : s.heap.size + 1227 ≤ H1549.size := va_gr (g := 1206) (g1 := 21) hG (by rw [← ht1549]; exact hB1549.2)
  refine W.eq (g2 := F0 m 79 ls [.int 0]) (by rw [hw1549]) ?_
  refine W.widen (k := 1227) (n := 13260) (by decide) (by decide) ?_
  refine lv_if_eq (tgt := 86) hx hb dX9_shown_79 (by decide) (fun _ => ?_) (fun cz => absurd (by decide) cz)
  refine lv_iconst (v := 0) hx hb dX9_shown_86 (by decide) ?_
  refine lv_istore (lv' := [(4, .int 0), (6, .int 0), (5, .ref a1502), (3, .int 48), (2, .int 4), (1, .int 0), (0, .ref h0)]) hx hb dX9_shown_87 hl (by decide) rfl (fun ls hl => ?_)
  refine lv_goto (tgt := 41) hx hb dX9_shown_89 (by decide) ?_
  refine lv_aload hx hb dX9_shown_41 (lv_at hl 2 rfl) ?_
  have hM1553 := k635_hasNext l hl9 dC dI z a1502 h3 h6 H1549.size
  obtain ⟨hF1551, hC1554⟩ := pc_M hM1553 hP hD hK hS hX hT hA [11, 12] [] rfl rfl rfl
  refine va_callFi (va_runF (As := []) (rest := []) (hK.1 1 (RJx35411, TJx35411, 4) rfl).2 ⟨hx, hb, hml, hown, hts⟩ hM1553 (va_cwF 0 hts (gF q_261 q_262 q_263 q_246 q_260) rfl rfl rfl hT.2.2.2.2.2.2.1 hF_xIh ⟨Nat.le_of_ble_eq_true rfl, Nat.le_of_ble_eq_true rfl⟩) ⟨pc_blind, va_recv hK hP (ci := 1) (q := (RJx35411, TJx35411, 4)) (q0 := 11) rfl rfl, fun U hU hW => ⟨rfl, hC1554 U hU hW⟩⟩ rfl rfl hl.1 rfl (lv_room (Nat.le_of_ble_eq_true rfl)) dX9_shown_43 ⟨(Nat.le_of_ble_eq_true rfl), (Nat.le_of_ble_eq_true rfl)⟩) hS (fun q9 _ h9 => hF1551 q9 h9) hF1551 (fun r1556 u1555 t1555 H1555 L1555 ht1555 hvm1555 hw1555 hB1555 hz1555 hk1555 hS => ?_)
  have hP := pq_keep hP hD [11, 12] rfl hk1555 hB1555.1 ht1555
  have hG : s.heap.size + 1227 ≤ H1555.size := Nat.le_trans hG hz1555
  refine W.eq (g2 := F0 m 48 ls [.int 1]) (by rw [hw1555]) ?_
  refine lv_if_eq (tgt := 92) hx hb dX9_shown_48 (by decide) (fun cz => absurd cz (by decide)) (fun _ => ?_)
  refine lv_aload hx hb dX9_shown_51 (lv_at hl 2 rfl) ?_
  have hM1559 := k637_next l hl9 dC dI z a1502 h3 h6 H1555.size kc1
  obtain ⟨hF1557, hC1560⟩ := pc_M hM1559 hP hD hK hS hX hT hA [11, 12, 13] [2] rfl rfl rfl
  refine va_callFr (va_runF (As := []) (rest := []) (hK.1 1 (RJx35411, TJx35411, 4) rfl).2 ⟨hx, hb, hml, hown, hts⟩ hM1559 (va_cwF 0 hts (gF q_308 q_309 q_310 q_246 q_307) rfl rfl rfl hT.2.2.2.2.2.2.2.1 hF_xIn ⟨Nat.le_of_ble_eq_true rfl, Nat.le_of_ble_eq_true rfl⟩) ⟨pc_blind, va_recv hK hP (ci := 1) (q := (RJx35411, TJx35411, 4)) (q0 := 11) rfl rfl, fun U hU hW => ⟨rfl, hC1560 U hU hW⟩⟩ rfl rfl hl.1 rfl (lv_room (Nat.le_of_ble_eq_true rfl)) dX9_shown_53 ⟨(Nat.le_of_ble_eq_true rfl), (Nat.le_of_ble_eq_true rfl)⟩) hS (fun q9 _ h9 => hF1557 q9 h9) hF1557 (fun u1561 r1562 t1561 H1561 L1561 ht1561 hvm1561 hw1561 hB1561 hz1561 hk1561 hS => ?_)
  obtain ⟨hr1561, hB1561⟩ := hB1561
  obtain ⟨hP, hD, hK⟩ := pq_jn (wz := [(h0, ce21 h1 h2 h3 h4), (h1, ce201 h5), (h2, ce3 z.1), (h4, ce226 h7), (h5, ce200 kc0 h8 h9 h10 h11 h12), (h7, ce200 kc2 (z.2.2.1 128) (z.2.2.1 129) (z.2.2.1 130) (z.2.2.1 131) (z.2.2.1 132)), (h8, ce49), (h9, ce49), (h10, ce49), (h11, ce49), (h12, ce49), (a1502, ce312 h3), (h3, ce276 h6), (h6, ce275 kc1 (z.2.2.1 128) (z.2.2.1 128) (z.2.2.1 128) (z.2.2.1 128) (z.2.2.1 128) (z.2.2.1 128) (z.2.2.1 128))]) (tz := [(kc0, .object "java/lang/Object"), (kc2, .object "java/lang/Object"), (kc1, .object "java/lang/Object")]) hP hD hK [11, 12, 13] [0, 1] rfl hk1561 hF1557 hB1561.1 ht1561 hvm1561 rfl rfl
  have hG : s.heap.size + 1227 ≤ H1561.size := Nat.le_trans hG hz1561
  refine W.eq (g2 := F0 m 58 ls [.ref (z.2.2.1 128)]) (by rw [hr1561]) ?_
  refine va_castE (nm := "java/lang/Integer") hx hb hown (hts _ q_320) (va_Orecv (hX.2.2.1.1.1 128 (by decide)) hS) dX9_shown_58 ?_
  have hM1565 := k74_intValue l hl9 dC dI z H1561.size
  obtain ⟨hF1563, hC1566⟩ := pc_M hM1565 hP hD hK hS hX hT hA [] [] rfl rfl rfl
  refine va_calli (va_runV (As := []) (rest := []) ⟨hx, hb, hml, hown, hts⟩ hM1565 (cwV 0 hts (gV q_323 q_324 q_325 q_297 q_322) rfl rfl rfl hV_J6_intValue_8abf5 ⟨Nat.le_of_ble_eq_true rfl, Nat.le_of_ble_eq_true rfl⟩) ⟨pc_blind, va_Orecv (hX.2.2.1.1.1 128 (by decide)) hS, fun U hU hW => ⟨rfl, hC1566 U hU hW⟩⟩ rfl rfl hl.1 rfl (lv_room (Nat.le_of_ble_eq_true rfl)) dX9_shown_61 ⟨(Nat.le_of_ble_eq_true rfl), (Nat.le_of_ble_eq_true rfl)⟩) hS (fun q9 _ h9 => hF1563 q9 h9) hF1563 (fun r1568 u1567 t1567 H1567 L1567 ht1567 hvm1567 hw1567 hB1567 hz1567 hk1567 hS => ?_)
  have hP := pq_keep hP hD [] rfl hk1567 hB1567.1 ht1567
  have hG : s.heap.size + 1227 ≤ H1567.size := Nat.le_trans hG hz1567
  refine W.eq (g2 := F0 m 64 ls [.int 0]) (by rw [hw1567]) ?_
  refine lv_istore (lv' := [(6, .int 0), (4, .int 0), (5, .ref a1502), (3, .int 48), (2, .int 4), (1, .int 0), (0, .ref h0)]) hx hb dX9_shown_64 hl (by decide) rfl (fun ls hl => ?_)
  refine lv_iload hx hb dX9_shown_66 (lv_at hl 1 rfl) ?_
  refine lv_if_ne (tgt := 82) hx hb dX9_shown_68 (by decide) (fun cz => absurd (by decide) cz) (fun _ => ?_)
  refine lv_aload_n hx hb dX9_shown_71 rfl (lv_at hl 6 rfl) ?_
  refine lv_iload_n hx hb dX9_shown_72 rfl (lv_at hl 4 rfl) ?_
  refine lv_iload_n hx hb dX9_shown_73 rfl (lv_at hl 3 rfl) ?_
  refine lv_iload hx hb dX9_shown_74 (lv_at hl 0 rfl) ?_
  have hM1571 := k666_showsIt l hl9 dC dI z h0 h1 h2 h4 h5 h7 h8 h9 h10 h11 h12 h3 H1567.size kc0 kc2
  obtain ⟨hF1569, hC1572⟩ := pc_M hM1571 hP hD hK hS hX hT hA [0, 1, 2, 3, 4, 5, 6, 7, 8, 9, 10] [0, 1] rfl rfl rfl
  refine va_calli (va_runV (As := [.int 4, .int 48, .int 0]) (rest := []) ⟨hx, hb, hml, hown, hts⟩ hM1571 (cwV 3 hts (gV q_429 q_430 q_431 q_60 q_428) rfl rfl rfl hV_X9_showsIt ⟨Nat.le_of_ble_eq_true rfl, Nat.le_of_ble_eq_true rfl⟩) ⟨pc_blind, va_recv hK hP (ci := 8) (q := (RX9, TX9, 6)) (q0 := 0) rfl rfl, fun U hU hW => ⟨rfl, hC1572 U hU hW⟩⟩ rfl rfl hl.1 rfl (lv_room (Nat.le_of_ble_eq_true rfl)) dX9_shown_76 ⟨(Nat.le_of_ble_eq_true rfl), (Nat.le_of_ble_eq_true rfl)⟩) hS (fun q9 _ h9 => hF1569 q9 h9) hF1569 (fun r1574 u1573 t1573 H1573 L1573 ht1573 hvm1573 hw1573 hB1573 hz1573 hk1573 hS => ?_)
  have hP := pq_keep hP hD [0, 1, 2, 3, 4, 5, 6, 7, 8, 9, 10] rfl hk1573 hB1573.1 ht1573
  have hG : s.heap.size + 1248 ≤ H1573.size := va_gr (g := 1227) (g1 := 21) hG (by rw [← ht1573]; exact hB1573.2)
  refine W.eq (g2 := F0 m 79 ls [.int 0]) (by rw [hw1573]) ?_
  refine W.widen (k := 1248) (n := 13488) (by decide) (by decide) ?_
  refine lv_if_eq (tgt := 86) hx hb dX9_shown_79 (by decide) (fun _ => ?_) (fun cz => absurd (by decide) cz)
  refine lv_iconst (v := 0) hx hb dX9_shown_86 (by decide) ?_
  refine lv_istore (lv' := [(4, .int 0), (6, .int 0), (5, .ref a1502), (3, .int 48), (2, .int 4), (1, .int 0), (0, .ref h0)]) hx hb dX9_shown_87 hl (by decide) rfl (fun ls hl => ?_)
  refine lv_goto (tgt := 41) hx hb dX9_shown_89 (by decide) ?_
  refine lv_aload hx hb dX9_shown_41 (lv_at hl 2 rfl) ?_
  have hM1577 := k638_hasNext l hl9 dC dI z a1502 h3 h6 H1573.size
  obtain ⟨hF1575, hC1578⟩ := pc_M hM1577 hP hD hK hS hX hT hA [11, 12] [] rfl rfl rfl
  refine va_callFi (va_runF (As := []) (rest := []) (hK.1 1 (RJx35411, TJx35411, 4) rfl).2 ⟨hx, hb, hml, hown, hts⟩ hM1577 (va_cwF 0 hts (gF q_261 q_262 q_263 q_246 q_260) rfl rfl rfl hT.2.2.2.2.2.2.1 hF_xIh ⟨Nat.le_of_ble_eq_true rfl, Nat.le_of_ble_eq_true rfl⟩) ⟨pc_blind, va_recv hK hP (ci := 1) (q := (RJx35411, TJx35411, 4)) (q0 := 11) rfl rfl, fun U hU hW => ⟨rfl, hC1578 U hU hW⟩⟩ rfl rfl hl.1 rfl (lv_room (Nat.le_of_ble_eq_true rfl)) dX9_shown_43 ⟨(Nat.le_of_ble_eq_true rfl), (Nat.le_of_ble_eq_true rfl)⟩) hS (fun q9 _ h9 => hF1575 q9 h9) hF1575 (fun r1580 u1579 t1579 H1579 L1579 ht1579 hvm1579 hw1579 hB1579 hz1579 hk1579 hS => ?_)
  have hP := pq_keep hP hD [11, 12] rfl hk1579 hB1579.1 ht1579
  have hG : s.heap.size + 1248 ≤ H1579.size := Nat.le_trans hG hz1579
  refine W.eq (g2 := F0 m 48 ls [.int 1]) (by rw [hw1579]) ?_
  refine lv_if_eq (tgt := 92) hx hb dX9_shown_48 (by decide) (fun cz => absurd cz (by decide)) (fun _ => ?_)
  refine lv_aload hx hb dX9_shown_51 (lv_at hl 2 rfl) ?_
  have hM1583 := k640_next l hl9 dC dI z a1502 h3 h6 H1579.size kc1
  obtain ⟨hF1581, hC1584⟩ := pc_M hM1583 hP hD hK hS hX hT hA [11, 12, 13] [2] rfl rfl rfl
  refine va_callFr (va_runF (As := []) (rest := []) (hK.1 1 (RJx35411, TJx35411, 4) rfl).2 ⟨hx, hb, hml, hown, hts⟩ hM1583 (va_cwF 0 hts (gF q_308 q_309 q_310 q_246 q_307) rfl rfl rfl hT.2.2.2.2.2.2.2.1 hF_xIn ⟨Nat.le_of_ble_eq_true rfl, Nat.le_of_ble_eq_true rfl⟩) ⟨pc_blind, va_recv hK hP (ci := 1) (q := (RJx35411, TJx35411, 4)) (q0 := 11) rfl rfl, fun U hU hW => ⟨rfl, hC1584 U hU hW⟩⟩ rfl rfl hl.1 rfl (lv_room (Nat.le_of_ble_eq_true rfl)) dX9_shown_53 ⟨(Nat.le_of_ble_eq_true rfl), (Nat.le_of_ble_eq_true rfl)⟩) hS (fun q9 _ h9 => hF1581 q9 h9) hF1581 (fun u1585 r1586 t1585 H1585 L1585 ht1585 hvm1585 hw1585 hB1585 hz1585 hk1585 hS => ?_)
  obtain ⟨hr1585, hB1585⟩ := hB1585
  obtain ⟨hP, hD, hK⟩ := pq_jn (wz := [(h0, ce21 h1 h2 h3 h4), (h1, ce201 h5), (h2, ce3 z.1), (h4, ce226 h7), (h5, ce200 kc0 h8 h9 h10 h11 h12), (h7, ce200 kc2 (z.2.2.1 128) (z.2.2.1 129) (z.2.2.1 130) (z.2.2.1 131) (z.2.2.1 132)), (h8, ce49), (h9, ce49), (h10, ce49), (h11, ce49), (h12, ce49), (a1502, ce314 h3), (h3, ce276 h6), (h6, ce275 kc1 (z.2.2.1 128) (z.2.2.1 128) (z.2.2.1 128) (z.2.2.1 128) (z.2.2.1 128) (z.2.2.1 128) (z.2.2.1 128))]) (tz := [(kc0, .object "java/lang/Object"), (kc2, .object "java/lang/Object"), (kc1, .object "java/lang/Object")]) hP hD hK [11, 12, 13] [0, 1] rfl hk1585 hF1581 hB1585.1 ht1585 hvm1585 rfl rfl
  have hG : s.heap.size + 1248 ≤ H1585.size := Nat.le_trans hG hz1585
  refine W.eq (g2 := F0 m 58 ls [.ref (z.2.2.1 128)]) (by rw [hr1585]) ?_
  refine va_castE (nm := "java/lang/Integer") hx hb hown (hts _ q_320) (va_Orecv (hX.2.2.1.1.1 128 (by decide)) hS) dX9_shown_58 ?_
  have hM1589 := k74_intValue l hl9 dC dI z H1585.size
  obtain ⟨hF1587, hC1590⟩ := pc_M hM1589 hP hD hK hS hX hT hA [] [] rfl rfl rfl
  refine va_calli (va_runV (As := []) (rest := []) ⟨hx, hb, hml, hown, hts⟩ hM1589 (cwV 0 hts (gV q_323 q_324 q_325 q_297 q_322) rfl rfl rfl hV_J6_intValue_8abf5 ⟨Nat.le_of_ble_eq_true rfl, Nat.le_of_ble_eq_true rfl⟩) ⟨pc_blind, va_Orecv (hX.2.2.1.1.1 128 (by decide)) hS, fun U hU hW => ⟨rfl, hC1590 U hU hW⟩⟩ rfl rfl hl.1 rfl (lv_room (Nat.le_of_ble_eq_true rfl)) dX9_shown_61 ⟨(Nat.le_of_ble_eq_true rfl), (Nat.le_of_ble_eq_true rfl)⟩) hS (fun q9 _ h9 => hF1587 q9 h9) hF1587 (fun r1592 u1591 t1591 H1591 L1591 ht1591 hvm1591 hw1591 hB1591 hz1591 hk1591 hS => ?_)
  have hP := pq_keep hP hD [] rfl hk1591 hB1591.1 ht1591
  have hG : s.heap.size + 1248 ≤ H1591.size := Nat.le_trans hG hz1591
  refine W.eq (g2 := F0 m 64 ls [.int 0]) (by rw [hw1591]) ?_
  refine lv_istore (lv' := [(6, .int 0), (4, .int 0), (5, .ref a1502), (3, .int 48), (2, .int 4), (1, .int 0), (0, .ref h0)]) hx hb dX9_shown_64 hl (by decide) rfl (fun ls hl => ?_)
  refine lv_iload hx hb dX9_shown_66 (lv_at hl 1 rfl) ?_
  refine lv_if_ne (tgt := 82) hx hb dX9_shown_68 (by decide) (fun cz => absurd (by decide) cz) (fun _ => ?_)
  refine lv_aload_n hx hb dX9_shown_71 rfl (lv_at hl 6 rfl) ?_
  refine lv_iload_n hx hb dX9_shown_72 rfl (lv_at hl 4 rfl) ?_
  refine lv_iload_n hx hb dX9_shown_73 rfl (lv_at hl 3 rfl) ?_
  refine lv_iload hx hb dX9_shown_74 (lv_at hl 0 rfl) ?_
  have hM1595 := k666_showsIt l hl9 dC dI z h0 h1 h2 h4 h5 h7 h8 h9 h10 h11 h12 h3 H1591.size kc0 kc2
  obtain ⟨hF1593, hC1596⟩ := pc_M hM1595 hP hD hK hS hX hT hA [0, 1, 2, 3, 4, 5, 6, 7, 8, 9, 10] [0, 1] rfl rfl rfl
  refine va_calli (va_runV (As := [.int 4, .int 48, .int 0]) (rest := []) ⟨hx, hb, hml, hown, hts⟩ hM1595 (cwV 3 hts (gV q_429 q_430 q_431 q_60 q_428) rfl rfl rfl hV_X9_showsIt ⟨Nat.le_of_ble_eq_true rfl, Nat.le_of_ble_eq_true rfl⟩) ⟨pc_blind, va_recv hK hP (ci := 8) (q := (RX9, TX9, 6)) (q0 := 0) rfl rfl, fun U hU hW => ⟨rfl, hC1596 U hU hW⟩⟩ rfl rfl hl.1 rfl (lv_room (Nat.le_of_ble_eq_true rfl)) dX9_shown_76 ⟨(Nat.le_of_ble_eq_true rfl), (Nat.le_of_ble_eq_true rfl)⟩) hS (fun q9 _ h9 => hF1593 q9 h9) hF1593 (fun r1598 u1597 t1597 H1597 L1597 ht1597 hvm1597 hw1597 hB1597 hz1597 hk1597 hS => ?_)
  have hP := pq_keep hP hD [0, 1, 2, 3, 4, 5, 6, 7, 8, 9, 10] rfl hk1597 hB1597.1 ht1597
  have hG : s.heap.size + 1269 ≤ H1597.size := va_gr (g := 1248) (g1 := 21) hG (by rw [← ht1597]; exact hB1597.2)
  refine W.eq (g2 := F0 m 79 ls [.int 0]) (by rw [hw1597]) ?_
  refine W.widen (k := 1269) (n := 13716) (by decide) (by decide) ?_
  refine lv_if_eq (tgt := 86) hx hb dX9_shown_79 (by decide) (fun _ => ?_) (fun cz => absurd (by decide) cz)
  refine lv_iconst (v := 0) hx hb dX9_shown_86 (by decide) ?_
  refine lv_istore (lv' := [(4, .int 0), (6, .int 0), (5, .ref a1502), (3, .int 48), (2, .int 4), (1, .int 0), (0, .ref h0)]) hx hb dX9_shown_87 hl (by decide) rfl (fun ls hl => ?_)
  refine lv_goto (tgt := 41) hx hb dX9_shown_89 (by decide) ?_
  refine lv_aload hx hb dX9_shown_41 (lv_at hl 2 rfl) ?_
  have hM1601 := k641_hasNext l hl9 dC dI z a1502 h3 h6 H1597.size
  obtain ⟨hF1599, hC1602⟩ := pc_M hM1601 hP hD hK hS hX hT hA [11, 12] [] rfl rfl rfl
  refine va_callFi (va_runF (As := []) (rest := []) (hK.1 1 (RJx35411, TJx35411, 4) rfl).2 ⟨hx, hb, hml, hown, hts⟩ hM1601 (va_cwF 0 hts (gF q_261 q_262 q_263 q_246 q_260) rfl rfl rfl hT.2.2.2.2.2.2.1 hF_xIh ⟨Nat.le_of_ble_eq_true rfl, Nat.le_of_ble_eq_true rfl⟩) ⟨pc_blind, va_recv hK hP (ci := 1) (q := (RJx35411, TJx35411, 4)) (q0 := 11) rfl rfl, fun U hU hW => ⟨rfl, hC1602 U hU hW⟩⟩ rfl rfl hl.1 rfl (lv_room (Nat.le_of_ble_eq_true rfl)) dX9_shown_43 ⟨(Nat.le_of_ble_eq_true rfl), (Nat.le_of_ble_eq_true rfl)⟩) hS (fun q9 _ h9 => hF1599 q9 h9) hF1599 (fun r1604 u1603 t1603 H1603 L1603 ht1603 hvm1603 hw1603 hB1603 hz1603 hk1603 hS => ?_)
  have hP := pq_keep hP hD [11, 12] rfl hk1603 hB1603.1 ht1603
  have hG : s.heap.size + 1269 ≤ H1603.size := Nat.le_trans hG hz1603
  refine W.eq (g2 := F0 m 48 ls [.int 1]) (by rw [hw1603]) ?_
  refine lv_if_eq (tgt := 92) hx hb dX9_shown_48 (by decide) (fun cz => absurd cz (by decide)) (fun _ => ?_)
  refine lv_aload hx hb dX9_shown_51 (lv_at hl 2 rfl) ?_
  have hM1607 := k643_next l hl9 dC dI z a1502 h3 h6 H1603.size kc1
  obtain ⟨hF1605, hC1608⟩ := pc_M hM1607 hP hD hK hS hX hT hA [11, 12, 13] [2] rfl rfl rfl
  refine va_callFr (va_runF (As := []) (rest := []) (hK.1 1 (RJx35411, TJx35411, 4) rfl).2 ⟨hx, hb, hml, hown, hts⟩ hM1607 (va_cwF 0 hts (gF q_308 q_309 q_310 q_246 q_307) rfl rfl rfl hT.2.2.2.2.2.2.2.1 hF_xIn ⟨Nat.le_of_ble_eq_true rfl, Nat.le_of_ble_eq_true rfl⟩) ⟨pc_blind, va_recv hK hP (ci := 1) (q := (RJx35411, TJx35411, 4)) (q0 := 11) rfl rfl, fun U hU hW => ⟨rfl, hC1608 U hU hW⟩⟩ rfl rfl hl.1 rfl (lv_room (Nat.le_of_ble_eq_true rfl)) dX9_shown_53 ⟨(Nat.le_of_ble_eq_true rfl), (Nat.le_of_ble_eq_true rfl)⟩) hS (fun q9 _ h9 => hF1605 q9 h9) hF1605 (fun u1609 r1610 t1609 H1609 L1609 ht1609 hvm1609 hw1609 hB1609 hz1609 hk1609 hS => ?_)
  obtain ⟨hr1609, hB1609⟩ := hB1609
  obtain ⟨hP, hD, hK⟩ := pq_jn (wz := [(h0, ce21 h1 h2 h3 h4), (h1, ce201 h5), (h2, ce3 z.1), (h4, ce226 h7), (h5, ce200 kc0 h8 h9 h10 h11 h12), (h7, ce200 kc2 (z.2.2.1 128) (z.2.2.1 129) (z.2.2.1 130) (z.2.2.1 131) (z.2.2.1 132)), (h8, ce49), (h9, ce49), (h10, ce49), (h11, ce49), (h12, ce49), (a1502, ce316 h3), (h3, ce276 h6), (h6, ce275 kc1 (z.2.2.1 128) (z.2.2.1 128) (z.2.2.1 128) (z.2.2.1 128) (z.2.2.1 128) (z.2.2.1 128) (z.2.2.1 128))]) (tz := [(kc0, .object "java/lang/Object"), (kc2, .object "java/lang/Object"), (kc1, .object "java/lang/Object")]) hP hD hK [11, 12, 13] [0, 1] rfl hk1609 hF1605 hB1609.1 ht1609 hvm1609 rfl rfl
  have hG : s.heap.size + 1269 ≤ H1609.size := Nat.le_trans hG hz1609
  refine W.eq (g2 := F0 m 58 ls [.ref (z.2.2.1 128)]) (by rw [hr1609]) ?_
  refine va_castE (nm := "java/lang/Integer") hx hb hown (hts _ q_320) (va_Orecv (hX.2.2.1.1.1 128 (by decide)) hS) dX9_shown_58 ?_
  have hM1613 := k74_intValue l hl9 dC dI z H1609.size
  obtain ⟨hF1611, hC1614⟩ := pc_M hM1613 hP hD hK hS hX hT hA [] [] rfl rfl rfl
  refine va_calli (va_runV (As := []) (rest := []) ⟨hx, hb, hml, hown, hts⟩ hM1613 (cwV 0 hts (gV q_323 q_324 q_325 q_297 q_322) rfl rfl rfl hV_J6_intValue_8abf5 ⟨Nat.le_of_ble_eq_true rfl, Nat.le_of_ble_eq_true rfl⟩) ⟨pc_blind, va_Orecv (hX.2.2.1.1.1 128 (by decide)) hS, fun U hU hW => ⟨rfl, hC1614 U hU hW⟩⟩ rfl rfl hl.1 rfl (lv_room (Nat.le_of_ble_eq_true rfl)) dX9_shown_61 ⟨(Nat.le_of_ble_eq_true rfl), (Nat.le_of_ble_eq_true rfl)⟩) hS (fun q9 _ h9 => hF1611 q9 h9) hF1611 (fun r1616 u1615 t1615 H1615 L1615 ht1615 hvm1615 hw1615 hB1615 hz1615 hk1615 hS => ?_)
  have hP := pq_keep hP hD [] rfl hk1615 hB1615.1 ht1615
  have hG : s.heap.size + 1269 ≤ H1615.size := Nat.le_trans hG hz1615
  refine W.eq (g2 := F0 m 64 ls [.int 0]) (by rw [hw1615]) ?_
  refine lv_istore (lv' := [(6, .int 0), (4, .int 0), (5, .ref a1502), (3, .int 48), (2, .int 4), (1, .int 0), (0, .ref h0)]) hx hb dX9_shown_64 hl (by decide) rfl (fun ls hl => ?_)
  refine lv_iload hx hb dX9_shown_66 (lv_at hl 1 rfl) ?_
  refine lv_if_ne (tgt := 82) hx hb dX9_shown_68 (by decide) (fun cz => absurd (by decide) cz) (fun _ => ?_)
  refine lv_aload_n hx hb dX9_shown_71 rfl (lv_at hl 6 rfl) ?_
  refine lv_iload_n hx hb dX9_shown_72 rfl (lv_at hl 4 rfl) ?_
  refine lv_iload_n hx hb dX9_shown_73 rfl (lv_at hl 3 rfl) ?_
  refine lv_iload hx hb dX9_shown_74 (lv_at hl 0 rfl) ?_
  have hM1619 := k666_showsIt l hl9 dC dI z h0 h1 h2 h4 h5 h7 h8 h9 h10 h11 h12 h3 H1615.size kc0 kc2
  obtain ⟨hF1617, hC1620⟩ := pc_M hM1619 hP hD hK hS hX hT hA [0, 1, 2, 3, 4, 5, 6, 7, 8, 9, 10] [0, 1] rfl rfl rfl
  refine va_calli (va_runV (As := [.int 4, .int 48, .int 0]) (rest := []) ⟨hx, hb, hml, hown, hts⟩ hM1619 (cwV 3 hts (gV q_429 q_430 q_431 q_60 q_428) rfl rfl rfl hV_X9_showsIt ⟨Nat.le_of_ble_eq_true rfl, Nat.le_of_ble_eq_true rfl⟩) ⟨pc_blind, va_recv hK hP (ci := 8) (q := (RX9, TX9, 6)) (q0 := 0) rfl rfl, fun U hU hW => ⟨rfl, hC1620 U hU hW⟩⟩ rfl rfl hl.1 rfl (lv_room (Nat.le_of_ble_eq_true rfl)) dX9_shown_76 ⟨(Nat.le_of_ble_eq_true rfl), (Nat.le_of_ble_eq_true rfl)⟩) hS (fun q9 _ h9 => hF1617 q9 h9) hF1617 (fun r1622 u1621 t1621 H1621 L1621 ht1621 hvm1621 hw1621 hB1621 hz1621 hk1621 hS => ?_)
  have hP := pq_keep hP hD [0, 1, 2, 3, 4, 5, 6, 7, 8, 9, 10] rfl hk1621 hB1621.1 ht1621
  have hG : s.heap.size + 1290 ≤ H1621.size := va_gr (g := 1269) (g1 := 21) hG (by rw [← ht1621]; exact hB1621.2)
  refine W.eq (g2 := F0 m 79 ls [.int 0]) (by rw [hw1621]) ?_
  refine W.widen (k := 1290) (n := 13944) (by decide) (by decide) ?_
  refine lv_if_eq (tgt := 86) hx hb dX9_shown_79 (by decide) (fun _ => ?_) (fun cz => absurd (by decide) cz)
  refine lv_iconst (v := 0) hx hb dX9_shown_86 (by decide) ?_
  refine lv_istore (lv' := [(4, .int 0), (6, .int 0), (5, .ref a1502), (3, .int 48), (2, .int 4), (1, .int 0), (0, .ref h0)]) hx hb dX9_shown_87 hl (by decide) rfl (fun ls hl => ?_)
  refine lv_goto (tgt := 41) hx hb dX9_shown_89 (by decide) ?_
  refine lv_aload hx hb dX9_shown_41 (lv_at hl 2 rfl) ?_
  have hM1625 := k644_hasNext l hl9 dC dI z a1502 h3 h6 H1621.size
  obtain ⟨hF1623, hC1626⟩ := pc_M hM1625 hP hD hK hS hX hT hA [11, 12] [] rfl rfl rfl
  refine va_callFi (va_runF (As := []) (rest := []) (hK.1 1 (RJx35411, TJx35411, 4) rfl).2 ⟨hx, hb, hml, hown, hts⟩ hM1625 (va_cwF 0 hts (gF q_261 q_262 q_263 q_246 q_260) rfl rfl rfl hT.2.2.2.2.2.2.1 hF_xIh ⟨Nat.le_of_ble_eq_true rfl, Nat.le_of_ble_eq_true rfl⟩) ⟨pc_blind, va_recv hK hP (ci := 1) (q := (RJx35411, TJx35411, 4)) (q0 := 11) rfl rfl, fun U hU hW => ⟨rfl, hC1626 U hU hW⟩⟩ rfl rfl hl.1 rfl (lv_room (Nat.le_of_ble_eq_true rfl)) dX9_shown_43 ⟨(Nat.le_of_ble_eq_true rfl), (Nat.le_of_ble_eq_true rfl)⟩) hS (fun q9 _ h9 => hF1623 q9 h9) hF1623 (fun r1628 u1627 t1627 H1627 L1627 ht1627 hvm1627 hw1627 hB1627 hz1627 hk1627 hS => ?_)
  have hP := pq_keep hP hD [11, 12] rfl hk1627 hB1627.1 ht1627
  have hG : s.heap.size + 1290 ≤ H1627.size := Nat.le_trans hG hz1627
  refine W.eq (g2 := F0 m 48 ls [.int 1]) (by rw [hw1627]) ?_
  refine lv_if_eq (tgt := 92) hx hb dX9_shown_48 (by decide) (fun cz => absurd cz (by decide)) (fun _ => ?_)
  refine lv_aload hx hb dX9_shown_51 (lv_at hl 2 rfl) ?_
  have hM1631 := k646_next l hl9 dC dI z a1502 h3 h6 H1627.size kc1
  obtain ⟨hF1629, hC1632⟩ := pc_M hM1631 hP hD hK hS hX hT hA [11, 12, 13] [2] rfl rfl rfl
  refine va_callFr (va_runF (As := []) (rest := []) (hK.1 1 (RJx35411, TJx35411, 4) rfl).2 ⟨hx, hb, hml, hown, hts⟩ hM1631 (va_cwF 0 hts (gF q_308 q_309 q_310 q_246 q_307) rfl rfl rfl hT.2.2.2.2.2.2.2.1 hF_xIn ⟨Nat.le_of_ble_eq_true rfl, Nat.le_of_ble_eq_true rfl⟩) ⟨pc_blind, va_recv hK hP (ci := 1) (q := (RJx35411, TJx35411, 4)) (q0 := 11) rfl rfl, fun U hU hW => ⟨rfl, hC1632 U hU hW⟩⟩ rfl rfl hl.1 rfl (lv_room (Nat.le_of_ble_eq_true rfl)) dX9_shown_53 ⟨(Nat.le_of_ble_eq_true rfl), (Nat.le_of_ble_eq_true rfl)⟩) hS (fun q9 _ h9 => hF1629 q9 h9) hF1629 (fun u1633 r1634 t1633 H1633 L1633 ht1633 hvm1633 hw1633 hB1633 hz1633 hk1633 hS => ?_)
  obtain ⟨hr1633, hB1633⟩ := hB1633
  obtain ⟨hP, hD, hK⟩ := pq_jn (wz := [(h0, ce21 h1 h2 h3 h4), (h1, ce201 h5), (h2, ce3 z.1), (h4, ce226 h7), (h5, ce200 kc0 h8 h9 h10 h11 h12), (h7, ce200 kc2 (z.2.2.1 128) (z.2.2.1 129) (z.2.2.1 130) (z.2.2.1 131) (z.2.2.1 132)), (h8, ce49), (h9, ce49), (h10, ce49), (h11, ce49), (h12, ce49), (a1502, ce318 h3), (h3, ce276 h6), (h6, ce275 kc1 (z.2.2.1 128) (z.2.2.1 128) (z.2.2.1 128) (z.2.2.1 128) (z.2.2.1 128) (z.2.2.1 128) (z.2.2.1 128))]) (tz := [(kc0, .object "java/lang/Object"), (kc2, .object "java/lang/Object"), (kc1, .object "java/lang/Object")]) hP hD hK [11, 12, 13] [0, 1] rfl hk1633 hF1629 hB1633.1 ht1633 hvm1633 rfl rfl
  have hG : s.heap.size + 1290 ≤ H1633.size := Nat.le_trans hG hz1633
  refine W.eq (g2 := F0 m 58 ls [.ref (z.2.2.1 128)]) (by rw [hr1633]) ?_
  refine va_castE (nm := "java/lang/Integer") hx hb hown (hts _ q_320) (va_Orecv (hX.2.2.1.1.1 128 (by decide)) hS) dX9_shown_58 ?_
  have hM1637 := k74_intValue l hl9 dC dI z H1633.size
  obtain ⟨hF1635, hC1638⟩ := pc_M hM1637 hP hD hK hS hX hT hA [] [] rfl rfl rfl
  refine va_calli (va_runV (As := []) (rest := []) ⟨hx, hb, hml, hown, hts⟩ hM1637 (cwV 0 hts (gV q_323 q_324 q_325 q_297 q_322) rfl rfl rfl hV_J6_intValue_8abf5 ⟨Nat.le_of_ble_eq_true rfl, Nat.le_of_ble_eq_true rfl⟩) ⟨pc_blind, va_Orecv (hX.2.2.1.1.1 128 (by decide)) hS, fun U hU hW => ⟨rfl, hC1638 U hU hW⟩⟩ rfl rfl hl.1 rfl (lv_room (Nat.le_of_ble_eq_true rfl)) dX9_shown_61 ⟨(Nat.le_of_ble_eq_true rfl), (Nat.le_of_ble_eq_true rfl)⟩) hS (fun q9 _ h9 => hF1635 q9 h9) hF1635 (fun r1640 u1639 t1639 H1639 L1639 ht1639 hvm1639 hw1639 hB1639 hz1639 hk1639 hS => ?_)
  have hP := pq_keep hP hD [] rfl hk1639 hB1639.1 ht1639
  have hG : s.heap.size + 1290 ≤ H1639.size := Nat.le_trans hG hz1639
  refine W.eq (g2 := F0 m 64 ls [.int 0]) (by rw [hw1639]) ?_
  refine lv_istore (lv' := [(6, .int 0), (4, .int 0), (5, .ref a1502), (3, .int 48), (2, .int 4), (1, .int 0), (0, .ref h0)]) hx hb dX9_shown_64 hl (by decide) rfl (fun ls hl => ?_)
  refine lv_iload hx hb dX9_shown_66 (lv_at hl 1 rfl) ?_
  refine lv_if_ne (tgt := 82) hx hb dX9_shown_68 (by decide) (fun cz => absurd (by decide) cz) (fun _ => ?_)
  refine lv_aload_n hx hb dX9_shown_71 rfl (lv_at hl 6 rfl) ?_
  refine lv_iload_n hx hb dX9_shown_72 rfl (lv_at hl 4 rfl) ?_
  refine lv_iload_n hx hb dX9_shown_73 rfl (lv_at hl 3 rfl) ?_
  refine lv_iload hx hb dX9_shown_74 (lv_at hl 0 rfl) ?_
  have hM1643 := k666_showsIt l hl9 dC dI z h0 h1 h2 h4 h5 h7 h8 h9 h10 h11 h12 h3 H1639.size kc0 kc2
  obtain ⟨hF1641, hC1644⟩ := pc_M hM1643 hP hD hK hS hX hT hA [0, 1, 2, 3, 4, 5, 6, 7, 8, 9, 10] [0, 1] rfl rfl rfl
  refine va_calli (va_runV (As := [.int 4, .int 48, .int 0]) (rest := []) ⟨hx, hb, hml, hown, hts⟩ hM1643 (cwV 3 hts (gV q_429 q_430 q_431 q_60 q_428) rfl rfl rfl hV_X9_showsIt ⟨Nat.le_of_ble_eq_true rfl, Nat.le_of_ble_eq_true rfl⟩) ⟨pc_blind, va_recv hK hP (ci := 8) (q := (RX9, TX9, 6)) (q0 := 0) rfl rfl, fun U hU hW => ⟨rfl, hC1644 U hU hW⟩⟩ rfl rfl hl.1 rfl (lv_room (Nat.le_of_ble_eq_true rfl)) dX9_shown_76 ⟨(Nat.le_of_ble_eq_true rfl), (Nat.le_of_ble_eq_true rfl)⟩) hS (fun q9 _ h9 => hF1641 q9 h9) hF1641 (fun r1646 u1645 t1645 H1645 L1645 ht1645 hvm1645 hw1645 hB1645 hz1645 hk1645 hS => ?_)
  have hP := pq_keep hP hD [0, 1, 2, 3, 4, 5, 6, 7, 8, 9, 10] rfl hk1645 hB1645.1 ht1645
  have hG : s.heap.size + 1311 ≤ H1645.size := va_gr (g := 1290) (g1 := 21) hG (by rw [← ht1645]; exact hB1645.2)
  refine W.eq (g2 := F0 m 79 ls [.int 0]) (by rw [hw1645]) ?_
  refine W.widen (k := 1311) (n := 14172) (by decide) (by decide) ?_
  refine lv_if_eq (tgt := 86) hx hb dX9_shown_79 (by decide) (fun _ => ?_) (fun cz => absurd (by decide) cz)
  refine lv_iconst (v := 0) hx hb dX9_shown_86 (by decide) ?_
  refine lv_istore (lv' := [(4, .int 0), (6, .int 0), (5, .ref a1502), (3, .int 48), (2, .int 4), (1, .int 0), (0, .ref h0)]) hx hb dX9_shown_87 hl (by decide) rfl (fun ls hl => ?_)
  refine lv_goto (tgt := 41) hx hb dX9_shown_89 (by decide) ?_
  refine lv_aload hx hb dX9_shown_41 (lv_at hl 2 rfl) ?_
  have hM1649 := k647_hasNext l hl9 dC dI z a1502 h3 h6 H1645.size
  obtain ⟨hF1647, hC1650⟩ := pc_M hM1649 hP hD hK hS hX hT hA [11, 12] [] rfl rfl rfl
  refine va_callFi (va_runF (As := []) (rest := []) (hK.1 1 (RJx35411, TJx35411, 4) rfl).2 ⟨hx, hb, hml, hown, hts⟩ hM1649 (va_cwF 0 hts (gF q_261 q_262 q_263 q_246 q_260) rfl rfl rfl hT.2.2.2.2.2.2.1 hF_xIh ⟨Nat.le_of_ble_eq_true rfl, Nat.le_of_ble_eq_true rfl⟩) ⟨pc_blind, va_recv hK hP (ci := 1) (q := (RJx35411, TJx35411, 4)) (q0 := 11) rfl rfl, fun U hU hW => ⟨rfl, hC1650 U hU hW⟩⟩ rfl rfl hl.1 rfl (lv_room (Nat.le_of_ble_eq_true rfl)) dX9_shown_43 ⟨(Nat.le_of_ble_eq_true rfl), (Nat.le_of_ble_eq_true rfl)⟩) hS (fun q9 _ h9 => hF1647 q9 h9) hF1647 (fun r1652 u1651 t1651 H1651 L1651 ht1651 hvm1651 hw1651 hB1651 hz1651 hk1651 hS => ?_)
  have hP := pq_keep hP hD [11, 12] rfl hk1651 hB1651.1 ht1651
  have hG : s.heap.size + 1311 ≤ H1651.size := Nat.le_trans hG hz1651
  refine W.eq (g2 := F0 m 48 ls [.int 1]) (by rw [hw1651]) ?_
  refine lv_if_eq (tgt := 92) hx hb dX9_shown_48 (by decide) (fun cz => absurd cz (by decide)) (fun _ => ?_)
  refine lv_aload hx hb dX9_shown_51 (lv_at hl 2 rfl) ?_
  have hM1655 := k649_next l hl9 dC dI z a1502 h3 h6 H1651.size kc1
  obtain ⟨hF1653, hC1656⟩ := pc_M hM1655 hP hD hK hS hX hT hA [11, 12, 13] [2] rfl rfl rfl
  refine va_callFr (va_runF (As := []) (rest := []) (hK.1 1 (RJx35411, TJx35411, 4) rfl).2 ⟨hx, hb, hml, hown, hts⟩ hM1655 (va_cwF 0 hts (gF q_308 q_309 q_310 q_246 q_307) rfl rfl rfl hT.2.2.2.2.2.2.2.1 hF_xIn ⟨Nat.le_of_ble_eq_true rfl, Nat.le_of_ble_eq_true rfl⟩) ⟨pc_blind, va_recv hK hP (ci := 1) (q := (RJx35411, TJx35411, 4)) (q0 := 11) rfl rfl, fun U hU hW => ⟨rfl, hC1656 U hU hW⟩⟩ rfl rfl hl.1 rfl (lv_room (Nat.le_of_ble_eq_true rfl)) dX9_shown_53 ⟨(Nat.le_of_ble_eq_true rfl), (Nat.le_of_ble_eq_true rfl)⟩) hS (fun q9 _ h9 => hF1653 q9 h9) hF1653 (fun u1657 r1658 t1657 H1657 L1657 ht1657 hvm1657 hw1657 hB1657 hz1657 hk1657 hS => ?_)
  obtain ⟨hr1657, hB1657⟩ := hB1657
  obtain ⟨hP, hD, hK⟩ := pq_jn (wz := [(h0, ce21 h1 h2 h3 h4), (h1, ce201 h5), (h2, ce3 z.1), (h4, ce226 h7), (h5, ce200 kc0 h8 h9 h10 h11 h12), (h7, ce200 kc2 (z.2.2.1 128) (z.2.2.1 129) (z.2.2.1 130) (z.2.2.1 131) (z.2.2.1 132)), (h8, ce49), (h9, ce49), (h10, ce49), (h11, ce49), (h12, ce49), (a1502, ce320 h3), (h3, ce276 h6), (h6, ce275 kc1 (z.2.2.1 128) (z.2.2.1 128) (z.2.2.1 128) (z.2.2.1 128) (z.2.2.1 128) (z.2.2.1 128) (z.2.2.1 128))]) (tz := [(kc0, .object "java/lang/Object"), (kc2, .object "java/lang/Object"), (kc1, .object "java/lang/Object")]) hP hD hK [11, 12, 13] [0, 1] rfl hk1657 hF1653 hB1657.1 ht1657 hvm1657 rfl rfl
  have hG : s.heap.size + 1311 ≤ H1657.size := Nat.le_trans hG hz1657
  refine W.eq (g2 := F0 m 58 ls [.ref (z.2.2.1 128)]) (by rw [hr1657]) ?_
  refine va_castE (nm := "java/lang/Integer") hx hb hown (hts _ q_320) (va_Orecv (hX.2.2.1.1.1 128 (by decide)) hS) dX9_shown_58 ?_
  have hM1661 := k74_intValue l hl9 dC dI z H1657.size
  obtain ⟨hF1659, hC1662⟩ := pc_M hM1661 hP hD hK hS hX hT hA [] [] rfl rfl rfl
  refine va_calli (va_runV (As := []) (rest := []) ⟨hx, hb, hml, hown, hts⟩ hM1661 (cwV 0 hts (gV q_323 q_324 q_325 q_297 q_322) rfl rfl rfl hV_J6_intValue_8abf5 ⟨Nat.le_of_ble_eq_true rfl, Nat.le_of_ble_eq_true rfl⟩) ⟨pc_blind, va_Orecv (hX.2.2.1.1.1 128 (by decide)) hS, fun U hU hW => ⟨rfl, hC1662 U hU hW⟩⟩ rfl rfl hl.1 rfl (lv_room (Nat.le_of_ble_eq_true rfl)) dX9_shown_61 ⟨(Nat.le_of_ble_eq_true rfl), (Nat.le_of_ble_eq_true rfl)⟩) hS (fun q9 _ h9 => hF1659 q9 h9) hF1659 (fun r1664 u1663 t1663 H1663 L1663 ht1663 hvm1663 hw1663 hB1663 hz1663 hk1663 hS => ?_)
  have hP := pq_keep hP hD [] rfl hk1663 hB1663.1 ht1663
  have hG : s.heap.size + 1311 ≤ H1663.size := Nat.le_trans hG hz1663
  refine W.eq (g2 := F0 m 64 ls [.int 0]) (by rw [hw1663]) ?_
  refine lv_istore (lv' := [(6, .int 0), (4, .int 0), (5, .ref a1502), (3, .int 48), (2, .int 4), (1, .int 0), (0, .ref h0)]) hx hb dX9_shown_64 hl (by decide) rfl (fun ls hl => ?_)
  refine lv_iload hx hb dX9_shown_66 (lv_at hl 1 rfl) ?_
  refine lv_if_ne (tgt := 82) hx hb dX9_shown_68 (by decide) (fun cz => absurd (by decide) cz) (fun _ => ?_)
  refine lv_aload_n hx hb dX9_shown_71 rfl (lv_at hl 6 rfl) ?_
  refine lv_iload_n hx hb dX9_shown_72 rfl (lv_at hl 4 rfl) ?_
  refine lv_iload_n hx hb dX9_shown_73 rfl (lv_at hl 3 rfl) ?_
  refine lv_iload hx hb dX9_shown_74 (lv_at hl 0 rfl) ?_
  have hM1667 := k666_showsIt l hl9 dC dI z h0 h1 h2 h4 h5 h7 h8 h9 h10 h11 h12 h3 H1663.size kc0 kc2
  obtain ⟨hF1665, hC1668⟩ := pc_M hM1667 hP hD hK hS hX hT hA [0, 1, 2, 3, 4, 5, 6, 7, 8, 9, 10] [0, 1] rfl rfl rfl
  refine va_calli (va_runV (As := [.int 4, .int 48, .int 0]) (rest := []) ⟨hx, hb, hml, hown, hts⟩ hM1667 (cwV 3 hts (gV q_429 q_430 q_431 q_60 q_428) rfl rfl rfl hV_X9_showsIt ⟨Nat.le_of_ble_eq_true rfl, Nat.le_of_ble_eq_true rfl⟩) ⟨pc_blind, va_recv hK hP (ci := 8) (q := (RX9, TX9, 6)) (q0 := 0) rfl rfl, fun U hU hW => ⟨rfl, hC1668 U hU hW⟩⟩ rfl rfl hl.1 rfl (lv_room (Nat.le_of_ble_eq_true rfl)) dX9_shown_76 ⟨(Nat.le_of_ble_eq_true rfl), (Nat.le_of_ble_eq_true rfl)⟩) hS (fun q9 _ h9 => hF1665 q9 h9) hF1665 (fun r1670 u1669 t1669 H1669 L1669 ht1669 hvm1669 hw1669 hB1669 hz1669 hk1669 hS => ?_)
  have hP := pq_keep hP hD [0, 1, 2, 3, 4, 5, 6, 7, 8, 9, 10] rfl hk1669 hB1669.1 ht1669
  have hG : s.heap.size + 1332 ≤ H1669.size := va_gr (g := 1311) (g1 := 21) hG (by rw [← ht1669]; exact hB1669.2)
  refine W.eq (g2 := F0 m 79 ls [.int 0]) (by rw [hw1669]) ?_
  refine W.widen (k := 1332) (n := 14400) (by decide) (by decide) ?_
  refine lv_if_eq (tgt := 86) hx hb dX9_shown_79 (by decide) (fun _ => ?_) (fun cz => absurd (by decide) cz)
  refine lv_iconst (v := 0) hx hb dX9_shown_86 (by decide) ?_
  refine lv_istore (lv' := [(4, .int 0), (6, .int 0), (5, .ref a1502), (3, .int 48), (2, .int 4), (1, .int 0), (0, .ref h0)]) hx hb dX9_shown_87 hl (by decide) rfl (fun ls hl => ?_)
  refine lv_goto (tgt := 41) hx hb dX9_shown_89 (by decide) ?_
  refine lv_aload hx hb dX9_shown_41 (lv_at hl 2 rfl) ?_
  have hM1673 := k650_hasNext l hl9 dC dI z a1502 h3 h6 H1669.size
  obtain ⟨hF1671, hC1674⟩ := pc_M hM1673 hP hD hK hS hX hT hA [11, 12] [] rfl rfl rfl
  refine va_callFi (va_runF (As := []) (rest := []) (hK.1 1 (RJx35411, TJx35411, 4) rfl).2 ⟨hx, hb, hml, hown, hts⟩ hM1673 (va_cwF 0 hts (gF q_261 q_262 q_263 q_246 q_260) rfl rfl rfl hT.2.2.2.2.2.2.1 hF_xIh ⟨Nat.le_of_ble_eq_true rfl, Nat.le_of_ble_eq_true rfl⟩) ⟨pc_blind, va_recv hK hP (ci := 1) (q := (RJx35411, TJx35411, 4)) (q0 := 11) rfl rfl, fun U hU hW => ⟨rfl, hC1674 U hU hW⟩⟩ rfl rfl hl.1 rfl (lv_room (Nat.le_of_ble_eq_true rfl)) dX9_shown_43 ⟨(Nat.le_of_ble_eq_true rfl), (Nat.le_of_ble_eq_true rfl)⟩) hS (fun q9 _ h9 => hF1671 q9 h9) hF1671 (fun r1676 u1675 t1675 H1675 L1675 ht1675 hvm1675 hw1675 hB1675 hz1675 hk1675 hS => ?_)
  have hP := pq_keep hP hD [11, 12] rfl hk1675 hB1675.1 ht1675
  have hG : s.heap.size + 1332 ≤ H1675.size := Nat.le_trans hG hz1675
  refine W.eq (g2 := F0 m 48 ls [.int 0]) (by rw [hw1675]) ?_
  refine lv_if_eq (tgt := 92) hx hb dX9_shown_48 (by decide) (fun _ => ?_) (fun cz => absurd (by decide) cz)
  refine lv_iload_n hx hb dX9_shown_92 rfl (lv_at hl 5 rfl) ?_
  refine lv_iload hx hb dX9_shown_93 (lv_at hl 0 rfl) ?_
  refine lv_if_eq (tgt := 102) hx hb dX9_shown_95 (by decide) (fun _ => ?_) (fun cz => absurd (by decide) cz)
  refine lv_iconst (v := 0) hx hb dX9_shown_102 (by decide) ?_
  refine lv_iadd hx hb dX9_shown_103 ?_
  refine lv_topi (fun y1677 ey1677 => ?_)
  obtain rfl : y1677 = 0 := ey1677.trans (by decide)
  refine lv_istore_n (lv' := [(1, .int 0), (4, .int 0), (6, .int 0), (5, .ref a1502), (3, .int 48), (2, .int 4), (0, .ref h0)]) hx hb dX9_shown_104 rfl hl (by decide) rfl (fun ls hl => ?_)
  refine lv_iload_n hx hb dX9_shown_105 rfl (lv_at hl 4 rfl) ?_
  refine lv_iconst (v := 1) hx hb dX9_shown_106 (by decide) ?_
  refine lv_iadd hx hb dX9_shown_107 ?_
  refine lv_topi (fun y1678 ey1678 => ?_)
  obtain rfl : y1678 = 49 := ey1678.trans (by decide)
  refine lv_i2c (v := 49) hx hb dX9_shown_108 (by decide) ?_
  refine lv_istore_n (lv' := [(3, .int 49), (1, .int 0), (4, .int 0), (6, .int 0), (5, .ref a1502), (2, .int 4), (0, .ref h0)]) hx hb dX9_shown_109 rfl hl (by decide) rfl (fun ls hl => ?_)
  refine lv_goto (tgt := 23) hx hb dX9_shown_110 (by decide) ?_
  exact hend _ _ _ hS (hP.sub [0, 1, 2, 12, 3, 4, 13, 5, 6, 7, 8, 9, 10] rfl) (hD.sub [0, 1, 2, 12, 3, 4, 13, 5, 6, 7, 8, 9, 10] rfl rfl) (lv_sub hl [0, 1, 5, 6] rfl) hG

set_option maxHeartbeats 8000000 in
set_option maxRecDepth 100000 in
theorem k669_shown_g14 {p : Program} {l : Launch} {e : Env} {s : State} {m : MethodId} {args : Array Value} {below : List Frame} {meth : Method} {c : Code} {Q : State → Prop} {A : Nat → Prop} {H : Heap} {locs : List Loc} {ls : Array Slot} {dC : Nat → ClassId} {dI : Nat → Nat → Nat} {z : XZ} {h0 h1 h2 h3 h4 h5 h6 h7 h8 h9 h10 h11 h12 : Nat} {kc0 kc1 kc2 : ClassId} (hl9 : l.stackTraces = false) (hx : p.tables.exec = Jvm.exec) (hb : c.code = cX9_shown) (hml : c.maxLocals = 7) (hown : s.vm.findClass RX9 = some m.cls) (hts : ∀ w ∈ wsL_law, w.before args s = true) (hA : ∀ q : Nat, s.heap.size ≤ q → A q) (hX : XE z A s s.heap) (hT : XT s) (hS : va_S A s.heap H locs) (hP : va_P (dC, dI) xCl [(h0, ce21 h1 h2 h3 h4), (h1, ce201 h5), (h2, ce3 z.1), (h3, ce276 h6), (h4, ce226 h7), (h5, ce200 kc0 h8 h9 h10 h11 h12), (h6, ce275 kc1 (z.2.2.1 128) (z.2.2.1 128) (z.2.2.1 128) (z.2.2.1 128) (z.2.2.1 128) (z.2.2.1 128) (z.2.2.1 128)), (h7, ce200 kc2 (z.2.2.1 128) (z.2.2.1 129) (z.2.2.1 130) (z.2.2.1 131) (z.2.2.1 132)), (h8, ce49), (h9, ce49), (h10, ce49), (h11, ce49), (h12, ce49)] H) (hD : va_D A [(h0, ce21 h1 h2 h3 h4), (h1, ce201 h5), (h2, ce3 z.1), (h3, ce276 h6), (h4, ce226 h7), (h5, ce200 kc0 h8 h9 h10 h11 h12), (h6, ce275 kc1 (z.2.2.1 128) (z.2.2.1 128) (z.2.2.1 128) (z.2.2.1 128) (z.2.2.1 128) (z.2.2.1 128) (z.2.2.1 128)), (h7, ce200 kc2 (z.2.2.1 128) (z.2.2.1 129) (z.2.2.1 130) (z.2.2.1 131) (z.2.2.1 132)), (h8, ce49), (h9, ce49), (h10, ce49), (h11, ce49), (h12, ce49)]) (hK : va_K (dC, dI) xCl [(kc0, .object "java/lang/Object"), (kc1, .object "java/lang/Object"), (kc2, .object "java/lang/Object")] s) (hl : lv_has ls 7 [(3, .int 49), (1, .int 0), (2, .int 4), (0, .ref h0)]) (hG : s.heap.size + 1332 ≤ H.size) (hend : ∀ (H' : Heap) (locs' : List Loc) (ls' : Array Slot), va_S A s.heap H' locs' → va_P (dC, dI) xCl [(h0, ce21 h1 h2 h3 h4), (h1, ce201 h5), (h2, ce3 z.1), (h3, ce276 h6), (h4, ce226 h7), (h5, ce200 kc0 h8 h9 h10 h11 h12), (h6, ce275 kc1 (z.2.2.1 128) (z.2.2.1 128) (z.2.2.1 128) (z.2.2.1 128) (z.2.2.1 128) (z.2.2.1 128) (z.2.2.1 128)), (h7, ce200 kc2 (z.2.2.1 128) (z.2.2.1 129) (z.2.2.1 130) (z.2.2.1 131) (z.2.2.1 132)), (h8, ce49), (h9, ce49), (h10, ce49), (h11, ce49), (h12, ce49)] H' → va_D A [(h0, ce21 h1 h2 h3 h4), (h1, ce201 h5), (h2, ce3 z.1), (h3, ce276 h6), (h4, ce226 h7), (h5, ce200 kc0 h8 h9 h10 h11 h12), (h6, ce275 kc1 (z.2.2.1 128) (z.2.2.1 128) (z.2.2.1 128) (z.2.2.1 128) (z.2.2.1 128) (z.2.2.1 128) (z.2.2.1 128)), (h7, ce200 kc2 (z.2.2.1 128) (z.2.2.1 129) (z.2.2.1 130) (z.2.2.1 131) (z.2.2.1 132)), (h8, ce49), (h9, ce49), (h10, ce49), (h11, ce49), (h12, ce49)] → lv_has ls' 7 [(3, .int 50), (1, .int 0), (2, .int 4), (0, .ref h0)] → s.heap.size + 1480 ≤ H'.size → W p l e ({ frames := 5, cells := 1480, slots := 16000, locals := 121 } : Room) s m args below meth c H' locs' 1480 16000 Q (F0 m 23 ls' [])) : W p l e ({ frames := 5, cells := 1480, slots := 16000, locals := 121 } : Room) s m args below meth c H locs 1332 14400 Q (F0 m 23 ls []) := by
  refine lv_iload_n hx hb dX9_shown_23 rfl (lv_at hl 0 rfl) ?_
  refine lv_bipush (v := 49) hx hb dX9_shown_24 (by decide) ?_
  refine lv_icmp_gt (tgt := 113) hx hb dX9_shown_26 (by decide) (fun cz => absurd cz (by decide)) (fun _ => ?_)
  refine lv_iconst (v := 0) hx hb dX9_shown_29 (by decide) ?_
  refine lv_istore (lv' := [(4, .int 0), (3, .int 49), (1, .int 0), (2, .int 4), (0, .ref h0)]) hx hb dX9_shown_30 hl (by decide) rfl (fun ls hl => ?_)
  refine lv_aload_n hx hb dX9_shown_32 rfl (lv_at hl 4 rfl) ?_
  refine va_get (D := (dC, dI)) (ci := 8) (v := .ref h3) (C := RX9) (T := TX9) (N := 6) hx hb hts in_X9 hown hK hP 0 rfl rfl 3 (by decide) (hts _ q_66) (fun _ h9 => h9) rfl dX9_shown_33 ?_
  have hM1681 := k619_iterator l hl9 dC dI z h3 h6 H.size
  obtain ⟨hF1679, hC1682⟩ := pc_M hM1681 hP hD hK hS hX hT hA [3] [] rfl rfl rfl
  refine va_callr (va_runV (As := []) (rest := []) ⟨hx, hb, hml, hown, hts⟩ hM1681 (cwV 0 hts (gV q_256 q_257 q_258 q_12 q_255) rfl rfl rfl hV_Jx4a65c_iterator_32c93 ⟨Nat.le_of_ble_eq_true rfl, Nat.le_of_ble_eq_true rfl⟩) ⟨pc_blind, va_recv hK hP (ci := 0) (q := (RJx4a65c, TJx4a65c, 3)) (q0 := 3) rfl rfl, fun U hU hW => ⟨rfl, hC1682 U hU hW⟩⟩ rfl rfl hl.1 rfl (lv_room (Nat.le_of_ble_eq_true rfl)) dX9_shown_36 ⟨(Nat.le_of_ble_eq_true rfl), (Nat.le_of_ble_eq_true rfl)⟩) hS (fun q9 _ h9 => hF1679 q9 h9) hF1679 (fun u1683 r1684 t1683 H1683 L1683 ht1683 hvm1683 hw1683 hB1683 hz1683 hk1683 hS => ?_)
  obtain ⟨a1685, hr1683, hB1683⟩ := hB1683
  obtain ⟨hP, hD, hK⟩ := pq_jn (wz := [(h0, ce21 h1 h2 h3 h4), (h1, ce201 h5), (h2, ce3 z.1), (h4, ce226 h7), (h5, ce200 kc0 h8 h9 h10 h11 h12), (h6, ce275 kc1 (z.2.2.1 128) (z.2.2.1 128) (z.2.2.1 128) (z.2.2.1 128) (z.2.2.1 128) (z.2.2.1 128) (z.2.2.1 128)), (h7, ce200 kc2 (z.2.2.1 128) (z.2.2.1 129) (z.2.2.1 130) (z.2.2.1 131) (z.2.2.1 132)), (h8, ce49), (h9, ce49), (h10, ce49), (h11, ce49), (h12, ce49), (h3, ce276 h6), (a1685, ce292 h3)]) (tz := [(kc0, .object "java/lang/Object"), (kc1, .object "java/lang/Object"), (kc2, .object "java/lang/Object")]) hP hD hK [3] [0, 1, 2] rfl hk1683 hF1679 hB1683.1 ht1683 hvm1683 rfl rfl
  have hG : s.heap.size + 1333 ≤ H1683.size := va_gr (g := 1332) (g1 := 1) hG (by rw [← ht1683]; exact hB1683.2)
  refine W.eq (g2 := F0 m 39 ls [.ref a1685]) (by rw [hr1683]) ?_
  refine W.widen (k := 1333) (n := 14404) (by decide) (by decide) ?_
  refine lv_astore (lv' := [(5, .ref a1685), (4, .int 0), (3, .int 49), (1, .int 0), (2, .int 4), (0, .ref h0)]) hx hb dX9_shown_39 hl (by decide) rfl (fun ls hl => ?_)
  refine lv_aload hx hb dX9_shown_41 (lv_at hl 0 rfl) ?_
  have hM1688 := k620_hasNext l hl9 dC dI z a1685 h3 h6 H1683.size
  obtain ⟨hF1686, hC1689⟩ := pc_M hM1688 hP hD hK hS hX hT hA [13, 12] [] rfl rfl rfl
  refine va_callFi (va_runF (As := []) (rest := []) (hK.1 1 (RJx35411, TJx35411, 4) rfl).2 ⟨hx, hb, hml, hown, hts⟩ hM1688 (va_cwF 0 hts (gF q_261 q_262 q_263 q_246 q_260) rfl rfl rfl hT.2.2.2.2.2.2.1 hF_xIh ⟨Nat.le_of_ble_eq_true rfl, Nat.le_of_ble_eq_true rfl⟩) ⟨pc_blind, va_recv hK hP (ci := 1) (q := (RJx35411, TJx35411, 4)) (q0 := 13) rfl rfl, fun U hU hW => ⟨rfl, hC1689 U hU hW⟩⟩ rfl rfl hl.1 rfl (lv_room (Nat.le_of_ble_eq_true rfl)) dX9_shown_43 ⟨(Nat.le_of_ble_eq_true rfl), (Nat.le_of_ble_eq_true rfl)⟩) hS (fun q9 _ h9 => hF1686 q9 h9) hF1686 (fun r1691 u1690 t1690 H1690 L1690 ht1690 hvm1690 hw1690 hB1690 hz1690 hk1690 hS => ?_)
  have hP := pq_keep hP hD [13, 12] rfl hk1690 hB1690.1 ht1690
  have hG : s.heap.size + 1333 ≤ H1690.size := Nat.le_trans hG hz1690
  refine W.eq (g2 := F0 m 48 ls [.int 1]) (by rw [hw1690]) ?_
  refine lv_if_eq (tgt := 92) hx hb dX9_shown_48 (by decide) (fun cz => absurd cz (by decide)) (fun _ => ?_)
  refine lv_aload hx hb dX9_shown_51 (lv_at hl 0 rfl) ?_
  have hM1694 := k622_next l hl9 dC dI z a1685 h3 h6 H1690.size kc1
  obtain ⟨hF1692, hC1695⟩ := pc_M hM1694 hP hD hK hS hX hT hA [13, 12, 5] [1] rfl rfl rfl
  refine va_callFr (va_runF (As := []) (rest := []) (hK.1 1 (RJx35411, TJx35411, 4) rfl).2 ⟨hx, hb, hml, hown, hts⟩ hM1694 (va_cwF 0 hts (gF q_308 q_309 q_310 q_246 q_307) rfl rfl rfl hT.2.2.2.2.2.2.2.1 hF_xIn ⟨Nat.le_of_ble_eq_true rfl, Nat.le_of_ble_eq_true rfl⟩) ⟨pc_blind, va_recv hK hP (ci := 1) (q := (RJx35411, TJx35411, 4)) (q0 := 13) rfl rfl, fun U hU hW => ⟨rfl, hC1695 U hU hW⟩⟩ rfl rfl hl.1 rfl (lv_room (Nat.le_of_ble_eq_true rfl)) dX9_shown_53 ⟨(Nat.le_of_ble_eq_true rfl), (Nat.le_of_ble_eq_true rfl)⟩) hS (fun q9 _ h9 => hF1692 q9 h9) hF1692 (fun u1696 r1697 t1696 H1696 L1696 ht1696 hvm1696 hw1696 hB1696 hz1696 hk1696 hS => ?_)
  obtain ⟨hr1696, hB1696⟩ := hB1696
  obtain ⟨hP, hD, hK⟩ := pq_jn (wz := [(h0, ce21 h1 h2 h3 h4), (h1, ce201 h5), (h2, ce3 z.1), (h4, ce226 h7), (h5, ce200 kc0 h8 h9 h10 h11 h12), (h7, ce200 kc2 (z.2.2.1 128) (z.2.2.1 129) (z.2.2.1 130) (z.2.2.1 131) (z.2.2.1 132)), (h8, ce49), (h9, ce49), (h10, ce49), (h11, ce49), (h12, ce49), (a1685, ce294 h3), (h3, ce276 h6), (h6, ce275 kc1 (z.2.2.1 128) (z.2.2.1 128) (z.2.2.1 128) (z.2.2.1 128) (z.2.2.1 128) (z.2.2.1 128) (z.2.2.1 128))]) (tz := [(kc0, .object "java/lang/Object"), (kc2, .object "java/lang/Object"), (kc1, .object "java/lang/Object")]) hP hD hK [13, 12, 5] [0, 2] rfl hk1696 hF1692 hB1696.1 ht1696 hvm1696 rfl rfl
  have hG : s.heap.size + 1333 ≤ H1696.size := Nat.le_trans hG hz1696
  refine W.eq (g2 := F0 m 58 ls [.ref (z.2.2.1 128)]) (by rw [hr1696]) ?_
  refine va_castE (nm := "java/lang/Integer") hx hb hown (hts _ q_320) (va_Orecv (hX.2.2.1.1.1 128 (by decide)) hS) dX9_shown_58 ?_
  have hM1700 := k74_intValue l hl9 dC dI z H1696.size
  obtain ⟨hF1698, hC1701⟩ := pc_M hM1700 hP hD hK hS hX hT hA [] [] rfl rfl rfl
  refine va_calli (va_runV (As := []) (rest := []) ⟨hx, hb, hml, hown, hts⟩ hM1700 (cwV 0 hts (gV q_323 q_324 q_325 q_297 q_322) rfl rfl rfl hV_J6_intValue_8abf5 ⟨Nat.le_of_ble_eq_true rfl, Nat.le_of_ble_eq_true rfl⟩) ⟨pc_blind, va_Orecv (hX.2.2.1.1.1 128 (by decide)) hS, fun U hU hW => ⟨rfl, hC1701 U hU hW⟩⟩ rfl rfl hl.1 rfl (lv_room (Nat.le_of_ble_eq_true rfl)) dX9_shown_61 ⟨(Nat.le_of_ble_eq_true rfl), (Nat.le_of_ble_eq_true rfl)⟩) hS (fun q9 _ h9 => hF1698 q9 h9) hF1698 (fun r1703 u1702 t1702 H1702 L1702 ht1702 hvm1702 hw1702 hB1702 hz1702 hk1702 hS => ?_)
  have hP := pq_keep hP hD [] rfl hk1702 hB1702.1 ht1702
  have hG : s.heap.size + 1333 ≤ H1702.size := Nat.le_trans hG hz1702
  refine W.eq (g2 := F0 m 64 ls [.int 0]) (by rw [hw1702]) ?_
  refine lv_istore (lv' := [(6, .int 0), (5, .ref a1685), (4, .int 0), (3, .int 49), (1, .int 0), (2, .int 4), (0, .ref h0)]) hx hb dX9_shown_64 hl (by decide) rfl (fun ls hl => ?_)
  refine lv_iload hx hb dX9_shown_66 (lv_at hl 2 rfl) ?_
  refine lv_if_ne (tgt := 82) hx hb dX9_shown_68 (by decide) (fun cz => absurd (by decide) cz) (fun _ => ?_)
  refine lv_aload_n hx hb dX9_shown_71 rfl (lv_at hl 6 rfl) ?_
  refine lv_iload_n hx hb dX9_shown_72 rfl (lv_at hl 5 rfl) ?_
  refine lv_iload_n hx hb dX9_shown_73 rfl (lv_at hl 3 rfl) ?_
  refine lv_iload hx hb dX9_shown_74 (lv_at hl 0 rfl) ?_
  have hM1706 := k668_showsIt l hl9 dC dI z h0 h1 h2 h4 h5 h7 h8 h9 h10 h11 h12 h3 H1702.size kc0 kc2
  obtain ⟨hF1704, hC1707⟩ := pc_M hM1706 hP hD hK hS hX hT hA [0, 1, 2, 3, 4, 5, 6, 7, 8, 9, 10] [0, 1] rfl rfl rfl
  refine va_calli (va_runV (As := [.int 4, .int 49, .int 0]) (rest := []) ⟨hx, hb, hml, hown, hts⟩ hM1706 (cwV 3 hts (gV q_429 q_430 q_431 q_60 q_428) rfl rfl rfl hV_X9_showsIt ⟨Nat.le_of_ble_eq_true rfl, Nat.le_of_ble_eq_true rfl⟩) ⟨pc_blind, va_recv hK hP (ci := 8) (q := (RX9, TX9, 6)) (q0 := 0) rfl rfl, fun U hU hW => ⟨rfl, hC1707 U hU hW⟩⟩ rfl rfl hl.1 rfl (lv_room (Nat.le_of_ble_eq_true rfl)) dX9_shown_76 ⟨(Nat.le_of_ble_eq_true rfl), (Nat.le_of_ble_eq_true rfl)⟩) hS (fun q9 _ h9 => hF1704 q9 h9) hF1704 (fun r1709 u1708 t1708 H1708 L1708 ht1708 hvm1708 hw1708 hB1708 hz1708 hk1708 hS => ?_)
  have hP := pq_keep hP hD [0, 1, 2, 3, 4, 5, 6, 7, 8, 9, 10] rfl hk1708 hB1708.1 ht1708
  have hG : s.heap.size + 1354 ≤ H1708.size := va_gr (g := 1333) (g1 := 21) hG (by rw [← ht1708]; exact hB1708.2)
  refine W.eq (g2 := F0 m 79 ls [.int 0]) (by rw [hw1708]) ?_
  refine W.widen (k := 1354) (n := 14632) (by decide) (by decide) ?_
  refine lv_if_eq (tgt := 86) hx hb dX9_shown_79 (by decide) (fun _ => ?_) (fun cz => absurd (by decide) cz)
  refine lv_iconst (v := 0) hx hb dX9_shown_86 (by decide) ?_
  refine lv_istore (lv' := [(4, .int 0), (6, .int 0), (5, .ref a1685), (3, .int 49), (1, .int 0), (2, .int 4), (0, .ref h0)]) hx hb dX9_shown_87 hl (by decide) rfl (fun ls hl => ?_)
  refine lv_goto (tgt := 41) hx hb dX9_shown_89 (by decide) ?_
  refine lv_aload hx hb dX9_shown_41 (lv_at hl 2 rfl) ?_
  have hM1712 := k632_hasNext l hl9 dC dI z a1685 h3 h6 H1708.size
  obtain ⟨hF1710, hC1713⟩ := pc_M hM1712 hP hD hK hS hX hT hA [11, 12] [] rfl rfl rfl
  refine va_callFi (va_runF (As := []) (rest := []) (hK.1 1 (RJx35411, TJx35411, 4) rfl).2 ⟨hx, hb, hml, hown, hts⟩ hM1712 (va_cwF 0 hts (gF q_261 q_262 q_263 q_246 q_260) rfl rfl rfl hT.2.2.2.2.2.2.1 hF_xIh ⟨Nat.le_of_ble_eq_true rfl, Nat.le_of_ble_eq_true rfl⟩) ⟨pc_blind, va_recv hK hP (ci := 1) (q := (RJx35411, TJx35411, 4)) (q0 := 11) rfl rfl, fun U hU hW => ⟨rfl, hC1713 U hU hW⟩⟩ rfl rfl hl.1 rfl (lv_room (Nat.le_of_ble_eq_true rfl)) dX9_shown_43 ⟨(Nat.le_of_ble_eq_true rfl), (Nat.le_of_ble_eq_true rfl)⟩) hS (fun q9 _ h9 => hF1710 q9 h9) hF1710 (fun r1715 u1714 t1714 H1714 L1714 ht1714 hvm1714 hw1714 hB1714 hz1714 hk1714 hS => ?_)
  have hP := pq_keep hP hD [11, 12] rfl hk1714 hB1714.1 ht1714
  have hG : s.heap.size + 1354 ≤ H1714.size := Nat.le_trans hG hz1714
  refine W.eq (g2 := F0 m 48 ls [.int 1]) (by rw [hw1714]) ?_
  refine lv_if_eq (tgt := 92) hx hb dX9_shown_48 (by decide) (fun cz => absurd cz (by decide)) (fun _ => ?_)
  refine lv_aload hx hb dX9_shown_51 (lv_at hl 2 rfl) ?_
  have hM1718 := k634_next l hl9 dC dI z a1685 h3 h6 H1714.size kc1
  obtain ⟨hF1716, hC1719⟩ := pc_M hM1718 hP hD hK hS hX hT hA [11, 12, 13] [2] rfl rfl rfl
  refine va_callFr (va_runF (As := []) (rest := []) (hK.1 1 (RJx35411, TJx35411, 4) rfl).2 ⟨hx, hb, hml, hown, hts⟩ hM1718 (va_cwF 0 hts (gF q_308 q_309 q_310 q_246 q_307) rfl rfl rfl hT.2.2.2.2.2.2.2.1 hF_xIn ⟨Nat.le_of_ble_eq_true rfl, Nat.le_of_ble_eq_true rfl⟩) ⟨pc_blind, va_recv hK hP (ci := 1) (q := (RJx35411, TJx35411, 4)) (q0 := 11) rfl rfl, fun U hU hW => ⟨rfl, hC1719 U hU hW⟩⟩ rfl rfl hl.1 rfl (lv_room (Nat.le_of_ble_eq_true rfl)) dX9_shown_53 ⟨(Nat.le_of_ble_eq_true rfl), (Nat.le_of_ble_eq_true rfl)⟩) hS (fun q9 _ h9 => hF1716 q9 h9) hF1716 (fun u1720 r1721 t1720 H1720 L1720 ht1720 hvm1720 hw1720 hB1720 hz1720 hk1720 hS => ?_)
  obtain ⟨hr1720, hB1720⟩ := hB1720
  obtain ⟨hP, hD, hK⟩ := pq_jn (wz := [(h0, ce21 h1 h2 h3 h4), (h1, ce201 h5), (h2, ce3 z.1), (h4, ce226 h7), (h5, ce200 kc0 h8 h9 h10 h11 h12), (h7, ce200 kc2 (z.2.2.1 128) (z.2.2.1 129) (z.2.2.1 130) (z.2.2.1 131) (z.2.2.1 132)), (h8, ce49), (h9, ce49), (h10, ce49), (h11, ce49), (h12, ce49), (a1685, ce310 h3), (h3, ce276 h6), (h6, ce275 kc1 (z.2.2.1 128) (z.2.2.1 128) (z.2.2.1 128) (z.2.2.1 128) (z.2.2.1 128) (z.2.2.1 128) (z.2.2.1 128))]) (tz := [(kc0, .object "java/lang/Object"), (kc2, .object "java/lang/Object"), (kc1, .object "java/lang/Object")]) hP hD hK [11, 12, 13] [0, 1] rfl hk1720 hF1716 hB1720.1 ht1720 hvm1720 rfl rfl
  have hG : s.heap.size + 1354 ≤ H1720.size := Nat.le_trans hG hz1720
  refine W.eq (g2 := F0 m 58 ls [.ref (z.2.2.1 128)]) (by rw [hr1720]) ?_
  refine va_castE (nm := "java/lang/Integer") hx hb hown (hts _ q_320) (va_Orecv (hX.2.2.1.1.1 128 (by decide)) hS) dX9_shown_58 ?_
  have hM1724 := k74_intValue l hl9 dC dI z H1720.size
  obtain ⟨hF1722, hC1725⟩ := pc_M hM1724 hP hD hK hS hX hT hA [] [] rfl rfl rfl
  refine va_calli (va_runV (As := []) (rest := []) ⟨hx, hb, hml, hown, hts⟩ hM1724 (cwV 0 hts (gV q_323 q_324 q_325 q_297 q_322) rfl rfl rfl hV_J6_intValue_8abf5 ⟨Nat.le_of_ble_eq_true rfl, Nat.le_of_ble_eq_true rfl⟩) ⟨pc_blind, va_Orecv (hX.2.2.1.1.1 128 (by decide)) hS, fun U hU hW => ⟨rfl, hC1725 U hU hW⟩⟩ rfl rfl hl.1 rfl (lv_room (Nat.le_of_ble_eq_true rfl)) dX9_shown_61 ⟨(Nat.le_of_ble_eq_true rfl), (Nat.le_of_ble_eq_true rfl)⟩) hS (fun q9 _ h9 => hF1722 q9 h9) hF1722 (fun r1727 u1726 t1726 H1726 L1726 ht1726 hvm1726 hw1726 hB1726 hz1726 hk1726 hS => ?_)
  have hP := pq_keep hP hD [] rfl hk1726 hB1726.1 ht1726
  have hG : s.heap.size + 1354 ≤ H1726.size := Nat.le_trans hG hz1726
  refine W.eq (g2 := F0 m 64 ls [.int 0]) (by rw [hw1726]) ?_
  refine lv_istore (lv' := [(6, .int 0), (4, .int 0), (5, .ref a1685), (3, .int 49), (1, .int 0), (2, .int 4), (0, .ref h0)]) hx hb dX9_shown_64 hl (by decide) rfl (fun ls hl => ?_)
  refine lv_iload hx hb dX9_shown_66 (lv_at hl 1 rfl) ?_
  refine lv_if_ne (tgt := 82) hx hb dX9_shown_68 (by decide) (fun cz => absurd (by decide) cz) (fun _ => ?_)
  refine lv_aload_n hx hb dX9_shown_71 rfl (lv_at hl 6 rfl) ?_
  refine lv_iload_n hx hb dX9_shown_72 rfl (lv_at hl 5 rfl) ?_
  refine lv_iload_n hx hb dX9_shown_73 rfl (lv_at hl 3 rfl) ?_
  refine lv_iload hx hb dX9_shown_74 (lv_at hl 0 rfl) ?_
  have hM1730 := k668_showsIt l hl9 dC dI z h0 h1 h2 h4 h5 h7 h8 h9 h10 h11 h12 h3 H1726.size kc0 kc2
  obtain ⟨hF1728, hC1731⟩ := pc_M hM1730 hP hD hK hS hX hT hA [0, 1, 2, 3, 4, 5, 6, 7, 8, 9, 10] [0, 1] rfl rfl rfl
  refine va_calli (va_runV (As := [.int 4, .int 49, .int 0]) (rest := []) ⟨hx, hb, hml, hown, hts⟩ hM1730 (cwV 3 hts (gV q_429 q_430 q_431 q_60 q_428) rfl rfl rfl hV_X9_showsIt ⟨Nat.le_of_ble_eq_true rfl, Nat.le_of_ble_eq_true rfl⟩) ⟨pc_blind, va_recv hK hP (ci := 8) (q := (RX9, TX9, 6)) (q0 := 0) rfl rfl, fun U hU hW => ⟨rfl, hC1731 U hU hW⟩⟩ rfl rfl hl.1 rfl (lv_room (Nat.le_of_ble_eq_true rfl)) dX9_shown_76 ⟨(Nat.le_of_ble_eq_true rfl), (Nat.le_of_ble_eq_true rfl)⟩) hS (fun q9 _ h9 => hF1728 q9 h9) hF1728 (fun r1733 u1732 t1732 H1732 L1732 ht1732 hvm1732 hw1732 hB1732 hz1732 hk1732 hS => ?_)
  have hP := pq_keep hP hD [0, 1, 2, 3, 4, 5, 6, 7, 8, 9, 10] rfl hk1732 hB1732.1 ht1732
  have hG : s.heap.size + 1375 ≤ H1732.size := va_gr (g := 1354) (g1 := 21) hG (by rw [← ht1732]; exact hB1732.2)
  refine W.eq (g2 := F0 m 79 ls [.int 0]) (by rw [hw1732]) ?_
  refine W.widen (k := 1375) (n := 14860) (by decide) (by decide) ?_
  refine lv_if_eq (tgt := 86) hx hb dX9_shown_79 (by decide) (fun _ => ?_) (fun cz => absurd (by decide) cz)
  refine lv_iconst (v := 0) hx hb dX9_shown_86 (by decide) ?_
  refine lv_istore (lv' := [(4, .int 0), (6, .int 0), (5, .ref a1685), (3, .int 49), (1, .int 0), (2, .int 4), (0, .ref h0)]) hx hb dX9_shown_87 hl (by decide) rfl (fun ls hl => ?_)
  refine lv_goto (tgt := 41) hx hb dX9_shown_89 (by decide) ?_
  refine lv_aload hx hb dX9_shown_41 (lv_at hl 2 rfl) ?_
  have hM1736 := k635_hasNext l hl9 dC dI z a1685 h3 h6 H1732.size
  obtain ⟨hF1734, hC1737⟩ := pc_M hM1736 hP hD hK hS hX hT hA [11, 12] [] rfl rfl rfl
  refine va_callFi (va_runF (As := []) (rest := []) (hK.1 1 (RJx35411, TJx35411, 4) rfl).2 ⟨hx, hb, hml, hown, hts⟩ hM1736 (va_cwF 0 hts (gF q_261 q_262 q_263 q_246 q_260) rfl rfl rfl hT.2.2.2.2.2.2.1 hF_xIh ⟨Nat.le_of_ble_eq_true rfl, Nat.le_of_ble_eq_true rfl⟩) ⟨pc_blind, va_recv hK hP (ci := 1) (q := (RJx35411, TJx35411, 4)) (q0 := 11) rfl rfl, fun U hU hW => ⟨rfl, hC1737 U hU hW⟩⟩ rfl rfl hl.1 rfl (lv_room (Nat.le_of_ble_eq_true rfl)) dX9_shown_43 ⟨(Nat.le_of_ble_eq_true rfl), (Nat.le_of_ble_eq_true rfl)⟩) hS (fun q9 _ h9 => hF1734 q9 h9) hF1734 (fun r1739 u1738 t1738 H1738 L1738 ht1738 hvm1738 hw1738 hB1738 hz1738 hk1738 hS => ?_)
  have hP := pq_keep hP hD [11, 12] rfl hk1738 hB1738.1 ht1738
  have hG : s.heap.size + 1375 ≤ H1738.size := Nat.le_trans hG hz1738
  refine W.eq (g2 := F0 m 48 ls [.int 1]) (by rw [hw1738]) ?_
  refine lv_if_eq (tgt := 92) hx hb dX9_shown_48 (by decide) (fun cz => absurd cz (by decide)) (fun _ => ?_)
  refine lv_aload hx hb dX9_shown_51 (lv_at hl 2 rfl) ?_
  have hM1742 := k637_next l hl9 dC dI z a1685 h3 h6 H1738.size kc1
  obtain ⟨hF1740, hC1743⟩ := pc_M hM1742 hP hD hK hS hX hT hA [11, 12, 13] [2] rfl rfl rfl
  refine va_callFr (va_runF (As := []) (rest := []) (hK.1 1 (RJx35411, TJx35411, 4) rfl).2 ⟨hx, hb, hml, hown, hts⟩ hM1742 (va_cwF 0 hts (gF q_308 q_309 q_310 q_246 q_307) rfl rfl rfl hT.2.2.2.2.2.2.2.1 hF_xIn ⟨Nat.le_of_ble_eq_true rfl, Nat.le_of_ble_eq_true rfl⟩) ⟨pc_blind, va_recv hK hP (ci := 1) (q := (RJx35411, TJx35411, 4)) (q0 := 11) rfl rfl, fun U hU hW => ⟨rfl, hC1743 U hU hW⟩⟩ rfl rfl hl.1 rfl (lv_room (Nat.le_of_ble_eq_true rfl)) dX9_shown_53 ⟨(Nat.le_of_ble_eq_true rfl), (Nat.le_of_ble_eq_true rfl)⟩) hS (fun q9 _ h9 => hF1740 q9 h9) hF1740 (fun u1744 r1745 t1744 H1744 L1744 ht1744 hvm1744 hw1744 hB1744 hz1744 hk1744 hS => ?_)
  obtain ⟨hr1744, hB1744⟩ := hB1744
  obtain ⟨hP, hD, hK⟩ := pq_jn (wz := [(h0, ce21 h1 h2 h3 h4), (h1, ce201 h5), (h2, ce3 z.1), (h4, ce226 h7), (h5, ce200 kc0 h8 h9 h10 h11 h12), (h7, ce200 kc2 (z.2.2.1 128) (z.2.2.1 129) (z.2.2.1 130) (z.2.2.1 131) (z.2.2.1 132)), (h8, ce49), (h9, ce49), (h10, ce49), (h11, ce49), (h12, ce49), (a1685, ce312 h3), (h3, ce276 h6), (h6, ce275 kc1 (z.2.2.1 128) (z.2.2.1 128) (z.2.2.1 128) (z.2.2.1 128) (z.2.2.1 128) (z.2.2.1 128) (z.2.2.1 128))]) (tz := [(kc0, .object "java/lang/Object"), (kc2, .object "java/lang/Object"), (kc1, .object "java/lang/Object")]) hP hD hK [11, 12, 13] [0, 1] rfl hk1744 hF1740 hB1744.1 ht1744 hvm1744 rfl rfl
  have hG : s.heap.size + 1375 ≤ H1744.size := Nat.le_trans hG hz1744
  refine W.eq (g2 := F0 m 58 ls [.ref (z.2.2.1 128)]) (by rw [hr1744]) ?_
  refine va_castE (nm := "java/lang/Integer") hx hb hown (hts _ q_320) (va_Orecv (hX.2.2.1.1.1 128 (by decide)) hS) dX9_shown_58 ?_
  have hM1748 := k74_intValue l hl9 dC dI z H1744.size
  obtain ⟨hF1746, hC1749⟩ := pc_M hM1748 hP hD hK hS hX hT hA [] [] rfl rfl rfl
  refine va_calli (va_runV (As := []) (rest := []) ⟨hx, hb, hml, hown, hts⟩ hM1748 (cwV 0 hts (gV q_323 q_324 q_325 q_297 q_322) rfl rfl rfl hV_J6_intValue_8abf5 ⟨Nat.le_of_ble_eq_true rfl, Nat.le_of_ble_eq_true rfl⟩) ⟨pc_blind, va_Orecv (hX.2.2.1.1.1 128 (by decide)) hS, fun U hU hW => ⟨rfl, hC1749 U hU hW⟩⟩ rfl rfl hl.1 rfl (lv_room (Nat.le_of_ble_eq_true rfl)) dX9_shown_61 ⟨(Nat.le_of_ble_eq_true rfl), (Nat.le_of_ble_eq_true rfl)⟩) hS (fun q9 _ h9 => hF1746 q9 h9) hF1746 (fun r1751 u1750 t1750 H1750 L1750 ht1750 hvm1750 hw1750 hB1750 hz1750 hk1750 hS => ?_)
  have hP := pq_keep hP hD [] rfl hk1750 hB1750.1 ht1750
  have hG : s.heap.size + 1375 ≤ H1750.size := Nat.le_trans hG hz1750
  refine W.eq (g2 := F0 m 64 ls [.int 0]) (by rw [hw1750]) ?_
  refine lv_istore (lv' := [(6, .int 0), (4, .int 0), (5, .ref a1685), (3, .int 49), (1, .int 0), (2, .int 4), (0, .ref h0)]) hx hb dX9_shown_64 hl (by decide) rfl (fun ls hl => ?_)
  refine lv_iload hx hb dX9_shown_66 (lv_at hl 1 rfl) ?_
  refine lv_if_ne (tgt := 82) hx hb dX9_shown_68 (by decide) (fun cz => absurd (by decide) cz) (fun _ => ?_)
  refine lv_aload_n hx hb dX9_shown_71 rfl (lv_at hl 6 rfl) ?_
  refine lv_iload_n hx hb dX9_shown_72 rfl (lv_at hl 5 rfl) ?_
  refine lv_iload_n hx hb dX9_shown_73 rfl (lv_at hl 3 rfl) ?_
  refine lv_iload hx hb dX9_shown_74 (lv_at hl 0 rfl) ?_
  have hM1754 := k668_showsIt l hl9 dC dI z h0 h1 h2 h4 h5 h7 h8 h9 h10 h11 h12 h3 H1750.size kc0 kc2
  obtain ⟨hF1752, hC1755⟩ := pc_M hM1754 hP hD hK hS hX hT hA [0, 1, 2, 3, 4, 5, 6, 7, 8, 9, 10] [0, 1] rfl rfl rfl
  refine va_calli (va_runV (As := [.int 4, .int 49, .int 0]) (rest := []) ⟨hx, hb, hml, hown, hts⟩ hM1754 (cwV 3 hts (gV q_429 q_430 q_431 q_60 q_428) rfl rfl rfl hV_X9_showsIt ⟨Nat.le_of_ble_eq_true rfl, Nat.le_of_ble_eq_true rfl⟩) ⟨pc_blind, va_recv hK hP (ci := 8) (q := (RX9, TX9, 6)) (q0 := 0) rfl rfl, fun U hU hW => ⟨rfl, hC1755 U hU hW⟩⟩ rfl rfl hl.1 rfl (lv_room (Nat.le_of_ble_eq_true rfl)) dX9_shown_76 ⟨(Nat.le_of_ble_eq_true rfl), (Nat.le_of_ble_eq_true rfl)⟩) hS (fun q9 _ h9 => hF1752 q9 h9) hF1752 (fun r1757 u1756 t1756 H1756 L1756 ht1756 hvm1756 hw1756 hB1756 hz1756 hk1756 hS => ?_)
  have hP := pq_keep hP hD [0, 1, 2, 3, 4, 5, 6, 7, 8, 9, 10] rfl hk1756 hB1756.1 ht1756
  have hG : s.heap.size + 1396 ≤ H1756.size := va_gr (g := 1375) (g1 := 21) hG (by rw [← ht1756]; exact hB1756.2)
  refine W.eq (g2 := F0 m 79 ls [.int 0]) (by rw [hw1756]) ?_
  refine W.widen (k := 1396) (n := 15088) (by decide) (by decide) ?_
  refine lv_if_eq (tgt := 86) hx hb dX9_shown_79 (by decide) (fun _ => ?_) (fun cz => absurd (by decide) cz)
  refine lv_iconst (v := 0) hx hb dX9_shown_86 (by decide) ?_
  refine lv_istore (lv' := [(4, .int 0), (6, .int 0), (5, .ref a1685), (3, .int 49), (1, .int 0), (2, .int 4), (0, .ref h0)]) hx hb dX9_shown_87 hl (by decide) rfl (fun ls hl => ?_)
  refine lv_goto (tgt := 41) hx hb dX9_shown_89 (by decide) ?_
  refine lv_aload hx hb dX9_shown_41 (lv_at hl 2 rfl) ?_
  have hM1760 := k638_hasNext l hl9 dC dI z a1685 h3 h6 H1756.size
  obtain ⟨hF1758, hC1761⟩ := pc_M hM1760 hP hD hK hS hX hT hA [11, 12] [] rfl rfl rfl
  refine va_callFi (va_runF (As := []) (rest := []) (hK.1 1 (RJx35411, TJx35411, 4) rfl).2 ⟨hx, hb, hml, hown, hts⟩ hM1760 (va_cwF 0 hts (gF q_261 q_262 q_263 q_246 q_260) rfl rfl rfl hT.2.2.2.2.2.2.1 hF_xIh ⟨Nat.le_of_ble_eq_true rfl, Nat.le_of_ble_eq_true rfl⟩) ⟨pc_blind, va_recv hK hP (ci := 1) (q := (RJx35411, TJx35411, 4)) (q0 := 11) rfl rfl, fun U hU hW => ⟨rfl, hC1761 U hU hW⟩⟩ rfl rfl hl.1 rfl (lv_room (Nat.le_of_ble_eq_true rfl)) dX9_shown_43 ⟨(Nat.le_of_ble_eq_true rfl), (Nat.le_of_ble_eq_true rfl)⟩) hS (fun q9 _ h9 => hF1758 q9 h9) hF1758 (fun r1763 u1762 t1762 H1762 L1762 ht1762 hvm1762 hw1762 hB1762 hz1762 hk1762 hS => ?_)
  have hP := pq_keep hP hD [11, 12] rfl hk1762 hB1762.1 ht1762
  have hG : s.heap.size + 1396 ≤ H1762.size := Nat.le_trans hG hz1762
  refine W.eq (g2 := F0 m 48 ls [.int 1]) (by rw [hw1762]) ?_
  refine lv_if_eq (tgt := 92) hx hb dX9_shown_48 (by decide) (fun cz => absurd cz (by decide)) (fun _ => ?_)
  refine lv_aload hx hb dX9_shown_51 (lv_at hl 2 rfl) ?_
  have hM1766 := k640_next l hl9 dC dI z a1685 h3 h6 H1762.size kc1
  obtain ⟨hF1764, hC1767⟩ := pc_M hM1766 hP hD hK hS hX hT hA [11, 12, 13] [2] rfl rfl rfl
  refine va_callFr (va_runF (As := []) (rest := []) (hK.1 1 (RJx35411, TJx35411, 4) rfl).2 ⟨hx, hb, hml, hown, hts⟩ hM1766 (va_cwF 0 hts (gF q_308 q_309 q_310 q_246 q_307) rfl rfl rfl hT.2.2.2.2.2.2.2.1 hF_xIn ⟨Nat.le_of_ble_eq_true rfl, Nat.le_of_ble_eq_true rfl⟩) ⟨pc_blind, va_recv hK hP (ci := 1) (q := (RJx35411, TJx35411, 4)) (q0 := 11) rfl rfl, fun U hU hW => ⟨rfl, hC1767 U hU hW⟩⟩ rfl rfl hl.1 rfl (lv_room (Nat.le_of_ble_eq_true rfl)) dX9_shown_53 ⟨(Nat.le_of_ble_eq_true rfl), (Nat.le_of_ble_eq_true rfl)⟩) hS (fun q9 _ h9 => hF1764 q9 h9) hF1764 (fun u1768 r1769 t1768 H1768 L1768 ht1768 hvm1768 hw1768 hB1768 hz1768 hk1768 hS => ?_)
  obtain ⟨hr1768, hB1768⟩ := hB1768
  obtain ⟨hP, hD, hK⟩ := pq_jn (wz := [(h0, ce21 h1 h2 h3 h4), (h1, ce201 h5), (h2, ce3 z.1), (h4, ce226 h7), (h5, ce200 kc0 h8 h9 h10 h11 h12), (h7, ce200 kc2 (z.2.2.1 128) (z.2.2.1 129) (z.2.2.1 130) (z.2.2.1 131) (z.2.2.1 132)), (h8, ce49), (h9, ce49), (h10, ce49), (h11, ce49), (h12, ce49), (a1685, ce314 h3), (h3, ce276 h6), (h6, ce275 kc1 (z.2.2.1 128) (z.2.2.1 128) (z.2.2.1 128) (z.2.2.1 128) (z.2.2.1 128) (z.2.2.1 128) (z.2.2.1 128))]) (tz := [(kc0, .object "java/lang/Object"), (kc2, .object "java/lang/Object"), (kc1, .object "java/lang/Object")]) hP hD hK [11, 12, 13] [0, 1] rfl hk1768 hF1764 hB1768.1 ht1768 hvm1768 rfl rfl
  have hG : s.heap.size + 1396 ≤ H1768.size := Nat.le_trans hG hz1768
  refine W.eq (g2 := F0 m 58 ls [.ref (z.2.2.1 128)]) (by rw [hr1768]) ?_
  refine va_castE (nm := "java/lang/Integer") hx hb hown (hts _ q_320) (va_Orecv (hX.2.2.1.1.1 128 (by decide)) hS) dX9_shown_58 ?_
  have hM1772 := k74_intValue l hl9 dC dI z H1768.size
  obtain ⟨hF1770, hC1773⟩ := pc_M hM1772 hP hD hK hS hX hT hA [] [] rfl rfl rfl
  refine va_calli (va_runV (As := []) (rest := []) ⟨hx, hb, hml, hown, hts⟩ hM1772 (cwV 0 hts (gV q_323 q_324 q_325 q_297 q_322) rfl rfl rfl hV_J6_intValue_8abf5 ⟨Nat.le_of_ble_eq_true rfl, Nat.le_of_ble_eq_true rfl⟩) ⟨pc_blind, va_Orecv (hX.2.2.1.1.1 128 (by decide)) hS, fun U hU hW => ⟨rfl, hC1773 U hU hW⟩⟩ rfl rfl hl.1 rfl (lv_room (Nat.le_of_ble_eq_true rfl)) dX9_shown_61 ⟨(Nat.le_of_ble_eq_true rfl), (Nat.le_of_ble_eq_true rfl)⟩) hS (fun q9 _ h9 => hF1770 q9 h9) hF1770 (fun r1775 u1774 t1774 H1774 L1774 ht1774 hvm1774 hw1774 hB1774 hz1774 hk1774 hS => ?_)
  have hP := pq_keep hP hD [] rfl hk1774 hB1774.1 ht1774
  have hG : s.heap.size + 1396 ≤ H1774.size := Nat.le_trans hG hz1774
  refine W.eq (g2 := F0 m 64 ls [.int 0]) (by rw [hw1774]) ?_
  refine lv_istore (lv' := [(6, .int 0), (4, .int 0), (5, .ref a1685), (3, .int 49), (1, .int 0), (2, .int 4), (0, .ref h0)]) hx hb dX9_shown_64 hl (by decide) rfl (fun ls hl => ?_)
  refine lv_iload hx hb dX9_shown_66 (lv_at hl 1 rfl) ?_
  refine lv_if_ne (tgt := 82) hx hb dX9_shown_68 (by decide) (fun cz => absurd (by decide) cz) (fun _ => ?_)
  refine lv_aload_n hx hb dX9_shown_71 rfl (lv_at hl 6 rfl) ?_
  refine lv_iload_n hx hb dX9_shown_72 rfl (lv_at hl 5 rfl) ?_
  refine lv_iload_n hx hb dX9_shown_73 rfl (lv_at hl 3 rfl) ?_
  refine lv_iload hx hb dX9_shown_74 (lv_at hl 0 rfl) ?_
  have hM1778 := k668_showsIt l hl9 dC dI z h0 h1 h2 h4 h5 h7 h8 h9 h10 h11 h12 h3 H1774.size kc0 kc2
  obtain ⟨hF1776, hC1779⟩ := pc_M hM1778 hP hD hK hS hX hT hA [0, 1, 2, 3, 4, 5, 6, 7, 8, 9, 10] [0, 1] rfl rfl rfl
  refine va_calli (va_runV (As := [.int 4, .int 49, .int 0]) (rest := []) ⟨hx, hb, hml, hown, hts⟩ hM1778 (cwV 3 hts (gV q_429 q_430 q_431 q_60 q_428) rfl rfl rfl hV_X9_showsIt ⟨Nat.le_of_ble_eq_true rfl, Nat.le_of_ble_eq_true rfl⟩) ⟨pc_blind, va_recv hK hP (ci := 8) (q := (RX9, TX9, 6)) (q0 := 0) rfl rfl, fun U hU hW => ⟨rfl, hC1779 U hU hW⟩⟩ rfl rfl hl.1 rfl (lv_room (Nat.le_of_ble_eq_true rfl)) dX9_shown_76 ⟨(Nat.le_of_ble_eq_true rfl), (Nat.le_of_ble_eq_true rfl)⟩) hS (fun q9 _ h9 => hF1776 q9 h9) hF1776 (fun r1781 u1780 t1780 H1780 L1780 ht1780 hvm1780 hw1780 hB1780 hz1780 hk1780 hS => ?_)
  have hP := pq_keep hP hD [0, 1, 2, 3, 4, 5, 6, 7, 8, 9, 10] rfl hk1780 hB1780.1 ht1780
  have hG : s.heap.size + 1417 ≤ H1780.size := va_gr (g := 1396) (g1 := 21) hG (by rw [← ht1780]; exact hB1780.2)
  refine W.eq (g2 := F0 m 79 ls [.int 0]) (by rw [hw1780]) ?_
  refine W.widen (k := 1417) (n := 15316) (by decide) (by decide) ?_
  refine lv_if_eq (tgt := 86) hx hb dX9_shown_79 (by decide) (fun _ => ?_) (fun cz => absurd (by decide) cz)
  refine lv_iconst (v := 0) hx hb dX9_shown_86 (by decide) ?_
  refine lv_istore (lv' := [(4, .int 0), (6, .int 0), (5, .ref a1685), (3, .int 49), (1, .int 0), (2, .int 4), (0, .ref h0)]) hx hb dX9_shown_87 hl (by decide) rfl (fun ls hl => ?_)
  refine lv_goto (tgt := 41) hx hb dX9_shown_89 (by decide) ?_
  refine lv_aload hx hb dX9_shown_41 (lv_at hl 2 rfl) ?_
  have hM1784 := k641_hasNext l hl9 dC dI z a1685 h3 h6 H1780.size
  obtain ⟨hF1782, hC1785⟩ := pc_M hM1784 hP hD hK hS hX hT hA [11, 12] [] rfl rfl rfl
  refine va_callFi (va_runF (As := []) (rest := []) (hK.1 1 (RJx35411, TJx35411, 4) rfl).2 ⟨hx, hb, hml, hown, hts⟩ hM1784 (va_cwF 0 hts (gF q_261 q_262 q_263 q_246 q_260) rfl rfl rfl hT.2.2.2.2.2.2.1 hF_xIh ⟨Nat.le_of_ble_eq_true rfl, Nat.le_of_ble_eq_true rfl⟩) ⟨pc_blind, va_recv hK hP (ci := 1) (q := (RJx35411, TJx35411, 4)) (q0 := 11) rfl rfl, fun U hU hW => ⟨rfl, hC1785 U hU hW⟩⟩ rfl rfl hl.1 rfl (lv_room (Nat.le_of_ble_eq_true rfl)) dX9_shown_43 ⟨(Nat.le_of_ble_eq_true rfl), (Nat.le_of_ble_eq_true rfl)⟩) hS (fun q9 _ h9 => hF1782 q9 h9) hF1782 (fun r1787 u1786 t1786 H1786 L1786 ht1786 hvm1786 hw1786 hB1786 hz1786 hk1786 hS => ?_)
  have hP := pq_keep hP hD [11, 12] rfl hk1786 hB1786.1 ht1786
  have hG : s.heap.size + 1417 ≤ H1786.size := Nat.le_trans hG hz1786
  refine W.eq (g2 := F0 m 48 ls [.int 1]) (by rw [hw1786]) ?_
  refine lv_if_eq (tgt := 92) hx hb dX9_shown_48 (by decide) (fun cz => absurd cz (by decide)) (fun _ => ?_)
  refine lv_aload hx hb dX9_shown_51 (lv_at hl 2 rfl) ?_
  have hM1790 := k643_next l hl9 dC dI z a1685 h3 h6 H1786.size kc1
  obtain ⟨hF1788, hC1791⟩ := pc_M hM1790 hP hD hK hS hX hT hA [11, 12, 13] [2] rfl rfl rfl
  refine va_callFr (va_runF (As := []) (rest := []) (hK.1 1 (RJx35411, TJx35411, 4) rfl).2 ⟨hx, hb, hml, hown, hts⟩ hM1790 (va_cwF 0 hts (gF q_308 q_309 q_310 q_246 q_307) rfl rfl rfl hT.2.2.2.2.2.2.2.1 hF_xIn ⟨Nat.le_of_ble_eq_true rfl, Nat.le_of_ble_eq_true rfl⟩) ⟨pc_blind, va_recv hK hP (ci := 1) (q := (RJx35411, TJx35411, 4)) (q0 := 11) rfl rfl, fun U hU hW => ⟨rfl, hC1791 U hU hW⟩⟩ rfl rfl hl.1 rfl (lv_room (Nat.le_of_ble_eq_true rfl)) dX9_shown_53 ⟨(Nat.le_of_ble_eq_true rfl), (Nat.le_of_ble_eq_true rfl)⟩) hS (fun q9 _ h9 => hF1788 q9 h9) hF1788 (fun u1792 r1793 t1792 H1792 L1792 ht1792 hvm1792 hw1792 hB1792 hz1792 hk1792 hS => ?_)
  obtain ⟨hr1792, hB1792⟩ := hB1792
  obtain ⟨hP, hD, hK⟩ := pq_jn (wz := [(h0, ce21 h1 h2 h3 h4), (h1, ce201 h5), (h2, ce3 z.1), (h4, ce226 h7), (h5, ce200 kc0 h8 h9 h10 h11 h12), (h7, ce200 kc2 (z.2.2.1 128) (z.2.2.1 129) (z.2.2.1 130) (z.2.2.1 131) (z.2.2.1 132)), (h8, ce49), (h9, ce49), (h10, ce49), (h11, ce49), (h12, ce49), (a1685, ce316 h3), (h3, ce276 h6), (h6, ce275 kc1 (z.2.2.1 128) (z.2.2.1 128) (z.2.2.1 128) (z.2.2.1 128) (z.2.2.1 128) (z.2.2.1 128) (z.2.2.1 128))]) (tz := [(kc0, .object "java/lang/Object"), (kc2, .object "java/lang/Object"), (kc1, .object "java/lang/Object")]) hP hD hK [11, 12, 13] [0, 1] rfl hk1792 hF1788 hB1792.1 ht1792 hvm1792 rfl rfl
  have hG : s.heap.size + 1417 ≤ H1792.size := Nat.le_trans hG hz1792
  refine W.eq (g2 := F0 m 58 ls [.ref (z.2.2.1 128)]) (by rw [hr1792]) ?_
  refine va_castE (nm := "java/lang/Integer") hx hb hown (hts _ q_320) (va_Orecv (hX.2.2.1.1.1 128 (by decide)) hS) dX9_shown_58 ?_
  have hM1796 := k74_intValue l hl9 dC dI z H1792.size
  obtain ⟨hF1794, hC1797⟩ := pc_M hM1796 hP hD hK hS hX hT hA [] [] rfl rfl rfl
  refine va_calli (va_runV (As := []) (rest := []) ⟨hx, hb, hml, hown, hts⟩ hM1796 (cwV 0 hts (gV q_323 q_324 q_325 q_297 q_322) rfl rfl rfl hV_J6_intValue_8abf5 ⟨Nat.le_of_ble_eq_true rfl, Nat.le_of_ble_eq_true rfl⟩) ⟨pc_blind, va_Orecv (hX.2.2.1.1.1 128 (by decide)) hS, fun U hU hW => ⟨rfl, hC1797 U hU hW⟩⟩ rfl rfl hl.1 rfl (lv_room (Nat.le_of_ble_eq_true rfl)) dX9_shown_61 ⟨(Nat.le_of_ble_eq_true rfl), (Nat.le_of_ble_eq_true rfl)⟩) hS (fun q9 _ h9 => hF1794 q9 h9) hF1794 (fun r1799 u1798 t1798 H1798 L1798 ht1798 hvm1798 hw1798 hB1798 hz1798 hk1798 hS => ?_)
  have hP := pq_keep hP hD [] rfl hk1798 hB1798.1 ht1798
  have hG : s.heap.size + 1417 ≤ H1798.size := Nat.le_trans hG hz1798
  refine W.eq (g2 := F0 m 64 ls [.int 0]) (by rw [hw1798]) ?_
  refine lv_istore (lv' := [(6, .int 0), (4, .int 0), (5, .ref a1685), (3, .int 49), (1, .int 0), (2, .int 4), (0, .ref h0)]) hx hb dX9_shown_64 hl (by decide) rfl (fun ls hl => ?_)
  refine lv_iload hx hb dX9_shown_66 (lv_at hl 1 rfl) ?_
  refine lv_if_ne (tgt := 82) hx hb dX9_shown_68 (by decide) (fun cz => absurd (by decide) cz) (fun _ => ?_)
  refine lv_aload_n hx hb dX9_shown_71 rfl (lv_at hl 6 rfl) ?_
  refine lv_iload_n hx hb dX9_shown_72 rfl (lv_at hl 5 rfl) ?_
  refine lv_iload_n hx hb dX9_shown_73 rfl (lv_at hl 3 rfl) ?_
  refine lv_iload hx hb dX9_shown_74 (lv_at hl 0 rfl) ?_
  have hM1802 := k668_showsIt l hl9 dC dI z h0 h1 h2 h4 h5 h7 h8 h9 h10 h11 h12 h3 H1798.size kc0 kc2
  obtain ⟨hF1800, hC1803⟩ := pc_M hM1802 hP hD hK hS hX hT hA [0, 1, 2, 3, 4, 5, 6, 7, 8, 9, 10] [0, 1] rfl rfl rfl
  refine va_calli (va_runV (As := [.int 4, .int 49, .int 0]) (rest := []) ⟨hx, hb, hml, hown, hts⟩ hM1802 (cwV 3 hts (gV q_429 q_430 q_431 q_60 q_428) rfl rfl rfl hV_X9_showsIt ⟨Nat.le_of_ble_eq_true rfl, Nat.le_of_ble_eq_true rfl⟩) ⟨pc_blind, va_recv hK hP (ci := 8) (q := (RX9, TX9, 6)) (q0 := 0) rfl rfl, fun U hU hW => ⟨rfl, hC1803 U hU hW⟩⟩ rfl rfl hl.1 rfl (lv_room (Nat.le_of_ble_eq_true rfl)) dX9_shown_76 ⟨(Nat.le_of_ble_eq_true rfl), (Nat.le_of_ble_eq_true rfl)⟩) hS (fun q9 _ h9 => hF1800 q9 h9) hF1800 (fun r1805 u1804 t1804 H1804 L1804 ht1804 hvm1804 hw1804 hB1804 hz1804 hk1804 hS => ?_)
  have hP := pq_keep hP hD [0, 1, 2, 3, 4, 5, 6, 7, 8, 9, 10] rfl hk1804 hB1804.1 ht1804
  have hG : s.heap.size + 1438 ≤ H1804.size := va_gr (g := 1417) (g1 := 21) hG (by rw [← ht1804]; exact hB1804.2)
  refine W.eq (g2 := F0 m 79 ls [.int 0]) (by rw [hw1804]) ?_
  refine W.widen (k := 1438) (n := 15544) (by decide) (by decide) ?_
  refine lv_if_eq (tgt := 86) hx hb dX9_shown_79 (by decide) (fun _ => ?_) (fun cz => absurd (by decide) cz)
  refine lv_iconst (v := 0) hx hb dX9_shown_86 (by decide) ?_
  refine lv_istore (lv' := [(4, .int 0), (6, .int 0), (5, .ref a1685), (3, .int 49), (1, .int 0), (2, .int 4), (0, .ref h0)]) hx hb dX9_shown_87 hl (by decide) rfl (fun ls hl => ?_)
  refine lv_goto (tgt := 41) hx hb dX9_shown_89 (by decide) ?_
  refine lv_aload hx hb dX9_shown_41 (lv_at hl 2 rfl) ?_
  have hM1808 := k644_hasNext l hl9 dC dI z a1685 h3 h6 H1804.size
  obtain ⟨hF1806, hC1809⟩ := pc_M hM1808 hP hD hK hS hX hT hA [11, 12] [] rfl rfl rfl
  refine va_callFi (va_runF (As := []) (rest := []) (hK.1 1 (RJx35411, TJx35411, 4) rfl).2 ⟨hx, hb, hml, hown, hts⟩ hM1808 (va_cwF 0 hts (gF q_261 q_262 q_263 q_246 q_260) rfl rfl rfl hT.2.2.2.2.2.2.1 hF_xIh ⟨Nat.le_of_ble_eq_true rfl, Nat.le_of_ble_eq_true rfl⟩) ⟨pc_blind, va_recv hK hP (ci := 1) (q := (RJx35411, TJx35411, 4)) (q0 := 11) rfl rfl, fun U hU hW => ⟨rfl, hC1809 U hU hW⟩⟩ rfl rfl hl.1 rfl (lv_room (Nat.le_of_ble_eq_true rfl)) dX9_shown_43 ⟨(Nat.le_of_ble_eq_true rfl), (Nat.le_of_ble_eq_true rfl)⟩) hS (fun q9 _ h9 => hF1806 q9 h9) hF1806 (fun r1811 u1810 t1810 H1810 L1810 ht1810 hvm1810 hw1810 hB1810 hz1810 hk1810 hS => ?_)
  have hP := pq_keep hP hD [11, 12] rfl hk1810 hB1810.1 ht1810
  have hG : s.heap.size + 1438 ≤ H1810.size := Nat.le_trans hG hz1810
  refine W.eq (g2 := F0 m 48 ls [.int 1]) (by rw [hw1810]) ?_
  refine lv_if_eq (tgt := 92) hx hb dX9_shown_48 (by decide) (fun cz => absurd cz (by decide)) (fun _ => ?_)
  refine lv_aload hx hb dX9_shown_51 (lv_at hl 2 rfl) ?_
  have hM1814 := k646_next l hl9 dC dI z a1685 h3 h6 H1810.size kc1
  obtain ⟨hF1812, hC1815⟩ := pc_M hM1814 hP hD hK hS hX hT hA [11, 12, 13] [2] rfl rfl rfl
  refine va_callFr (va_runF (As := []) (rest := []) (hK.1 1 (RJx35411, TJx35411, 4) rfl).2 ⟨hx, hb, hml, hown, hts⟩ hM1814 (va_cwF 0 hts (gF q_308 q_309 q_310 q_246 q_307) rfl rfl rfl hT.2.2.2.2.2.2.2.1 hF_xIn ⟨Nat.le_of_ble_eq_true rfl, Nat.le_of_ble_eq_true rfl⟩) ⟨pc_blind, va_recv hK hP (ci := 1) (q := (RJx35411, TJx35411, 4)) (q0 := 11) rfl rfl, fun U hU hW => ⟨rfl, hC1815 U hU hW⟩⟩ rfl rfl hl.1 rfl (lv_room (Nat.le_of_ble_eq_true rfl)) dX9_shown_53 ⟨(Nat.le_of_ble_eq_true rfl), (Nat.le_of_ble_eq_true rfl)⟩) hS (fun q9 _ h9 => hF1812 q9 h9) hF1812 (fun u1816 r1817 t1816 H1816 L1816 ht1816 hvm1816 hw1816 hB1816 hz1816 hk1816 hS => ?_)
  obtain ⟨hr1816, hB1816⟩ := hB1816
  obtain ⟨hP, hD, hK⟩ := pq_jn (wz := [(h0, ce21 h1 h2 h3 h4), (h1, ce201 h5), (h2, ce3 z.1), (h4, ce226 h7), (h5, ce200 kc0 h8 h9 h10 h11 h12), (h7, ce200 kc2 (z.2.2.1 128) (z.2.2.1 129) (z.2.2.1 130) (z.2.2.1 131) (z.2.2.1 132)), (h8, ce49), (h9, ce49), (h10, ce49), (h11, ce49), (h12, ce49), (a1685, ce318 h3), (h3, ce276 h6), (h6, ce275 kc1 (z.2.2.1 128) (z.2.2.1 128) (z.2.2.1 128) (z.2.2.1 128) (z.2.2.1 128) (z.2.2.1 128) (z.2.2.1 128))]) (tz := [(kc0, .object "java/lang/Object"), (kc2, .object "java/lang/Object"), (kc1, .object "java/lang/Object")]) hP hD hK [11, 12, 13] [0, 1] rfl hk1816 hF1812 hB1816.1 ht1816 hvm1816 rfl rfl
  have hG : s.heap.size + 1438 ≤ H1816.size := Nat.le_trans hG hz1816
  refine W.eq (g2 := F0 m 58 ls [.ref (z.2.2.1 128)]) (by rw [hr1816]) ?_
  refine va_castE (nm := "java/lang/Integer") hx hb hown (hts _ q_320) (va_Orecv (hX.2.2.1.1.1 128 (by decide)) hS) dX9_shown_58 ?_
  have hM1820 := k74_intValue l hl9 dC dI z H1816.size
  obtain ⟨hF1818, hC1821⟩ := pc_M hM1820 hP hD hK hS hX hT hA [] [] rfl rfl rfl
  refine va_calli (va_runV (As := []) (rest := []) ⟨hx, hb, hml, hown, hts⟩ hM1820 (cwV 0 hts (gV q_323 q_324 q_325 q_297 q_322) rfl rfl rfl hV_J6_intValue_8abf5 ⟨Nat.le_of_ble_eq_true rfl, Nat.le_of_ble_eq_true rfl⟩) ⟨pc_blind, va_Orecv (hX.2.2.1.1.1 128 (by decide)) hS, fun U hU hW => ⟨rfl, hC1821 U hU hW⟩⟩ rfl rfl hl.1 rfl (lv_room (Nat.le_of_ble_eq_true rfl)) dX9_shown_61 ⟨(Nat.le_of_ble_eq_true rfl), (Nat.le_of_ble_eq_true rfl)⟩) hS (fun q9 _ h9 => hF1818 q9 h9) hF1818 (fun r1823 u1822 t1822 H1822 L1822 ht1822 hvm1822 hw1822 hB1822 hz1822 hk1822 hS => ?_)
  have hP := pq_keep hP hD [] rfl hk1822 hB1822.1 ht1822
  have hG : s.heap.size + 1438 ≤ H1822.size := Nat.le_trans hG hz1822
  refine W.eq (g2 := F0 m 64 ls [.int 0]) (by rw [hw1822]) ?_
  refine lv_istore (lv' := [(6, .int 0), (4, .int 0), (5, .ref a1685), (3, .int 49), (1, .int 0), (2, .int 4), (0, .ref h0)]) hx hb dX9_shown_64 hl (by decide) rfl (fun ls hl => ?_)
  refine lv_iload hx hb dX9_shown_66 (lv_at hl 1 rfl) ?_
  refine lv_if_ne (tgt := 82) hx hb dX9_shown_68 (by decide) (fun cz => absurd (by decide) cz) (fun _ => ?_)
  refine lv_aload_n hx hb dX9_shown_71 rfl (lv_at hl 6 rfl) ?_
  refine lv_iload_n hx hb dX9_shown_72 rfl (lv_at hl 5 rfl) ?_
  refine lv_iload_n hx hb dX9_shown_73 rfl (lv_at hl 3 rfl) ?_
  refine lv_iload hx hb dX9_shown_74 (lv_at hl 0 rfl) ?_
  have hM1826 := k668_showsIt l hl9 dC dI z h0 h1 h2 h4 h5 h7 h8 h9 h10 h11 h12 h3 H1822.size kc0 kc2
  obtain ⟨hF1824, hC1827⟩ := pc_M hM1826 hP hD hK hS hX hT hA [0, 1, 2, 3, 4, 5, 6, 7, 8, 9, 10] [0, 1] rfl rfl rfl
  refine va_calli (va_runV (As := [.int 4, .int 49, .int 0]) (rest := []) ⟨hx, hb, hml, hown, hts⟩ hM1826 (cwV 3 hts (gV q_429 q_430 q_431 q_60 q_428) rfl rfl rfl hV_X9_showsIt ⟨Nat.le_of_ble_eq_true rfl, Nat.le_of_ble_eq_true rfl⟩) ⟨pc_blind, va_recv hK hP (ci := 8) (q := (RX9, TX9, 6)) (q0 := 0) rfl rfl, fun U hU hW => ⟨rfl, hC1827 U hU hW⟩⟩ rfl rfl hl.1 rfl (lv_room (Nat.le_of_ble_eq_true rfl)) dX9_shown_76 ⟨(Nat.le_of_ble_eq_true rfl), (Nat.le_of_ble_eq_true rfl)⟩) hS (fun q9 _ h9 => hF1824 q9 h9) hF1824 (fun r1829 u1828 t1828 H1828 L1828 ht1828 hvm1828 hw1828 hB1828 hz1828 hk1828 hS => ?_)
  have hP := pq_keep hP hD [0, 1, 2, 3, 4, 5, 6, 7, 8, 9, 10] rfl hk1828 hB1828.1 ht1828
  have hG : s.heap.size + 1459 ≤ H1828.size := va_gr (g := 1438) (g1 := 21) hG (by rw [← ht1828]; exact hB1828.2)
  refine W.eq (g2 := F0 m 79 ls [.int 0]) (by rw [hw1828]) ?_
  refine W.widen (k := 1459) (n := 15772) (by decide) (by decide) ?_
  refine lv_if_eq (tgt := 86) hx hb dX9_shown_79 (by decide) (fun _ => ?_) (fun cz => absurd (by decide) cz)
  refine lv_iconst (v := 0) hx hb dX9_shown_86 (by decide) ?_
  refine lv_istore (lv' := [(4, .int 0), (6, .int 0), (5, .ref a1685), (3, .int 49), (1, .int 0), (2, .int 4), (0, .ref h0)]) hx hb dX9_shown_87 hl (by decide) rfl (fun ls hl => ?_)
  refine lv_goto (tgt := 41) hx hb dX9_shown_89 (by decide) ?_
  refine lv_aload hx hb dX9_shown_41 (lv_at hl 2 rfl) ?_
  have hM1832 := k647_hasNext l hl9 dC dI z a1685 h3 h6 H1828.size
  obtain ⟨hF1830, hC1833⟩ := pc_M hM1832 hP hD hK hS hX hT hA [11, 12] [] rfl rfl rfl
  refine va_callFi (va_runF (As := []) (rest := []) (hK.1 1 (RJx35411, TJx35411, 4) rfl).2 ⟨hx, hb, hml, hown, hts⟩ hM1832 (va_cwF 0 hts (gF q_261 q_262 q_263 q_246 q_260) rfl rfl rfl hT.2.2.2.2.2.2.1 hF_xIh ⟨Nat.le_of_ble_eq_true rfl, Nat.le_of_ble_eq_true rfl⟩) ⟨pc_blind, va_recv hK hP (ci := 1) (q := (RJx35411, TJx35411, 4)) (q0 := 11) rfl rfl, fun U hU hW => ⟨rfl, hC1833 U hU hW⟩⟩ rfl rfl hl.1 rfl (lv_room (Nat.le_of_ble_eq_true rfl)) dX9_shown_43 ⟨(Nat.le_of_ble_eq_true rfl), (Nat.le_of_ble_eq_true rfl)⟩) hS (fun q9 _ h9 => hF1830 q9 h9) hF1830 (fun r1835 u1834 t1834 H1834 L1834 ht1834 hvm1834 hw1834 hB1834 hz1834 hk1834 hS => ?_)
  have hP := pq_keep hP hD [11, 12] rfl hk1834 hB1834.1 ht1834
  have hG : s.heap.size + 1459 ≤ H1834.size := Nat.le_trans hG hz1834
  refine W.eq (g2 := F0 m 48 ls [.int 1]) (by rw [hw1834]) ?_
  refine lv_if_eq (tgt := 92) hx hb dX9_shown_48 (by decide) (fun cz => absurd cz (by decide)) (fun _ => ?_)
  refine lv_aload hx hb dX9_shown_51 (lv_at hl 2 rfl) ?_
  have hM1838 := k649_next l hl9 dC dI z a1685 h3 h6 H1834.size kc1
  obtain ⟨hF1836, hC1839⟩ := pc_M hM1838 hP hD hK hS hX hT hA [11, 12, 13] [2] rfl rfl rfl
  refine va_callFr (va_runF (As := []) (rest := []) (hK.1 1 (RJx35411, TJx35411, 4) rfl).2 ⟨hx, hb, hml, hown, hts⟩ hM1838 (va_cwF 0 hts (gF q_308 q_309 q_310 q_246 q_307) rfl rfl rfl hT.2.2.2.2.2.2.2.1 hF_xIn ⟨Nat.le_of_ble_eq_true rfl, Nat.le_of_ble_eq_true rfl⟩) ⟨pc_blind, va_recv hK hP (ci := 1) (q := (RJx35411, TJx35411, 4)) (q0 := 11) rfl rfl, fun U hU hW => ⟨rfl, hC1839 U hU hW⟩⟩ rfl rfl hl.1 rfl (lv_room (Nat.le_of_ble_eq_true rfl)) dX9_shown_53 ⟨(Nat.le_of_ble_eq_true rfl), (Nat.le_of_ble_eq_true rfl)⟩) hS (fun q9 _ h9 => hF1836 q9 h9) hF1836 (fun u1840 r1841 t1840 H1840 L1840 ht1840 hvm1840 hw1840 hB1840 hz1840 hk1840 hS => ?_)
  obtain ⟨hr1840, hB1840⟩ := hB1840
  obtain ⟨hP, hD, hK⟩ := pq_jn (wz := [(h0, ce21 h1 h2 h3 h4), (h1, ce201 h5), (h2, ce3 z.1), (h4, ce226 h7), (h5, ce200 kc0 h8 h9 h10 h11 h12), (h7, ce200 kc2 (z.2.2.1 128) (z.2.2.1 129) (z.2.2.1 130) (z.2.2.1 131) (z.2.2.1 132)), (h8, ce49), (h9, ce49), (h10, ce49), (h11, ce49), (h12, ce49), (a1685, ce320 h3), (h3, ce276 h6), (h6, ce275 kc1 (z.2.2.1 128) (z.2.2.1 128) (z.2.2.1 128) (z.2.2.1 128) (z.2.2.1 128) (z.2.2.1 128) (z.2.2.1 128))]) (tz := [(kc0, .object "java/lang/Object"), (kc2, .object "java/lang/Object"), (kc1, .object "java/lang/Object")]) hP hD hK [11, 12, 13] [0, 1] rfl hk1840 hF1836 hB1840.1 ht1840 hvm1840 rfl rfl
  have hG : s.heap.size + 1459 ≤ H1840.size := Nat.le_trans hG hz1840
  refine W.eq (g2 := F0 m 58 ls [.ref (z.2.2.1 128)]) (by rw [hr1840]) ?_
  refine va_castE (nm := "java/lang/Integer") hx hb hown (hts _ q_320) (va_Orecv (hX.2.2.1.1.1 128 (by decide)) hS) dX9_shown_58 ?_
  have hM1844 := k74_intValue l hl9 dC dI z H1840.size
  obtain ⟨hF1842, hC1845⟩ := pc_M hM1844 hP hD hK hS hX hT hA [] [] rfl rfl rfl
  refine va_calli (va_runV (As := []) (rest := []) ⟨hx, hb, hml, hown, hts⟩ hM1844 (cwV 0 hts (gV q_323 q_324 q_325 q_297 q_322) rfl rfl rfl hV_J6_intValue_8abf5 ⟨Nat.le_of_ble_eq_true rfl, Nat.le_of_ble_eq_true rfl⟩) ⟨pc_blind, va_Orecv (hX.2.2.1.1.1 128 (by decide)) hS, fun U hU hW => ⟨rfl, hC1845 U hU hW⟩⟩ rfl rfl hl.1 rfl (lv_room (Nat.le_of_ble_eq_true rfl)) dX9_shown_61 ⟨(Nat.le_of_ble_eq_true rfl), (Nat.le_of_ble_eq_true rfl)⟩) hS (fun q9 _ h9 => hF1842 q9 h9) hF1842 (fun r1847 u1846 t1846 H1846 L1846 ht1846 hvm1846 hw1846 hB1846 hz1846 hk1846 hS => ?_)
  have hP := pq_keep hP hD [] rfl hk1846 hB1846.1 ht1846
  have hG : s.heap.size + 1459 ≤ H1846.size := Nat.le_trans hG hz1846
  refine W.eq (g2 := F0 m 64 ls [.int 0]) (by rw [hw1846]) ?_
  refine lv_istore (lv' := [(6, .int 0), (4, .int 0), (5, .ref a1685), (3, .int 49), (1, .int 0), (2, .int 4), (0, .ref h0)]) hx hb dX9_shown_64 hl (by decide) rfl (fun ls hl => ?_)
  refine lv_iload hx hb dX9_shown_66 (lv_at hl 1 rfl) ?_
  refine lv_if_ne (tgt := 82) hx hb dX9_shown_68 (by decide) (fun cz => absurd (by decide) cz) (fun _ => ?_)
  refine lv_aload_n hx hb dX9_shown_71 rfl (lv_at hl 6 rfl) ?_
  refine lv_iload_n hx hb dX9_shown_72 rfl (lv_at hl 5 rfl) ?_
  refine lv_iload_n hx hb dX9_shown_73 rfl (lv_at hl 3 rfl) ?_
  refine lv_iload hx hb dX9_shown_74 (lv_at hl 0 rfl) ?_
  have hM1850 := k668_showsIt l hl9 dC dI z h0 h1 h2 h4 h5 h7 h8 h9 h10 h11 h12 h3 H1846.size kc0 kc2
  obtain ⟨hF1848, hC1851⟩ := pc_M hM1850 hP hD hK hS hX hT hA [0, 1, 2, 3, 4, 5, 6, 7, 8, 9, 10] [0, 1] rfl rfl rfl
  refine va_calli (va_runV (As := [.int 4, .int 49, .int 0]) (rest := []) ⟨hx, hb, hml, hown, hts⟩ hM1850 (cwV 3 hts (gV q_429 q_430 q_431 q_60 q_428) rfl rfl rfl hV_X9_showsIt ⟨Nat.le_of_ble_eq_true rfl, Nat.le_of_ble_eq_true rfl⟩) ⟨pc_blind, va_recv hK hP (ci := 8) (q := (RX9, TX9, 6)) (q0 := 0) rfl rfl, fun U hU hW => ⟨rfl, hC1851 U hU hW⟩⟩ rfl rfl hl.1 rfl (lv_room (Nat.le_of_ble_eq_true rfl)) dX9_shown_76 ⟨(Nat.le_of_ble_eq_true rfl), (Nat.le_of_ble_eq_true rfl)⟩) hS (fun q9 _ h9 => hF1848 q9 h9) hF1848 (fun r1853 u1852 t1852 H1852 L1852 ht1852 hvm1852 hw1852 hB1852 hz1852 hk1852 hS => ?_)
  have hP := pq_keep hP hD [0, 1, 2, 3, 4, 5, 6, 7, 8, 9, 10] rfl hk1852 hB1852.1 ht1852
  have hG : s.heap.size + 1480 ≤ H1852.size := va_gr (g := 1459) (g1 := 21) hG (by rw [← ht1852]; exact hB1852.2)
  refine W.eq (g2 := F0 m 79 ls [.int 0]) (by rw [hw1852]) ?_
  refine W.widen (k := 1480) (n := 16000) (by decide) (by decide) ?_
  refine lv_if_eq (tgt := 86) hx hb dX9_shown_79 (by decide) (fun _ => ?_) (fun cz => absurd (by decide) cz)
  refine lv_iconst (v := 0) hx hb dX9_shown_86 (by decide) ?_
  refine lv_istore (lv' := [(4, .int 0), (6, .int 0), (5, .ref a1685), (3, .int 49), (1, .int 0), (2, .int 4), (0, .ref h0)]) hx hb dX9_shown_87 hl (by decide) rfl (fun ls hl => ?_)
  refine lv_goto (tgt := 41) hx hb dX9_shown_89 (by decide) ?_
  refine lv_aload hx hb dX9_shown_41 (lv_at hl 2 rfl) ?_
  have hM1856 := k650_hasNext l hl9 dC dI z a1685 h3 h6 H1852.size
  obtain ⟨hF1854, hC1857⟩ := pc_M hM1856 hP hD hK hS hX hT hA [11, 12] [] rfl rfl rfl
  refine va_callFi (va_runF (As := []) (rest := []) (hK.1 1 (RJx35411, TJx35411, 4) rfl).2 ⟨hx, hb, hml, hown, hts⟩ hM1856 (va_cwF 0 hts (gF q_261 q_262 q_263 q_246 q_260) rfl rfl rfl hT.2.2.2.2.2.2.1 hF_xIh ⟨Nat.le_of_ble_eq_true rfl, Nat.le_of_ble_eq_true rfl⟩) ⟨pc_blind, va_recv hK hP (ci := 1) (q := (RJx35411, TJx35411, 4)) (q0 := 11) rfl rfl, fun U hU hW => ⟨rfl, hC1857 U hU hW⟩⟩ rfl rfl hl.1 rfl (lv_room (Nat.le_of_ble_eq_true rfl)) dX9_shown_43 ⟨(Nat.le_of_ble_eq_true rfl), (Nat.le_of_ble_eq_true rfl)⟩) hS (fun q9 _ h9 => hF1854 q9 h9) hF1854 (fun r1859 u1858 t1858 H1858 L1858 ht1858 hvm1858 hw1858 hB1858 hz1858 hk1858 hS => ?_)
  have hP := pq_keep hP hD [11, 12] rfl hk1858 hB1858.1 ht1858
  have hG : s.heap.size + 1480 ≤ H1858.size := Nat.le_trans hG hz1858
  refine W.eq (g2 := F0 m 48 ls [.int 0]) (by rw [hw1858]) ?_
  refine lv_if_eq (tgt := 92) hx hb dX9_shown_48 (by decide) (fun _ => ?_) (fun cz => absurd (by decide) cz)
  refine lv_iload_n hx hb dX9_shown_92 rfl (lv_at hl 4 rfl) ?_
  refine lv_iload hx hb dX9_shown_93 (lv_at hl 0 rfl) ?_
  refine lv_if_eq (tgt := 102) hx hb dX9_shown_95 (by decide) (fun _ => ?_) (fun cz => absurd (by decide) cz)
  refine lv_iconst (v := 0) hx hb dX9_shown_102 (by decide) ?_
  refine lv_iadd hx hb dX9_shown_103 ?_
  refine lv_topi (fun y1860 ey1860 => ?_)
  obtain rfl : y1860 = 0 := ey1860.trans (by decide)
  refine lv_istore_n (lv' := [(1, .int 0), (4, .int 0), (6, .int 0), (5, .ref a1685), (3, .int 49), (2, .int 4), (0, .ref h0)]) hx hb dX9_shown_104 rfl hl (by decide) rfl (fun ls hl => ?_)
  refine lv_iload_n hx hb dX9_shown_105 rfl (lv_at hl 4 rfl) ?_
  refine lv_iconst (v := 1) hx hb dX9_shown_106 (by decide) ?_
  refine lv_iadd hx hb dX9_shown_107 ?_
  refine lv_topi (fun y1861 ey1861 => ?_)
  obtain rfl : y1861 = 50 := ey1861.trans (by decide)
  refine lv_i2c (v := 50) hx hb dX9_shown_108 (by decide) ?_
  refine lv_istore_n (lv' := [(3, .int 50), (1, .int 0), (4, .int 0), (6, .int 0), (5, .ref a1685), (2, .int 4), (0, .ref h0)]) hx hb dX9_shown_109 rfl hl (by decide) rfl (fun ls hl => ?_)
  refine lv_goto (tgt := 23) hx hb dX9_shown_110 (by decide) ?_
  exact hend _ _ _ hS (hP.sub [0, 1, 2, 12, 3, 4, 13, 5, 6, 7, 8, 9, 10] rfl) (hD.sub [0, 1, 2, 12, 3, 4, 13, 5, 6, 7, 8, 9, 10] rfl rfl) (lv_sub hl [0, 1, 5, 6] rfl) hG

set_option maxHeartbeats 4000000 in
set_option maxRecDepth 100000 in
theorem k669_shown (l : Launch) (hl9 : l.stackTraces = false) (dC : Nat → ClassId) (dI : Nat → Nat → Nat) (z : XZ) (h0 h1 h2 h3 h4 h5 h6 h7 h8 h9 h10 h11 h12 : Nat) (sz : Nat) (kc0 kc1 kc2 : ClassId) : Met l yX9_shown (.code yX9_shown cX9_shown 7 (some .int) :: wsL_law) ({ frames := 5, cells := 1480, slots := 16000, locals := 121 }) (va_Pc [.ref h0] (PC (dC, dI) [(h0, ce21 h1 h2 h3 h4), (h1, ce201 h5), (h2, ce3 z.1), (h3, ce276 h6), (h4, ce226 h7), (h5, ce200 kc0 h8 h9 h10 h11 h12), (h6, ce275 kc1 (z.2.2.1 128) (z.2.2.1 128) (z.2.2.1 128) (z.2.2.1 128) (z.2.2.1 128) (z.2.2.1 128) (z.2.2.1 128)), (h7, ce200 kc2 (z.2.2.1 128) (z.2.2.1 129) (z.2.2.1 130) (z.2.2.1 131) (z.2.2.1 132)), (h8, ce49), (h9, ce49), (h10, ce49), (h11, ce49), (h12, ce49)] [(kc0, .object "java/lang/Object"), (kc1, .object "java/lang/Object"), (kc2, .object "java/lang/Object")] sz z)) (va_Qi (fun (r : Int32) (_ : Unit) => r = 0) (fun (_ : Unit) (t : State) => PG (dC, dI) [(h0, ce21 h1 h2 h3 h4), (h1, ce201 h5), (h2, ce3 z.1), (h3, ce276 h6), (h4, ce226 h7), (h5, ce200 kc0 h8 h9 h10 h11 h12), (h6, ce275 kc1 (z.2.2.1 128) (z.2.2.1 128) (z.2.2.1 128) (z.2.2.1 128) (z.2.2.1 128) (z.2.2.1 128) (z.2.2.1 128)), (h7, ce200 kc2 (z.2.2.1 128) (z.2.2.1 129) (z.2.2.1 130) (z.2.2.1 131) (z.2.2.1 132)), (h8, ce49), (h9, ce49), (h10, ce49), (h11, ce49), (h12, ce49)] [(kc0, .object "java/lang/Object"), (kc1, .object "java/lang/Object"), (kc2, .object "java/lang/Object")] (va_A [(h0, ce21 h1 h2 h3 h4), (h1, ce201 h5), (h2, ce3 z.1), (h3, ce276 h6), (h4, ce226 h7), (h5, ce200 kc0 h8 h9 h10 h11 h12), (h6, ce275 kc1 (z.2.2.1 128) (z.2.2.1 128) (z.2.2.1 128) (z.2.2.1 128) (z.2.2.1 128) (z.2.2.1 128) (z.2.2.1 128)), (h7, ce200 kc2 (z.2.2.1 128) (z.2.2.1 129) (z.2.2.1 130) (z.2.2.1 131) (z.2.2.1 132)), (h8, ce49), (h9, ce49), (h10, ce49), (h11, ce49), (h12, ce49)] sz) sz 1480 t) (va_A [(h0, ce21 h1 h2 h3 h4), (h1, ce201 h5), (h2, ce3 z.1), (h3, ce276 h6), (h4, ce226 h7), (h5, ce200 kc0 h8 h9 h10 h11 h12), (h6, ce275 kc1 (z.2.2.1 128) (z.2.2.1 128) (z.2.2.1 128) (z.2.2.1 128) (z.2.2.1 128) (z.2.2.1 128) (z.2.2.1 128)), (h7, ce200 kc2 (z.2.2.1 128) (z.2.2.1 129) (z.2.2.1 130) (z.2.2.1 131) (z.2.2.1 132)), (h8, ce49), (h9, ce49), (h10, ce49), (h11, ce49), (h12, ce49)] sz)) 1480 16000 (va_A [(h0, ce21 h1 h2 h3 h4), (h1, ce201 h5), (h2, ce3 z.1), (h3, ce276 h6), (h4, ce226 h7), (h5, ce200 kc0 h8 h9 h10 h11 h12), (h6, ce275 kc1 (z.2.2.1 128) (z.2.2.1 128) (z.2.2.1 128) (z.2.2.1 128) (z.2.2.1 128) (z.2.2.1 128) (z.2.2.1 128)), (h7, ce200 kc2 (z.2.2.1 128) (z.2.2.1 129) (z.2.2.1 130) (z.2.2.1 131) (z.2.2.1 132)), (h8, ce49), (h9, ce49), (h10, ce49), (h11, ce49), (h12, ce49)] sz) := by
  refine Met.ofW (cc := cX9_shown) (maxL := 7) (ret := (some .int)) (by decide) rfl ?_
  intro p e s m args below meth c s₁ B hml hv
  obtain ⟨rfl, hsz, hP, hK, hD0, hX, hT⟩ := hv
  have hx := B.exec
  have hb := B.bytes
  have hr := B.returns
  have hts0 := atoms_spec (ws := .code yX9_shown cX9_shown 7 (some .int) :: wsL_law) B.pre
  have hts := xTail hts0
  have hown : s.vm.findClass RX9 = some m.cls := xown B.named rfl
  have hlocks := B.notSynchronized
  subst hsz
  have hD := hD0.self (sz := s.heap.size)
  generalize hAe : va_A [(h0, ce21 h1 h2 h3 h4), (h1, ce201 h5), (h2, ce3 z.1), (h3, ce276 h6), (h4, ce226 h7), (h5, ce200 kc0 h8 h9 h10 h11 h12), (h6, ce275 kc1 (z.2.2.1 128) (z.2.2.1 128) (z.2.2.1 128) (z.2.2.1 128) (z.2.2.1 128) (z.2.2.1 128) (z.2.2.1 128)), (h7, ce200 kc2 (z.2.2.1 128) (z.2.2.1 129) (z.2.2.1 130) (z.2.2.1 131) (z.2.2.1 132)), (h8, ce49), (h9, ce49), (h10, ce49), (h11, ce49), (h12, ce49)] s.heap.size = A at hD hX ⊢
  have hA : ∀ q : Nat, s.heap.size ≤ q → A q := fun q h => by rw [← hAe]; exact Or.inr h
  have hS : va_S A s.heap s.heap [] := va_S.rf
  have hG : s.heap.size + 0 ≤ s.heap.size := Nat.le_refl _
  have hl := lv_entry ([.ref h0]) (n := 7) (Nat.le_of_ble_eq_true rfl)
  rw [lg_entry_eq]
  generalize (lg_sl ([.ref h0]) ++ List.replicate (7 - (lg_sl ([.ref h0])).length) Slot.unset).toArray = ls at hl ⊢
  have hl : lv_has ls 7 [(0, .ref h0)] := hl
  refine lv_aload_n hx hb dX9_shown_0 rfl (lv_at hl 0 rfl) ?_
  refine lv_iconst (v := 0) hx hb dX9_shown_1 (by decide) ?_
  refine va_put (D := (dC, dI)) (ci := 8) (v := .int 0) (ty := .int) (C := RX9) (T := TX9) (N := 6) hx hb hts in_X9 tyX9 tyX9_ok nmX9 hown hK hP hD (va_Sre hS) 0 rfl rfl 0 (by decide) (hts _ q_243) (fun _ h9 => h9) rfl (by decide +kernel) rfl rfl (Nat.le_of_ble_eq_true rfl) dX9_shown_2 (fun H1 _ hP hD hS' => ?_)
  have hG : s.heap.size + 0 ≤ H1.size := Nat.le_trans hG hS'.1
  have hS := va_Str hS hS'
  have hP : va_P (dC, dI) xCl [(h0, ce21 h1 h2 h3 h4), (h1, ce201 h5), (h2, ce3 z.1), (h3, ce276 h6), (h4, ce226 h7), (h5, ce200 kc0 h8 h9 h10 h11 h12), (h6, ce275 kc1 (z.2.2.1 128) (z.2.2.1 128) (z.2.2.1 128) (z.2.2.1 128) (z.2.2.1 128) (z.2.2.1 128) (z.2.2.1 128)), (h7, ce200 kc2 (z.2.2.1 128) (z.2.2.1 129) (z.2.2.1 130) (z.2.2.1 131) (z.2.2.1 132)), (h8, ce49), (h9, ce49), (h10, ce49), (h11, ce49), (h12, ce49)] H1 := hP
  have hD := vd_as hP hD rfl
  refine lv_iconst (v := 0) hx hb dX9_shown_5 (by decide) ?_
  refine lv_istore_n (lv' := [(1, .int 0), (0, .ref h0)]) hx hb dX9_shown_6 rfl hl (by decide) rfl (fun ls hl => ?_)
  refine lv_iconst (v := 0) hx hb dX9_shown_7 (by decide) ?_
  refine lv_istore_n (lv' := [(2, .int 0), (1, .int 0), (0, .ref h0)]) hx hb dX9_shown_8 rfl hl (by decide) rfl (fun ls hl => ?_)
  refine lv_iload_n hx hb dX9_shown_9 rfl (lv_at hl 0 rfl) ?_
  refine lv_aload_n hx hb dX9_shown_10 rfl (lv_at hl 2 rfl) ?_
  refine va_get (D := (dC, dI)) (ci := 8) (v := .ref h1) (C := RX9) (T := TX9) (N := 6) hx hb hts in_X9 hown hK hP 0 rfl rfl 1 (by decide) (hts _ q_64) (fun _ h9 => h9) rfl dX9_shown_11 ?_
  have hM4 := k20_size l hl9 dC dI z h1 h5 H1.size 5 5
  obtain ⟨hF2, hC5⟩ := pc_M hM4 hP hD hK hS hX hT hA [1] [] rfl rfl rfl
  refine va_calli (va_runV (As := []) (rest := [.int 0]) ⟨hx, hb, hml, hown, hts⟩ hM4 (cwV 0 hts (gV q_272 q_77 q_78 q_12 q_75) rfl rfl rfl hV_Jx4a65c_size_8abf5 ⟨Nat.le_of_ble_eq_true rfl, Nat.le_of_ble_eq_true rfl⟩) ⟨pc_blind, va_recv hK hP (ci := 0) (q := (RJx4a65c, TJx4a65c, 3)) (q0 := 1) rfl rfl, fun U hU hW => ⟨rfl, hC5 U hU hW⟩⟩ rfl rfl hl.1 rfl (lv_room (Nat.le_of_ble_eq_true rfl)) dX9_shown_14 ⟨(Nat.le_of_ble_eq_true rfl), (Nat.le_of_ble_eq_true rfl)⟩) hS (fun q9 _ h9 => hF2 q9 h9) hF2 (fun r7 u6 t6 H6 L6 ht6 hvm6 hw6 hB6 hz6 hk6 hS => ?_)
  have hP := pq_keep hP hD [1] rfl hk6 hB6.1 ht6
  have hG : s.heap.size + 0 ≤ H6.size := Nat.le_trans hG hz6
  refine W.eq (g2 := F0 m 17 ls [.int 5, .int 0]) (by rw [hw6]) ?_
  refine lv_icmp_ge (tgt := 119) hx hb dX9_shown_17 (by decide) (fun cz => absurd cz (by decide)) (fun _ => ?_)
  refine lv_bipush (v := 48) hx hb dX9_shown_20 (by decide) ?_
  refine lv_istore_n (lv' := [(3, .int 48), (2, .int 0), (1, .int 0), (0, .ref h0)]) hx hb dX9_shown_22 rfl hl (by decide) rfl (fun ls hl => ?_)
  obtain ⟨hP, hD⟩ : va_P (dC, dI) xCl [(h0, ce21 h1 h2 h3 h4), (h1, ce201 h5), (h2, ce3 z.1), (h3, ce276 h6), (h4, ce226 h7), (h5, ce200 kc0 h8 h9 h10 h11 h12), (h6, ce275 kc1 (z.2.2.1 128) (z.2.2.1 128) (z.2.2.1 128) (z.2.2.1 128) (z.2.2.1 128) (z.2.2.1 128) (z.2.2.1 128)), (h7, ce200 kc2 (z.2.2.1 128) (z.2.2.1 129) (z.2.2.1 130) (z.2.2.1 131) (z.2.2.1 132)), (h8, ce49), (h9, ce49), (h10, ce49), (h11, ce49), (h12, ce49)] H6 ∧ va_D A [(h0, ce21 h1 h2 h3 h4), (h1, ce201 h5), (h2, ce3 z.1), (h3, ce276 h6), (h4, ce226 h7), (h5, ce200 kc0 h8 h9 h10 h11 h12), (h6, ce275 kc1 (z.2.2.1 128) (z.2.2.1 128) (z.2.2.1 128) (z.2.2.1 128) (z.2.2.1 128) (z.2.2.1 128) (z.2.2.1 128)), (h7, ce200 kc2 (z.2.2.1 128) (z.2.2.1 129) (z.2.2.1 130) (z.2.2.1 131) (z.2.2.1 132)), (h8, ce49), (h9, ce49), (h10, ce49), (h11, ce49), (h12, ce49)] := ⟨(hP.sub [0, 1, 2, 3, 4, 5, 6, 7, 8, 9, 10, 11, 12] rfl), (hD.sub [0, 1, 2, 3, 4, 5, 6, 7, 8, 9, 10, 11, 12] rfl rfl)⟩
  have hK : va_K (dC, dI) xCl [(kc0, .object "java/lang/Object"), (kc1, .object "java/lang/Object"), (kc2, .object "java/lang/Object")] s := hK.sub [0, 1, 2] rfl
  have hl : lv_has ls 7 [(3, .int 48), (2, .int 0), (1, .int 0), (0, .ref h0)] := lv_sub hl [0, 1, 2, 3] rfl
  refine k669_shown_g1 hl9 hx hb hml hown hts hA hX hT hS hP hD hK hl hG (fun H L9 ls hS hP hD hl hG => ?_)
  refine k669_shown_g2 hl9 hx hb hml hown hts hA hX hT hS hP hD hK hl hG (fun H L9 ls hS hP hD hl hG => ?_)
  refine k669_shown_g3 hl9 hx hb hml hown hts hA hX hT hS hP hD hK hl hG (fun H L9 ls hS hP hD hl hG => ?_)
  refine k669_shown_g4 hl9 hx hb hml hown hts hA hX hT hS hP hD hK hl hG (fun H L9 ls hS hP hD hl hG => ?_)
  refine k669_shown_g5 hl9 hx hb hml hown hts hA hX hT hS hP hD hK hl hG (fun H L9 ls hS hP hD hl hG => ?_)
  refine k669_shown_g6 hl9 hx hb hml hown hts hA hX hT hS hP hD hK hl hG (fun H L9 ls hS hP hD hl hG => ?_)
  refine k669_shown_g7 hl9 hx hb hml hown hts hA hX hT hS hP hD hK hl hG (fun H L9 ls hS hP hD hl hG => ?_)
  refine k669_shown_g8 hl9 hx hb hml hown hts hA hX hT hS hP hD hK hl hG (fun H L9 ls hS hP hD hl hG => ?_)
  refine k669_shown_g9 hl9 hx hb hml hown hts hA hX hT hS hP hD hK hl hG (fun H L9 ls hS hP hD hl hG => ?_)
  refine k669_shown_g10 hl9 hx hb hml hown hts hA hX hT hS hP hD hK hl hG (fun H L9 ls hS hP hD hl hG => ?_)
  refine k669_shown_g11 hl9 hx hb hml hown hts hA hX hT hS hP hD hK hl hG (fun H L9 ls hS hP hD hl hG => ?_)
  refine k669_shown_g12 hl9 hx hb hml hown hts hA hX hT hS hP hD hK hl hG (fun H L9 ls hS hP hD hl hG => ?_)
  refine k669_shown_g13 hl9 hx hb hml hown hts hA hX hT hS hP hD hK hl hG (fun H L9 ls hS hP hD hl hG => ?_)
  refine k669_shown_g14 hl9 hx hb hml hown hts hA hX hT hS hP hD hK hl hG (fun H L9 ls hS hP hD hl hG => ?_)
  refine lv_iload_n hx hb dX9_shown_23 rfl (lv_at hl 0 rfl) ?_
  refine lv_bipush (v := 49) hx hb dX9_shown_24 (by decide) ?_
  refine lv_icmp_gt (tgt := 113) hx hb dX9_shown_26 (by decide) (fun _ => ?_) (fun cz => absurd (by decide) cz)
  refine lv_iinc (v := 5) (lv' := [(2, .int 5), (3, .int 50), (1, .int 0), (0, .ref h0)]) hx hb dX9_shown_113 hl (k := 2) rfl (by decide) (by decide) rfl (fun ls hl => ?_)
  refine lv_goto (tgt := 9) hx hb dX9_shown_116 (by decide) ?_
  refine lv_iload_n hx hb dX9_shown_9 rfl (lv_at hl 0 rfl) ?_
  refine lv_aload_n hx hb dX9_shown_10 rfl (lv_at hl 3 rfl) ?_
  refine va_get (D := (dC, dI)) (ci := 8) (v := .ref h1) (C := RX9) (T := TX9) (N := 6) hx hb hts in_X9 hown hK hP 0 rfl rfl 1 (by decide) (hts _ q_64) (fun _ h9 => h9) rfl dX9_shown_11 ?_
  have hM1864 := k20_size l hl9 dC dI z h1 h5 H.size 5 5
  obtain ⟨hF1862, hC1865⟩ := pc_M hM1864 hP hD hK hS hX hT hA [1] [] rfl rfl rfl
  refine va_calli (va_runV (As := []) (rest := [.int 5]) ⟨hx, hb, hml, hown, hts⟩ hM1864 (cwV 0 hts (gV q_272 q_77 q_78 q_12 q_75) rfl rfl rfl hV_Jx4a65c_size_8abf5 ⟨Nat.le_of_ble_eq_true rfl, Nat.le_of_ble_eq_true rfl⟩) ⟨pc_blind, va_recv hK hP (ci := 0) (q := (RJx4a65c, TJx4a65c, 3)) (q0 := 1) rfl rfl, fun U hU hW => ⟨rfl, hC1865 U hU hW⟩⟩ rfl rfl hl.1 rfl (lv_room (Nat.le_of_ble_eq_true rfl)) dX9_shown_14 ⟨(Nat.le_of_ble_eq_true rfl), (Nat.le_of_ble_eq_true rfl)⟩) hS (fun q9 _ h9 => hF1862 q9 h9) hF1862 (fun r1867 u1866 t1866 H1866 L1866 ht1866 hvm1866 hw1866 hB1866 hz1866 hk1866 hS => ?_)
  have hP := pq_keep hP hD [1] rfl hk1866 hB1866.1 ht1866
  have hG : s.heap.size + 1480 ≤ H1866.size := Nat.le_trans hG hz1866
  refine W.eq (g2 := F0 m 17 ls [.int 5, .int 5]) (by rw [hw1866]) ?_
  refine lv_icmp_ge (tgt := 119) hx hb dX9_shown_17 (by decide) (fun _ => ?_) (fun cz => absurd (by decide) cz)
  refine lv_iload_n hx hb dX9_shown_119 rfl (lv_at hl 2 rfl) ?_
  exact W.iret (v := 0) hx hb hr (fun t9 ht9 hW9 => ⟨⟨0, (), rfl, rfl, ⟨pq_mk2 hP hD hK [0, 1, 2, 3, 4, 5, 6, 7, 8, 9, 10, 11, 12] [0, 1, 2] rfl rfl rfl ht9 hW9, by rw [ht9]; exact Nat.le_trans (Nat.add_le_add_left (Nat.le_of_ble_eq_true rfl) _) hG⟩⟩, hS.F ht9⟩) hS.2.2 dX9_shown_120

set_option maxHeartbeats 4000000 in
set_option maxRecDepth 100000 in
theorem k670_isStuckShown (l : Launch) (hl9 : l.stackTraces = false) (dC : Nat → ClassId) (dI : Nat → Nat → Nat) (z : XZ) (h0 h1 h2 h3 h4 h5 h6 h7 h8 h9 h10 : Nat) (o0 o1 o2 o3 o4 o5 o6 o7 : Nat) (sz : Nat) (kc0 kc1 : ClassId) : Met l yX4_isStuckShown (.code yX4_isStuckShown cX4_isStuckShown 6 (some .boolean) :: wsL_law) ({ frames := 5, cells := 0, slots := 0, locals := 112 }) (va_Pc [.ref h0, .ref h1, .int 48, .int 0] (PC (dC, dI) [(h0, ce271 h2 o0), (h1, ce282 (z.2.1 0) o1 h1), (h2, ce7 o2 h3 o3 h4), (h3, ce201 h5), (h4, ce226 h6), (h5, ce200 kc0 h1 h7 h8 h9 h10), (h6, ce200 kc1 h1 h7 h8 h9 h10), (h7, ce283 (z.2.1 0) o4 h7), (h8, ce284 (z.2.1 0) o5 h8), (h9, ce285 (z.2.1 0) o6 h9), (h10, ce291 (z.2.1 0) o7 h10)] [(kc0, .object "java/lang/Object"), (kc1, .object "java/lang/Object")] sz z)) (va_Qi (fun (r : Int32) (_ : Unit) => r = 0) (fun (_ : Unit) (t : State) => PG (dC, dI) [(h0, ce271 h2 o0), (h1, ce282 (z.2.1 0) o1 h1), (h2, ce7 o2 h3 o3 h4), (h3, ce201 h5), (h4, ce226 h6), (h5, ce200 kc0 h1 h7 h8 h9 h10), (h6, ce200 kc1 h1 h7 h8 h9 h10), (h7, ce283 (z.2.1 0) o4 h7), (h8, ce284 (z.2.1 0) o5 h8), (h9, ce285 (z.2.1 0) o6 h9), (h10, ce286 (z.2.1 0) o7 h10)] [(kc0, .object "java/lang/Object"), (kc1, .object "java/lang/Object")] (va_A [(h0, ce271 h2 o0), (h1, ce282 (z.2.1 0) o1 h1), (h2, ce7 o2 h3 o3 h4), (h3, ce201 h5), (h4, ce226 h6), (h5, ce200 kc0 h1 h7 h8 h9 h10), (h6, ce200 kc1 h1 h7 h8 h9 h10), (h7, ce283 (z.2.1 0) o4 h7), (h8, ce284 (z.2.1 0) o5 h8), (h9, ce285 (z.2.1 0) o6 h9), (h10, ce291 (z.2.1 0) o7 h10)] sz) sz 0 t) (va_A [(h0, ce271 h2 o0), (h1, ce282 (z.2.1 0) o1 h1), (h2, ce7 o2 h3 o3 h4), (h3, ce201 h5), (h4, ce226 h6), (h5, ce200 kc0 h1 h7 h8 h9 h10), (h6, ce200 kc1 h1 h7 h8 h9 h10), (h7, ce283 (z.2.1 0) o4 h7), (h8, ce284 (z.2.1 0) o5 h8), (h9, ce285 (z.2.1 0) o6 h9), (h10, ce291 (z.2.1 0) o7 h10)] sz)) 0 0 (va_A [(h0, ce271 h2 o0), (h1, ce282 (z.2.1 0) o1 h1), (h2, ce7 o2 h3 o3 h4), (h3, ce201 h5), (h4, ce226 h6), (h5, ce200 kc0 h1 h7 h8 h9 h10), (h6, ce200 kc1 h1 h7 h8 h9 h10), (h7, ce283 (z.2.1 0) o4 h7), (h8, ce284 (z.2.1 0) o5 h8), (h9, ce285 (z.2.1 0) o6 h9), (h10, ce291 (z.2.1 0) o7 h10)] sz) := by
  refine Met.ofW (cc := cX4_isStuckShown) (maxL := 6) (ret := (some .boolean)) (by decide) rfl ?_
  intro p e s m args below meth c s₁ B hml hv
  obtain ⟨rfl, hsz, hP, hK, hD0, hX, hT⟩ := hv
  have hx := B.exec
  have hb := B.bytes
  have hr := B.returns
  have hts0 := atoms_spec (ws := .code yX4_isStuckShown cX4_isStuckShown 6 (some .boolean) :: wsL_law) B.pre
  have hts := xTail hts0
  have hown : s.vm.findClass RX4 = some m.cls := xown B.named rfl
  have hlocks := B.notSynchronized
  subst hsz
  have hD := hD0.self (sz := s.heap.size)
  generalize hAe : va_A [(h0, ce271 h2 o0), (h1, ce282 (z.2.1 0) o1 h1), (h2, ce7 o2 h3 o3 h4), (h3, ce201 h5), (h4, ce226 h6), (h5, ce200 kc0 h1 h7 h8 h9 h10), (h6, ce200 kc1 h1 h7 h8 h9 h10), (h7, ce283 (z.2.1 0) o4 h7), (h8, ce284 (z.2.1 0) o5 h8), (h9, ce285 (z.2.1 0) o6 h9), (h10, ce291 (z.2.1 0) o7 h10)] s.heap.size = A at hD hX ⊢
  have hA : ∀ q : Nat, s.heap.size ≤ q → A q := fun q h => by rw [← hAe]; exact Or.inr h
  have hS : va_S A s.heap s.heap [] := va_S.rf
  have hG : s.heap.size + 0 ≤ s.heap.size := Nat.le_refl _
  have hl := lv_entry ([.ref h0, .ref h1, .int 48, .int 0]) (n := 6) (Nat.le_of_ble_eq_true rfl)
  rw [lg_entry_eq]
  generalize (lg_sl ([.ref h0, .ref h1, .int 48, .int 0]) ++ List.replicate (6 - (lg_sl ([.ref h0, .ref h1, .int 48, .int 0])).length) Slot.unset).toArray = ls at hl ⊢
  have hl : lv_has ls 6 [(0, .ref h0), (1, .ref h1), (2, .int 48), (3, .int 0)] := hl
  refine lv_aload_n hx hb dX4_isStuckShown_0 rfl (lv_at hl 0 rfl) ?_
  refine lv_iload_n hx hb dX4_isStuckShown_1 rfl (lv_at hl 3 rfl) ?_
  refine lv_null hx hb dX4_isStuckShown_2 ?_
  refine lv_bipush (v := 120) hx hb dX4_isStuckShown_3 (by decide) ?_
  have hM3 := k614_tryRow l hl9 dC dI z h0 h2 h3 h4 h5 h6 h1 h7 h8 h9 h10 o0 o2 o3 o1 o4 o5 o6 o7 s.heap.size kc0 kc1
  obtain ⟨hF1, hC4⟩ := pc_M hM3 hP hD hK hS hX hT hA [0, 2, 3, 4, 5, 6, 1, 7, 8, 9, 10] [0, 1] rfl rfl rfl
  refine va_callv (va_runV (As := [.int 0, .null, .int 120]) (rest := []) ⟨hx, hb, hml, hown, hts⟩ hM3 (cwV 3 hts (gV q_388 q_389 q_390 q_46 q_387) rfl rfl rfl hV_X4_tryRow ⟨Nat.le_of_ble_eq_true rfl, Nat.le_of_ble_eq_true rfl⟩) ⟨pc_blind, va_recv hK hP (ci := 4) (q := (RX4, TX4, 3)) (q0 := 0) rfl rfl, fun U hU hW => ⟨rfl, hC4 U hU hW⟩⟩ rfl rfl hl.1 rfl (lv_room (Nat.le_of_ble_eq_true rfl)) dX4_isStuckShown_5 ⟨(Nat.le_of_ble_eq_true rfl), (Nat.le_of_ble_eq_true rfl)⟩) hS (fun q9 _ h9 => hF1 q9 h9) hF1 (fun u5 t5 H5 L5 ht5 hvm5 hw5 hB5 hz5 hk5 hS => ?_)
  obtain ⟨hP, hD, hK⟩ := pq_jn (wz := [(h0, ce271 h2 o0), (h2, ce7 o2 h3 o3 h4), (h3, ce201 h5), (h4, ce226 h6), (h5, ce200 kc0 h1 h7 h8 h9 h10), (h6, ce200 kc1 h1 h7 h8 h9 h10), (h1, ce282 (z.2.1 0) o1 h1), (h7, ce283 (z.2.1 0) o4 h7), (h8, ce284 (z.2.1 0) o5 h8), (h9, ce285 (z.2.1 0) o6 h9), (h10, ce286 (z.2.1 0) o7 h10)]) (tz := [(kc0, .object "java/lang/Object"), (kc1, .object "java/lang/Object")]) hP hD hK [0, 2, 3, 4, 5, 6, 1, 7, 8, 9, 10] [] rfl hk5 hF1 hB5.1 ht5 hvm5 rfl rfl
  have hG : s.heap.size + 0 ≤ H5.size := Nat.le_trans hG hz5
  refine lv_aload_n hx hb dX4_isStuckShown_8 rfl (lv_at hl 1 rfl) ?_
  refine va_get (D := (dC, dI)) (ci := 3) (v := .int 48) (C := RX2) (T := TX2) (N := 19) hx hb hts in_X2 hown hK hP 6 rfl rfl 11 (by decide) (hts _ q_385) (fun _ h9 => h9) rfl dX4_isStuckShown_9 ?_
  refine lv_iload_n hx hb dX4_isStuckShown_12 rfl (lv_at hl 2 rfl) ?_
  refine lv_icmp_ne (tgt := 18) hx hb dX4_isStuckShown_13 (by decide) (fun cz => absurd (by decide) cz) (fun _ => ?_)
  refine lv_iconst (v := 0) hx hb dX4_isStuckShown_16 (by decide) ?_
  exact W.zret (v := 0) (ty := .boolean) hx hb hr rfl (fun t9 ht9 hW9 => ⟨⟨0, (), rfl, rfl, ⟨pq_mk2 hP hD hK [0, 6, 1, 2, 3, 4, 5, 7, 8, 9, 10] [0, 1] rfl rfl rfl ht9 hW9, by rw [ht9]; exact Nat.le_trans (Nat.add_le_add_left (Nat.le_of_ble_eq_true rfl) _) hG⟩⟩, hS.F ht9⟩) hS.2.2 dX4_isStuckShown_17

set_option maxHeartbeats 4000000 in
set_option maxRecDepth 100000 in
theorem k671_isStuckShown (l : Launch) (hl9 : l.stackTraces = false) (dC : Nat → ClassId) (dI : Nat → Nat → Nat) (z : XZ) (h0 h1 h2 h3 h4 h5 h6 h7 h8 h9 h10 : Nat) (o0 o1 o2 o3 o4 o5 o6 o7 : Nat) (sz : Nat) (kc0 kc1 : ClassId) : Met l yX4_isStuckShown (.code yX4_isStuckShown cX4_isStuckShown 6 (some .boolean) :: wsL_law) ({ frames := 5, cells := 0, slots := 0, locals := 112 }) (va_Pc [.ref h0, .ref h1, .int 48, .int 0] (PC (dC, dI) [(h0, ce271 h2 o0), (h1, ce282 (z.2.1 0) o1 h1), (h2, ce7 o2 h3 o3 h4), (h3, ce201 h5), (h4, ce226 h6), (h5, ce200 kc0 h1 h7 h8 h9 h10), (h6, ce200 kc1 h1 h7 h8 h9 h10), (h7, ce283 (z.2.1 0) o4 h7), (h8, ce284 (z.2.1 0) o5 h8), (h9, ce285 (z.2.1 0) o6 h9), (h10, ce286 (z.2.1 0) o7 h10)] [(kc0, .object "java/lang/Object"), (kc1, .object "java/lang/Object")] sz z)) (va_Qi (fun (r : Int32) (_ : Unit) => r = 0) (fun (_ : Unit) (t : State) => PG (dC, dI) [(h0, ce271 h2 o0), (h1, ce282 (z.2.1 0) o1 h1), (h2, ce7 o2 h3 o3 h4), (h3, ce201 h5), (h4, ce226 h6), (h5, ce200 kc0 h1 h7 h8 h9 h10), (h6, ce200 kc1 h1 h7 h8 h9 h10), (h7, ce283 (z.2.1 0) o4 h7), (h8, ce284 (z.2.1 0) o5 h8), (h9, ce285 (z.2.1 0) o6 h9), (h10, ce286 (z.2.1 0) o7 h10)] [(kc0, .object "java/lang/Object"), (kc1, .object "java/lang/Object")] (va_A [(h0, ce271 h2 o0), (h1, ce282 (z.2.1 0) o1 h1), (h2, ce7 o2 h3 o3 h4), (h3, ce201 h5), (h4, ce226 h6), (h5, ce200 kc0 h1 h7 h8 h9 h10), (h6, ce200 kc1 h1 h7 h8 h9 h10), (h7, ce283 (z.2.1 0) o4 h7), (h8, ce284 (z.2.1 0) o5 h8), (h9, ce285 (z.2.1 0) o6 h9), (h10, ce286 (z.2.1 0) o7 h10)] sz) sz 0 t) (va_A [(h0, ce271 h2 o0), (h1, ce282 (z.2.1 0) o1 h1), (h2, ce7 o2 h3 o3 h4), (h3, ce201 h5), (h4, ce226 h6), (h5, ce200 kc0 h1 h7 h8 h9 h10), (h6, ce200 kc1 h1 h7 h8 h9 h10), (h7, ce283 (z.2.1 0) o4 h7), (h8, ce284 (z.2.1 0) o5 h8), (h9, ce285 (z.2.1 0) o6 h9), (h10, ce286 (z.2.1 0) o7 h10)] sz)) 0 0 (va_A [(h0, ce271 h2 o0), (h1, ce282 (z.2.1 0) o1 h1), (h2, ce7 o2 h3 o3 h4), (h3, ce201 h5), (h4, ce226 h6), (h5, ce200 kc0 h1 h7 h8 h9 h10), (h6, ce200 kc1 h1 h7 h8 h9 h10), (h7, ce283 (z.2.1 0) o4 h7), (h8, ce284 (z.2.1 0) o5 h8), (h9, ce285 (z.2.1 0) o6 h9), (h10, ce286 (z.2.1 0) o7 h10)] sz) := by
  refine Met.ofW (cc := cX4_isStuckShown) (maxL := 6) (ret := (some .boolean)) (by decide) rfl ?_
  intro p e s m args below meth c s₁ B hml hv
  obtain ⟨rfl, hsz, hP, hK, hD0, hX, hT⟩ := hv
  have hx := B.exec
  have hb := B.bytes
  have hr := B.returns
  have hts0 := atoms_spec (ws := .code yX4_isStuckShown cX4_isStuckShown 6 (some .boolean) :: wsL_law) B.pre
  have hts := xTail hts0
  have hown : s.vm.findClass RX4 = some m.cls := xown B.named rfl
  have hlocks := B.notSynchronized
  subst hsz
  have hD := hD0.self (sz := s.heap.size)
  generalize hAe : va_A [(h0, ce271 h2 o0), (h1, ce282 (z.2.1 0) o1 h1), (h2, ce7 o2 h3 o3 h4), (h3, ce201 h5), (h4, ce226 h6), (h5, ce200 kc0 h1 h7 h8 h9 h10), (h6, ce200 kc1 h1 h7 h8 h9 h10), (h7, ce283 (z.2.1 0) o4 h7), (h8, ce284 (z.2.1 0) o5 h8), (h9, ce285 (z.2.1 0) o6 h9), (h10, ce286 (z.2.1 0) o7 h10)] s.heap.size = A at hD hX ⊢
  have hA : ∀ q : Nat, s.heap.size ≤ q → A q := fun q h => by rw [← hAe]; exact Or.inr h
  have hS : va_S A s.heap s.heap [] := va_S.rf
  have hG : s.heap.size + 0 ≤ s.heap.size := Nat.le_refl _
  have hl := lv_entry ([.ref h0, .ref h1, .int 48, .int 0]) (n := 6) (Nat.le_of_ble_eq_true rfl)
  rw [lg_entry_eq]
  generalize (lg_sl ([.ref h0, .ref h1, .int 48, .int 0]) ++ List.replicate (6 - (lg_sl ([.ref h0, .ref h1, .int 48, .int 0])).length) Slot.unset).toArray = ls at hl ⊢
  have hl : lv_has ls 6 [(0, .ref h0), (1, .ref h1), (2, .int 48), (3, .int 0)] := hl
  refine lv_aload_n hx hb dX4_isStuckShown_0 rfl (lv_at hl 0 rfl) ?_
  refine lv_iload_n hx hb dX4_isStuckShown_1 rfl (lv_at hl 3 rfl) ?_
  refine lv_null hx hb dX4_isStuckShown_2 ?_
  refine lv_bipush (v := 120) hx hb dX4_isStuckShown_3 (by decide) ?_
  have hM3 := k572_tryRow l hl9 dC dI z h0 h2 h3 h4 h5 h6 h1 h7 h8 h9 h10 o0 o2 o3 o1 o4 o5 o6 o7 s.heap.size kc0 kc1
  obtain ⟨hF1, hC4⟩ := pc_M hM3 hP hD hK hS hX hT hA [0, 2, 3, 4, 5, 6, 1, 7, 8, 9, 10] [0, 1] rfl rfl rfl
  refine va_callv (va_runV (As := [.int 0, .null, .int 120]) (rest := []) ⟨hx, hb, hml, hown, hts⟩ hM3 (cwV 3 hts (gV q_388 q_389 q_390 q_46 q_387) rfl rfl rfl hV_X4_tryRow ⟨Nat.le_of_ble_eq_true rfl, Nat.le_of_ble_eq_true rfl⟩) ⟨pc_blind, va_recv hK hP (ci := 4) (q := (RX4, TX4, 3)) (q0 := 0) rfl rfl, fun U hU hW => ⟨rfl, hC4 U hU hW⟩⟩ rfl rfl hl.1 rfl (lv_room (Nat.le_of_ble_eq_true rfl)) dX4_isStuckShown_5 ⟨(Nat.le_of_ble_eq_true rfl), (Nat.le_of_ble_eq_true rfl)⟩) hS (fun q9 _ h9 => hF1 q9 h9) hF1 (fun u5 t5 H5 L5 ht5 hvm5 hw5 hB5 hz5 hk5 hS => ?_)
  have hP := pq_keep hP hD [0, 2, 3, 4, 5, 6, 1, 7, 8, 9, 10] rfl hk5 hB5.1 ht5
  have hG : s.heap.size + 0 ≤ H5.size := Nat.le_trans hG hz5
  refine lv_aload_n hx hb dX4_isStuckShown_8 rfl (lv_at hl 1 rfl) ?_
  refine va_get (D := (dC, dI)) (ci := 3) (v := .int 48) (C := RX2) (T := TX2) (N := 19) hx hb hts in_X2 hown hK hP 1 rfl rfl 11 (by decide) (hts _ q_385) (fun _ h9 => h9) rfl dX4_isStuckShown_9 ?_
  refine lv_iload_n hx hb dX4_isStuckShown_12 rfl (lv_at hl 2 rfl) ?_
  refine lv_icmp_ne (tgt := 18) hx hb dX4_isStuckShown_13 (by decide) (fun cz => absurd (by decide) cz) (fun _ => ?_)
  refine lv_iconst (v := 0) hx hb dX4_isStuckShown_16 (by decide) ?_
  exact W.zret (v := 0) (ty := .boolean) hx hb hr rfl (fun t9 ht9 hW9 => ⟨⟨0, (), rfl, rfl, ⟨pq_mk2 hP hD hK [0, 1, 2, 3, 4, 5, 6, 7, 8, 9, 10] [0, 1] rfl rfl rfl ht9 hW9, by rw [ht9]; exact Nat.le_trans (Nat.add_le_add_left (Nat.le_of_ble_eq_true rfl) _) hG⟩⟩, hS.F ht9⟩) hS.2.2 dX4_isStuckShown_17

set_option maxHeartbeats 4000000 in
set_option maxRecDepth 100000 in
theorem k672_isShownBySomeTest (l : Launch) (hl9 : l.stackTraces = false) (dC : Nat → ClassId) (dI : Nat → Nat → Nat) (z : XZ) (h0 h1 h2 h3 h4 h5 h6 h7 h8 h9 h10 h11 : Nat) (o0 o1 o2 o3 o4 o5 o6 : Nat) (sz : Nat) (kc0 kc1 kc2 : ClassId) : Met l yX4_isShownBySomeTest (.code yX4_isShownBySomeTest cX4_isShownBySomeTest 4 (some .boolean) :: wsL_law) ({ frames := 6, cells := 0, slots := 0, locals := 137 }) (va_Pc [.ref h0, .ref h1, .int 48] (PC (dC, dI) [(h0, ce271 h2 h3), (h1, ce282 (z.2.1 0) o0 h1), (h2, ce7 o1 h4 o2 h5), (h3, ce270 kc0), (h4, ce201 h6), (h5, ce226 h7), (h6, ce200 kc1 h1 h8 h9 h10 h11), (h7, ce200 kc2 h1 h8 h9 h10 h11), (h8, ce283 (z.2.1 0) o3 h8), (h9, ce284 (z.2.1 0) o4 h9), (h10, ce285 (z.2.1 0) o5 h10), (h11, ce291 (z.2.1 0) o6 h11)] [(kc0, .int), (kc1, .object "java/lang/Object"), (kc2, .object "java/lang/Object")] sz z)) (va_Qi (fun (r : Int32) (_ : Unit) => r = 0) (fun (_ : Unit) (t : State) => PG (dC, dI) [(h0, ce271 h2 h3), (h1, ce282 (z.2.1 0) o0 h1), (h2, ce7 o1 h4 o2 h5), (h3, ce270 kc0), (h4, ce201 h6), (h5, ce226 h7), (h6, ce200 kc1 h1 h8 h9 h10 h11), (h7, ce200 kc2 h1 h8 h9 h10 h11), (h8, ce283 (z.2.1 0) o3 h8), (h9, ce284 (z.2.1 0) o4 h9), (h10, ce285 (z.2.1 0) o5 h10), (h11, ce286 (z.2.1 0) o6 h11)] [(kc0, .int), (kc1, .object "java/lang/Object"), (kc2, .object "java/lang/Object")] (va_A [(h0, ce271 h2 h3), (h1, ce282 (z.2.1 0) o0 h1), (h2, ce7 o1 h4 o2 h5), (h3, ce270 kc0), (h4, ce201 h6), (h5, ce226 h7), (h6, ce200 kc1 h1 h8 h9 h10 h11), (h7, ce200 kc2 h1 h8 h9 h10 h11), (h8, ce283 (z.2.1 0) o3 h8), (h9, ce284 (z.2.1 0) o4 h9), (h10, ce285 (z.2.1 0) o5 h10), (h11, ce291 (z.2.1 0) o6 h11)] sz) sz 0 t) (va_A [(h0, ce271 h2 h3), (h1, ce282 (z.2.1 0) o0 h1), (h2, ce7 o1 h4 o2 h5), (h3, ce270 kc0), (h4, ce201 h6), (h5, ce226 h7), (h6, ce200 kc1 h1 h8 h9 h10 h11), (h7, ce200 kc2 h1 h8 h9 h10 h11), (h8, ce283 (z.2.1 0) o3 h8), (h9, ce284 (z.2.1 0) o4 h9), (h10, ce285 (z.2.1 0) o5 h10), (h11, ce291 (z.2.1 0) o6 h11)] sz)) 0 0 (va_A [(h0, ce271 h2 h3), (h1, ce282 (z.2.1 0) o0 h1), (h2, ce7 o1 h4 o2 h5), (h3, ce270 kc0), (h4, ce201 h6), (h5, ce226 h7), (h6, ce200 kc1 h1 h8 h9 h10 h11), (h7, ce200 kc2 h1 h8 h9 h10 h11), (h8, ce283 (z.2.1 0) o3 h8), (h9, ce284 (z.2.1 0) o4 h9), (h10, ce285 (z.2.1 0) o5 h10), (h11, ce291 (z.2.1 0) o6 h11)] sz) := by
  refine Met.ofW (cc := cX4_isShownBySomeTest) (maxL := 4) (ret := (some .boolean)) (by decide) rfl ?_
  intro p e s m args below meth c s₁ B hml hv
  obtain ⟨rfl, hsz, hP, hK, hD0, hX, hT⟩ := hv
  have hx := B.exec
  have hb := B.bytes
  have hr := B.returns
  have hts0 := atoms_spec (ws := .code yX4_isShownBySomeTest cX4_isShownBySomeTest 4 (some .boolean) :: wsL_law) B.pre
  have hts := xTail hts0
  have hown : s.vm.findClass RX4 = some m.cls := xown B.named rfl
  have hlocks := B.notSynchronized
  subst hsz
  have hD := hD0.self (sz := s.heap.size)
  generalize hAe : va_A [(h0, ce271 h2 h3), (h1, ce282 (z.2.1 0) o0 h1), (h2, ce7 o1 h4 o2 h5), (h3, ce270 kc0), (h4, ce201 h6), (h5, ce226 h7), (h6, ce200 kc1 h1 h8 h9 h10 h11), (h7, ce200 kc2 h1 h8 h9 h10 h11), (h8, ce283 (z.2.1 0) o3 h8), (h9, ce284 (z.2.1 0) o4 h9), (h10, ce285 (z.2.1 0) o5 h10), (h11, ce291 (z.2.1 0) o6 h11)] s.heap.size = A at hD hX ⊢
  have hA : ∀ q : Nat, s.heap.size ≤ q → A q := fun q h => by rw [← hAe]; exact Or.inr h
  have hS : va_S A s.heap s.heap [] := va_S.rf
  have hG : s.heap.size + 0 ≤ s.heap.size := Nat.le_refl _
  have hl := lv_entry ([.ref h0, .ref h1, .int 48]) (n := 4) (Nat.le_of_ble_eq_true rfl)
  rw [lg_entry_eq]
  generalize (lg_sl ([.ref h0, .ref h1, .int 48]) ++ List.replicate (4 - (lg_sl ([.ref h0, .ref h1, .int 48])).length) Slot.unset).toArray = ls at hl ⊢
  have hl : lv_has ls 4 [(0, .ref h0), (1, .ref h1), (2, .int 48)] := hl
  refine lv_iconst (v := 0) hx hb dX4_isShownBySomeTest_0 (by decide) ?_
  refine lv_istore_n (lv' := [(3, .int 0), (0, .ref h0), (1, .ref h1), (2, .int 48)]) hx hb dX4_isShownBySomeTest_1 rfl hl (by decide) rfl (fun ls hl => ?_)
  refine lv_iload_n hx hb dX4_isShownBySomeTest_2 rfl (lv_at hl 0 rfl) ?_
  refine lv_aload_n hx hb dX4_isShownBySomeTest_3 rfl (lv_at hl 1 rfl) ?_
  refine va_get (D := (dC, dI)) (ci := 4) (v := .int 7) (C := RX4) (T := TX4) (N := 3) hx hb hts in_X4 hown hK hP 0 rfl rfl 2 (by decide) (hts _ q_358) (fun _ h9 => h9) rfl dX4_isShownBySomeTest_4 ?_
  refine lv_icmp_ge (tgt := 42) hx hb dX4_isShownBySomeTest_7 (by decide) (fun cz => absurd cz (by decide)) (fun _ => ?_)
  refine lv_iload_n hx hb dX4_isShownBySomeTest_10 rfl (lv_at hl 0 rfl) ?_
  refine lv_aload_n hx hb dX4_isShownBySomeTest_11 rfl (lv_at hl 1 rfl) ?_
  refine va_get (D := (dC, dI)) (ci := 4) (v := .ref h3) (C := RX4) (T := TX4) (N := 3) hx hb hts in_X4 hown hK hP 0 rfl rfl 1 (by decide) (hts _ q_49) (fun _ h9 => h9) rfl dX4_isShownBySomeTest_12 ?_
  refine va_alen hx hb hK hP 3 0 rfl rfl (v := 8) rfl dX4_isShownBySomeTest_15 ?_
  refine lv_icmp_ge (tgt := 42) hx hb dX4_isShownBySomeTest_16 (by decide) (fun cz => absurd cz (by decide)) (fun _ => ?_)
  refine lv_aload_n hx hb dX4_isShownBySomeTest_19 rfl (lv_at hl 1 rfl) ?_
  refine lv_aload_n hx hb dX4_isShownBySomeTest_20 rfl (lv_at hl 2 rfl) ?_
  refine lv_iload_n hx hb dX4_isShownBySomeTest_21 rfl (lv_at hl 3 rfl) ?_
  refine lv_aload_n hx hb dX4_isShownBySomeTest_22 rfl (lv_at hl 1 rfl) ?_
  refine va_get (D := (dC, dI)) (ci := 4) (v := .ref h3) (C := RX4) (T := TX4) (N := 3) hx hb hts in_X4 hown hK hP 0 rfl rfl 1 (by decide) (hts _ q_49) (fun _ h9 => h9) rfl dX4_isShownBySomeTest_23 ?_
  refine lv_iload_n hx hb dX4_isShownBySomeTest_26 rfl (lv_at hl 0 rfl) ?_
  refine va_iald hx hb hK hP 3 0 rfl rfl (i := 0) (by unfold vp_in; decide) dX4_isShownBySomeTest_27 ?_
  refine W.eq (g2 := F0 m 28 ls [.int 0, .int 48, .ref h1, .ref h0]) rfl ?_
  have hM3 := k670_isStuckShown l hl9 dC dI z h0 h1 h2 h4 h5 h6 h7 h8 h9 h10 h11 h3 o0 o1 o2 o3 o4 o5 o6 s.heap.size kc1 kc2
  obtain ⟨hF1, hC4⟩ := pc_M hM3 hP hD hK hS hX hT hA [0, 1, 2, 4, 5, 6, 7, 8, 9, 10, 11] [1, 2] rfl rfl rfl
  refine va_calli (va_runV (As := [.ref h1, .int 48, .int 0]) (rest := []) ⟨hx, hb, hml, hown, hts⟩ hM3 (cwV 3 hts (gV q_392 q_393 q_394 q_46 q_391) rfl rfl rfl hV_X4_isStuckShown ⟨Nat.le_of_ble_eq_true rfl, Nat.le_of_ble_eq_true rfl⟩) ⟨pc_blind, va_recv hK hP (ci := 4) (q := (RX4, TX4, 3)) (q0 := 0) rfl rfl, fun U hU hW => ⟨rfl, hC4 U hU hW⟩⟩ rfl rfl hl.1 rfl (lv_room (Nat.le_of_ble_eq_true rfl)) dX4_isShownBySomeTest_28 ⟨(Nat.le_of_ble_eq_true rfl), (Nat.le_of_ble_eq_true rfl)⟩) hS (fun q9 _ h9 => hF1 q9 h9) hF1 (fun r6 u5 t5 H5 L5 ht5 hvm5 hw5 hB5 hz5 hk5 hS => ?_)
  obtain ⟨hP, hD, hK⟩ := pq_jn (wz := [(h3, ce270 kc0), (h0, ce271 h2 h3), (h1, ce282 (z.2.1 0) o0 h1), (h2, ce7 o1 h4 o2 h5), (h4, ce201 h6), (h5, ce226 h7), (h6, ce200 kc1 h1 h8 h9 h10 h11), (h7, ce200 kc2 h1 h8 h9 h10 h11), (h8, ce283 (z.2.1 0) o3 h8), (h9, ce284 (z.2.1 0) o4 h9), (h10, ce285 (z.2.1 0) o5 h10), (h11, ce286 (z.2.1 0) o6 h11)]) (tz := [(kc0, .int), (kc1, .object "java/lang/Object"), (kc2, .object "java/lang/Object")]) hP hD hK [0, 1, 2, 4, 5, 6, 7, 8, 9, 10, 11] [0] rfl hk5 hF1 hB5.1 ht5 hvm5 rfl rfl
  have hG : s.heap.size + 0 ≤ H5.size := Nat.le_trans hG hz5
  refine W.eq (g2 := F0 m 31 ls [.int 0]) (by rw [hw5]) ?_
  refine lv_if_eq (tgt := 36) hx hb dX4_isShownBySomeTest_31 (by decide) (fun _ => ?_) (fun cz => absurd (by decide) cz)
  refine lv_iinc (v := 1) (lv' := [(3, .int 1), (0, .ref h0), (1, .ref h1), (2, .int 48)]) hx hb dX4_isShownBySomeTest_36 hl (k := 0) rfl (by decide) (by decide) rfl (fun ls hl => ?_)
  refine lv_goto (tgt := 2) hx hb dX4_isShownBySomeTest_39 (by decide) ?_
  refine lv_iload_n hx hb dX4_isShownBySomeTest_2 rfl (lv_at hl 0 rfl) ?_
  refine lv_aload_n hx hb dX4_isShownBySomeTest_3 rfl (lv_at hl 1 rfl) ?_
  refine va_get (D := (dC, dI)) (ci := 4) (v := .int 7) (C := RX4) (T := TX4) (N := 3) hx hb hts in_X4 hown hK hP 1 rfl rfl 2 (by decide) (hts _ q_358) (fun _ h9 => h9) rfl dX4_isShownBySomeTest_4 ?_
  refine lv_icmp_ge (tgt := 42) hx hb dX4_isShownBySomeTest_7 (by decide) (fun cz => absurd cz (by decide)) (fun _ => ?_)
  refine lv_iload_n hx hb dX4_isShownBySomeTest_10 rfl (lv_at hl 0 rfl) ?_
  refine lv_aload_n hx hb dX4_isShownBySomeTest_11 rfl (lv_at hl 1 rfl) ?_
  refine va_get (D := (dC, dI)) (ci := 4) (v := .ref h3) (C := RX4) (T := TX4) (N := 3) hx hb hts in_X4 hown hK hP 1 rfl rfl 1 (by decide) (hts _ q_49) (fun _ h9 => h9) rfl dX4_isShownBySomeTest_12 ?_
  refine va_alen hx hb hK hP 0 0 rfl rfl (v := 8) rfl dX4_isShownBySomeTest_15 ?_
  refine lv_icmp_ge (tgt := 42) hx hb dX4_isShownBySomeTest_16 (by decide) (fun cz => absurd cz (by decide)) (fun _ => ?_)
  refine lv_aload_n hx hb dX4_isShownBySomeTest_19 rfl (lv_at hl 1 rfl) ?_
  refine lv_aload_n hx hb dX4_isShownBySomeTest_20 rfl (lv_at hl 2 rfl) ?_
  refine lv_iload_n hx hb dX4_isShownBySomeTest_21 rfl (lv_at hl 3 rfl) ?_
  refine lv_aload_n hx hb dX4_isShownBySomeTest_22 rfl (lv_at hl 1 rfl) ?_
  refine va_get (D := (dC, dI)) (ci := 4) (v := .ref h3) (C := RX4) (T := TX4) (N := 3) hx hb hts in_X4 hown hK hP 1 rfl rfl 1 (by decide) (hts _ q_49) (fun _ h9 => h9) rfl dX4_isShownBySomeTest_23 ?_
  refine lv_iload_n hx hb dX4_isShownBySomeTest_26 rfl (lv_at hl 0 rfl) ?_
  refine va_iald hx hb hK hP 0 0 rfl rfl (i := 1) (by unfold vp_in; decide) dX4_isShownBySomeTest_27 ?_
  refine W.eq (g2 := F0 m 28 ls [.int 0, .int 48, .ref h1, .ref h0]) rfl ?_
  have hM9 := k671_isStuckShown l hl9 dC dI z h0 h1 h2 h4 h5 h6 h7 h8 h9 h10 h11 h3 o0 o1 o2 o3 o4 o5 o6 H5.size kc1 kc2
  obtain ⟨hF7, hC10⟩ := pc_M hM9 hP hD hK hS hX hT hA [1, 2, 3, 4, 5, 6, 7, 8, 9, 10, 11] [1, 2] rfl rfl rfl
  refine va_calli (va_runV (As := [.ref h1, .int 48, .int 0]) (rest := []) ⟨hx, hb, hml, hown, hts⟩ hM9 (cwV 3 hts (gV q_392 q_393 q_394 q_46 q_391) rfl rfl rfl hV_X4_isStuckShown ⟨Nat.le_of_ble_eq_true rfl, Nat.le_of_ble_eq_true rfl⟩) ⟨pc_blind, va_recv hK hP (ci := 4) (q := (RX4, TX4, 3)) (q0 := 1) rfl rfl, fun U hU hW => ⟨rfl, hC10 U hU hW⟩⟩ rfl rfl hl.1 rfl (lv_room (Nat.le_of_ble_eq_true rfl)) dX4_isShownBySomeTest_28 ⟨(Nat.le_of_ble_eq_true rfl), (Nat.le_of_ble_eq_true rfl)⟩) hS (fun q9 _ h9 => hF7 q9 h9) hF7 (fun r12 u11 t11 H11 L11 ht11 hvm11 hw11 hB11 hz11 hk11 hS => ?_)
  have hP := pq_keep hP hD [1, 2, 3, 4, 5, 6, 7, 8, 9, 10, 11] rfl hk11 hB11.1 ht11
  have hG : s.heap.size + 0 ≤ H11.size := Nat.le_trans hG hz11
  refine W.eq (g2 := F0 m 31 ls [.int 0]) (by rw [hw11]) ?_
  refine lv_if_eq (tgt := 36) hx hb dX4_isShownBySomeTest_31 (by decide) (fun _ => ?_) (fun cz => absurd (by decide) cz)
  refine lv_iinc (v := 2) (lv' := [(3, .int 2), (0, .ref h0), (1, .ref h1), (2, .int 48)]) hx hb dX4_isShownBySomeTest_36 hl (k := 0) rfl (by decide) (by decide) rfl (fun ls hl => ?_)
  refine lv_goto (tgt := 2) hx hb dX4_isShownBySomeTest_39 (by decide) ?_
  refine lv_iload_n hx hb dX4_isShownBySomeTest_2 rfl (lv_at hl 0 rfl) ?_
  refine lv_aload_n hx hb dX4_isShownBySomeTest_3 rfl (lv_at hl 1 rfl) ?_
  refine va_get (D := (dC, dI)) (ci := 4) (v := .int 7) (C := RX4) (T := TX4) (N := 3) hx hb hts in_X4 hown hK hP 1 rfl rfl 2 (by decide) (hts _ q_358) (fun _ h9 => h9) rfl dX4_isShownBySomeTest_4 ?_
  refine lv_icmp_ge (tgt := 42) hx hb dX4_isShownBySomeTest_7 (by decide) (fun cz => absurd cz (by decide)) (fun _ => ?_)
  refine lv_iload_n hx hb dX4_isShownBySomeTest_10 rfl (lv_at hl 0 rfl) ?_
  refine lv_aload_n hx hb dX4_isShownBySomeTest_11 rfl (lv_at hl 1 rfl) ?_
  refine va_get (D := (dC, dI)) (ci := 4) (v := .ref h3) (C := RX4) (T := TX4) (N := 3) hx hb hts in_X4 hown hK hP 1 rfl rfl 1 (by decide) (hts _ q_49) (fun _ h9 => h9) rfl dX4_isShownBySomeTest_12 ?_
  refine va_alen hx hb hK hP 0 0 rfl rfl (v := 8) rfl dX4_isShownBySomeTest_15 ?_
  refine lv_icmp_ge (tgt := 42) hx hb dX4_isShownBySomeTest_16 (by decide) (fun cz => absurd cz (by decide)) (fun _ => ?_)
  refine lv_aload_n hx hb dX4_isShownBySomeTest_19 rfl (lv_at hl 1 rfl) ?_
  refine lv_aload_n hx hb dX4_isShownBySomeTest_20 rfl (lv_at hl 2 rfl) ?_
  refine lv_iload_n hx hb dX4_isShownBySomeTest_21 rfl (lv_at hl 3 rfl) ?_
  refine lv_aload_n hx hb dX4_isShownBySomeTest_22 rfl (lv_at hl 1 rfl) ?_
  refine va_get (D := (dC, dI)) (ci := 4) (v := .ref h3) (C := RX4) (T := TX4) (N := 3) hx hb hts in_X4 hown hK hP 1 rfl rfl 1 (by decide) (hts _ q_49) (fun _ h9 => h9) rfl dX4_isShownBySomeTest_23 ?_
  refine lv_iload_n hx hb dX4_isShownBySomeTest_26 rfl (lv_at hl 0 rfl) ?_
  refine va_iald hx hb hK hP 0 0 rfl rfl (i := 2) (by unfold vp_in; decide) dX4_isShownBySomeTest_27 ?_
  refine W.eq (g2 := F0 m 28 ls [.int 0, .int 48, .ref h1, .ref h0]) rfl ?_
  have hM15 := k671_isStuckShown l hl9 dC dI z h0 h1 h2 h4 h5 h6 h7 h8 h9 h10 h11 h3 o0 o1 o2 o3 o4 o5 o6 H11.size kc1 kc2
  obtain ⟨hF13, hC16⟩ := pc_M hM15 hP hD hK hS hX hT hA [1, 2, 3, 4, 5, 6, 7, 8, 9, 10, 11] [1, 2] rfl rfl rfl
  refine va_calli (va_runV (As := [.ref h1, .int 48, .int 0]) (rest := []) ⟨hx, hb, hml, hown, hts⟩ hM15 (cwV 3 hts (gV q_392 q_393 q_394 q_46 q_391) rfl rfl rfl hV_X4_isStuckShown ⟨Nat.le_of_ble_eq_true rfl, Nat.le_of_ble_eq_true rfl⟩) ⟨pc_blind, va_recv hK hP (ci := 4) (q := (RX4, TX4, 3)) (q0 := 1) rfl rfl, fun U hU hW => ⟨rfl, hC16 U hU hW⟩⟩ rfl rfl hl.1 rfl (lv_room (Nat.le_of_ble_eq_true rfl)) dX4_isShownBySomeTest_28 ⟨(Nat.le_of_ble_eq_true rfl), (Nat.le_of_ble_eq_true rfl)⟩) hS (fun q9 _ h9 => hF13 q9 h9) hF13 (fun r18 u17 t17 H17 L17 ht17 hvm17 hw17 hB17 hz17 hk17 hS => ?_)
  have hP := pq_keep hP hD [1, 2, 3, 4, 5, 6, 7, 8, 9, 10, 11] rfl hk17 hB17.1 ht17
  have hG : s.heap.size + 0 ≤ H17.size := Nat.le_trans hG hz17
  refine W.eq (g2 := F0 m 31 ls [.int 0]) (by rw [hw17]) ?_
  refine lv_if_eq (tgt := 36) hx hb dX4_isShownBySomeTest_31 (by decide) (fun _ => ?_) (fun cz => absurd (by decide) cz)
  refine lv_iinc (v := 3) (lv' := [(3, .int 3), (0, .ref h0), (1, .ref h1), (2, .int 48)]) hx hb dX4_isShownBySomeTest_36 hl (k := 0) rfl (by decide) (by decide) rfl (fun ls hl => ?_)
  refine lv_goto (tgt := 2) hx hb dX4_isShownBySomeTest_39 (by decide) ?_
  refine lv_iload_n hx hb dX4_isShownBySomeTest_2 rfl (lv_at hl 0 rfl) ?_
  refine lv_aload_n hx hb dX4_isShownBySomeTest_3 rfl (lv_at hl 1 rfl) ?_
  refine va_get (D := (dC, dI)) (ci := 4) (v := .int 7) (C := RX4) (T := TX4) (N := 3) hx hb hts in_X4 hown hK hP 1 rfl rfl 2 (by decide) (hts _ q_358) (fun _ h9 => h9) rfl dX4_isShownBySomeTest_4 ?_
  refine lv_icmp_ge (tgt := 42) hx hb dX4_isShownBySomeTest_7 (by decide) (fun cz => absurd cz (by decide)) (fun _ => ?_)
  refine lv_iload_n hx hb dX4_isShownBySomeTest_10 rfl (lv_at hl 0 rfl) ?_
  refine lv_aload_n hx hb dX4_isShownBySomeTest_11 rfl (lv_at hl 1 rfl) ?_
  refine va_get (D := (dC, dI)) (ci := 4) (v := .ref h3) (C := RX4) (T := TX4) (N := 3) hx hb hts in_X4 hown hK hP 1 rfl rfl 1 (by decide) (hts _ q_49) (fun _ h9 => h9) rfl dX4_isShownBySomeTest_12 ?_
  refine va_alen hx hb hK hP 0 0 rfl rfl (v := 8) rfl dX4_isShownBySomeTest_15 ?_
  refine lv_icmp_ge (tgt := 42) hx hb dX4_isShownBySomeTest_16 (by decide) (fun cz => absurd cz (by decide)) (fun _ => ?_)
  refine lv_aload_n hx hb dX4_isShownBySomeTest_19 rfl (lv_at hl 1 rfl) ?_
  refine lv_aload_n hx hb dX4_isShownBySomeTest_20 rfl (lv_at hl 2 rfl) ?_
  refine lv_iload_n hx hb dX4_isShownBySomeTest_21 rfl (lv_at hl 3 rfl) ?_
  refine lv_aload_n hx hb dX4_isShownBySomeTest_22 rfl (lv_at hl 1 rfl) ?_
  refine va_get (D := (dC, dI)) (ci := 4) (v := .ref h3) (C := RX4) (T := TX4) (N := 3) hx hb hts in_X4 hown hK hP 1 rfl rfl 1 (by decide) (hts _ q_49) (fun _ h9 => h9) rfl dX4_isShownBySomeTest_23 ?_
  refine lv_iload_n hx hb dX4_isShownBySomeTest_26 rfl (lv_at hl 0 rfl) ?_
  refine va_iald hx hb hK hP 0 0 rfl rfl (i := 3) (by unfold vp_in; decide) dX4_isShownBySomeTest_27 ?_
  refine W.eq (g2 := F0 m 28 ls [.int 0, .int 48, .ref h1, .ref h0]) rfl ?_
  have hM21 := k671_isStuckShown l hl9 dC dI z h0 h1 h2 h4 h5 h6 h7 h8 h9 h10 h11 h3 o0 o1 o2 o3 o4 o5 o6 H17.size kc1 kc2
  obtain ⟨hF19, hC22⟩ := pc_M hM21 hP hD hK hS hX hT hA [1, 2, 3, 4, 5, 6, 7, 8, 9, 10, 11] [1, 2] rfl rfl rfl
  refine va_calli (va_runV (As := [.ref h1, .int 48, .int 0]) (rest := []) ⟨hx, hb, hml, hown, hts⟩ hM21 (cwV 3 hts (gV q_392 q_393 q_394 q_46 q_391) rfl rfl rfl hV_X4_isStuckShown ⟨Nat.le_of_ble_eq_true rfl, Nat.le_of_ble_eq_true rfl⟩) ⟨pc_blind, va_recv hK hP (ci := 4) (q := (RX4, TX4, 3)) (q0 := 1) rfl rfl, fun U hU hW => ⟨rfl, hC22 U hU hW⟩⟩ rfl rfl hl.1 rfl (lv_room (Nat.le_of_ble_eq_true rfl)) dX4_isShownBySomeTest_28 ⟨(Nat.le_of_ble_eq_true rfl), (Nat.le_of_ble_eq_true rfl)⟩) hS (fun q9 _ h9 => hF19 q9 h9) hF19 (fun r24 u23 t23 H23 L23 ht23 hvm23 hw23 hB23 hz23 hk23 hS => ?_)
  have hP := pq_keep hP hD [1, 2, 3, 4, 5, 6, 7, 8, 9, 10, 11] rfl hk23 hB23.1 ht23
  have hG : s.heap.size + 0 ≤ H23.size := Nat.le_trans hG hz23
  refine W.eq (g2 := F0 m 31 ls [.int 0]) (by rw [hw23]) ?_
  refine lv_if_eq (tgt := 36) hx hb dX4_isShownBySomeTest_31 (by decide) (fun _ => ?_) (fun cz => absurd (by decide) cz)
  refine lv_iinc (v := 4) (lv' := [(3, .int 4), (0, .ref h0), (1, .ref h1), (2, .int 48)]) hx hb dX4_isShownBySomeTest_36 hl (k := 0) rfl (by decide) (by decide) rfl (fun ls hl => ?_)
  refine lv_goto (tgt := 2) hx hb dX4_isShownBySomeTest_39 (by decide) ?_
  refine lv_iload_n hx hb dX4_isShownBySomeTest_2 rfl (lv_at hl 0 rfl) ?_
  refine lv_aload_n hx hb dX4_isShownBySomeTest_3 rfl (lv_at hl 1 rfl) ?_
  refine va_get (D := (dC, dI)) (ci := 4) (v := .int 7) (C := RX4) (T := TX4) (N := 3) hx hb hts in_X4 hown hK hP 1 rfl rfl 2 (by decide) (hts _ q_358) (fun _ h9 => h9) rfl dX4_isShownBySomeTest_4 ?_
  refine lv_icmp_ge (tgt := 42) hx hb dX4_isShownBySomeTest_7 (by decide) (fun cz => absurd cz (by decide)) (fun _ => ?_)
  refine lv_iload_n hx hb dX4_isShownBySomeTest_10 rfl (lv_at hl 0 rfl) ?_
  refine lv_aload_n hx hb dX4_isShownBySomeTest_11 rfl (lv_at hl 1 rfl) ?_
  refine va_get (D := (dC, dI)) (ci := 4) (v := .ref h3) (C := RX4) (T := TX4) (N := 3) hx hb hts in_X4 hown hK hP 1 rfl rfl 1 (by decide) (hts _ q_49) (fun _ h9 => h9) rfl dX4_isShownBySomeTest_12 ?_
  refine va_alen hx hb hK hP 0 0 rfl rfl (v := 8) rfl dX4_isShownBySomeTest_15 ?_
  refine lv_icmp_ge (tgt := 42) hx hb dX4_isShownBySomeTest_16 (by decide) (fun cz => absurd cz (by decide)) (fun _ => ?_)
  refine lv_aload_n hx hb dX4_isShownBySomeTest_19 rfl (lv_at hl 1 rfl) ?_
  refine lv_aload_n hx hb dX4_isShownBySomeTest_20 rfl (lv_at hl 2 rfl) ?_
  refine lv_iload_n hx hb dX4_isShownBySomeTest_21 rfl (lv_at hl 3 rfl) ?_
  refine lv_aload_n hx hb dX4_isShownBySomeTest_22 rfl (lv_at hl 1 rfl) ?_
  refine va_get (D := (dC, dI)) (ci := 4) (v := .ref h3) (C := RX4) (T := TX4) (N := 3) hx hb hts in_X4 hown hK hP 1 rfl rfl 1 (by decide) (hts _ q_49) (fun _ h9 => h9) rfl dX4_isShownBySomeTest_23 ?_
  refine lv_iload_n hx hb dX4_isShownBySomeTest_26 rfl (lv_at hl 0 rfl) ?_
  refine va_iald hx hb hK hP 0 0 rfl rfl (i := 4) (by unfold vp_in; decide) dX4_isShownBySomeTest_27 ?_
  refine W.eq (g2 := F0 m 28 ls [.int 0, .int 48, .ref h1, .ref h0]) rfl ?_
  have hM27 := k671_isStuckShown l hl9 dC dI z h0 h1 h2 h4 h5 h6 h7 h8 h9 h10 h11 h3 o0 o1 o2 o3 o4 o5 o6 H23.size kc1 kc2
  obtain ⟨hF25, hC28⟩ := pc_M hM27 hP hD hK hS hX hT hA [1, 2, 3, 4, 5, 6, 7, 8, 9, 10, 11] [1, 2] rfl rfl rfl
  refine va_calli (va_runV (As := [.ref h1, .int 48, .int 0]) (rest := []) ⟨hx, hb, hml, hown, hts⟩ hM27 (cwV 3 hts (gV q_392 q_393 q_394 q_46 q_391) rfl rfl rfl hV_X4_isStuckShown ⟨Nat.le_of_ble_eq_true rfl, Nat.le_of_ble_eq_true rfl⟩) ⟨pc_blind, va_recv hK hP (ci := 4) (q := (RX4, TX4, 3)) (q0 := 1) rfl rfl, fun U hU hW => ⟨rfl, hC28 U hU hW⟩⟩ rfl rfl hl.1 rfl (lv_room (Nat.le_of_ble_eq_true rfl)) dX4_isShownBySomeTest_28 ⟨(Nat.le_of_ble_eq_true rfl), (Nat.le_of_ble_eq_true rfl)⟩) hS (fun q9 _ h9 => hF25 q9 h9) hF25 (fun r30 u29 t29 H29 L29 ht29 hvm29 hw29 hB29 hz29 hk29 hS => ?_)
  have hP := pq_keep hP hD [1, 2, 3, 4, 5, 6, 7, 8, 9, 10, 11] rfl hk29 hB29.1 ht29
  have hG : s.heap.size + 0 ≤ H29.size := Nat.le_trans hG hz29
  refine W.eq (g2 := F0 m 31 ls [.int 0]) (by rw [hw29]) ?_
  refine lv_if_eq (tgt := 36) hx hb dX4_isShownBySomeTest_31 (by decide) (fun _ => ?_) (fun cz => absurd (by decide) cz)
  refine lv_iinc (v := 5) (lv' := [(3, .int 5), (0, .ref h0), (1, .ref h1), (2, .int 48)]) hx hb dX4_isShownBySomeTest_36 hl (k := 0) rfl (by decide) (by decide) rfl (fun ls hl => ?_)
  refine lv_goto (tgt := 2) hx hb dX4_isShownBySomeTest_39 (by decide) ?_
  refine lv_iload_n hx hb dX4_isShownBySomeTest_2 rfl (lv_at hl 0 rfl) ?_
  refine lv_aload_n hx hb dX4_isShownBySomeTest_3 rfl (lv_at hl 1 rfl) ?_
  refine va_get (D := (dC, dI)) (ci := 4) (v := .int 7) (C := RX4) (T := TX4) (N := 3) hx hb hts in_X4 hown hK hP 1 rfl rfl 2 (by decide) (hts _ q_358) (fun _ h9 => h9) rfl dX4_isShownBySomeTest_4 ?_
  refine lv_icmp_ge (tgt := 42) hx hb dX4_isShownBySomeTest_7 (by decide) (fun cz => absurd cz (by decide)) (fun _ => ?_)
  refine lv_iload_n hx hb dX4_isShownBySomeTest_10 rfl (lv_at hl 0 rfl) ?_
  refine lv_aload_n hx hb dX4_isShownBySomeTest_11 rfl (lv_at hl 1 rfl) ?_
  refine va_get (D := (dC, dI)) (ci := 4) (v := .ref h3) (C := RX4) (T := TX4) (N := 3) hx hb hts in_X4 hown hK hP 1 rfl rfl 1 (by decide) (hts _ q_49) (fun _ h9 => h9) rfl dX4_isShownBySomeTest_12 ?_
  refine va_alen hx hb hK hP 0 0 rfl rfl (v := 8) rfl dX4_isShownBySomeTest_15 ?_
  refine lv_icmp_ge (tgt := 42) hx hb dX4_isShownBySomeTest_16 (by decide) (fun cz => absurd cz (by decide)) (fun _ => ?_)
  refine lv_aload_n hx hb dX4_isShownBySomeTest_19 rfl (lv_at hl 1 rfl) ?_
  refine lv_aload_n hx hb dX4_isShownBySomeTest_20 rfl (lv_at hl 2 rfl) ?_
  refine lv_iload_n hx hb dX4_isShownBySomeTest_21 rfl (lv_at hl 3 rfl) ?_
  refine lv_aload_n hx hb dX4_isShownBySomeTest_22 rfl (lv_at hl 1 rfl) ?_
  refine va_get (D := (dC, dI)) (ci := 4) (v := .ref h3) (C := RX4) (T := TX4) (N := 3) hx hb hts in_X4 hown hK hP 1 rfl rfl 1 (by decide) (hts _ q_49) (fun _ h9 => h9) rfl dX4_isShownBySomeTest_23 ?_
  refine lv_iload_n hx hb dX4_isShownBySomeTest_26 rfl (lv_at hl 0 rfl) ?_
  refine va_iald hx hb hK hP 0 0 rfl rfl (i := 5) (by unfold vp_in; decide) dX4_isShownBySomeTest_27 ?_
  refine W.eq (g2 := F0 m 28 ls [.int 0, .int 48, .ref h1, .ref h0]) rfl ?_
  have hM33 := k671_isStuckShown l hl9 dC dI z h0 h1 h2 h4 h5 h6 h7 h8 h9 h10 h11 h3 o0 o1 o2 o3 o4 o5 o6 H29.size kc1 kc2
  obtain ⟨hF31, hC34⟩ := pc_M hM33 hP hD hK hS hX hT hA [1, 2, 3, 4, 5, 6, 7, 8, 9, 10, 11] [1, 2] rfl rfl rfl
  refine va_calli (va_runV (As := [.ref h1, .int 48, .int 0]) (rest := []) ⟨hx, hb, hml, hown, hts⟩ hM33 (cwV 3 hts (gV q_392 q_393 q_394 q_46 q_391) rfl rfl rfl hV_X4_isStuckShown ⟨Nat.le_of_ble_eq_true rfl, Nat.le_of_ble_eq_true rfl⟩) ⟨pc_blind, va_recv hK hP (ci := 4) (q := (RX4, TX4, 3)) (q0 := 1) rfl rfl, fun U hU hW => ⟨rfl, hC34 U hU hW⟩⟩ rfl rfl hl.1 rfl (lv_room (Nat.le_of_ble_eq_true rfl)) dX4_isShownBySomeTest_28 ⟨(Nat.le_of_ble_eq_true rfl), (Nat.le_of_ble_eq_true rfl)⟩) hS (fun q9 _ h9 => hF31 q9 h9) hF31 (fun r36 u35 t35 H35 L35 ht35 hvm35 hw35 hB35 hz35 hk35 hS => ?_)
  have hP := pq_keep hP hD [1, 2, 3, 4, 5, 6, 7, 8, 9, 10, 11] rfl hk35 hB35.1 ht35
  have hG : s.heap.size + 0 ≤ H35.size := Nat.le_trans hG hz35
  refine W.eq (g2 := F0 m 31 ls [.int 0]) (by rw [hw35]) ?_
  refine lv_if_eq (tgt := 36) hx hb dX4_isShownBySomeTest_31 (by decide) (fun _ => ?_) (fun cz => absurd (by decide) cz)
  refine lv_iinc (v := 6) (lv' := [(3, .int 6), (0, .ref h0), (1, .ref h1), (2, .int 48)]) hx hb dX4_isShownBySomeTest_36 hl (k := 0) rfl (by decide) (by decide) rfl (fun ls hl => ?_)
  refine lv_goto (tgt := 2) hx hb dX4_isShownBySomeTest_39 (by decide) ?_
  refine lv_iload_n hx hb dX4_isShownBySomeTest_2 rfl (lv_at hl 0 rfl) ?_
  refine lv_aload_n hx hb dX4_isShownBySomeTest_3 rfl (lv_at hl 1 rfl) ?_
  refine va_get (D := (dC, dI)) (ci := 4) (v := .int 7) (C := RX4) (T := TX4) (N := 3) hx hb hts in_X4 hown hK hP 1 rfl rfl 2 (by decide) (hts _ q_358) (fun _ h9 => h9) rfl dX4_isShownBySomeTest_4 ?_
  refine lv_icmp_ge (tgt := 42) hx hb dX4_isShownBySomeTest_7 (by decide) (fun cz => absurd cz (by decide)) (fun _ => ?_)
  refine lv_iload_n hx hb dX4_isShownBySomeTest_10 rfl (lv_at hl 0 rfl) ?_
  refine lv_aload_n hx hb dX4_isShownBySomeTest_11 rfl (lv_at hl 1 rfl) ?_
  refine va_get (D := (dC, dI)) (ci := 4) (v := .ref h3) (C := RX4) (T := TX4) (N := 3) hx hb hts in_X4 hown hK hP 1 rfl rfl 1 (by decide) (hts _ q_49) (fun _ h9 => h9) rfl dX4_isShownBySomeTest_12 ?_
  refine va_alen hx hb hK hP 0 0 rfl rfl (v := 8) rfl dX4_isShownBySomeTest_15 ?_
  refine lv_icmp_ge (tgt := 42) hx hb dX4_isShownBySomeTest_16 (by decide) (fun cz => absurd cz (by decide)) (fun _ => ?_)
  refine lv_aload_n hx hb dX4_isShownBySomeTest_19 rfl (lv_at hl 1 rfl) ?_
  refine lv_aload_n hx hb dX4_isShownBySomeTest_20 rfl (lv_at hl 2 rfl) ?_
  refine lv_iload_n hx hb dX4_isShownBySomeTest_21 rfl (lv_at hl 3 rfl) ?_
  refine lv_aload_n hx hb dX4_isShownBySomeTest_22 rfl (lv_at hl 1 rfl) ?_
  refine va_get (D := (dC, dI)) (ci := 4) (v := .ref h3) (C := RX4) (T := TX4) (N := 3) hx hb hts in_X4 hown hK hP 1 rfl rfl 1 (by decide) (hts _ q_49) (fun _ h9 => h9) rfl dX4_isShownBySomeTest_23 ?_
  refine lv_iload_n hx hb dX4_isShownBySomeTest_26 rfl (lv_at hl 0 rfl) ?_
  refine va_iald hx hb hK hP 0 0 rfl rfl (i := 6) (by unfold vp_in; decide) dX4_isShownBySomeTest_27 ?_
  refine W.eq (g2 := F0 m 28 ls [.int 0, .int 48, .ref h1, .ref h0]) rfl ?_
  have hM39 := k671_isStuckShown l hl9 dC dI z h0 h1 h2 h4 h5 h6 h7 h8 h9 h10 h11 h3 o0 o1 o2 o3 o4 o5 o6 H35.size kc1 kc2
  obtain ⟨hF37, hC40⟩ := pc_M hM39 hP hD hK hS hX hT hA [1, 2, 3, 4, 5, 6, 7, 8, 9, 10, 11] [1, 2] rfl rfl rfl
  refine va_calli (va_runV (As := [.ref h1, .int 48, .int 0]) (rest := []) ⟨hx, hb, hml, hown, hts⟩ hM39 (cwV 3 hts (gV q_392 q_393 q_394 q_46 q_391) rfl rfl rfl hV_X4_isStuckShown ⟨Nat.le_of_ble_eq_true rfl, Nat.le_of_ble_eq_true rfl⟩) ⟨pc_blind, va_recv hK hP (ci := 4) (q := (RX4, TX4, 3)) (q0 := 1) rfl rfl, fun U hU hW => ⟨rfl, hC40 U hU hW⟩⟩ rfl rfl hl.1 rfl (lv_room (Nat.le_of_ble_eq_true rfl)) dX4_isShownBySomeTest_28 ⟨(Nat.le_of_ble_eq_true rfl), (Nat.le_of_ble_eq_true rfl)⟩) hS (fun q9 _ h9 => hF37 q9 h9) hF37 (fun r42 u41 t41 H41 L41 ht41 hvm41 hw41 hB41 hz41 hk41 hS => ?_)
  have hP := pq_keep hP hD [1, 2, 3, 4, 5, 6, 7, 8, 9, 10, 11] rfl hk41 hB41.1 ht41
  have hG : s.heap.size + 0 ≤ H41.size := Nat.le_trans hG hz41
  refine W.eq (g2 := F0 m 31 ls [.int 0]) (by rw [hw41]) ?_
  refine lv_if_eq (tgt := 36) hx hb dX4_isShownBySomeTest_31 (by decide) (fun _ => ?_) (fun cz => absurd (by decide) cz)
  refine lv_iinc (v := 7) (lv' := [(3, .int 7), (0, .ref h0), (1, .ref h1), (2, .int 48)]) hx hb dX4_isShownBySomeTest_36 hl (k := 0) rfl (by decide) (by decide) rfl (fun ls hl => ?_)
  refine lv_goto (tgt := 2) hx hb dX4_isShownBySomeTest_39 (by decide) ?_
  refine lv_iload_n hx hb dX4_isShownBySomeTest_2 rfl (lv_at hl 0 rfl) ?_
  refine lv_aload_n hx hb dX4_isShownBySomeTest_3 rfl (lv_at hl 1 rfl) ?_
  refine va_get (D := (dC, dI)) (ci := 4) (v := .int 7) (C := RX4) (T := TX4) (N := 3) hx hb hts in_X4 hown hK hP 1 rfl rfl 2 (by decide) (hts _ q_358) (fun _ h9 => h9) rfl dX4_isShownBySomeTest_4 ?_
  refine lv_icmp_ge (tgt := 42) hx hb dX4_isShownBySomeTest_7 (by decide) (fun _ => ?_) (fun cz => absurd (by decide) cz)
  refine lv_iconst (v := 0) hx hb dX4_isShownBySomeTest_42 (by decide) ?_
  exact W.zret (v := 0) (ty := .boolean) hx hb hr rfl (fun t9 ht9 hW9 => ⟨⟨0, (), rfl, rfl, ⟨pq_mk2 hP hD hK [1, 2, 3, 0, 4, 5, 6, 7, 8, 9, 10, 11] [0, 1, 2] rfl rfl rfl ht9 hW9, by rw [ht9]; exact Nat.le_trans (Nat.add_le_add_left (Nat.le_of_ble_eq_true rfl) _) hG⟩⟩, hS.F ht9⟩) hS.2.2 dX4_isShownBySomeTest_43

set_option maxHeartbeats 4000000 in
set_option maxRecDepth 100000 in
theorem k673_isStuckShown (l : Launch) (hl9 : l.stackTraces = false) (dC : Nat → ClassId) (dI : Nat → Nat → Nat) (z : XZ) (h0 h1 h2 h3 h4 h5 h6 h7 h8 h9 h10 h11 h12 : Nat) (o0 o1 o2 o3 o4 o5 o6 : Nat) (sz : Nat) (kc0 kc1 kc2 : ClassId) : Met l yX4_isStuckShown (.code yX4_isStuckShown cX4_isStuckShown 6 (some .boolean) :: wsL_law) ({ frames := 5, cells := 0, slots := 0, locals := 112 }) (va_Pc [.ref h0, .ref h1, .int 49, .int 0] (PC (dC, dI) [(h0, ce271 h2 o0), (h1, ce282 (z.2.1 0) o1 h1), (h2, ce7 h3 h4 o2 h5), (h3, ce201 h6), (h4, ce201 h7), (h5, ce226 h8), (h6, ce200 kc0 h1 h9 h10 h11 h12), (h7, ce200 kc1 h1 h9 h10 h11 h12), (h8, ce200 kc2 h1 h9 h10 h11 h12), (h9, ce283 (z.2.1 0) o3 h9), (h10, ce284 (z.2.1 0) o4 h10), (h11, ce285 (z.2.1 0) o5 h11), (h12, ce286 (z.2.1 0) o6 h12)] [(kc0, .object "java/lang/Object"), (kc1, .object "java/lang/Object"), (kc2, .object "java/lang/Object")] sz z)) (va_Qi (fun (r : Int32) (_ : Unit) => r = 0) (fun (_ : Unit) (t : State) => PG (dC, dI) [(h0, ce271 h2 o0), (h1, ce287 (z.2.1 0) o1 h1), (h2, ce7 h3 h4 o2 h5), (h3, ce201 h6), (h4, ce201 h7), (h5, ce226 h8), (h6, ce200 kc0 h1 h9 h10 h11 h12), (h7, ce200 kc1 h1 h9 h10 h11 h12), (h8, ce200 kc2 h1 h9 h10 h11 h12), (h9, ce283 (z.2.1 0) o3 h9), (h10, ce284 (z.2.1 0) o4 h10), (h11, ce285 (z.2.1 0) o5 h11), (h12, ce286 (z.2.1 0) o6 h12)] [(kc0, .object "java/lang/Object"), (kc1, .object "java/lang/Object"), (kc2, .object "java/lang/Object")] (va_A [(h0, ce271 h2 o0), (h1, ce282 (z.2.1 0) o1 h1), (h2, ce7 h3 h4 o2 h5), (h3, ce201 h6), (h4, ce201 h7), (h5, ce226 h8), (h6, ce200 kc0 h1 h9 h10 h11 h12), (h7, ce200 kc1 h1 h9 h10 h11 h12), (h8, ce200 kc2 h1 h9 h10 h11 h12), (h9, ce283 (z.2.1 0) o3 h9), (h10, ce284 (z.2.1 0) o4 h10), (h11, ce285 (z.2.1 0) o5 h11), (h12, ce286 (z.2.1 0) o6 h12)] sz) sz 0 t) (va_A [(h0, ce271 h2 o0), (h1, ce282 (z.2.1 0) o1 h1), (h2, ce7 h3 h4 o2 h5), (h3, ce201 h6), (h4, ce201 h7), (h5, ce226 h8), (h6, ce200 kc0 h1 h9 h10 h11 h12), (h7, ce200 kc1 h1 h9 h10 h11 h12), (h8, ce200 kc2 h1 h9 h10 h11 h12), (h9, ce283 (z.2.1 0) o3 h9), (h10, ce284 (z.2.1 0) o4 h10), (h11, ce285 (z.2.1 0) o5 h11), (h12, ce286 (z.2.1 0) o6 h12)] sz)) 0 0 (va_A [(h0, ce271 h2 o0), (h1, ce282 (z.2.1 0) o1 h1), (h2, ce7 h3 h4 o2 h5), (h3, ce201 h6), (h4, ce201 h7), (h5, ce226 h8), (h6, ce200 kc0 h1 h9 h10 h11 h12), (h7, ce200 kc1 h1 h9 h10 h11 h12), (h8, ce200 kc2 h1 h9 h10 h11 h12), (h9, ce283 (z.2.1 0) o3 h9), (h10, ce284 (z.2.1 0) o4 h10), (h11, ce285 (z.2.1 0) o5 h11), (h12, ce286 (z.2.1 0) o6 h12)] sz) := by
  refine Met.ofW (cc := cX4_isStuckShown) (maxL := 6) (ret := (some .boolean)) (by decide) rfl ?_
  intro p e s m args below meth c s₁ B hml hv
  obtain ⟨rfl, hsz, hP, hK, hD0, hX, hT⟩ := hv
  have hx := B.exec
  have hb := B.bytes
  have hr := B.returns
  have hts0 := atoms_spec (ws := .code yX4_isStuckShown cX4_isStuckShown 6 (some .boolean) :: wsL_law) B.pre
  have hts := xTail hts0
  have hown : s.vm.findClass RX4 = some m.cls := xown B.named rfl
  have hlocks := B.notSynchronized
  subst hsz
  have hD := hD0.self (sz := s.heap.size)
  generalize hAe : va_A [(h0, ce271 h2 o0), (h1, ce282 (z.2.1 0) o1 h1), (h2, ce7 h3 h4 o2 h5), (h3, ce201 h6), (h4, ce201 h7), (h5, ce226 h8), (h6, ce200 kc0 h1 h9 h10 h11 h12), (h7, ce200 kc1 h1 h9 h10 h11 h12), (h8, ce200 kc2 h1 h9 h10 h11 h12), (h9, ce283 (z.2.1 0) o3 h9), (h10, ce284 (z.2.1 0) o4 h10), (h11, ce285 (z.2.1 0) o5 h11), (h12, ce286 (z.2.1 0) o6 h12)] s.heap.size = A at hD hX ⊢
  have hA : ∀ q : Nat, s.heap.size ≤ q → A q := fun q h => by rw [← hAe]; exact Or.inr h
  have hS : va_S A s.heap s.heap [] := va_S.rf
  have hG : s.heap.size + 0 ≤ s.heap.size := Nat.le_refl _
  have hl := lv_entry ([.ref h0, .ref h1, .int 49, .int 0]) (n := 6) (Nat.le_of_ble_eq_true rfl)
  rw [lg_entry_eq]
  generalize (lg_sl ([.ref h0, .ref h1, .int 49, .int 0]) ++ List.replicate (6 - (lg_sl ([.ref h0, .ref h1, .int 49, .int 0])).length) Slot.unset).toArray = ls at hl ⊢
  have hl : lv_has ls 6 [(0, .ref h0), (1, .ref h1), (2, .int 49), (3, .int 0)] := hl
  refine lv_aload_n hx hb dX4_isStuckShown_0 rfl (lv_at hl 0 rfl) ?_
  refine lv_iload_n hx hb dX4_isStuckShown_1 rfl (lv_at hl 3 rfl) ?_
  refine lv_null hx hb dX4_isStuckShown_2 ?_
  refine lv_bipush (v := 120) hx hb dX4_isStuckShown_3 (by decide) ?_
  have hM3 := k572_tryRow l hl9 dC dI z h0 h2 h4 h5 h7 h8 h1 h9 h10 h11 h12 o0 h3 o2 o1 o3 o4 o5 o6 s.heap.size kc1 kc2
  obtain ⟨hF1, hC4⟩ := pc_M hM3 hP hD hK hS hX hT hA [0, 2, 4, 5, 7, 8, 1, 9, 10, 11, 12] [1, 2] rfl rfl rfl
  refine va_callv (va_runV (As := [.int 0, .null, .int 120]) (rest := []) ⟨hx, hb, hml, hown, hts⟩ hM3 (cwV 3 hts (gV q_388 q_389 q_390 q_46 q_387) rfl rfl rfl hV_X4_tryRow ⟨Nat.le_of_ble_eq_true rfl, Nat.le_of_ble_eq_true rfl⟩) ⟨pc_blind, va_recv hK hP (ci := 4) (q := (RX4, TX4, 3)) (q0 := 0) rfl rfl, fun U hU hW => ⟨rfl, hC4 U hU hW⟩⟩ rfl rfl hl.1 rfl (lv_room (Nat.le_of_ble_eq_true rfl)) dX4_isStuckShown_5 ⟨(Nat.le_of_ble_eq_true rfl), (Nat.le_of_ble_eq_true rfl)⟩) hS (fun q9 _ h9 => hF1 q9 h9) hF1 (fun u5 t5 H5 L5 ht5 hvm5 hw5 hB5 hz5 hk5 hS => ?_)
  have hP := pq_keep hP hD [0, 2, 4, 5, 7, 8, 1, 9, 10, 11, 12] rfl hk5 hB5.1 ht5
  have hG : s.heap.size + 0 ≤ H5.size := Nat.le_trans hG hz5
  refine lv_aload_n hx hb dX4_isStuckShown_8 rfl (lv_at hl 1 rfl) ?_
  refine va_get (D := (dC, dI)) (ci := 3) (v := .int 48) (C := RX2) (T := TX2) (N := 19) hx hb hts in_X2 hown hK hP 1 rfl rfl 11 (by decide) (hts _ q_385) (fun _ h9 => h9) rfl dX4_isStuckShown_9 ?_
  refine lv_iload_n hx hb dX4_isStuckShown_12 rfl (lv_at hl 2 rfl) ?_
  refine lv_icmp_ne (tgt := 18) hx hb dX4_isStuckShown_13 (by decide) (fun _ => ?_) (fun cz => absurd cz (by decide))
  refine lv_iconst (v := 0) hx hb dX4_isStuckShown_18 (by decide) ?_
  refine lv_istore (lv' := [(4, .int 0), (0, .ref h0), (1, .ref h1), (2, .int 49), (3, .int 0)]) hx hb dX4_isStuckShown_19 hl (by decide) rfl (fun ls hl => ?_)
  refine lv_iload hx hb dX4_isStuckShown_21 (lv_at hl 0 rfl) ?_
  refine lv_aload_n hx hb dX4_isStuckShown_23 rfl (lv_at hl 1 rfl) ?_
  refine va_get (D := (dC, dI)) (ci := 4) (v := .ref h2) (C := RX4) (T := TX4) (N := 3) hx hb hts in_X4 hown hK hP 0 rfl rfl 0 (by decide) (hts _ q_50) (fun _ h9 => h9) rfl dX4_isStuckShown_24 ?_
  refine va_get (D := (dC, dI)) (ci := 2) (v := .ref h3) (C := RX0) (T := TX0) (N := 4) hx hb hts in_X0 hown hK hP 2 rfl rfl 0 (by decide) (hts _ q_399) (fun _ h9 => h9) rfl dX4_isStuckShown_27 ?_
  have hM9 := k20_size l hl9 dC dI z h3 h6 H5.size 5 5
  obtain ⟨hF7, hC10⟩ := pc_M hM9 hP hD hK hS hX hT hA [3] [] rfl rfl rfl
  refine va_calli (va_runV (As := []) (rest := [.int 0]) ⟨hx, hb, hml, hown, hts⟩ hM9 (cwV 0 hts (gV q_348 q_77 q_78 q_12 q_75) rfl rfl rfl hV_Jx4a65c_size_8abf5 ⟨Nat.le_of_ble_eq_true rfl, Nat.le_of_ble_eq_true rfl⟩) ⟨pc_blind, va_recv hK hP (ci := 0) (q := (RJx4a65c, TJx4a65c, 3)) (q0 := 3) rfl rfl, fun U hU hW => ⟨rfl, hC10 U hU hW⟩⟩ rfl rfl hl.1 rfl (lv_room (Nat.le_of_ble_eq_true rfl)) dX4_isStuckShown_30 ⟨(Nat.le_of_ble_eq_true rfl), (Nat.le_of_ble_eq_true rfl)⟩) hS (fun q9 _ h9 => hF7 q9 h9) hF7 (fun r12 u11 t11 H11 L11 ht11 hvm11 hw11 hB11 hz11 hk11 hS => ?_)
  have hP := pq_keep hP hD [3] rfl hk11 hB11.1 ht11
  have hG : s.heap.size + 0 ≤ H11.size := Nat.le_trans hG hz11
  refine W.eq (g2 := F0 m 33 ls [.int 5, .int 0]) (by rw [hw11]) ?_
  refine lv_icmp_ge (tgt := 69) hx hb dX4_isStuckShown_33 (by decide) (fun cz => absurd cz (by decide)) (fun _ => ?_)
  refine lv_aload_n hx hb dX4_isStuckShown_36 rfl (lv_at hl 1 rfl) ?_
  refine va_get (D := (dC, dI)) (ci := 4) (v := .ref h2) (C := RX4) (T := TX4) (N := 3) hx hb hts in_X4 hown hK hP 0 rfl rfl 0 (by decide) (hts _ q_50) (fun _ h9 => h9) rfl dX4_isStuckShown_37 ?_
  refine va_get (D := (dC, dI)) (ci := 2) (v := .ref h3) (C := RX0) (T := TX0) (N := 4) hx hb hts in_X0 hown hK hP 2 rfl rfl 0 (by decide) (hts _ q_399) (fun _ h9 => h9) rfl dX4_isStuckShown_40 ?_
  refine lv_iload hx hb dX4_isStuckShown_43 (lv_at hl 0 rfl) ?_
  have hM15 := k368_get l hl9 dC dI z h3 h6 h1 h9 h10 h11 h12 H11.size kc0
  obtain ⟨hF13, hC16⟩ := pc_M hM15 hP hD hK hS hX hT hA [3, 6] [0] rfl rfl rfl
  refine va_callr (va_runV (As := [.int 0]) (rest := []) ⟨hx, hb, hml, hown, hts⟩ hM15 (cwV 1 hts (gV q_383 q_157 q_158 q_12 q_155) rfl rfl rfl hV_Jx4a65c_get_915e3 ⟨Nat.le_of_ble_eq_true rfl, Nat.le_of_ble_eq_true rfl⟩) ⟨pc_blind, va_recv hK hP (ci := 0) (q := (RJx4a65c, TJx4a65c, 3)) (q0 := 3) rfl rfl, fun U hU hW => ⟨rfl, hC16 U hU hW⟩⟩ rfl rfl hl.1 rfl (lv_room (Nat.le_of_ble_eq_true rfl)) dX4_isStuckShown_45 ⟨(Nat.le_of_ble_eq_true rfl), (Nat.le_of_ble_eq_true rfl)⟩) hS (fun q9 _ h9 => hF13 q9 h9) hF13 (fun u17 r18 t17 H17 L17 ht17 hvm17 hw17 hB17 hz17 hk17 hS => ?_)
  obtain ⟨hr17, hB17⟩ := hB17
  have hP := pq_keep hP hD [3, 6] rfl hk17 hB17.1 ht17
  have hG : s.heap.size + 0 ≤ H17.size := Nat.le_trans hG hz17
  refine W.eq (g2 := F0 m 48 ls [.ref h1]) (by rw [hr17]) ?_
  refine va_castE (nm := RX2) hx hb hown (hts _ q_384) (va_recv hK hP (ci := 3) (q := (RX2, TX2, 19)) (q0 := 1) rfl rfl) dX4_isStuckShown_48 ?_
  refine lv_astore (lv' := [(5, .ref h1), (4, .int 0), (0, .ref h0), (1, .ref h1), (2, .int 49), (3, .int 0)]) hx hb dX4_isStuckShown_51 hl (by decide) rfl (fun ls hl => ?_)
  refine lv_aload hx hb dX4_isStuckShown_53 (lv_at hl 0 rfl) ?_
  refine lv_aload hx hb dX4_isStuckShown_55 (lv_at hl 0 rfl) ?_
  refine va_get (D := (dC, dI)) (ci := 3) (v := .int 48) (C := RX2) (T := TX2) (N := 19) hx hb hts in_X2 hown hK hP 1 rfl rfl 11 (by decide) (hts _ q_385) (fun _ h9 => h9) rfl dX4_isStuckShown_57 ?_
  refine va_put (D := (dC, dI)) (ci := 3) (v := .int 48) (ty := .char) (C := RX2) (T := TX2) (N := 19) hx hb hts in_X2 tyX2 tyX2_ok nmX2 hown hK hP hD (va_Sre hS) 1 rfl rfl 12 (by decide) (hts _ q_400) (fun _ h9 => h9) rfl (by decide +kernel) rfl rfl (Nat.le_of_ble_eq_true rfl) dX4_isStuckShown_60 (fun H19 _ hP hD hS' => ?_)
  have hG : s.heap.size + 0 ≤ H19.size := Nat.le_trans hG hS'.1
  have hS := va_Str hS hS'
  have hP : va_P (dC, dI) xCl [(h0, ce271 h2 o0), (h1, ce282 (z.2.1 0) o1 h1), (h2, ce7 h3 h4 o2 h5), (h3, ce201 h6), (h4, ce201 h7), (h5, ce226 h8), (h6, ce200 kc0 h1 h9 h10 h11 h12), (h7, ce200 kc1 h1 h9 h10 h11 h12), (h8, ce200 kc2 h1 h9 h10 h11 h12), (h9, ce283 (z.2.1 0) o3 h9), (h10, ce284 (z.2.1 0) o4 h10), (h11, ce285 (z.2.1 0) o5 h11), (h12, ce286 (z.2.1 0) o6 h12)] H19 := hP
  have hD := vd_as hP hD rfl
  refine lv_iinc (v := 1) (lv' := [(4, .int 1), (5, .ref h1), (0, .ref h0), (1, .ref h1), (2, .int 49), (3, .int 0)]) hx hb dX4_isStuckShown_63 hl (k := 1) rfl (by decide) (by decide) rfl (fun ls hl => ?_)
  refine lv_goto (tgt := 21) hx hb dX4_isStuckShown_66 (by decide) ?_
  refine lv_iload hx hb dX4_isStuckShown_21 (lv_at hl 0 rfl) ?_
  refine lv_aload_n hx hb dX4_isStuckShown_23 rfl (lv_at hl 2 rfl) ?_
  refine va_get (D := (dC, dI)) (ci := 4) (v := .ref h2) (C := RX4) (T := TX4) (N := 3) hx hb hts in_X4 hown hK hP 0 rfl rfl 0 (by decide) (hts _ q_50) (fun _ h9 => h9) rfl dX4_isStuckShown_24 ?_
  refine va_get (D := (dC, dI)) (ci := 2) (v := .ref h3) (C := RX0) (T := TX0) (N := 4) hx hb hts in_X0 hown hK hP 2 rfl rfl 0 (by decide) (hts _ q_399) (fun _ h9 => h9) rfl dX4_isStuckShown_27 ?_
  have hM22 := k20_size l hl9 dC dI z h3 h6 H19.size 5 5
  obtain ⟨hF20, hC23⟩ := pc_M hM22 hP hD hK hS hX hT hA [3] [] rfl rfl rfl
  refine va_calli (va_runV (As := []) (rest := [.int 1]) ⟨hx, hb, hml, hown, hts⟩ hM22 (cwV 0 hts (gV q_348 q_77 q_78 q_12 q_75) rfl rfl rfl hV_Jx4a65c_size_8abf5 ⟨Nat.le_of_ble_eq_true rfl, Nat.le_of_ble_eq_true rfl⟩) ⟨pc_blind, va_recv hK hP (ci := 0) (q := (RJx4a65c, TJx4a65c, 3)) (q0 := 3) rfl rfl, fun U hU hW => ⟨rfl, hC23 U hU hW⟩⟩ rfl rfl hl.1 rfl (lv_room (Nat.le_of_ble_eq_true rfl)) dX4_isStuckShown_30 ⟨(Nat.le_of_ble_eq_true rfl), (Nat.le_of_ble_eq_true rfl)⟩) hS (fun q9 _ h9 => hF20 q9 h9) hF20 (fun r25 u24 t24 H24 L24 ht24 hvm24 hw24 hB24 hz24 hk24 hS => ?_)
  have hP := pq_keep hP hD [3] rfl hk24 hB24.1 ht24
  have hG : s.heap.size + 0 ≤ H24.size := Nat.le_trans hG hz24
  refine W.eq (g2 := F0 m 33 ls [.int 5, .int 1]) (by rw [hw24]) ?_
  refine lv_icmp_ge (tgt := 69) hx hb dX4_isStuckShown_33 (by decide) (fun cz => absurd cz (by decide)) (fun _ => ?_)
  refine lv_aload_n hx hb dX4_isStuckShown_36 rfl (lv_at hl 2 rfl) ?_
  refine va_get (D := (dC, dI)) (ci := 4) (v := .ref h2) (C := RX4) (T := TX4) (N := 3) hx hb hts in_X4 hown hK hP 0 rfl rfl 0 (by decide) (hts _ q_50) (fun _ h9 => h9) rfl dX4_isStuckShown_37 ?_
  refine va_get (D := (dC, dI)) (ci := 2) (v := .ref h3) (C := RX0) (T := TX0) (N := 4) hx hb hts in_X0 hown hK hP 2 rfl rfl 0 (by decide) (hts _ q_399) (fun _ h9 => h9) rfl dX4_isStuckShown_40 ?_
  refine lv_iload hx hb dX4_isStuckShown_43 (lv_at hl 0 rfl) ?_
  have hM28 := k372_get l hl9 dC dI z h3 h6 h1 h9 h10 h11 h12 H24.size kc0
  obtain ⟨hF26, hC29⟩ := pc_M hM28 hP hD hK hS hX hT hA [3, 6] [0] rfl rfl rfl
  refine va_callr (va_runV (As := [.int 1]) (rest := []) ⟨hx, hb, hml, hown, hts⟩ hM28 (cwV 1 hts (gV q_383 q_157 q_158 q_12 q_155) rfl rfl rfl hV_Jx4a65c_get_915e3 ⟨Nat.le_of_ble_eq_true rfl, Nat.le_of_ble_eq_true rfl⟩) ⟨pc_blind, va_recv hK hP (ci := 0) (q := (RJx4a65c, TJx4a65c, 3)) (q0 := 3) rfl rfl, fun U hU hW => ⟨rfl, hC29 U hU hW⟩⟩ rfl rfl hl.1 rfl (lv_room (Nat.le_of_ble_eq_true rfl)) dX4_isStuckShown_45 ⟨(Nat.le_of_ble_eq_true rfl), (Nat.le_of_ble_eq_true rfl)⟩) hS (fun q9 _ h9 => hF26 q9 h9) hF26 (fun u30 r31 t30 H30 L30 ht30 hvm30 hw30 hB30 hz30 hk30 hS => ?_)
  obtain ⟨hr30, hB30⟩ := hB30
  have hP := pq_keep hP hD [3, 6] rfl hk30 hB30.1 ht30
  have hG : s.heap.size + 0 ≤ H30.size := Nat.le_trans hG hz30
  refine W.eq (g2 := F0 m 48 ls [.ref h9]) (by rw [hr30]) ?_
  refine va_castE (nm := RX2) hx hb hown (hts _ q_384) (va_recv hK hP (ci := 3) (q := (RX2, TX2, 19)) (q0 := 9) rfl rfl) dX4_isStuckShown_48 ?_
  refine lv_astore (lv' := [(5, .ref h9), (4, .int 1), (0, .ref h0), (1, .ref h1), (2, .int 49), (3, .int 0)]) hx hb dX4_isStuckShown_51 hl (by decide) rfl (fun ls hl => ?_)
  refine lv_aload hx hb dX4_isStuckShown_53 (lv_at hl 0 rfl) ?_
  refine lv_aload hx hb dX4_isStuckShown_55 (lv_at hl 0 rfl) ?_
  refine va_get (D := (dC, dI)) (ci := 3) (v := .int 48) (C := RX2) (T := TX2) (N := 19) hx hb hts in_X2 hown hK hP 9 rfl rfl 11 (by decide) (hts _ q_385) (fun _ h9 => h9) rfl dX4_isStuckShown_57 ?_
  refine va_put (D := (dC, dI)) (ci := 3) (v := .int 48) (ty := .char) (C := RX2) (T := TX2) (N := 19) hx hb hts in_X2 tyX2 tyX2_ok nmX2 hown hK hP hD (va_Sre hS) 9 rfl rfl 12 (by decide) (hts _ q_400) (fun _ h9 => h9) rfl (by decide +kernel) rfl rfl (Nat.le_of_ble_eq_true rfl) dX4_isStuckShown_60 (fun H32 _ hP hD hS' => ?_)
  have hG : s.heap.size + 0 ≤ H32.size := Nat.le_trans hG hS'.1
  have hS := va_Str hS hS'
  have hP : va_P (dC, dI) xCl [(h0, ce271 h2 o0), (h1, ce282 (z.2.1 0) o1 h1), (h2, ce7 h3 h4 o2 h5), (h3, ce201 h6), (h4, ce201 h7), (h5, ce226 h8), (h6, ce200 kc0 h1 h9 h10 h11 h12), (h7, ce200 kc1 h1 h9 h10 h11 h12), (h8, ce200 kc2 h1 h9 h10 h11 h12), (h9, ce283 (z.2.1 0) o3 h9), (h10, ce284 (z.2.1 0) o4 h10), (h11, ce285 (z.2.1 0) o5 h11), (h12, ce286 (z.2.1 0) o6 h12)] H32 := hP
  have hD := vd_as hP hD rfl
  refine lv_iinc (v := 2) (lv' := [(4, .int 2), (5, .ref h9), (0, .ref h0), (1, .ref h1), (2, .int 49), (3, .int 0)]) hx hb dX4_isStuckShown_63 hl (k := 1) rfl (by decide) (by decide) rfl (fun ls hl => ?_)
  refine lv_goto (tgt := 21) hx hb dX4_isStuckShown_66 (by decide) ?_
  refine lv_iload hx hb dX4_isStuckShown_21 (lv_at hl 0 rfl) ?_
  refine lv_aload_n hx hb dX4_isStuckShown_23 rfl (lv_at hl 2 rfl) ?_
  refine va_get (D := (dC, dI)) (ci := 4) (v := .ref h2) (C := RX4) (T := TX4) (N := 3) hx hb hts in_X4 hown hK hP 0 rfl rfl 0 (by decide) (hts _ q_50) (fun _ h9 => h9) rfl dX4_isStuckShown_24 ?_
  refine va_get (D := (dC, dI)) (ci := 2) (v := .ref h3) (C := RX0) (T := TX0) (N := 4) hx hb hts in_X0 hown hK hP 2 rfl rfl 0 (by decide) (hts _ q_399) (fun _ h9 => h9) rfl dX4_isStuckShown_27 ?_
  have hM35 := k20_size l hl9 dC dI z h3 h6 H32.size 5 5
  obtain ⟨hF33, hC36⟩ := pc_M hM35 hP hD hK hS hX hT hA [3] [] rfl rfl rfl
  refine va_calli (va_runV (As := []) (rest := [.int 2]) ⟨hx, hb, hml, hown, hts⟩ hM35 (cwV 0 hts (gV q_348 q_77 q_78 q_12 q_75) rfl rfl rfl hV_Jx4a65c_size_8abf5 ⟨Nat.le_of_ble_eq_true rfl, Nat.le_of_ble_eq_true rfl⟩) ⟨pc_blind, va_recv hK hP (ci := 0) (q := (RJx4a65c, TJx4a65c, 3)) (q0 := 3) rfl rfl, fun U hU hW => ⟨rfl, hC36 U hU hW⟩⟩ rfl rfl hl.1 rfl (lv_room (Nat.le_of_ble_eq_true rfl)) dX4_isStuckShown_30 ⟨(Nat.le_of_ble_eq_true rfl), (Nat.le_of_ble_eq_true rfl)⟩) hS (fun q9 _ h9 => hF33 q9 h9) hF33 (fun r38 u37 t37 H37 L37 ht37 hvm37 hw37 hB37 hz37 hk37 hS => ?_)
  have hP := pq_keep hP hD [3] rfl hk37 hB37.1 ht37
  have hG : s.heap.size + 0 ≤ H37.size := Nat.le_trans hG hz37
  refine W.eq (g2 := F0 m 33 ls [.int 5, .int 2]) (by rw [hw37]) ?_
  refine lv_icmp_ge (tgt := 69) hx hb dX4_isStuckShown_33 (by decide) (fun cz => absurd cz (by decide)) (fun _ => ?_)
  refine lv_aload_n hx hb dX4_isStuckShown_36 rfl (lv_at hl 2 rfl) ?_
  refine va_get (D := (dC, dI)) (ci := 4) (v := .ref h2) (C := RX4) (T := TX4) (N := 3) hx hb hts in_X4 hown hK hP 0 rfl rfl 0 (by decide) (hts _ q_50) (fun _ h9 => h9) rfl dX4_isStuckShown_37 ?_
  refine va_get (D := (dC, dI)) (ci := 2) (v := .ref h3) (C := RX0) (T := TX0) (N := 4) hx hb hts in_X0 hown hK hP 2 rfl rfl 0 (by decide) (hts _ q_399) (fun _ h9 => h9) rfl dX4_isStuckShown_40 ?_
  refine lv_iload hx hb dX4_isStuckShown_43 (lv_at hl 0 rfl) ?_
  have hM41 := k376_get l hl9 dC dI z h3 h6 h1 h9 h10 h11 h12 H37.size kc0
  obtain ⟨hF39, hC42⟩ := pc_M hM41 hP hD hK hS hX hT hA [3, 6] [0] rfl rfl rfl
  refine va_callr (va_runV (As := [.int 2]) (rest := []) ⟨hx, hb, hml, hown, hts⟩ hM41 (cwV 1 hts (gV q_383 q_157 q_158 q_12 q_155) rfl rfl rfl hV_Jx4a65c_get_915e3 ⟨Nat.le_of_ble_eq_true rfl, Nat.le_of_ble_eq_true rfl⟩) ⟨pc_blind, va_recv hK hP (ci := 0) (q := (RJx4a65c, TJx4a65c, 3)) (q0 := 3) rfl rfl, fun U hU hW => ⟨rfl, hC42 U hU hW⟩⟩ rfl rfl hl.1 rfl (lv_room (Nat.le_of_ble_eq_true rfl)) dX4_isStuckShown_45 ⟨(Nat.le_of_ble_eq_true rfl), (Nat.le_of_ble_eq_true rfl)⟩) hS (fun q9 _ h9 => hF39 q9 h9) hF39 (fun u43 r44 t43 H43 L43 ht43 hvm43 hw43 hB43 hz43 hk43 hS => ?_)
  obtain ⟨hr43, hB43⟩ := hB43
  have hP := pq_keep hP hD [3, 6] rfl hk43 hB43.1 ht43
  have hG : s.heap.size + 0 ≤ H43.size := Nat.le_trans hG hz43
  refine W.eq (g2 := F0 m 48 ls [.ref h10]) (by rw [hr43]) ?_
  refine va_castE (nm := RX2) hx hb hown (hts _ q_384) (va_recv hK hP (ci := 3) (q := (RX2, TX2, 19)) (q0 := 10) rfl rfl) dX4_isStuckShown_48 ?_
  refine lv_astore (lv' := [(5, .ref h10), (4, .int 2), (0, .ref h0), (1, .ref h1), (2, .int 49), (3, .int 0)]) hx hb dX4_isStuckShown_51 hl (by decide) rfl (fun ls hl => ?_)
  refine lv_aload hx hb dX4_isStuckShown_53 (lv_at hl 0 rfl) ?_
  refine lv_aload hx hb dX4_isStuckShown_55 (lv_at hl 0 rfl) ?_
  refine va_get (D := (dC, dI)) (ci := 3) (v := .int 48) (C := RX2) (T := TX2) (N := 19) hx hb hts in_X2 hown hK hP 10 rfl rfl 11 (by decide) (hts _ q_385) (fun _ h9 => h9) rfl dX4_isStuckShown_57 ?_
  refine va_put (D := (dC, dI)) (ci := 3) (v := .int 48) (ty := .char) (C := RX2) (T := TX2) (N := 19) hx hb hts in_X2 tyX2 tyX2_ok nmX2 hown hK hP hD (va_Sre hS) 10 rfl rfl 12 (by decide) (hts _ q_400) (fun _ h9 => h9) rfl (by decide +kernel) rfl rfl (Nat.le_of_ble_eq_true rfl) dX4_isStuckShown_60 (fun H45 _ hP hD hS' => ?_)
  have hG : s.heap.size + 0 ≤ H45.size := Nat.le_trans hG hS'.1
  have hS := va_Str hS hS'
  have hP : va_P (dC, dI) xCl [(h0, ce271 h2 o0), (h1, ce282 (z.2.1 0) o1 h1), (h2, ce7 h3 h4 o2 h5), (h3, ce201 h6), (h4, ce201 h7), (h5, ce226 h8), (h6, ce200 kc0 h1 h9 h10 h11 h12), (h7, ce200 kc1 h1 h9 h10 h11 h12), (h8, ce200 kc2 h1 h9 h10 h11 h12), (h9, ce283 (z.2.1 0) o3 h9), (h10, ce284 (z.2.1 0) o4 h10), (h11, ce285 (z.2.1 0) o5 h11), (h12, ce286 (z.2.1 0) o6 h12)] H45 := hP
  have hD := vd_as hP hD rfl
  refine lv_iinc (v := 3) (lv' := [(4, .int 3), (5, .ref h10), (0, .ref h0), (1, .ref h1), (2, .int 49), (3, .int 0)]) hx hb dX4_isStuckShown_63 hl (k := 1) rfl (by decide) (by decide) rfl (fun ls hl => ?_)
  refine lv_goto (tgt := 21) hx hb dX4_isStuckShown_66 (by decide) ?_
  refine lv_iload hx hb dX4_isStuckShown_21 (lv_at hl 0 rfl) ?_
  refine lv_aload_n hx hb dX4_isStuckShown_23 rfl (lv_at hl 2 rfl) ?_
  refine va_get (D := (dC, dI)) (ci := 4) (v := .ref h2) (C := RX4) (T := TX4) (N := 3) hx hb hts in_X4 hown hK hP 0 rfl rfl 0 (by decide) (hts _ q_50) (fun _ h9 => h9) rfl dX4_isStuckShown_24 ?_
  refine va_get (D := (dC, dI)) (ci := 2) (v := .ref h3) (C := RX0) (T := TX0) (N := 4) hx hb hts in_X0 hown hK hP 2 rfl rfl 0 (by decide) (hts _ q_399) (fun _ h9 => h9) rfl dX4_isStuckShown_27 ?_
  have hM48 := k20_size l hl9 dC dI z h3 h6 H45.size 5 5
  obtain ⟨hF46, hC49⟩ := pc_M hM48 hP hD hK hS hX hT hA [3] [] rfl rfl rfl
  refine va_calli (va_runV (As := []) (rest := [.int 3]) ⟨hx, hb, hml, hown, hts⟩ hM48 (cwV 0 hts (gV q_348 q_77 q_78 q_12 q_75) rfl rfl rfl hV_Jx4a65c_size_8abf5 ⟨Nat.le_of_ble_eq_true rfl, Nat.le_of_ble_eq_true rfl⟩) ⟨pc_blind, va_recv hK hP (ci := 0) (q := (RJx4a65c, TJx4a65c, 3)) (q0 := 3) rfl rfl, fun U hU hW => ⟨rfl, hC49 U hU hW⟩⟩ rfl rfl hl.1 rfl (lv_room (Nat.le_of_ble_eq_true rfl)) dX4_isStuckShown_30 ⟨(Nat.le_of_ble_eq_true rfl), (Nat.le_of_ble_eq_true rfl)⟩) hS (fun q9 _ h9 => hF46 q9 h9) hF46 (fun r51 u50 t50 H50 L50 ht50 hvm50 hw50 hB50 hz50 hk50 hS => ?_)
  have hP := pq_keep hP hD [3] rfl hk50 hB50.1 ht50
  have hG : s.heap.size + 0 ≤ H50.size := Nat.le_trans hG hz50
  refine W.eq (g2 := F0 m 33 ls [.int 5, .int 3]) (by rw [hw50]) ?_
  refine lv_icmp_ge (tgt := 69) hx hb dX4_isStuckShown_33 (by decide) (fun cz => absurd cz (by decide)) (fun _ => ?_)
  refine lv_aload_n hx hb dX4_isStuckShown_36 rfl (lv_at hl 2 rfl) ?_
  refine va_get (D := (dC, dI)) (ci := 4) (v := .ref h2) (C := RX4) (T := TX4) (N := 3) hx hb hts in_X4 hown hK hP 0 rfl rfl 0 (by decide) (hts _ q_50) (fun _ h9 => h9) rfl dX4_isStuckShown_37 ?_
  refine va_get (D := (dC, dI)) (ci := 2) (v := .ref h3) (C := RX0) (T := TX0) (N := 4) hx hb hts in_X0 hown hK hP 2 rfl rfl 0 (by decide) (hts _ q_399) (fun _ h9 => h9) rfl dX4_isStuckShown_40 ?_
  refine lv_iload hx hb dX4_isStuckShown_43 (lv_at hl 0 rfl) ?_
  have hM54 := k380_get l hl9 dC dI z h3 h6 h1 h9 h10 h11 h12 H50.size kc0
  obtain ⟨hF52, hC55⟩ := pc_M hM54 hP hD hK hS hX hT hA [3, 6] [0] rfl rfl rfl
  refine va_callr (va_runV (As := [.int 3]) (rest := []) ⟨hx, hb, hml, hown, hts⟩ hM54 (cwV 1 hts (gV q_383 q_157 q_158 q_12 q_155) rfl rfl rfl hV_Jx4a65c_get_915e3 ⟨Nat.le_of_ble_eq_true rfl, Nat.le_of_ble_eq_true rfl⟩) ⟨pc_blind, va_recv hK hP (ci := 0) (q := (RJx4a65c, TJx4a65c, 3)) (q0 := 3) rfl rfl, fun U hU hW => ⟨rfl, hC55 U hU hW⟩⟩ rfl rfl hl.1 rfl (lv_room (Nat.le_of_ble_eq_true rfl)) dX4_isStuckShown_45 ⟨(Nat.le_of_ble_eq_true rfl), (Nat.le_of_ble_eq_true rfl)⟩) hS (fun q9 _ h9 => hF52 q9 h9) hF52 (fun u56 r57 t56 H56 L56 ht56 hvm56 hw56 hB56 hz56 hk56 hS => ?_)
  obtain ⟨hr56, hB56⟩ := hB56
  have hP := pq_keep hP hD [3, 6] rfl hk56 hB56.1 ht56
  have hG : s.heap.size + 0 ≤ H56.size := Nat.le_trans hG hz56
  refine W.eq (g2 := F0 m 48 ls [.ref h11]) (by rw [hr56]) ?_
  refine va_castE (nm := RX2) hx hb hown (hts _ q_384) (va_recv hK hP (ci := 3) (q := (RX2, TX2, 19)) (q0 := 11) rfl rfl) dX4_isStuckShown_48 ?_
  refine lv_astore (lv' := [(5, .ref h11), (4, .int 3), (0, .ref h0), (1, .ref h1), (2, .int 49), (3, .int 0)]) hx hb dX4_isStuckShown_51 hl (by decide) rfl (fun ls hl => ?_)
  refine lv_aload hx hb dX4_isStuckShown_53 (lv_at hl 0 rfl) ?_
  refine lv_aload hx hb dX4_isStuckShown_55 (lv_at hl 0 rfl) ?_
  refine va_get (D := (dC, dI)) (ci := 3) (v := .int 48) (C := RX2) (T := TX2) (N := 19) hx hb hts in_X2 hown hK hP 11 rfl rfl 11 (by decide) (hts _ q_385) (fun _ h9 => h9) rfl dX4_isStuckShown_57 ?_
  refine va_put (D := (dC, dI)) (ci := 3) (v := .int 48) (ty := .char) (C := RX2) (T := TX2) (N := 19) hx hb hts in_X2 tyX2 tyX2_ok nmX2 hown hK hP hD (va_Sre hS) 11 rfl rfl 12 (by decide) (hts _ q_400) (fun _ h9 => h9) rfl (by decide +kernel) rfl rfl (Nat.le_of_ble_eq_true rfl) dX4_isStuckShown_60 (fun H58 _ hP hD hS' => ?_)
  have hG : s.heap.size + 0 ≤ H58.size := Nat.le_trans hG hS'.1
  have hS := va_Str hS hS'
  have hP : va_P (dC, dI) xCl [(h0, ce271 h2 o0), (h1, ce282 (z.2.1 0) o1 h1), (h2, ce7 h3 h4 o2 h5), (h3, ce201 h6), (h4, ce201 h7), (h5, ce226 h8), (h6, ce200 kc0 h1 h9 h10 h11 h12), (h7, ce200 kc1 h1 h9 h10 h11 h12), (h8, ce200 kc2 h1 h9 h10 h11 h12), (h9, ce283 (z.2.1 0) o3 h9), (h10, ce284 (z.2.1 0) o4 h10), (h11, ce285 (z.2.1 0) o5 h11), (h12, ce286 (z.2.1 0) o6 h12)] H58 := hP
  have hD := vd_as hP hD rfl
  refine lv_iinc (v := 4) (lv' := [(4, .int 4), (5, .ref h11), (0, .ref h0), (1, .ref h1), (2, .int 49), (3, .int 0)]) hx hb dX4_isStuckShown_63 hl (k := 1) rfl (by decide) (by decide) rfl (fun ls hl => ?_)
  refine lv_goto (tgt := 21) hx hb dX4_isStuckShown_66 (by decide) ?_
  refine lv_iload hx hb dX4_isStuckShown_21 (lv_at hl 0 rfl) ?_
  refine lv_aload_n hx hb dX4_isStuckShown_23 rfl (lv_at hl 2 rfl) ?_
  refine va_get (D := (dC, dI)) (ci := 4) (v := .ref h2) (C := RX4) (T := TX4) (N := 3) hx hb hts in_X4 hown hK hP 0 rfl rfl 0 (by decide) (hts _ q_50) (fun _ h9 => h9) rfl dX4_isStuckShown_24 ?_
  refine va_get (D := (dC, dI)) (ci := 2) (v := .ref h3) (C := RX0) (T := TX0) (N := 4) hx hb hts in_X0 hown hK hP 2 rfl rfl 0 (by decide) (hts _ q_399) (fun _ h9 => h9) rfl dX4_isStuckShown_27 ?_
  have hM61 := k20_size l hl9 dC dI z h3 h6 H58.size 5 5
  obtain ⟨hF59, hC62⟩ := pc_M hM61 hP hD hK hS hX hT hA [3] [] rfl rfl rfl
  refine va_calli (va_runV (As := []) (rest := [.int 4]) ⟨hx, hb, hml, hown, hts⟩ hM61 (cwV 0 hts (gV q_348 q_77 q_78 q_12 q_75) rfl rfl rfl hV_Jx4a65c_size_8abf5 ⟨Nat.le_of_ble_eq_true rfl, Nat.le_of_ble_eq_true rfl⟩) ⟨pc_blind, va_recv hK hP (ci := 0) (q := (RJx4a65c, TJx4a65c, 3)) (q0 := 3) rfl rfl, fun U hU hW => ⟨rfl, hC62 U hU hW⟩⟩ rfl rfl hl.1 rfl (lv_room (Nat.le_of_ble_eq_true rfl)) dX4_isStuckShown_30 ⟨(Nat.le_of_ble_eq_true rfl), (Nat.le_of_ble_eq_true rfl)⟩) hS (fun q9 _ h9 => hF59 q9 h9) hF59 (fun r64 u63 t63 H63 L63 ht63 hvm63 hw63 hB63 hz63 hk63 hS => ?_)
  have hP := pq_keep hP hD [3] rfl hk63 hB63.1 ht63
  have hG : s.heap.size + 0 ≤ H63.size := Nat.le_trans hG hz63
  refine W.eq (g2 := F0 m 33 ls [.int 5, .int 4]) (by rw [hw63]) ?_
  refine lv_icmp_ge (tgt := 69) hx hb dX4_isStuckShown_33 (by decide) (fun cz => absurd cz (by decide)) (fun _ => ?_)
  refine lv_aload_n hx hb dX4_isStuckShown_36 rfl (lv_at hl 2 rfl) ?_
  refine va_get (D := (dC, dI)) (ci := 4) (v := .ref h2) (C := RX4) (T := TX4) (N := 3) hx hb hts in_X4 hown hK hP 0 rfl rfl 0 (by decide) (hts _ q_50) (fun _ h9 => h9) rfl dX4_isStuckShown_37 ?_
  refine va_get (D := (dC, dI)) (ci := 2) (v := .ref h3) (C := RX0) (T := TX0) (N := 4) hx hb hts in_X0 hown hK hP 2 rfl rfl 0 (by decide) (hts _ q_399) (fun _ h9 => h9) rfl dX4_isStuckShown_40 ?_
  refine lv_iload hx hb dX4_isStuckShown_43 (lv_at hl 0 rfl) ?_
  have hM67 := k384_get l hl9 dC dI z h3 h6 h1 h9 h10 h11 h12 H63.size kc0
  obtain ⟨hF65, hC68⟩ := pc_M hM67 hP hD hK hS hX hT hA [3, 6] [0] rfl rfl rfl
  refine va_callr (va_runV (As := [.int 4]) (rest := []) ⟨hx, hb, hml, hown, hts⟩ hM67 (cwV 1 hts (gV q_383 q_157 q_158 q_12 q_155) rfl rfl rfl hV_Jx4a65c_get_915e3 ⟨Nat.le_of_ble_eq_true rfl, Nat.le_of_ble_eq_true rfl⟩) ⟨pc_blind, va_recv hK hP (ci := 0) (q := (RJx4a65c, TJx4a65c, 3)) (q0 := 3) rfl rfl, fun U hU hW => ⟨rfl, hC68 U hU hW⟩⟩ rfl rfl hl.1 rfl (lv_room (Nat.le_of_ble_eq_true rfl)) dX4_isStuckShown_45 ⟨(Nat.le_of_ble_eq_true rfl), (Nat.le_of_ble_eq_true rfl)⟩) hS (fun q9 _ h9 => hF65 q9 h9) hF65 (fun u69 r70 t69 H69 L69 ht69 hvm69 hw69 hB69 hz69 hk69 hS => ?_)
  obtain ⟨hr69, hB69⟩ := hB69
  have hP := pq_keep hP hD [3, 6] rfl hk69 hB69.1 ht69
  have hG : s.heap.size + 0 ≤ H69.size := Nat.le_trans hG hz69
  refine W.eq (g2 := F0 m 48 ls [.ref h12]) (by rw [hr69]) ?_
  refine va_castE (nm := RX2) hx hb hown (hts _ q_384) (va_recv hK hP (ci := 3) (q := (RX2, TX2, 19)) (q0 := 12) rfl rfl) dX4_isStuckShown_48 ?_
  refine lv_astore (lv' := [(5, .ref h12), (4, .int 4), (0, .ref h0), (1, .ref h1), (2, .int 49), (3, .int 0)]) hx hb dX4_isStuckShown_51 hl (by decide) rfl (fun ls hl => ?_)
  refine lv_aload hx hb dX4_isStuckShown_53 (lv_at hl 0 rfl) ?_
  refine lv_aload hx hb dX4_isStuckShown_55 (lv_at hl 0 rfl) ?_
  refine va_get (D := (dC, dI)) (ci := 3) (v := .int 48) (C := RX2) (T := TX2) (N := 19) hx hb hts in_X2 hown hK hP 12 rfl rfl 11 (by decide) (hts _ q_385) (fun _ h9 => h9) rfl dX4_isStuckShown_57 ?_
  refine va_put (D := (dC, dI)) (ci := 3) (v := .int 48) (ty := .char) (C := RX2) (T := TX2) (N := 19) hx hb hts in_X2 tyX2 tyX2_ok nmX2 hown hK hP hD (va_Sre hS) 12 rfl rfl 12 (by decide) (hts _ q_400) (fun _ h9 => h9) rfl (by decide +kernel) rfl rfl (Nat.le_of_ble_eq_true rfl) dX4_isStuckShown_60 (fun H71 _ hP hD hS' => ?_)
  have hG : s.heap.size + 0 ≤ H71.size := Nat.le_trans hG hS'.1
  have hS := va_Str hS hS'
  have hP : va_P (dC, dI) xCl [(h0, ce271 h2 o0), (h1, ce282 (z.2.1 0) o1 h1), (h2, ce7 h3 h4 o2 h5), (h3, ce201 h6), (h4, ce201 h7), (h5, ce226 h8), (h6, ce200 kc0 h1 h9 h10 h11 h12), (h7, ce200 kc1 h1 h9 h10 h11 h12), (h8, ce200 kc2 h1 h9 h10 h11 h12), (h9, ce283 (z.2.1 0) o3 h9), (h10, ce284 (z.2.1 0) o4 h10), (h11, ce285 (z.2.1 0) o5 h11), (h12, ce286 (z.2.1 0) o6 h12)] H71 := hP
  have hD := vd_as hP hD rfl
  refine lv_iinc (v := 5) (lv' := [(4, .int 5), (5, .ref h12), (0, .ref h0), (1, .ref h1), (2, .int 49), (3, .int 0)]) hx hb dX4_isStuckShown_63 hl (k := 1) rfl (by decide) (by decide) rfl (fun ls hl => ?_)
  refine lv_goto (tgt := 21) hx hb dX4_isStuckShown_66 (by decide) ?_
  refine lv_iload hx hb dX4_isStuckShown_21 (lv_at hl 0 rfl) ?_
  refine lv_aload_n hx hb dX4_isStuckShown_23 rfl (lv_at hl 2 rfl) ?_
  refine va_get (D := (dC, dI)) (ci := 4) (v := .ref h2) (C := RX4) (T := TX4) (N := 3) hx hb hts in_X4 hown hK hP 0 rfl rfl 0 (by decide) (hts _ q_50) (fun _ h9 => h9) rfl dX4_isStuckShown_24 ?_
  refine va_get (D := (dC, dI)) (ci := 2) (v := .ref h3) (C := RX0) (T := TX0) (N := 4) hx hb hts in_X0 hown hK hP 2 rfl rfl 0 (by decide) (hts _ q_399) (fun _ h9 => h9) rfl dX4_isStuckShown_27 ?_
  have hM74 := k20_size l hl9 dC dI z h3 h6 H71.size 5 5
  obtain ⟨hF72, hC75⟩ := pc_M hM74 hP hD hK hS hX hT hA [3] [] rfl rfl rfl
  refine va_calli (va_runV (As := []) (rest := [.int 5]) ⟨hx, hb, hml, hown, hts⟩ hM74 (cwV 0 hts (gV q_348 q_77 q_78 q_12 q_75) rfl rfl rfl hV_Jx4a65c_size_8abf5 ⟨Nat.le_of_ble_eq_true rfl, Nat.le_of_ble_eq_true rfl⟩) ⟨pc_blind, va_recv hK hP (ci := 0) (q := (RJx4a65c, TJx4a65c, 3)) (q0 := 3) rfl rfl, fun U hU hW => ⟨rfl, hC75 U hU hW⟩⟩ rfl rfl hl.1 rfl (lv_room (Nat.le_of_ble_eq_true rfl)) dX4_isStuckShown_30 ⟨(Nat.le_of_ble_eq_true rfl), (Nat.le_of_ble_eq_true rfl)⟩) hS (fun q9 _ h9 => hF72 q9 h9) hF72 (fun r77 u76 t76 H76 L76 ht76 hvm76 hw76 hB76 hz76 hk76 hS => ?_)
  have hP := pq_keep hP hD [3] rfl hk76 hB76.1 ht76
  have hG : s.heap.size + 0 ≤ H76.size := Nat.le_trans hG hz76
  refine W.eq (g2 := F0 m 33 ls [.int 5, .int 5]) (by rw [hw76]) ?_
  refine lv_icmp_ge (tgt := 69) hx hb dX4_isStuckShown_33 (by decide) (fun _ => ?_) (fun cz => absurd (by decide) cz)
  refine lv_aload_n hx hb dX4_isStuckShown_69 rfl (lv_at hl 2 rfl) ?_
  refine lv_iload_n hx hb dX4_isStuckShown_70 rfl (lv_at hl 5 rfl) ?_
  refine lv_aload_n hx hb dX4_isStuckShown_71 rfl (lv_at hl 3 rfl) ?_
  refine lv_iload_n hx hb dX4_isStuckShown_72 rfl (lv_at hl 4 rfl) ?_
  have hM80 := k556_tryRow l hl9 dC dI z h0 h1 h2 h4 h5 h7 h8 h9 h10 h11 h12 o0 o1 h3 o2 o3 o4 o5 o6 H76.size kc1 kc2
  obtain ⟨hF78, hC81⟩ := pc_M hM80 hP hD hK hS hX hT hA [0, 1, 2, 4, 5, 7, 8, 9, 10, 11, 12] [1, 2] rfl rfl rfl
  refine va_callv (va_runV (As := [.int 0, .ref h1, .int 49]) (rest := []) ⟨hx, hb, hml, hown, hts⟩ hM80 (cwV 3 hts (gV q_388 q_389 q_390 q_46 q_387) rfl rfl rfl hV_X4_tryRow ⟨Nat.le_of_ble_eq_true rfl, Nat.le_of_ble_eq_true rfl⟩) ⟨pc_blind, va_recv hK hP (ci := 4) (q := (RX4, TX4, 3)) (q0 := 0) rfl rfl, fun U hU hW => ⟨rfl, hC81 U hU hW⟩⟩ rfl rfl hl.1 rfl (lv_room (Nat.le_of_ble_eq_true rfl)) dX4_isStuckShown_73 ⟨(Nat.le_of_ble_eq_true rfl), (Nat.le_of_ble_eq_true rfl)⟩) hS (fun q9 _ h9 => hF78 q9 h9) hF78 (fun u82 t82 H82 L82 ht82 hvm82 hw82 hB82 hz82 hk82 hS => ?_)
  obtain ⟨hP, hD, hK⟩ := pq_jn (wz := [(h3, ce201 h6), (h6, ce200 kc0 h1 h9 h10 h11 h12), (h0, ce271 h2 o0), (h1, ce287 (z.2.1 0) o1 h1), (h2, ce7 h3 h4 o2 h5), (h4, ce201 h7), (h5, ce226 h8), (h7, ce200 kc1 h1 h9 h10 h11 h12), (h8, ce200 kc2 h1 h9 h10 h11 h12), (h9, ce283 (z.2.1 0) o3 h9), (h10, ce284 (z.2.1 0) o4 h10), (h11, ce285 (z.2.1 0) o5 h11), (h12, ce286 (z.2.1 0) o6 h12)]) (tz := [(kc0, .object "java/lang/Object"), (kc1, .object "java/lang/Object"), (kc2, .object "java/lang/Object")]) hP hD hK [0, 1, 2, 4, 5, 7, 8, 9, 10, 11, 12] [0] rfl hk82 hF78 hB82.1 ht82 hvm82 rfl rfl
  have hG : s.heap.size + 0 ≤ H82.size := Nat.le_trans hG hz82
  refine lv_aload_n hx hb dX4_isStuckShown_76 rfl (lv_at hl 2 rfl) ?_
  have hM86 := k564_isDifferenceWatched l hl9 dC dI z h0 h2 h3 h6 h1 h9 h10 h11 h12 o0 h4 o2 h5 o1 o3 o4 o5 o6 H82.size kc0
  obtain ⟨hF84, hC87⟩ := pc_M hM86 hP hD hK hS hX hT hA [2, 4, 0, 1, 3, 9, 10, 11, 12] [0] rfl rfl rfl
  refine va_calli (va_runV (As := []) (rest := []) ⟨hx, hb, hml, hown, hts⟩ hM86 (cwV 0 hts (gV q_411 q_412 q_413 q_46 q_410) rfl rfl rfl hV_X4_isDifferenceWatched ⟨Nat.le_of_ble_eq_true rfl, Nat.le_of_ble_eq_true rfl⟩) ⟨pc_blind, va_recv hK hP (ci := 4) (q := (RX4, TX4, 3)) (q0 := 2) rfl rfl, fun U hU hW => ⟨rfl, hC87 U hU hW⟩⟩ rfl rfl hl.1 rfl (lv_room (Nat.le_of_ble_eq_true rfl)) dX4_isStuckShown_77 ⟨(Nat.le_of_ble_eq_true rfl), (Nat.le_of_ble_eq_true rfl)⟩) hS (fun q9 _ h9 => hF84 q9 h9) hF84 (fun r89 u88 t88 H88 L88 ht88 hvm88 hw88 hB88 hz88 hk88 hS => ?_)
  have hP := pq_keep hP hD [2, 4, 0, 1, 3, 9, 10, 11, 12] rfl hk88 hB88.1 ht88
  have hG : s.heap.size + 0 ≤ H88.size := Nat.le_trans hG hz88
  refine W.eq (g2 := F0 m 80 ls [.int 0]) (by rw [hw88]) ?_
  exact W.zret (v := 0) (ty := .boolean) hx hb hr rfl (fun t9 ht9 hW9 => ⟨⟨0, (), rfl, rfl, ⟨pq_mk2 hP hD hK [2, 3, 4, 0, 5, 6, 1, 7, 8, 9, 10, 11, 12] [0, 1, 2] rfl rfl rfl ht9 hW9, by rw [ht9]; exact Nat.le_trans (Nat.add_le_add_left (Nat.le_of_ble_eq_true rfl) _) hG⟩⟩, hS.F ht9⟩) hS.2.2 dX4_isStuckShown_80

set_option maxHeartbeats 4000000 in
set_option maxRecDepth 100000 in
theorem k674_isShownBySomeTest (l : Launch) (hl9 : l.stackTraces = false) (dC : Nat → ClassId) (dI : Nat → Nat → Nat) (z : XZ) (h0 h1 h2 h3 h4 h5 h6 h7 h8 h9 h10 h11 h12 h13 : Nat) (o0 o1 o2 o3 o4 o5 : Nat) (sz : Nat) (kc0 kc1 kc2 kc3 : ClassId) : Met l yX4_isShownBySomeTest (.code yX4_isShownBySomeTest cX4_isShownBySomeTest 4 (some .boolean) :: wsL_law) ({ frames := 6, cells := 0, slots := 0, locals := 137 }) (va_Pc [.ref h0, .ref h1, .int 49] (PC (dC, dI) [(h0, ce271 h2 h3), (h1, ce282 (z.2.1 0) o0 h1), (h2, ce7 h4 h5 o1 h6), (h3, ce270 kc0), (h4, ce201 h7), (h5, ce201 h8), (h6, ce226 h9), (h7, ce200 kc1 h1 h10 h11 h12 h13), (h8, ce200 kc2 h1 h10 h11 h12 h13), (h9, ce200 kc3 h1 h10 h11 h12 h13), (h10, ce283 (z.2.1 0) o2 h10), (h11, ce284 (z.2.1 0) o3 h11), (h12, ce285 (z.2.1 0) o4 h12), (h13, ce286 (z.2.1 0) o5 h13)] [(kc0, .int), (kc1, .object "java/lang/Object"), (kc2, .object "java/lang/Object"), (kc3, .object "java/lang/Object")] sz z)) (va_Qi (fun (r : Int32) (_ : Unit) => r = 0) (fun (_ : Unit) (t : State) => PG (dC, dI) [(h0, ce271 h2 h3), (h1, ce287 (z.2.1 0) o0 h1), (h2, ce7 h4 h5 o1 h6), (h3, ce270 kc0), (h4, ce201 h7), (h5, ce201 h8), (h6, ce226 h9), (h7, ce200 kc1 h1 h10 h11 h12 h13), (h8, ce200 kc2 h1 h10 h11 h12 h13), (h9, ce200 kc3 h1 h10 h11 h12 h13), (h10, ce283 (z.2.1 0) o2 h10), (h11, ce284 (z.2.1 0) o3 h11), (h12, ce285 (z.2.1 0) o4 h12), (h13, ce286 (z.2.1 0) o5 h13)] [(kc0, .int), (kc1, .object "java/lang/Object"), (kc2, .object "java/lang/Object"), (kc3, .object "java/lang/Object")] (va_A [(h0, ce271 h2 h3), (h1, ce282 (z.2.1 0) o0 h1), (h2, ce7 h4 h5 o1 h6), (h3, ce270 kc0), (h4, ce201 h7), (h5, ce201 h8), (h6, ce226 h9), (h7, ce200 kc1 h1 h10 h11 h12 h13), (h8, ce200 kc2 h1 h10 h11 h12 h13), (h9, ce200 kc3 h1 h10 h11 h12 h13), (h10, ce283 (z.2.1 0) o2 h10), (h11, ce284 (z.2.1 0) o3 h11), (h12, ce285 (z.2.1 0) o4 h12), (h13, ce286 (z.2.1 0) o5 h13)] sz) sz 0 t) (va_A [(h0, ce271 h2 h3), (h1, ce282 (z.2.1 0) o0 h1), (h2, ce7 h4 h5 o1 h6), (h3, ce270 kc0), (h4, ce201 h7), (h5, ce201 h8), (h6, ce226 h9), (h7, ce200 kc1 h1 h10 h11 h12 h13), (h8, ce200 kc2 h1 h10 h11 h12 h13), (h9, ce200 kc3 h1 h10 h11 h12 h13), (h10, ce283 (z.2.1 0) o2 h10), (h11, ce284 (z.2.1 0) o3 h11), (h12, ce285 (z.2.1 0) o4 h12), (h13, ce286 (z.2.1 0) o5 h13)] sz)) 0 0 (va_A [(h0, ce271 h2 h3), (h1, ce282 (z.2.1 0) o0 h1), (h2, ce7 h4 h5 o1 h6), (h3, ce270 kc0), (h4, ce201 h7), (h5, ce201 h8), (h6, ce226 h9), (h7, ce200 kc1 h1 h10 h11 h12 h13), (h8, ce200 kc2 h1 h10 h11 h12 h13), (h9, ce200 kc3 h1 h10 h11 h12 h13), (h10, ce283 (z.2.1 0) o2 h10), (h11, ce284 (z.2.1 0) o3 h11), (h12, ce285 (z.2.1 0) o4 h12), (h13, ce286 (z.2.1 0) o5 h13)] sz) := by
  refine Met.ofW (cc := cX4_isShownBySomeTest) (maxL := 4) (ret := (some .boolean)) (by decide) rfl ?_
  intro p e s m args below meth c s₁ B hml hv
  obtain ⟨rfl, hsz, hP, hK, hD0, hX, hT⟩ := hv
  have hx := B.exec
  have hb := B.bytes
  have hr := B.returns
  have hts0 := atoms_spec (ws := .code yX4_isShownBySomeTest cX4_isShownBySomeTest 4 (some .boolean) :: wsL_law) B.pre
  have hts := xTail hts0
  have hown : s.vm.findClass RX4 = some m.cls := xown B.named rfl
  have hlocks := B.notSynchronized
  subst hsz
  have hD := hD0.self (sz := s.heap.size)
  generalize hAe : va_A [(h0, ce271 h2 h3), (h1, ce282 (z.2.1 0) o0 h1), (h2, ce7 h4 h5 o1 h6), (h3, ce270 kc0), (h4, ce201 h7), (h5, ce201 h8), (h6, ce226 h9), (h7, ce200 kc1 h1 h10 h11 h12 h13), (h8, ce200 kc2 h1 h10 h11 h12 h13), (h9, ce200 kc3 h1 h10 h11 h12 h13), (h10, ce283 (z.2.1 0) o2 h10), (h11, ce284 (z.2.1 0) o3 h11), (h12, ce285 (z.2.1 0) o4 h12), (h13, ce286 (z.2.1 0) o5 h13)] s.heap.size = A at hD hX ⊢
  have hA : ∀ q : Nat, s.heap.size ≤ q → A q := fun q h => by rw [← hAe]; exact Or.inr h
  have hS : va_S A s.heap s.heap [] := va_S.rf
  have hG : s.heap.size + 0 ≤ s.heap.size := Nat.le_refl _
  have hl := lv_entry ([.ref h0, .ref h1, .int 49]) (n := 4) (Nat.le_of_ble_eq_true rfl)
  rw [lg_entry_eq]
  generalize (lg_sl ([.ref h0, .ref h1, .int 49]) ++ List.replicate (4 - (lg_sl ([.ref h0, .ref h1, .int 49])).length) Slot.unset).toArray = ls at hl ⊢
  have hl : lv_has ls 4 [(0, .ref h0), (1, .ref h1), (2, .int 49)] := hl
  refine lv_iconst (v := 0) hx hb dX4_isShownBySomeTest_0 (by decide) ?_
  refine lv_istore_n (lv' := [(3, .int 0), (0, .ref h0), (1, .ref h1), (2, .int 49)]) hx hb dX4_isShownBySomeTest_1 rfl hl (by decide) rfl (fun ls hl => ?_)
  refine lv_iload_n hx hb dX4_isShownBySomeTest_2 rfl (lv_at hl 0 rfl) ?_
  refine lv_aload_n hx hb dX4_isShownBySomeTest_3 rfl (lv_at hl 1 rfl) ?_
  refine va_get (D := (dC, dI)) (ci := 4) (v := .int 7) (C := RX4) (T := TX4) (N := 3) hx hb hts in_X4 hown hK hP 0 rfl rfl 2 (by decide) (hts _ q_358) (fun _ h9 => h9) rfl dX4_isShownBySomeTest_4 ?_
  refine lv_icmp_ge (tgt := 42) hx hb dX4_isShownBySomeTest_7 (by decide) (fun cz => absurd cz (by decide)) (fun _ => ?_)
  refine lv_iload_n hx hb dX4_isShownBySomeTest_10 rfl (lv_at hl 0 rfl) ?_
  refine lv_aload_n hx hb dX4_isShownBySomeTest_11 rfl (lv_at hl 1 rfl) ?_
  refine va_get (D := (dC, dI)) (ci := 4) (v := .ref h3) (C := RX4) (T := TX4) (N := 3) hx hb hts in_X4 hown hK hP 0 rfl rfl 1 (by decide) (hts _ q_49) (fun _ h9 => h9) rfl dX4_isShownBySomeTest_12 ?_
  refine va_alen hx hb hK hP 3 0 rfl rfl (v := 8) rfl dX4_isShownBySomeTest_15 ?_
  refine lv_icmp_ge (tgt := 42) hx hb dX4_isShownBySomeTest_16 (by decide) (fun cz => absurd cz (by decide)) (fun _ => ?_)
  refine lv_aload_n hx hb dX4_isShownBySomeTest_19 rfl (lv_at hl 1 rfl) ?_
  refine lv_aload_n hx hb dX4_isShownBySomeTest_20 rfl (lv_at hl 2 rfl) ?_
  refine lv_iload_n hx hb dX4_isShownBySomeTest_21 rfl (lv_at hl 3 rfl) ?_
  refine lv_aload_n hx hb dX4_isShownBySomeTest_22 rfl (lv_at hl 1 rfl) ?_
  refine va_get (D := (dC, dI)) (ci := 4) (v := .ref h3) (C := RX4) (T := TX4) (N := 3) hx hb hts in_X4 hown hK hP 0 rfl rfl 1 (by decide) (hts _ q_49) (fun _ h9 => h9) rfl dX4_isShownBySomeTest_23 ?_
  refine lv_iload_n hx hb dX4_isShownBySomeTest_26 rfl (lv_at hl 0 rfl) ?_
  refine va_iald hx hb hK hP 3 0 rfl rfl (i := 0) (by unfold vp_in; decide) dX4_isShownBySomeTest_27 ?_
  refine W.eq (g2 := F0 m 28 ls [.int 0, .int 49, .ref h1, .ref h0]) rfl ?_
  have hM3 := k673_isStuckShown l hl9 dC dI z h0 h1 h2 h4 h5 h6 h7 h8 h9 h10 h11 h12 h13 h3 o0 o1 o2 o3 o4 o5 s.heap.size kc1 kc2 kc3
  obtain ⟨hF1, hC4⟩ := pc_M hM3 hP hD hK hS hX hT hA [0, 1, 2, 4, 5, 6, 7, 8, 9, 10, 11, 12, 13] [1, 2, 3] rfl rfl rfl
  refine va_calli (va_runV (As := [.ref h1, .int 49, .int 0]) (rest := []) ⟨hx, hb, hml, hown, hts⟩ hM3 (cwV 3 hts (gV q_392 q_393 q_394 q_46 q_391) rfl rfl rfl hV_X4_isStuckShown ⟨Nat.le_of_ble_eq_true rfl, Nat.le_of_ble_eq_true rfl⟩) ⟨pc_blind, va_recv hK hP (ci := 4) (q := (RX4, TX4, 3)) (q0 := 0) rfl rfl, fun U hU hW => ⟨rfl, hC4 U hU hW⟩⟩ rfl rfl hl.1 rfl (lv_room (Nat.le_of_ble_eq_true rfl)) dX4_isShownBySomeTest_28 ⟨(Nat.le_of_ble_eq_true rfl), (Nat.le_of_ble_eq_true rfl)⟩) hS (fun q9 _ h9 => hF1 q9 h9) hF1 (fun r6 u5 t5 H5 L5 ht5 hvm5 hw5 hB5 hz5 hk5 hS => ?_)
  obtain ⟨hP, hD, hK⟩ := pq_jn (wz := [(h3, ce270 kc0), (h0, ce271 h2 h3), (h1, ce287 (z.2.1 0) o0 h1), (h2, ce7 h4 h5 o1 h6), (h4, ce201 h7), (h5, ce201 h8), (h6, ce226 h9), (h7, ce200 kc1 h1 h10 h11 h12 h13), (h8, ce200 kc2 h1 h10 h11 h12 h13), (h9, ce200 kc3 h1 h10 h11 h12 h13), (h10, ce283 (z.2.1 0) o2 h10), (h11, ce284 (z.2.1 0) o3 h11), (h12, ce285 (z.2.1 0) o4 h12), (h13, ce286 (z.2.1 0) o5 h13)]) (tz := [(kc0, .int), (kc1, .object "java/lang/Object"), (kc2, .object "java/lang/Object"), (kc3, .object "java/lang/Object")]) hP hD hK [0, 1, 2, 4, 5, 6, 7, 8, 9, 10, 11, 12, 13] [0] rfl hk5 hF1 hB5.1 ht5 hvm5 rfl rfl
  have hG : s.heap.size + 0 ≤ H5.size := Nat.le_trans hG hz5
  refine W.eq (g2 := F0 m 31 ls [.int 0]) (by rw [hw5]) ?_
  refine lv_if_eq (tgt := 36) hx hb dX4_isShownBySomeTest_31 (by decide) (fun _ => ?_) (fun cz => absurd (by decide) cz)
  refine lv_iinc (v := 1) (lv' := [(3, .int 1), (0, .ref h0), (1, .ref h1), (2, .int 49)]) hx hb dX4_isShownBySomeTest_36 hl (k := 0) rfl (by decide) (by decide) rfl (fun ls hl => ?_)
  refine lv_goto (tgt := 2) hx hb dX4_isShownBySomeTest_39 (by decide) ?_
  refine lv_iload_n hx hb dX4_isShownBySomeTest_2 rfl (lv_at hl 0 rfl) ?_
  refine lv_aload_n hx hb dX4_isShownBySomeTest_3 rfl (lv_at hl 1 rfl) ?_
  refine va_get (D := (dC, dI)) (ci := 4) (v := .int 7) (C := RX4) (T := TX4) (N := 3) hx hb hts in_X4 hown hK hP 1 rfl rfl 2 (by decide) (hts _ q_358) (fun _ h9 => h9) rfl dX4_isShownBySomeTest_4 ?_
  refine lv_icmp_ge (tgt := 42) hx hb dX4_isShownBySomeTest_7 (by decide) (fun cz => absurd cz (by decide)) (fun _ => ?_)
  refine lv_iload_n hx hb dX4_isShownBySomeTest_10 rfl (lv_at hl 0 rfl) ?_
  refine lv_aload_n hx hb dX4_isShownBySomeTest_11 rfl (lv_at hl 1 rfl) ?_
  refine va_get (D := (dC, dI)) (ci := 4) (v := .ref h3) (C := RX4) (T := TX4) (N := 3) hx hb hts in_X4 hown hK hP 1 rfl rfl 1 (by decide) (hts _ q_49) (fun _ h9 => h9) rfl dX4_isShownBySomeTest_12 ?_
  refine va_alen hx hb hK hP 0 0 rfl rfl (v := 8) rfl dX4_isShownBySomeTest_15 ?_
  refine lv_icmp_ge (tgt := 42) hx hb dX4_isShownBySomeTest_16 (by decide) (fun cz => absurd cz (by decide)) (fun _ => ?_)
  refine lv_aload_n hx hb dX4_isShownBySomeTest_19 rfl (lv_at hl 1 rfl) ?_
  refine lv_aload_n hx hb dX4_isShownBySomeTest_20 rfl (lv_at hl 2 rfl) ?_
  refine lv_iload_n hx hb dX4_isShownBySomeTest_21 rfl (lv_at hl 3 rfl) ?_
  refine lv_aload_n hx hb dX4_isShownBySomeTest_22 rfl (lv_at hl 1 rfl) ?_
  refine va_get (D := (dC, dI)) (ci := 4) (v := .ref h3) (C := RX4) (T := TX4) (N := 3) hx hb hts in_X4 hown hK hP 1 rfl rfl 1 (by decide) (hts _ q_49) (fun _ h9 => h9) rfl dX4_isShownBySomeTest_23 ?_
  refine lv_iload_n hx hb dX4_isShownBySomeTest_26 rfl (lv_at hl 0 rfl) ?_
  refine va_iald hx hb hK hP 0 0 rfl rfl (i := 1) (by unfold vp_in; decide) dX4_isShownBySomeTest_27 ?_
  refine W.eq (g2 := F0 m 28 ls [.int 0, .int 49, .ref h1, .ref h0]) rfl ?_
  have hM9 := k569_isStuckShown l hl9 dC dI z h0 h1 h2 h4 h5 h6 h7 h8 h9 h10 h11 h12 h13 h3 o0 o1 o2 o3 o4 o5 H5.size kc1 kc2 kc3
  obtain ⟨hF7, hC10⟩ := pc_M hM9 hP hD hK hS hX hT hA [1, 2, 3, 4, 5, 6, 7, 8, 9, 10, 11, 12, 13] [1, 2, 3] rfl rfl rfl
  refine va_calli (va_runV (As := [.ref h1, .int 49, .int 0]) (rest := []) ⟨hx, hb, hml, hown, hts⟩ hM9 (cwV 3 hts (gV q_392 q_393 q_394 q_46 q_391) rfl rfl rfl hV_X4_isStuckShown ⟨Nat.le_of_ble_eq_true rfl, Nat.le_of_ble_eq_true rfl⟩) ⟨pc_blind, va_recv hK hP (ci := 4) (q := (RX4, TX4, 3)) (q0 := 1) rfl rfl, fun U hU hW => ⟨rfl, hC10 U hU hW⟩⟩ rfl rfl hl.1 rfl (lv_room (Nat.le_of_ble_eq_true rfl)) dX4_isShownBySomeTest_28 ⟨(Nat.le_of_ble_eq_true rfl), (Nat.le_of_ble_eq_true rfl)⟩) hS (fun q9 _ h9 => hF7 q9 h9) hF7 (fun r12 u11 t11 H11 L11 ht11 hvm11 hw11 hB11 hz11 hk11 hS => ?_)
  have hP := pq_keep hP hD [1, 2, 3, 4, 5, 6, 7, 8, 9, 10, 11, 12, 13] rfl hk11 hB11.1 ht11
  have hG : s.heap.size + 0 ≤ H11.size := Nat.le_trans hG hz11
  refine W.eq (g2 := F0 m 31 ls [.int 0]) (by rw [hw11]) ?_
  refine lv_if_eq (tgt := 36) hx hb dX4_isShownBySomeTest_31 (by decide) (fun _ => ?_) (fun cz => absurd (by decide) cz)
  refine lv_iinc (v := 2) (lv' := [(3, .int 2), (0, .ref h0), (1, .ref h1), (2, .int 49)]) hx hb dX4_isShownBySomeTest_36 hl (k := 0) rfl (by decide) (by decide) rfl (fun ls hl => ?_)
  refine lv_goto (tgt := 2) hx hb dX4_isShownBySomeTest_39 (by decide) ?_
  refine lv_iload_n hx hb dX4_isShownBySomeTest_2 rfl (lv_at hl 0 rfl) ?_
  refine lv_aload_n hx hb dX4_isShownBySomeTest_3 rfl (lv_at hl 1 rfl) ?_
  refine va_get (D := (dC, dI)) (ci := 4) (v := .int 7) (C := RX4) (T := TX4) (N := 3) hx hb hts in_X4 hown hK hP 1 rfl rfl 2 (by decide) (hts _ q_358) (fun _ h9 => h9) rfl dX4_isShownBySomeTest_4 ?_
  refine lv_icmp_ge (tgt := 42) hx hb dX4_isShownBySomeTest_7 (by decide) (fun cz => absurd cz (by decide)) (fun _ => ?_)
  refine lv_iload_n hx hb dX4_isShownBySomeTest_10 rfl (lv_at hl 0 rfl) ?_
  refine lv_aload_n hx hb dX4_isShownBySomeTest_11 rfl (lv_at hl 1 rfl) ?_
  refine va_get (D := (dC, dI)) (ci := 4) (v := .ref h3) (C := RX4) (T := TX4) (N := 3) hx hb hts in_X4 hown hK hP 1 rfl rfl 1 (by decide) (hts _ q_49) (fun _ h9 => h9) rfl dX4_isShownBySomeTest_12 ?_
  refine va_alen hx hb hK hP 0 0 rfl rfl (v := 8) rfl dX4_isShownBySomeTest_15 ?_
  refine lv_icmp_ge (tgt := 42) hx hb dX4_isShownBySomeTest_16 (by decide) (fun cz => absurd cz (by decide)) (fun _ => ?_)
  refine lv_aload_n hx hb dX4_isShownBySomeTest_19 rfl (lv_at hl 1 rfl) ?_
  refine lv_aload_n hx hb dX4_isShownBySomeTest_20 rfl (lv_at hl 2 rfl) ?_
  refine lv_iload_n hx hb dX4_isShownBySomeTest_21 rfl (lv_at hl 3 rfl) ?_
  refine lv_aload_n hx hb dX4_isShownBySomeTest_22 rfl (lv_at hl 1 rfl) ?_
  refine va_get (D := (dC, dI)) (ci := 4) (v := .ref h3) (C := RX4) (T := TX4) (N := 3) hx hb hts in_X4 hown hK hP 1 rfl rfl 1 (by decide) (hts _ q_49) (fun _ h9 => h9) rfl dX4_isShownBySomeTest_23 ?_
  refine lv_iload_n hx hb dX4_isShownBySomeTest_26 rfl (lv_at hl 0 rfl) ?_
  refine va_iald hx hb hK hP 0 0 rfl rfl (i := 2) (by unfold vp_in; decide) dX4_isShownBySomeTest_27 ?_
  refine W.eq (g2 := F0 m 28 ls [.int 0, .int 49, .ref h1, .ref h0]) rfl ?_
  have hM15 := k569_isStuckShown l hl9 dC dI z h0 h1 h2 h4 h5 h6 h7 h8 h9 h10 h11 h12 h13 h3 o0 o1 o2 o3 o4 o5 H11.size kc1 kc2 kc3
  obtain ⟨hF13, hC16⟩ := pc_M hM15 hP hD hK hS hX hT hA [1, 2, 3, 4, 5, 6, 7, 8, 9, 10, 11, 12, 13] [1, 2, 3] rfl rfl rfl
  refine va_calli (va_runV (As := [.ref h1, .int 49, .int 0]) (rest := []) ⟨hx, hb, hml, hown, hts⟩ hM15 (cwV 3 hts (gV q_392 q_393 q_394 q_46 q_391) rfl rfl rfl hV_X4_isStuckShown ⟨Nat.le_of_ble_eq_true rfl, Nat.le_of_ble_eq_true rfl⟩) ⟨pc_blind, va_recv hK hP (ci := 4) (q := (RX4, TX4, 3)) (q0 := 1) rfl rfl, fun U hU hW => ⟨rfl, hC16 U hU hW⟩⟩ rfl rfl hl.1 rfl (lv_room (Nat.le_of_ble_eq_true rfl)) dX4_isShownBySomeTest_28 ⟨(Nat.le_of_ble_eq_true rfl), (Nat.le_of_ble_eq_true rfl)⟩) hS (fun q9 _ h9 => hF13 q9 h9) hF13 (fun r18 u17 t17 H17 L17 ht17 hvm17 hw17 hB17 hz17 hk17 hS => ?_)
  have hP := pq_keep hP hD [1, 2, 3, 4, 5, 6, 7, 8, 9, 10, 11, 12, 13] rfl hk17 hB17.1 ht17
  have hG : s.heap.size + 0 ≤ H17.size := Nat.le_trans hG hz17
  refine W.eq (g2 := F0 m 31 ls [.int 0]) (by rw [hw17]) ?_
  refine lv_if_eq (tgt := 36) hx hb dX4_isShownBySomeTest_31 (by decide) (fun _ => ?_) (fun cz => absurd (by decide) cz)
  refine lv_iinc (v := 3) (lv' := [(3, .int 3), (0, .ref h0), (1, .ref h1), (2, .int 49)]) hx hb dX4_isShownBySomeTest_36 hl (k := 0) rfl (by decide) (by decide) rfl (fun ls hl => ?_)
  refine lv_goto (tgt := 2) hx hb dX4_isShownBySomeTest_39 (by decide) ?_
  refine lv_iload_n hx hb dX4_isShownBySomeTest_2 rfl (lv_at hl 0 rfl) ?_
  refine lv_aload_n hx hb dX4_isShownBySomeTest_3 rfl (lv_at hl 1 rfl) ?_
  refine va_get (D := (dC, dI)) (ci := 4) (v := .int 7) (C := RX4) (T := TX4) (N := 3) hx hb hts in_X4 hown hK hP 1 rfl rfl 2 (by decide) (hts _ q_358) (fun _ h9 => h9) rfl dX4_isShownBySomeTest_4 ?_
  refine lv_icmp_ge (tgt := 42) hx hb dX4_isShownBySomeTest_7 (by decide) (fun cz => absurd cz (by decide)) (fun _ => ?_)
  refine lv_iload_n hx hb dX4_isShownBySomeTest_10 rfl (lv_at hl 0 rfl) ?_
  refine lv_aload_n hx hb dX4_isShownBySomeTest_11 rfl (lv_at hl 1 rfl) ?_
  refine va_get (D := (dC, dI)) (ci := 4) (v := .ref h3) (C := RX4) (T := TX4) (N := 3) hx hb hts in_X4 hown hK hP 1 rfl rfl 1 (by decide) (hts _ q_49) (fun _ h9 => h9) rfl dX4_isShownBySomeTest_12 ?_
  refine va_alen hx hb hK hP 0 0 rfl rfl (v := 8) rfl dX4_isShownBySomeTest_15 ?_
  refine lv_icmp_ge (tgt := 42) hx hb dX4_isShownBySomeTest_16 (by decide) (fun cz => absurd cz (by decide)) (fun _ => ?_)
  refine lv_aload_n hx hb dX4_isShownBySomeTest_19 rfl (lv_at hl 1 rfl) ?_
  refine lv_aload_n hx hb dX4_isShownBySomeTest_20 rfl (lv_at hl 2 rfl) ?_
  refine lv_iload_n hx hb dX4_isShownBySomeTest_21 rfl (lv_at hl 3 rfl) ?_
  refine lv_aload_n hx hb dX4_isShownBySomeTest_22 rfl (lv_at hl 1 rfl) ?_
  refine va_get (D := (dC, dI)) (ci := 4) (v := .ref h3) (C := RX4) (T := TX4) (N := 3) hx hb hts in_X4 hown hK hP 1 rfl rfl 1 (by decide) (hts _ q_49) (fun _ h9 => h9) rfl dX4_isShownBySomeTest_23 ?_
  refine lv_iload_n hx hb dX4_isShownBySomeTest_26 rfl (lv_at hl 0 rfl) ?_
  refine va_iald hx hb hK hP 0 0 rfl rfl (i := 3) (by unfold vp_in; decide) dX4_isShownBySomeTest_27 ?_
  refine W.eq (g2 := F0 m 28 ls [.int 0, .int 49, .ref h1, .ref h0]) rfl ?_
  have hM21 := k569_isStuckShown l hl9 dC dI z h0 h1 h2 h4 h5 h6 h7 h8 h9 h10 h11 h12 h13 h3 o0 o1 o2 o3 o4 o5 H17.size kc1 kc2 kc3
  obtain ⟨hF19, hC22⟩ := pc_M hM21 hP hD hK hS hX hT hA [1, 2, 3, 4, 5, 6, 7, 8, 9, 10, 11, 12, 13] [1, 2, 3] rfl rfl rfl
  refine va_calli (va_runV (As := [.ref h1, .int 49, .int 0]) (rest := []) ⟨hx, hb, hml, hown, hts⟩ hM21 (cwV 3 hts (gV q_392 q_393 q_394 q_46 q_391) rfl rfl rfl hV_X4_isStuckShown ⟨Nat.le_of_ble_eq_true rfl, Nat.le_of_ble_eq_true rfl⟩) ⟨pc_blind, va_recv hK hP (ci := 4) (q := (RX4, TX4, 3)) (q0 := 1) rfl rfl, fun U hU hW => ⟨rfl, hC22 U hU hW⟩⟩ rfl rfl hl.1 rfl (lv_room (Nat.le_of_ble_eq_true rfl)) dX4_isShownBySomeTest_28 ⟨(Nat.le_of_ble_eq_true rfl), (Nat.le_of_ble_eq_true rfl)⟩) hS (fun q9 _ h9 => hF19 q9 h9) hF19 (fun r24 u23 t23 H23 L23 ht23 hvm23 hw23 hB23 hz23 hk23 hS => ?_)
  have hP := pq_keep hP hD [1, 2, 3, 4, 5, 6, 7, 8, 9, 10, 11, 12, 13] rfl hk23 hB23.1 ht23
  have hG : s.heap.size + 0 ≤ H23.size := Nat.le_trans hG hz23
  refine W.eq (g2 := F0 m 31 ls [.int 0]) (by rw [hw23]) ?_
  refine lv_if_eq (tgt := 36) hx hb dX4_isShownBySomeTest_31 (by decide) (fun _ => ?_) (fun cz => absurd (by decide) cz)
  refine lv_iinc (v := 4) (lv' := [(3, .int 4), (0, .ref h0), (1, .ref h1), (2, .int 49)]) hx hb dX4_isShownBySomeTest_36 hl (k := 0) rfl (by decide) (by decide) rfl (fun ls hl => ?_)
  refine lv_goto (tgt := 2) hx hb dX4_isShownBySomeTest_39 (by decide) ?_
  refine lv_iload_n hx hb dX4_isShownBySomeTest_2 rfl (lv_at hl 0 rfl) ?_
  refine lv_aload_n hx hb dX4_isShownBySomeTest_3 rfl (lv_at hl 1 rfl) ?_
  refine va_get (D := (dC, dI)) (ci := 4) (v := .int 7) (C := RX4) (T := TX4) (N := 3) hx hb hts in_X4 hown hK hP 1 rfl rfl 2 (by decide) (hts _ q_358) (fun _ h9 => h9) rfl dX4_isShownBySomeTest_4 ?_
  refine lv_icmp_ge (tgt := 42) hx hb dX4_isShownBySomeTest_7 (by decide) (fun cz => absurd cz (by decide)) (fun _ => ?_)
  refine lv_iload_n hx hb dX4_isShownBySomeTest_10 rfl (lv_at hl 0 rfl) ?_
  refine lv_aload_n hx hb dX4_isShownBySomeTest_11 rfl (lv_at hl 1 rfl) ?_
  refine va_get (D := (dC, dI)) (ci := 4) (v := .ref h3) (C := RX4) (T := TX4) (N := 3) hx hb hts in_X4 hown hK hP 1 rfl rfl 1 (by decide) (hts _ q_49) (fun _ h9 => h9) rfl dX4_isShownBySomeTest_12 ?_
  refine va_alen hx hb hK hP 0 0 rfl rfl (v := 8) rfl dX4_isShownBySomeTest_15 ?_
  refine lv_icmp_ge (tgt := 42) hx hb dX4_isShownBySomeTest_16 (by decide) (fun cz => absurd cz (by decide)) (fun _ => ?_)
  refine lv_aload_n hx hb dX4_isShownBySomeTest_19 rfl (lv_at hl 1 rfl) ?_
  refine lv_aload_n hx hb dX4_isShownBySomeTest_20 rfl (lv_at hl 2 rfl) ?_
  refine lv_iload_n hx hb dX4_isShownBySomeTest_21 rfl (lv_at hl 3 rfl) ?_
  refine lv_aload_n hx hb dX4_isShownBySomeTest_22 rfl (lv_at hl 1 rfl) ?_
  refine va_get (D := (dC, dI)) (ci := 4) (v := .ref h3) (C := RX4) (T := TX4) (N := 3) hx hb hts in_X4 hown hK hP 1 rfl rfl 1 (by decide) (hts _ q_49) (fun _ h9 => h9) rfl dX4_isShownBySomeTest_23 ?_
  refine lv_iload_n hx hb dX4_isShownBySomeTest_26 rfl (lv_at hl 0 rfl) ?_
  refine va_iald hx hb hK hP 0 0 rfl rfl (i := 4) (by unfold vp_in; decide) dX4_isShownBySomeTest_27 ?_
  refine W.eq (g2 := F0 m 28 ls [.int 0, .int 49, .ref h1, .ref h0]) rfl ?_
  have hM27 := k569_isStuckShown l hl9 dC dI z h0 h1 h2 h4 h5 h6 h7 h8 h9 h10 h11 h12 h13 h3 o0 o1 o2 o3 o4 o5 H23.size kc1 kc2 kc3
  obtain ⟨hF25, hC28⟩ := pc_M hM27 hP hD hK hS hX hT hA [1, 2, 3, 4, 5, 6, 7, 8, 9, 10, 11, 12, 13] [1, 2, 3] rfl rfl rfl
  refine va_calli (va_runV (As := [.ref h1, .int 49, .int 0]) (rest := []) ⟨hx, hb, hml, hown, hts⟩ hM27 (cwV 3 hts (gV q_392 q_393 q_394 q_46 q_391) rfl rfl rfl hV_X4_isStuckShown ⟨Nat.le_of_ble_eq_true rfl, Nat.le_of_ble_eq_true rfl⟩) ⟨pc_blind, va_recv hK hP (ci := 4) (q := (RX4, TX4, 3)) (q0 := 1) rfl rfl, fun U hU hW => ⟨rfl, hC28 U hU hW⟩⟩ rfl rfl hl.1 rfl (lv_room (Nat.le_of_ble_eq_true rfl)) dX4_isShownBySomeTest_28 ⟨(Nat.le_of_ble_eq_true rfl), (Nat.le_of_ble_eq_true rfl)⟩) hS (fun q9 _ h9 => hF25 q9 h9) hF25 (fun r30 u29 t29 H29 L29 ht29 hvm29 hw29 hB29 hz29 hk29 hS => ?_)
  have hP := pq_keep hP hD [1, 2, 3, 4, 5, 6, 7, 8, 9, 10, 11, 12, 13] rfl hk29 hB29.1 ht29
  have hG : s.heap.size + 0 ≤ H29.size := Nat.le_trans hG hz29
  refine W.eq (g2 := F0 m 31 ls [.int 0]) (by rw [hw29]) ?_
  refine lv_if_eq (tgt := 36) hx hb dX4_isShownBySomeTest_31 (by decide) (fun _ => ?_) (fun cz => absurd (by decide) cz)
  refine lv_iinc (v := 5) (lv' := [(3, .int 5), (0, .ref h0), (1, .ref h1), (2, .int 49)]) hx hb dX4_isShownBySomeTest_36 hl (k := 0) rfl (by decide) (by decide) rfl (fun ls hl => ?_)
  refine lv_goto (tgt := 2) hx hb dX4_isShownBySomeTest_39 (by decide) ?_
  refine lv_iload_n hx hb dX4_isShownBySomeTest_2 rfl (lv_at hl 0 rfl) ?_
  refine lv_aload_n hx hb dX4_isShownBySomeTest_3 rfl (lv_at hl 1 rfl) ?_
  refine va_get (D := (dC, dI)) (ci := 4) (v := .int 7) (C := RX4) (T := TX4) (N := 3) hx hb hts in_X4 hown hK hP 1 rfl rfl 2 (by decide) (hts _ q_358) (fun _ h9 => h9) rfl dX4_isShownBySomeTest_4 ?_
  refine lv_icmp_ge (tgt := 42) hx hb dX4_isShownBySomeTest_7 (by decide) (fun cz => absurd cz (by decide)) (fun _ => ?_)
  refine lv_iload_n hx hb dX4_isShownBySomeTest_10 rfl (lv_at hl 0 rfl) ?_
  refine lv_aload_n hx hb dX4_isShownBySomeTest_11 rfl (lv_at hl 1 rfl) ?_
  refine va_get (D := (dC, dI)) (ci := 4) (v := .ref h3) (C := RX4) (T := TX4) (N := 3) hx hb hts in_X4 hown hK hP 1 rfl rfl 1 (by decide) (hts _ q_49) (fun _ h9 => h9) rfl dX4_isShownBySomeTest_12 ?_
  refine va_alen hx hb hK hP 0 0 rfl rfl (v := 8) rfl dX4_isShownBySomeTest_15 ?_
  refine lv_icmp_ge (tgt := 42) hx hb dX4_isShownBySomeTest_16 (by decide) (fun cz => absurd cz (by decide)) (fun _ => ?_)
  refine lv_aload_n hx hb dX4_isShownBySomeTest_19 rfl (lv_at hl 1 rfl) ?_
  refine lv_aload_n hx hb dX4_isShownBySomeTest_20 rfl (lv_at hl 2 rfl) ?_
  refine lv_iload_n hx hb dX4_isShownBySomeTest_21 rfl (lv_at hl 3 rfl) ?_
  refine lv_aload_n hx hb dX4_isShownBySomeTest_22 rfl (lv_at hl 1 rfl) ?_
  refine va_get (D := (dC, dI)) (ci := 4) (v := .ref h3) (C := RX4) (T := TX4) (N := 3) hx hb hts in_X4 hown hK hP 1 rfl rfl 1 (by decide) (hts _ q_49) (fun _ h9 => h9) rfl dX4_isShownBySomeTest_23 ?_
  refine lv_iload_n hx hb dX4_isShownBySomeTest_26 rfl (lv_at hl 0 rfl) ?_
  refine va_iald hx hb hK hP 0 0 rfl rfl (i := 5) (by unfold vp_in; decide) dX4_isShownBySomeTest_27 ?_
  refine W.eq (g2 := F0 m 28 ls [.int 0, .int 49, .ref h1, .ref h0]) rfl ?_
  have hM33 := k569_isStuckShown l hl9 dC dI z h0 h1 h2 h4 h5 h6 h7 h8 h9 h10 h11 h12 h13 h3 o0 o1 o2 o3 o4 o5 H29.size kc1 kc2 kc3
  obtain ⟨hF31, hC34⟩ := pc_M hM33 hP hD hK hS hX hT hA [1, 2, 3, 4, 5, 6, 7, 8, 9, 10, 11, 12, 13] [1, 2, 3] rfl rfl rfl
  refine va_calli (va_runV (As := [.ref h1, .int 49, .int 0]) (rest := []) ⟨hx, hb, hml, hown, hts⟩ hM33 (cwV 3 hts (gV q_392 q_393 q_394 q_46 q_391) rfl rfl rfl hV_X4_isStuckShown ⟨Nat.le_of_ble_eq_true rfl, Nat.le_of_ble_eq_true rfl⟩) ⟨pc_blind, va_recv hK hP (ci := 4) (q := (RX4, TX4, 3)) (q0 := 1) rfl rfl, fun U hU hW => ⟨rfl, hC34 U hU hW⟩⟩ rfl rfl hl.1 rfl (lv_room (Nat.le_of_ble_eq_true rfl)) dX4_isShownBySomeTest_28 ⟨(Nat.le_of_ble_eq_true rfl), (Nat.le_of_ble_eq_true rfl)⟩) hS (fun q9 _ h9 => hF31 q9 h9) hF31 (fun r36 u35 t35 H35 L35 ht35 hvm35 hw35 hB35 hz35 hk35 hS => ?_)
  have hP := pq_keep hP hD [1, 2, 3, 4, 5, 6, 7, 8, 9, 10, 11, 12, 13] rfl hk35 hB35.1 ht35
  have hG : s.heap.size + 0 ≤ H35.size := Nat.le_trans hG hz35
  refine W.eq (g2 := F0 m 31 ls [.int 0]) (by rw [hw35]) ?_
  refine lv_if_eq (tgt := 36) hx hb dX4_isShownBySomeTest_31 (by decide) (fun _ => ?_) (fun cz => absurd (by decide) cz)
  refine lv_iinc (v := 6) (lv' := [(3, .int 6), (0, .ref h0), (1, .ref h1), (2, .int 49)]) hx hb dX4_isShownBySomeTest_36 hl (k := 0) rfl (by decide) (by decide) rfl (fun ls hl => ?_)
  refine lv_goto (tgt := 2) hx hb dX4_isShownBySomeTest_39 (by decide) ?_
  refine lv_iload_n hx hb dX4_isShownBySomeTest_2 rfl (lv_at hl 0 rfl) ?_
  refine lv_aload_n hx hb dX4_isShownBySomeTest_3 rfl (lv_at hl 1 rfl) ?_
  refine va_get (D := (dC, dI)) (ci := 4) (v := .int 7) (C := RX4) (T := TX4) (N := 3) hx hb hts in_X4 hown hK hP 1 rfl rfl 2 (by decide) (hts _ q_358) (fun _ h9 => h9) rfl dX4_isShownBySomeTest_4 ?_
  refine lv_icmp_ge (tgt := 42) hx hb dX4_isShownBySomeTest_7 (by decide) (fun cz => absurd cz (by decide)) (fun _ => ?_)
  refine lv_iload_n hx hb dX4_isShownBySomeTest_10 rfl (lv_at hl 0 rfl) ?_
  refine lv_aload_n hx hb dX4_isShownBySomeTest_11 rfl (lv_at hl 1 rfl) ?_
  refine va_get (D := (dC, dI)) (ci := 4) (v := .ref h3) (C := RX4) (T := TX4) (N := 3) hx hb hts in_X4 hown hK hP 1 rfl rfl 1 (by decide) (hts _ q_49) (fun _ h9 => h9) rfl dX4_isShownBySomeTest_12 ?_
  refine va_alen hx hb hK hP 0 0 rfl rfl (v := 8) rfl dX4_isShownBySomeTest_15 ?_
  refine lv_icmp_ge (tgt := 42) hx hb dX4_isShownBySomeTest_16 (by decide) (fun cz => absurd cz (by decide)) (fun _ => ?_)
  refine lv_aload_n hx hb dX4_isShownBySomeTest_19 rfl (lv_at hl 1 rfl) ?_
  refine lv_aload_n hx hb dX4_isShownBySomeTest_20 rfl (lv_at hl 2 rfl) ?_
  refine lv_iload_n hx hb dX4_isShownBySomeTest_21 rfl (lv_at hl 3 rfl) ?_
  refine lv_aload_n hx hb dX4_isShownBySomeTest_22 rfl (lv_at hl 1 rfl) ?_
  refine va_get (D := (dC, dI)) (ci := 4) (v := .ref h3) (C := RX4) (T := TX4) (N := 3) hx hb hts in_X4 hown hK hP 1 rfl rfl 1 (by decide) (hts _ q_49) (fun _ h9 => h9) rfl dX4_isShownBySomeTest_23 ?_
  refine lv_iload_n hx hb dX4_isShownBySomeTest_26 rfl (lv_at hl 0 rfl) ?_
  refine va_iald hx hb hK hP 0 0 rfl rfl (i := 6) (by unfold vp_in; decide) dX4_isShownBySomeTest_27 ?_
  refine W.eq (g2 := F0 m 28 ls [.int 0, .int 49, .ref h1, .ref h0]) rfl ?_
  have hM39 := k569_isStuckShown l hl9 dC dI z h0 h1 h2 h4 h5 h6 h7 h8 h9 h10 h11 h12 h13 h3 o0 o1 o2 o3 o4 o5 H35.size kc1 kc2 kc3
  obtain ⟨hF37, hC40⟩ := pc_M hM39 hP hD hK hS hX hT hA [1, 2, 3, 4, 5, 6, 7, 8, 9, 10, 11, 12, 13] [1, 2, 3] rfl rfl rfl
  refine va_calli (va_runV (As := [.ref h1, .int 49, .int 0]) (rest := []) ⟨hx, hb, hml, hown, hts⟩ hM39 (cwV 3 hts (gV q_392 q_393 q_394 q_46 q_391) rfl rfl rfl hV_X4_isStuckShown ⟨Nat.le_of_ble_eq_true rfl, Nat.le_of_ble_eq_true rfl⟩) ⟨pc_blind, va_recv hK hP (ci := 4) (q := (RX4, TX4, 3)) (q0 := 1) rfl rfl, fun U hU hW => ⟨rfl, hC40 U hU hW⟩⟩ rfl rfl hl.1 rfl (lv_room (Nat.le_of_ble_eq_true rfl)) dX4_isShownBySomeTest_28 ⟨(Nat.le_of_ble_eq_true rfl), (Nat.le_of_ble_eq_true rfl)⟩) hS (fun q9 _ h9 => hF37 q9 h9) hF37 (fun r42 u41 t41 H41 L41 ht41 hvm41 hw41 hB41 hz41 hk41 hS => ?_)
  have hP := pq_keep hP hD [1, 2, 3, 4, 5, 6, 7, 8, 9, 10, 11, 12, 13] rfl hk41 hB41.1 ht41
  have hG : s.heap.size + 0 ≤ H41.size := Nat.le_trans hG hz41
  refine W.eq (g2 := F0 m 31 ls [.int 0]) (by rw [hw41]) ?_
  refine lv_if_eq (tgt := 36) hx hb dX4_isShownBySomeTest_31 (by decide) (fun _ => ?_) (fun cz => absurd (by decide) cz)
  refine lv_iinc (v := 7) (lv' := [(3, .int 7), (0, .ref h0), (1, .ref h1), (2, .int 49)]) hx hb dX4_isShownBySomeTest_36 hl (k := 0) rfl (by decide) (by decide) rfl (fun ls hl => ?_)
  refine lv_goto (tgt := 2) hx hb dX4_isShownBySomeTest_39 (by decide) ?_
  refine lv_iload_n hx hb dX4_isShownBySomeTest_2 rfl (lv_at hl 0 rfl) ?_
  refine lv_aload_n hx hb dX4_isShownBySomeTest_3 rfl (lv_at hl 1 rfl) ?_
  refine va_get (D := (dC, dI)) (ci := 4) (v := .int 7) (C := RX4) (T := TX4) (N := 3) hx hb hts in_X4 hown hK hP 1 rfl rfl 2 (by decide) (hts _ q_358) (fun _ h9 => h9) rfl dX4_isShownBySomeTest_4 ?_
  refine lv_icmp_ge (tgt := 42) hx hb dX4_isShownBySomeTest_7 (by decide) (fun _ => ?_) (fun cz => absurd (by decide) cz)
  refine lv_iconst (v := 0) hx hb dX4_isShownBySomeTest_42 (by decide) ?_
  exact W.zret (v := 0) (ty := .boolean) hx hb hr rfl (fun t9 ht9 hW9 => ⟨⟨0, (), rfl, rfl, ⟨pq_mk2 hP hD hK [1, 2, 3, 0, 4, 5, 6, 7, 8, 9, 10, 11, 12, 13] [0, 1, 2, 3] rfl rfl rfl ht9 hW9, by rw [ht9]; exact Nat.le_trans (Nat.add_le_add_left (Nat.le_of_ble_eq_true rfl) _) hG⟩⟩, hS.F ht9⟩) hS.2.2 dX4_isShownBySomeTest_43
