set_option maxHeartbeats 8000000 in
set_option maxRecDepth 100000 in
theorem k986_shown_g10 {p : Program} {l : Launch} {e : Env} {s : State} {m : MethodId} {args : Array Value} {below : List Frame} {meth : Method} {c : Code} {Q : State → Prop} {A : Nat → Prop} {H : Heap} {locs : List Loc} {ls : Array Slot} {dC : Nat → ClassId} {dI : Nat → Nat → Nat} {z : XZ} {h0 h1 h2 h3 h4 h5 h6 h7 h8 h9 h10 h11 h12 h13 h14 : Nat} {kc0 kc1 kc2 : ClassId} (hl9 : l.stackTraces = false) (hx : p.tables.exec = Jvm.exec) (hb : c.code = cX9_shown) (hml : c.maxLocals = 7) (hown : s.vm.findClass RX9 = some m.cls) (hts : ∀ w ∈ wsL_law, w.before args s = true) (hA : ∀ q : Nat, s.heap.size ≤ q → A q) (hX : XE z A s s.heap) (hT : XT s) (hS : va_S A s.heap H locs) (hP : va_P (dC, dI) xCl [(h0, ce21 h1 h2 h3 h4), (h1, ce331 h5), (h2, ce3 z.1), (h3, ce331 h6), (h4, ce366 h7), (h5, ce330 kc0 h8 h9 h10 h11 h12 h13 h14), (h6, ce330 kc1 (z.2.2.1 128) (z.2.2.1 128) (z.2.2.1 128) (z.2.2.1 128) (z.2.2.1 128) (z.2.2.1 128) (z.2.2.1 128)), (h7, ce330 kc2 (z.2.2.1 128) (z.2.2.1 129) (z.2.2.1 130) (z.2.2.1 131) (z.2.2.1 132) (z.2.2.1 133) (z.2.2.1 134)), (h8, ce49), (h9, ce49), (h10, ce49), (h11, ce49), (h12, ce49), (h13, ce49), (h14, ce49)] H) (hD : va_D A [(h0, ce21 h1 h2 h3 h4), (h1, ce331 h5), (h2, ce3 z.1), (h3, ce331 h6), (h4, ce366 h7), (h5, ce330 kc0 h8 h9 h10 h11 h12 h13 h14), (h6, ce330 kc1 (z.2.2.1 128) (z.2.2.1 128) (z.2.2.1 128) (z.2.2.1 128) (z.2.2.1 128) (z.2.2.1 128) (z.2.2.1 128)), (h7, ce330 kc2 (z.2.2.1 128) (z.2.2.1 129) (z.2.2.1 130) (z.2.2.1 131) (z.2.2.1 132) (z.2.2.1 133) (z.2.2.1 134)), (h8, ce49), (h9, ce49), (h10, ce49), (h11, ce49), (h12, ce49), (h13, ce49), (h14, ce49)]) (hK : va_K (dC, dI) xCl [(kc0, .object "java/lang/Object"), (kc1, .object "java/lang/Object"), (kc2, .object "java/lang/Object")] s) (hl : lv_has ls 7 [(3, .int 48), (2, .int 3), (1, .int 0), (0, .ref h0)]) (hG : s.heap.size + 1140 ≤ H.size) (hend : ∀ (H' : Heap) (locs' : List Loc) (ls' : Array Slot), va_S A s.heap H' locs' → va_P (dC, dI) xCl [(h0, ce21 h1 h2 h3 h4), (h1, ce331 h5), (h2, ce3 z.1), (h3, ce331 h6), (h4, ce366 h7), (h5, ce330 kc0 h8 h9 h10 h11 h12 h13 h14), (h6, ce330 kc1 (z.2.2.1 128) (z.2.2.1 128) (z.2.2.1 128) (z.2.2.1 128) (z.2.2.1 128) (z.2.2.1 128) (z.2.2.1 128)), (h7, ce330 kc2 (z.2.2.1 128) (z.2.2.1 129) (z.2.2.1 130) (z.2.2.1 131) (z.2.2.1 132) (z.2.2.1 133) (z.2.2.1 134)), (h8, ce49), (h9, ce49), (h10, ce49), (h11, ce49), (h12, ce49), (h13, ce49), (h14, ce49)] H' → va_D A [(h0, ce21 h1 h2 h3 h4), (h1, ce331 h5), (h2, ce3 z.1), (h3, ce331 h6), (h4, ce366 h7), (h5, ce330 kc0 h8 h9 h10 h11 h12 h13 h14), (h6, ce330 kc1 (z.2.2.1 128) (z.2.2.1 128) (z.2.2.1 128) (z.2.2.1 128) (z.2.2.1 128) (z.2.2.1 128) (z.2.2.1 128)), (h7, ce330 kc2 (z.2.2.1 128) (z.2.2.1 129) (z.2.2.1 130) (z.2.2.1 131) (z.2.2.1 132) (z.2.2.1 133) (z.2.2.1 134)), (h8, ce49), (h9, ce49), (h10, ce49), (h11, ce49), (h12, ce49), (h13, ce49), (h14, ce49)] → lv_has ls' 7 [(3, .int 49), (1, .int 0), (2, .int 3), (0, .ref h0)] → s.heap.size + 1330 ≤ H'.size → W p l e ({ frames := 5, cells := 2660, slots := 24752, locals := 121 } : Room) s m args below meth c H' locs' 1330 12376 Q (F0 m 23 ls' [])) : W p l e ({ frames := 5, cells := 2660, slots := 24752, locals := 121 } : Room) s m args below meth c H locs 1140 10608 Q (F0 m 23 ls []) := by
  refine lv_iload_n hx hb dX9_shown_23 rfl (lv_at hl 0 rfl) ?_
  refine lv_bipush (v := 49) hx hb dX9_shown_24 (by decide) ?_
  refine lv_icmp_gt (tgt := 113) hx hb dX9_shown_26 (by decide) (fun cz => absurd cz (by decide)) (fun _ => ?_)
  refine lv_iconst (v := 0) hx hb dX9_shown_29 (by decide) ?_
  refine lv_istore (lv' := [(4, .int 0), (3, .int 48), (2, .int 3), (1, .int 0), (0, .ref h0)]) hx hb dX9_shown_30 hl (by decide) rfl (fun ls hl => ?_)
  refine lv_aload_n hx hb dX9_shown_32 rfl (lv_at hl 4 rfl) ?_
  refine va_get (D := (dC, dI)) (ci := 8) (v := .ref h3) (C := RX9) (T := TX9) (N := 6) hx hb hts in_X9 hown hK hP 0 rfl rfl 3 (by decide) (hts _ q_66) (fun _ h9 => h9) rfl dX9_shown_33 ?_
  have hM1126 := k724_iterator l hl9 dC dI z h3 h6 H.size
  obtain ⟨hF1124, hC1127⟩ := pc_M hM1126 hP hD hK hS hX hT hA [3] [] rfl rfl rfl
  refine va_callr (va_runV (As := []) (rest := []) ⟨hx, hb, hml, hown, hts⟩ hM1126 (cwV 0 hts (gV q_256 q_257 q_258 q_12 q_255) rfl rfl rfl hV_Jx4a65c_iterator_32c93 ⟨Nat.le_of_ble_eq_true rfl, Nat.le_of_ble_eq_true rfl⟩) ⟨pc_blind, va_recv hK hP (ci := 0) (q := (RJx4a65c, TJx4a65c, 3)) (q0 := 3) rfl rfl, fun U hU hW => ⟨rfl, hC1127 U hU hW⟩⟩ rfl rfl hl.1 rfl (lv_room (Nat.le_of_ble_eq_true rfl)) dX9_shown_36 ⟨(Nat.le_of_ble_eq_true rfl), (Nat.le_of_ble_eq_true rfl)⟩) hS (fun q9 _ h9 => hF1124 q9 h9) hF1124 (fun u1128 r1129 t1128 H1128 L1128 ht1128 hvm1128 hw1128 hB1128 hz1128 hk1128 hS => ?_)
  obtain ⟨a1130, hr1128, hB1128⟩ := hB1128
  obtain ⟨hP, hD, hK⟩ := pq_jn (wz := [(h0, ce21 h1 h2 h3 h4), (h1, ce331 h5), (h2, ce3 z.1), (h4, ce366 h7), (h5, ce330 kc0 h8 h9 h10 h11 h12 h13 h14), (h6, ce330 kc1 (z.2.2.1 128) (z.2.2.1 128) (z.2.2.1 128) (z.2.2.1 128) (z.2.2.1 128) (z.2.2.1 128) (z.2.2.1 128)), (h7, ce330 kc2 (z.2.2.1 128) (z.2.2.1 129) (z.2.2.1 130) (z.2.2.1 131) (z.2.2.1 132) (z.2.2.1 133) (z.2.2.1 134)), (h8, ce49), (h9, ce49), (h10, ce49), (h11, ce49), (h12, ce49), (h13, ce49), (h14, ce49), (h3, ce331 h6), (a1130, ce370 h3)]) (tz := [(kc0, .object "java/lang/Object"), (kc1, .object "java/lang/Object"), (kc2, .object "java/lang/Object")]) hP hD hK [3] [0, 1, 2] rfl hk1128 hF1124 hB1128.1 ht1128 hvm1128 rfl rfl
  have hG : s.heap.size + 1141 ≤ H1128.size := va_gr (g := 1140) (g1 := 1) hG (by rw [← ht1128]; exact hB1128.2)
  refine W.eq (g2 := F0 m 39 ls [.ref a1130]) (by rw [hr1128]) ?_
  refine W.widen (k := 1141) (n := 10612) (by decide) (by decide) ?_
  refine lv_astore (lv' := [(5, .ref a1130), (4, .int 0), (3, .int 48), (2, .int 3), (1, .int 0), (0, .ref h0)]) hx hb dX9_shown_39 hl (by decide) rfl (fun ls hl => ?_)
  refine lv_aload hx hb dX9_shown_41 (lv_at hl 0 rfl) ?_
  have hM1133 := k725_hasNext l hl9 dC dI z a1130 h3 h6 H1128.size
  obtain ⟨hF1131, hC1134⟩ := pc_M hM1133 hP hD hK hS hX hT hA [15, 14] [] rfl rfl rfl
  refine va_callFi (va_runF (As := []) (rest := []) (hK.1 1 (RJx35411, TJx35411, 4) rfl).2 ⟨hx, hb, hml, hown, hts⟩ hM1133 (va_cwF 0 hts (gF q_261 q_262 q_263 q_246 q_260) rfl rfl rfl hT.2.2.2.2.2.2.1 hF_xIh ⟨Nat.le_of_ble_eq_true rfl, Nat.le_of_ble_eq_true rfl⟩) ⟨pc_blind, va_recv hK hP (ci := 1) (q := (RJx35411, TJx35411, 4)) (q0 := 15) rfl rfl, fun U hU hW => ⟨rfl, hC1134 U hU hW⟩⟩ rfl rfl hl.1 rfl (lv_room (Nat.le_of_ble_eq_true rfl)) dX9_shown_43 ⟨(Nat.le_of_ble_eq_true rfl), (Nat.le_of_ble_eq_true rfl)⟩) hS (fun q9 _ h9 => hF1131 q9 h9) hF1131 (fun r1136 u1135 t1135 H1135 L1135 ht1135 hvm1135 hw1135 hB1135 hz1135 hk1135 hS => ?_)
  have hP := pq_keep hP hD [15, 14] rfl hk1135 hB1135.1 ht1135
  have hG : s.heap.size + 1141 ≤ H1135.size := Nat.le_trans hG hz1135
  refine W.eq (g2 := F0 m 48 ls [.int 1]) (by rw [hw1135]) ?_
  refine lv_if_eq (tgt := 92) hx hb dX9_shown_48 (by decide) (fun cz => absurd cz (by decide)) (fun _ => ?_)
  refine lv_aload hx hb dX9_shown_51 (lv_at hl 0 rfl) ?_
  have hM1139 := k942_next l hl9 dC dI z a1130 h3 h6 H1135.size kc1
  obtain ⟨hF1137, hC1140⟩ := pc_M hM1139 hP hD hK hS hX hT hA [15, 14, 5] [1] rfl rfl rfl
  refine va_callFr (va_runF (As := []) (rest := []) (hK.1 1 (RJx35411, TJx35411, 4) rfl).2 ⟨hx, hb, hml, hown, hts⟩ hM1139 (va_cwF 0 hts (gF q_308 q_309 q_310 q_246 q_307) rfl rfl rfl hT.2.2.2.2.2.2.2.1 hF_xIn ⟨Nat.le_of_ble_eq_true rfl, Nat.le_of_ble_eq_true rfl⟩) ⟨pc_blind, va_recv hK hP (ci := 1) (q := (RJx35411, TJx35411, 4)) (q0 := 15) rfl rfl, fun U hU hW => ⟨rfl, hC1140 U hU hW⟩⟩ rfl rfl hl.1 rfl (lv_room (Nat.le_of_ble_eq_true rfl)) dX9_shown_53 ⟨(Nat.le_of_ble_eq_true rfl), (Nat.le_of_ble_eq_true rfl)⟩) hS (fun q9 _ h9 => hF1137 q9 h9) hF1137 (fun u1141 r1142 t1141 H1141 L1141 ht1141 hvm1141 hw1141 hB1141 hz1141 hk1141 hS => ?_)
  obtain ⟨hr1141, hB1141⟩ := hB1141
  obtain ⟨hP, hD, hK⟩ := pq_jn (wz := [(h0, ce21 h1 h2 h3 h4), (h1, ce331 h5), (h2, ce3 z.1), (h4, ce366 h7), (h5, ce330 kc0 h8 h9 h10 h11 h12 h13 h14), (h7, ce330 kc2 (z.2.2.1 128) (z.2.2.1 129) (z.2.2.1 130) (z.2.2.1 131) (z.2.2.1 132) (z.2.2.1 133) (z.2.2.1 134)), (h8, ce49), (h9, ce49), (h10, ce49), (h11, ce49), (h12, ce49), (h13, ce49), (h14, ce49), (a1130, ce372 h3), (h3, ce331 h6), (h6, ce330 kc1 (z.2.2.1 128) (z.2.2.1 128) (z.2.2.1 128) (z.2.2.1 128) (z.2.2.1 128) (z.2.2.1 128) (z.2.2.1 128))]) (tz := [(kc0, .object "java/lang/Object"), (kc2, .object "java/lang/Object"), (kc1, .object "java/lang/Object")]) hP hD hK [15, 14, 5] [0, 2] rfl hk1141 hF1137 hB1141.1 ht1141 hvm1141 rfl rfl
  have hG : s.heap.size + 1141 ≤ H1141.size := Nat.le_trans hG hz1141
  refine W.eq (g2 := F0 m 58 ls [.ref (z.2.2.1 128)]) (by rw [hr1141]) ?_
  refine va_castE (nm := "java/lang/Integer") hx hb hown (hts _ q_320) (va_Orecv (hX.2.2.1.1.1 128 (by decide)) hS) dX9_shown_58 ?_
  have hM1145 := k74_intValue l hl9 dC dI z H1141.size
  obtain ⟨hF1143, hC1146⟩ := pc_M hM1145 hP hD hK hS hX hT hA [] [] rfl rfl rfl
  refine va_calli (va_runV (As := []) (rest := []) ⟨hx, hb, hml, hown, hts⟩ hM1145 (cwV 0 hts (gV q_323 q_324 q_325 q_297 q_322) rfl rfl rfl hV_J6_intValue_8abf5 ⟨Nat.le_of_ble_eq_true rfl, Nat.le_of_ble_eq_true rfl⟩) ⟨pc_blind, va_Orecv (hX.2.2.1.1.1 128 (by decide)) hS, fun U hU hW => ⟨rfl, hC1146 U hU hW⟩⟩ rfl rfl hl.1 rfl (lv_room (Nat.le_of_ble_eq_true rfl)) dX9_shown_61 ⟨(Nat.le_of_ble_eq_true rfl), (Nat.le_of_ble_eq_true rfl)⟩) hS (fun q9 _ h9 => hF1143 q9 h9) hF1143 (fun r1148 u1147 t1147 H1147 L1147 ht1147 hvm1147 hw1147 hB1147 hz1147 hk1147 hS => ?_)
  have hP := pq_keep hP hD [] rfl hk1147 hB1147.1 ht1147
  have hG : s.heap.size + 1141 ≤ H1147.size := Nat.le_trans hG hz1147
  refine W.eq (g2 := F0 m 64 ls [.int 0]) (by rw [hw1147]) ?_
  refine lv_istore (lv' := [(6, .int 0), (5, .ref a1130), (4, .int 0), (3, .int 48), (2, .int 3), (1, .int 0), (0, .ref h0)]) hx hb dX9_shown_64 hl (by decide) rfl (fun ls hl => ?_)
  refine lv_iload hx hb dX9_shown_66 (lv_at hl 2 rfl) ?_
  refine lv_if_ne (tgt := 82) hx hb dX9_shown_68 (by decide) (fun cz => absurd (by decide) cz) (fun _ => ?_)
  refine lv_aload_n hx hb dX9_shown_71 rfl (lv_at hl 6 rfl) ?_
  refine lv_iload_n hx hb dX9_shown_72 rfl (lv_at hl 4 rfl) ?_
  refine lv_iload_n hx hb dX9_shown_73 rfl (lv_at hl 3 rfl) ?_
  refine lv_iload hx hb dX9_shown_74 (lv_at hl 0 rfl) ?_
  have hM1151 := k971_showsIt l hl9 dC dI z h0 h1 h2 h4 h5 h7 h8 h9 h10 h11 h12 h13 h14 h3 H1147.size kc0 kc2
  obtain ⟨hF1149, hC1152⟩ := pc_M hM1151 hP hD hK hS hX hT hA [0, 1, 2, 3, 4, 5, 6, 7, 8, 9, 10, 11, 12] [0, 1] rfl rfl rfl
  refine va_calli (va_runV (As := [.int 3, .int 48, .int 0]) (rest := []) ⟨hx, hb, hml, hown, hts⟩ hM1151 (cwV 3 hts (gV q_429 q_430 q_431 q_60 q_428) rfl rfl rfl hV_X9_showsIt ⟨Nat.le_of_ble_eq_true rfl, Nat.le_of_ble_eq_true rfl⟩) ⟨pc_blind, va_recv hK hP (ci := 8) (q := (RX9, TX9, 6)) (q0 := 0) rfl rfl, fun U hU hW => ⟨rfl, hC1152 U hU hW⟩⟩ rfl rfl hl.1 rfl (lv_room (Nat.le_of_ble_eq_true rfl)) dX9_shown_76 ⟨(Nat.le_of_ble_eq_true rfl), (Nat.le_of_ble_eq_true rfl)⟩) hS (fun q9 _ h9 => hF1149 q9 h9) hF1149 (fun r1154 u1153 t1153 H1153 L1153 ht1153 hvm1153 hw1153 hB1153 hz1153 hk1153 hS => ?_)
  have hP := pq_keep hP hD [0, 1, 2, 3, 4, 5, 6, 7, 8, 9, 10, 11, 12] rfl hk1153 hB1153.1 ht1153
  have hG : s.heap.size + 1168 ≤ H1153.size := va_gr (g := 1141) (g1 := 27) hG (by rw [← ht1153]; exact hB1153.2)
  refine W.eq (g2 := F0 m 79 ls [.int 0]) (by rw [hw1153]) ?_
  refine W.widen (k := 1168) (n := 10864) (by decide) (by decide) ?_
  refine lv_if_eq (tgt := 86) hx hb dX9_shown_79 (by decide) (fun _ => ?_) (fun cz => absurd (by decide) cz)
  refine lv_iconst (v := 0) hx hb dX9_shown_86 (by decide) ?_
  refine lv_istore (lv' := [(4, .int 0), (6, .int 0), (5, .ref a1130), (3, .int 48), (2, .int 3), (1, .int 0), (0, .ref h0)]) hx hb dX9_shown_87 hl (by decide) rfl (fun ls hl => ?_)
  refine lv_goto (tgt := 41) hx hb dX9_shown_89 (by decide) ?_
  refine lv_aload hx hb dX9_shown_41 (lv_at hl 2 rfl) ?_
  have hM1157 := k728_hasNext l hl9 dC dI z a1130 h3 h6 H1153.size
  obtain ⟨hF1155, hC1158⟩ := pc_M hM1157 hP hD hK hS hX hT hA [13, 14] [] rfl rfl rfl
  refine va_callFi (va_runF (As := []) (rest := []) (hK.1 1 (RJx35411, TJx35411, 4) rfl).2 ⟨hx, hb, hml, hown, hts⟩ hM1157 (va_cwF 0 hts (gF q_261 q_262 q_263 q_246 q_260) rfl rfl rfl hT.2.2.2.2.2.2.1 hF_xIh ⟨Nat.le_of_ble_eq_true rfl, Nat.le_of_ble_eq_true rfl⟩) ⟨pc_blind, va_recv hK hP (ci := 1) (q := (RJx35411, TJx35411, 4)) (q0 := 13) rfl rfl, fun U hU hW => ⟨rfl, hC1158 U hU hW⟩⟩ rfl rfl hl.1 rfl (lv_room (Nat.le_of_ble_eq_true rfl)) dX9_shown_43 ⟨(Nat.le_of_ble_eq_true rfl), (Nat.le_of_ble_eq_true rfl)⟩) hS (fun q9 _ h9 => hF1155 q9 h9) hF1155 (fun r1160 u1159 t1159 H1159 L1159 ht1159 hvm1159 hw1159 hB1159 hz1159 hk1159 hS => ?_)
  have hP := pq_keep hP hD [13, 14] rfl hk1159 hB1159.1 ht1159
  have hG : s.heap.size + 1168 ≤ H1159.size := Nat.le_trans hG hz1159
  refine W.eq (g2 := F0 m 48 ls [.int 1]) (by rw [hw1159]) ?_
  refine lv_if_eq (tgt := 92) hx hb dX9_shown_48 (by decide) (fun cz => absurd cz (by decide)) (fun _ => ?_)
  refine lv_aload hx hb dX9_shown_51 (lv_at hl 2 rfl) ?_
  have hM1163 := k954_next l hl9 dC dI z a1130 h3 h6 H1159.size kc1
  obtain ⟨hF1161, hC1164⟩ := pc_M hM1163 hP hD hK hS hX hT hA [13, 14, 15] [2] rfl rfl rfl
  refine va_callFr (va_runF (As := []) (rest := []) (hK.1 1 (RJx35411, TJx35411, 4) rfl).2 ⟨hx, hb, hml, hown, hts⟩ hM1163 (va_cwF 0 hts (gF q_308 q_309 q_310 q_246 q_307) rfl rfl rfl hT.2.2.2.2.2.2.2.1 hF_xIn ⟨Nat.le_of_ble_eq_true rfl, Nat.le_of_ble_eq_true rfl⟩) ⟨pc_blind, va_recv hK hP (ci := 1) (q := (RJx35411, TJx35411, 4)) (q0 := 13) rfl rfl, fun U hU hW => ⟨rfl, hC1164 U hU hW⟩⟩ rfl rfl hl.1 rfl (lv_room (Nat.le_of_ble_eq_true rfl)) dX9_shown_53 ⟨(Nat.le_of_ble_eq_true rfl), (Nat.le_of_ble_eq_true rfl)⟩) hS (fun q9 _ h9 => hF1161 q9 h9) hF1161 (fun u1165 r1166 t1165 H1165 L1165 ht1165 hvm1165 hw1165 hB1165 hz1165 hk1165 hS => ?_)
  obtain ⟨hr1165, hB1165⟩ := hB1165
  obtain ⟨hP, hD, hK⟩ := pq_jn (wz := [(h0, ce21 h1 h2 h3 h4), (h1, ce331 h5), (h2, ce3 z.1), (h4, ce366 h7), (h5, ce330 kc0 h8 h9 h10 h11 h12 h13 h14), (h7, ce330 kc2 (z.2.2.1 128) (z.2.2.1 129) (z.2.2.1 130) (z.2.2.1 131) (z.2.2.1 132) (z.2.2.1 133) (z.2.2.1 134)), (h8, ce49), (h9, ce49), (h10, ce49), (h11, ce49), (h12, ce49), (h13, ce49), (h14, ce49), (a1130, ce374 h3), (h3, ce331 h6), (h6, ce330 kc1 (z.2.2.1 128) (z.2.2.1 128) (z.2.2.1 128) (z.2.2.1 128) (z.2.2.1 128) (z.2.2.1 128) (z.2.2.1 128))]) (tz := [(kc0, .object "java/lang/Object"), (kc2, .object "java/lang/Object"), (kc1, .object "java/lang/Object")]) hP hD hK [13, 14, 15] [0, 1] rfl hk1165 hF1161 hB1165.1 ht1165 hvm1165 rfl rfl
  have hG : s.heap.size + 1168 ≤ H1165.size := Nat.le_trans hG hz1165
  refine W.eq (g2 := F0 m 58 ls [.ref (z.2.2.1 128)]) (by rw [hr1165]) ?_
  refine va_castE (nm := "java/lang/Integer") hx hb hown (hts _ q_320) (va_Orecv (hX.2.2.1.1.1 128 (by decide)) hS) dX9_shown_58 ?_
  have hM1169 := k74_intValue l hl9 dC dI z H1165.size
  obtain ⟨hF1167, hC1170⟩ := pc_M hM1169 hP hD hK hS hX hT hA [] [] rfl rfl rfl
  refine va_calli (va_runV (As := []) (rest := []) ⟨hx, hb, hml, hown, hts⟩ hM1169 (cwV 0 hts (gV q_323 q_324 q_325 q_297 q_322) rfl rfl rfl hV_J6_intValue_8abf5 ⟨Nat.le_of_ble_eq_true rfl, Nat.le_of_ble_eq_true rfl⟩) ⟨pc_blind, va_Orecv (hX.2.2.1.1.1 128 (by decide)) hS, fun U hU hW => ⟨rfl, hC1170 U hU hW⟩⟩ rfl rfl hl.1 rfl (lv_room (Nat.le_of_ble_eq_true rfl)) dX9_shown_61 ⟨(Nat.le_of_ble_eq_true rfl), (Nat.le_of_ble_eq_true rfl)⟩) hS (fun q9 _ h9 => hF1167 q9 h9) hF1167 (fun r1172 u1171 t1171 H1171 L1171 ht1171 hvm1171 hw1171 hB1171 hz1171 hk1171 hS => ?_)
  have hP := pq_keep hP hD [] rfl hk1171 hB1171.1 ht1171
  have hG : s.heap.size + 1168 ≤ H1171.size := Nat.le_trans hG hz1171
  refine W.eq (g2 := F0 m 64 ls [.int 0]) (by rw [hw1171]) ?_
  refine lv_istore (lv' := [(6, .int 0), (4, .int 0), (5, .ref a1130), (3, .int 48), (2, .int 3), (1, .int 0), (0, .ref h0)]) hx hb dX9_shown_64 hl (by decide) rfl (fun ls hl => ?_)
  refine lv_iload hx hb dX9_shown_66 (lv_at hl 1 rfl) ?_
  refine lv_if_ne (tgt := 82) hx hb dX9_shown_68 (by decide) (fun cz => absurd (by decide) cz) (fun _ => ?_)
  refine lv_aload_n hx hb dX9_shown_71 rfl (lv_at hl 6 rfl) ?_
  refine lv_iload_n hx hb dX9_shown_72 rfl (lv_at hl 4 rfl) ?_
  refine lv_iload_n hx hb dX9_shown_73 rfl (lv_at hl 3 rfl) ?_
  refine lv_iload hx hb dX9_shown_74 (lv_at hl 0 rfl) ?_
  have hM1175 := k971_showsIt l hl9 dC dI z h0 h1 h2 h4 h5 h7 h8 h9 h10 h11 h12 h13 h14 h3 H1171.size kc0 kc2
  obtain ⟨hF1173, hC1176⟩ := pc_M hM1175 hP hD hK hS hX hT hA [0, 1, 2, 3, 4, 5, 6, 7, 8, 9, 10, 11, 12] [0, 1] rfl rfl rfl
  refine va_calli (va_runV (As := [.int 3, .int 48, .int 0]) (rest := []) ⟨hx, hb, hml, hown, hts⟩ hM1175 (cwV 3 hts (gV q_429 q_430 q_431 q_60 q_428) rfl rfl rfl hV_X9_showsIt ⟨Nat.le_of_ble_eq_true rfl, Nat.le_of_ble_eq_true rfl⟩) ⟨pc_blind, va_recv hK hP (ci := 8) (q := (RX9, TX9, 6)) (q0 := 0) rfl rfl, fun U hU hW => ⟨rfl, hC1176 U hU hW⟩⟩ rfl rfl hl.1 rfl (lv_room (Nat.le_of_ble_eq_true rfl)) dX9_shown_76 ⟨(Nat.le_of_ble_eq_true rfl), (Nat.le_of_ble_eq_true rfl)⟩) hS (fun q9 _ h9 => hF1173 q9 h9) hF1173 (fun r1178 u1177 t1177 H1177 L1177 ht1177 hvm1177 hw1177 hB1177 hz1177 hk1177 hS => ?_)
  have hP := pq_keep hP hD [0, 1, 2, 3, 4, 5, 6, 7, 8, 9, 10, 11, 12] rfl hk1177 hB1177.1 ht1177
  have hG : s.heap.size + 1195 ≤ H1177.size := va_gr (g := 1168) (g1 := 27) hG (by rw [← ht1177]; exact hB1177.2)
  refine W.eq (g2 := F0 m 79 ls [.int 0]) (by rw [hw1177]) ?_
  refine W.widen (k := 1195) (n := 11116) (by decide) (by decide) ?_
  refine lv_if_eq (tgt := 86) hx hb dX9_shown_79 (by decide) (fun _ => ?_) (fun cz => absurd (by decide) cz)
  refine lv_iconst (v := 0) hx hb dX9_shown_86 (by decide) ?_
  refine lv_istore (lv' := [(4, .int 0), (6, .int 0), (5, .ref a1130), (3, .int 48), (2, .int 3), (1, .int 0), (0, .ref h0)]) hx hb dX9_shown_87 hl (by decide) rfl (fun ls hl => ?_)
  refine lv_goto (tgt := 41) hx hb dX9_shown_89 (by decide) ?_
  refine lv_aload hx hb dX9_shown_41 (lv_at hl 2 rfl) ?_
  have hM1181 := k731_hasNext l hl9 dC dI z a1130 h3 h6 H1177.size
  obtain ⟨hF1179, hC1182⟩ := pc_M hM1181 hP hD hK hS hX hT hA [13, 14] [] rfl rfl rfl
  refine va_callFi (va_runF (As := []) (rest := []) (hK.1 1 (RJx35411, TJx35411, 4) rfl).2 ⟨hx, hb, hml, hown, hts⟩ hM1181 (va_cwF 0 hts (gF q_261 q_262 q_263 q_246 q_260) rfl rfl rfl hT.2.2.2.2.2.2.1 hF_xIh ⟨Nat.le_of_ble_eq_true rfl, Nat.le_of_ble_eq_true rfl⟩) ⟨pc_blind, va_recv hK hP (ci := 1) (q := (RJx35411, TJx35411, 4)) (q0 := 13) rfl rfl, fun U hU hW => ⟨rfl, hC1182 U hU hW⟩⟩ rfl rfl hl.1 rfl (lv_room (Nat.le_of_ble_eq_true rfl)) dX9_shown_43 ⟨(Nat.le_of_ble_eq_true rfl), (Nat.le_of_ble_eq_true rfl)⟩) hS (fun q9 _ h9 => hF1179 q9 h9) hF1179 (fun r1184 u1183 t1183 H1183 L1183 ht1183 hvm1183 hw1183 hB1183 hz1183 hk1183 hS => ?_)
  have hP := pq_keep hP hD [13, 14] rfl hk1183 hB1183.1 ht1183
  have hG : s.heap.size + 1195 ≤ H1183.size := Nat.le_trans hG hz1183
  refine W.eq (g2 := F0 m 48 ls [.int 1]) (by rw [hw1183]) ?_
  refine lv_if_eq (tgt := 92) hx hb dX9_shown_48 (by decide) (fun cz => absurd cz (by decide)) (fun _ => ?_)
  refine lv_aload hx hb dX9_shown_51 (lv_at hl 2 rfl) ?_
  have hM1187 := k955_next l hl9 dC dI z a1130 h3 h6 H1183.size kc1
  obtain ⟨hF1185, hC1188⟩ := pc_M hM1187 hP hD hK hS hX hT hA [13, 14, 15] [2] rfl rfl rfl
  refine va_callFr (va_runF (As := []) (rest := []) (hK.1 1 (RJx35411, TJx35411, 4) rfl).2 ⟨hx, hb, hml, hown, hts⟩ hM1187 (va_cwF 0 hts (gF q_308 q_309 q_310 q_246 q_307) rfl rfl rfl hT.2.2.2.2.2.2.2.1 hF_xIn ⟨Nat.le_of_ble_eq_true rfl, Nat.le_of_ble_eq_true rfl⟩) ⟨pc_blind, va_recv hK hP (ci := 1) (q := (RJx35411, TJx35411, 4)) (q0 := 13) rfl rfl, fun U hU hW => ⟨rfl, hC1188 U hU hW⟩⟩ rfl rfl hl.1 rfl (lv_room (Nat.le_of_ble_eq_true rfl)) dX9_shown_53 ⟨(Nat.le_of_ble_eq_true rfl), (Nat.le_of_ble_eq_true rfl)⟩) hS (fun q9 _ h9 => hF1185 q9 h9) hF1185 (fun u1189 r1190 t1189 H1189 L1189 ht1189 hvm1189 hw1189 hB1189 hz1189 hk1189 hS => ?_)
  obtain ⟨hr1189, hB1189⟩ := hB1189
  obtain ⟨hP, hD, hK⟩ := pq_jn (wz := [(h0, ce21 h1 h2 h3 h4), (h1, ce331 h5), (h2, ce3 z.1), (h4, ce366 h7), (h5, ce330 kc0 h8 h9 h10 h11 h12 h13 h14), (h7, ce330 kc2 (z.2.2.1 128) (z.2.2.1 129) (z.2.2.1 130) (z.2.2.1 131) (z.2.2.1 132) (z.2.2.1 133) (z.2.2.1 134)), (h8, ce49), (h9, ce49), (h10, ce49), (h11, ce49), (h12, ce49), (h13, ce49), (h14, ce49), (a1130, ce376 h3), (h3, ce331 h6), (h6, ce330 kc1 (z.2.2.1 128) (z.2.2.1 128) (z.2.2.1 128) (z.2.2.1 128) (z.2.2.1 128) (z.2.2.1 128) (z.2.2.1 128))]) (tz := [(kc0, .object "java/lang/Object"), (kc2, .object "java/lang/Object"), (kc1, .object "java/lang/Object")]) hP hD hK [13, 14, 15] [0, 1] rfl hk1189 hF1185 hB1189.1 ht1189 hvm1189 rfl rfl
  have hG : s.heap.size + 1195 ≤ H1189.size := Nat.le_trans hG hz1189
  refine W.eq (g2 := F0 m 58 ls [.ref (z.2.2.1 128)]) (by rw [hr1189]) ?_
  refine va_castE (nm := "java/lang/Integer") hx hb hown (hts _ q_320) (va_Orecv (hX.2.2.1.1.1 128 (by decide)) hS) dX9_shown_58 ?_
  have hM1193 := k74_intValue l hl9 dC dI z H1189.size
  obtain ⟨hF1191, hC1194⟩ := pc_M hM1193 hP hD hK hS hX hT hA [] [] rfl rfl rfl
  refine va_calli (va_runV (As := []) (rest := []) ⟨hx, hb, hml, hown, hts⟩ hM1193 (cwV 0 hts (gV q_323 q_324 q_325 q_297 q_322) rfl rfl rfl hV_J6_intValue_8abf5 ⟨Nat.le_of_ble_eq_true rfl, Nat.le_of_ble_eq_true rfl⟩) ⟨pc_blind, va_Orecv (hX.2.2.1.1.1 128 (by decide)) hS, fun U hU hW => ⟨rfl, hC1194 U hU hW⟩⟩ rfl rfl hl.1 rfl (lv_room (Nat.le_of_ble_eq_true rfl)) dX9_shown_61 ⟨(Nat.le_of_ble_eq_true rfl), (Nat.le_of_ble_eq_true rfl)⟩) hS (fun q9 _ h9 => hF1191 q9 h9) hF1191 (fun r1196 u1195 t1195 H1195 L1195 ht1195 hvm1195 hw1195 hB1195 hz1195 hk1195 hS => ?_)
  have hP := pq_keep hP hD [] rfl hk1195 hB1195.1 ht1195
  have hG : s.heap.size + 1195 ≤ H1195.size := Nat.le_trans hG hz1195
  refine W.eq (g2 := F0 m 64 ls [.int 0]) (by rw [hw1195]) ?_
  refine lv_istore (lv' := [(6, .int 0), (4, .int 0), (5, .ref a1130), (3, .int 48), (2, .int 3), (1, .int 0), (0, .ref h0)]) hx hb dX9_shown_64 hl (by decide) rfl (fun ls hl => ?_)
  refine lv_iload hx hb dX9_shown_66 (lv_at hl 1 rfl) ?_
  refine lv_if_ne (tgt := 82) hx hb dX9_shown_68 (by decide) (fun cz => absurd (by decide) cz) (fun _ => ?_)
  refine lv_aload_n hx hb dX9_shown_71 rfl (lv_at hl 6 rfl) ?_
  refine lv_iload_n hx hb dX9_shown_72 rfl (lv_at hl 4 rfl) ?_
  refine lv_iload_n hx hb dX9_shown_73 rfl (lv_at hl 3 rfl) ?_
  refine lv_iload hx hb dX9_shown_74 (lv_at hl 0 rfl) ?_
  have hM1199 := k971_showsIt l hl9 dC dI z h0 h1 h2 h4 h5 h7 h8 h9 h10 h11 h12 h13 h14 h3 H1195.size kc0 kc2
  obtain ⟨hF1197, hC1200⟩ := pc_M hM1199 hP hD hK hS hX hT hA [0, 1, 2, 3, 4, 5, 6, 7, 8, 9, 10, 11, 12] [0, 1] rfl rfl rfl
  refine va_calli (va_runV (As := [.int 3, .int 48, .int 0]) (rest := []) ⟨hx, hb, hml, hown, hts⟩ hM1199 (cwV 3 hts (gV q_429 q_430 q_431 q_60 q_428) rfl rfl rfl hV_X9_showsIt ⟨Nat.le_of_ble_eq_true rfl, Nat.le_of_ble_eq_true rfl⟩) ⟨pc_blind, va_recv hK hP (ci := 8) (q := (RX9, TX9, 6)) (q0 := 0) rfl rfl, fun U hU hW => ⟨rfl, hC1200 U hU hW⟩⟩ rfl rfl hl.1 rfl (lv_room (Nat.le_of_ble_eq_true rfl)) dX9_shown_76 ⟨(Nat.le_of_ble_eq_true rfl), (Nat.le_of_ble_eq_true rfl)⟩) hS (fun q9 _ h9 => hF1197 q9 h9) hF1197 (fun r1202 u1201 t1201 H1201 L1201 ht1201 hvm1201 hw1201 hB1201 hz1201 hk1201 hS => ?_)
  have hP := pq_keep hP hD [0, 1, 2, 3, 4, 5, 6, 7, 8, 9, 10, 11, 12] rfl hk1201 hB1201.1 ht1201
  have hG : s.heap.size + 1222 ≤ H1201.size := va_gr (g := 1195) (g1 := 27) hG (by rw [← ht1201]; exact hB1201.2)
  refine W.eq (g2 := F0 m 79 ls [.int 0]) (by rw [hw1201]) ?_
  refine W.widen (k := 1222) (n := 11368) (by decide) (by decide) ?_
  refine lv_if_eq (tgt := 86) hx hb dX9_shown_79 (by decide) (fun _ => ?_) (fun cz => absurd (by decide) cz)
  refine lv_iconst (v := 0) hx hb dX9_shown_86 (by decide) ?_
  refine lv_istore (lv' := [(4, .int 0), (6, .int 0), (5, .ref a1130), (3, .int 48), (2, .int 3), (1, .int 0), (0, .ref h0)]) hx hb dX9_shown_87 hl (by decide) rfl (fun ls hl => ?_)
  refine lv_goto (tgt := 41) hx hb dX9_shown_89 (by decide) ?_
  refine lv_aload hx hb dX9_shown_41 (lv_at hl 2 rfl) ?_
  have hM1205 := k734_hasNext l hl9 dC dI z a1130 h3 h6 H1201.size
  obtain ⟨hF1203, hC1206⟩ := pc_M hM1205 hP hD hK hS hX hT hA [13, 14] [] rfl rfl rfl
  refine va_callFi (va_runF (As := []) (rest := []) (hK.1 1 (RJx35411, TJx35411, 4) rfl).2 ⟨hx, hb, hml, hown, hts⟩ hM1205 (va_cwF 0 hts (gF q_261 q_262 q_263 q_246 q_260) rfl rfl rfl hT.2.2.2.2.2.2.1 hF_xIh ⟨Nat.le_of_ble_eq_true rfl, Nat.le_of_ble_eq_true rfl⟩) ⟨pc_blind, va_recv hK hP (ci := 1) (q := (RJx35411, TJx35411, 4)) (q0 := 13) rfl rfl, fun U hU hW => ⟨rfl, hC1206 U hU hW⟩⟩ rfl rfl hl.1 rfl (lv_room (Nat.le_of_ble_eq_true rfl)) dX9_shown_43 ⟨(Nat.le_of_ble_eq_true rfl), (Nat.le_of_ble_eq_true rfl)⟩) hS (fun q9 _ h9 => hF1203 q9 h9) hF1203 (fun r1208 u1207 t1207 H1207 L1207 ht1207 hvm1207 hw1207 hB1207 hz1207 hk1207 hS => ?_)
  have hP := pq_keep hP hD [13, 14] rfl hk1207 hB1207.1 ht1207
  have hG : s.heap.size + 1222 ≤ H1207.size := Nat.le_trans hG hz1207
  refine W.eq (g2 := F0 m 48 ls [.int 1]) (by rw [hw1207]) ?_
  refine lv_if_eq (tgt := 92) hx hb dX9_shown_48 (by decide) (fun cz => absurd cz (by decide)) (fun _ => ?_)
  refine lv_aload hx hb dX9_shown_51 (lv_at hl 2 rfl) ?_
  have hM1211 := k956_next l hl9 dC dI z a1130 h3 h6 H1207.size kc1
  obtain ⟨hF1209, hC1212⟩ := pc_M hM1211 hP hD hK hS hX hT hA [13, 14, 15] [2] rfl rfl rfl
  refine va_callFr (va_runF (As := []) (rest := []) (hK.1 1 (RJx35411, TJx35411, 4) rfl).2 ⟨hx, hb, hml, hown, hts⟩ hM1211 (va_cwF 0 hts (gF q_308 q_309 q_310 q_246 q_307) rfl rfl rfl hT.2.2.2.2.2.2.2.1 hF_xIn ⟨Nat.le_of_ble_eq_true rfl, Nat.le_of_ble_eq_true rfl⟩) ⟨pc_blind, va_recv hK hP (ci := 1) (q := (RJx35411, TJx35411, 4)) (q0 := 13) rfl rfl, fun U hU hW => ⟨rfl, hC1212 U hU hW⟩⟩ rfl rfl hl.1 rfl (lv_room (Nat.le_of_ble_eq_true rfl)) dX9_shown_53 ⟨(Nat.le_of_ble_eq_true rfl), (Nat.le_of_ble_eq_true rfl)⟩) hS (fun q9 _ h9 => hF1209 q9 h9) hF1209 (fun u1213 r1214 t1213 H1213 L1213 ht1213 hvm1213 hw1213 hB1213 hz1213 hk1213 hS => ?_)
  obtain ⟨hr1213, hB1213⟩ := hB1213
  obtain ⟨hP, hD, hK⟩ := pq_jn (wz := [(h0, ce21 h1 h2 h3 h4), (h1, ce331 h5), (h2, ce3 z.1), (h4, ce366 h7), (h5, ce330 kc0 h8 h9 h10 h11 h12 h13 h14), (h7, ce330 kc2 (z.2.2.1 128) (z.2.2.1 129) (z.2.2.1 130) (z.2.2.1 131) (z.2.2.1 132) (z.2.2.1 133) (z.2.2.1 134)), (h8, ce49), (h9, ce49), (h10, ce49), (h11, ce49), (h12, ce49), (h13, ce49), (h14, ce49), (a1130, ce378 h3), (h3, ce331 h6), (h6, ce330 kc1 (z.2.2.1 128) (z.2.2.1 128) (z.2.2.1 128) (z.2.2.1 128) (z.2.2.1 128) (z.2.2.1 128) (z.2.2.1 128))]) (tz := [(kc0, .object "java/lang/Object"), (kc2, .object "java/lang/Object"), (kc1, .object "java/lang/Object")]) hP hD hK [13, 14, 15] [0, 1] rfl hk1213 hF1209 hB1213.1 ht1213 hvm1213 rfl rfl
  have hG : s.heap.size + 1222 ≤ H1213.size := Nat.le_trans hG hz1213
  refine W.eq (g2 := F0 m 58 ls [.ref (z.2.2.1 128)]) (by rw [hr1213]) ?_
  refine va_castE (nm := "java/lang/Integer") hx hb hown (hts _ q_320) (va_Orecv (hX.2.2.1.1.1 128 (by decide)) hS) dX9_shown_58 ?_
  have hM1217 := k74_intValue l hl9 dC dI z H1213.size
  obtain ⟨hF1215, hC1218⟩ := pc_M hM1217 hP hD hK hS hX hT hA [] [] rfl rfl rfl
  refine va_calli (va_runV (As := []) (rest := []) ⟨hx, hb, hml, hown, hts⟩ hM1217 (cwV 0 hts (gV q_323 q_324 q_325 q_297 q_322) rfl rfl rfl hV_J6_intValue_8abf5 ⟨Nat.le_of_ble_eq_true rfl, Nat.le_of_ble_eq_true rfl⟩) ⟨pc_blind, va_Orecv (hX.2.2.1.1.1 128 (by decide)) hS, fun U hU hW => ⟨rfl, hC1218 U hU hW⟩⟩ rfl rfl hl.1 rfl (lv_room (Nat.le_of_ble_eq_true rfl)) dX9_shown_61 ⟨(Nat.le_of_ble_eq_true rfl), (Nat.le_of_ble_eq_true rfl)⟩) hS (fun q9 _ h9 => hF1215 q9 h9) hF1215 (fun r1220 u1219 t1219 H1219 L1219 ht1219 hvm1219 hw1219 hB1219 hz1219 hk1219 hS => ?_)
  have hP := pq_keep hP hD [] rfl hk1219 hB1219.1 ht1219
  have hG : s.heap.size + 1222 ≤ H1219.size := Nat.le_trans hG hz1219
  refine W.eq (g2 := F0 m 64 ls [.int 0]) (by rw [hw1219]) ?_
  refine lv_istore (lv' := [(6, .int 0), (4, .int 0), (5, .ref a1130), (3, .int 48), (2, .int 3), (1, .int 0), (0, .ref h0)]) hx hb dX9_shown_64 hl (by decide) rfl (fun ls hl => ?_)
  refine lv_iload hx hb dX9_shown_66 (lv_at hl 1 rfl) ?_
  refine lv_if_ne (tgt := 82) hx hb dX9_shown_68 (by decide) (fun cz => absurd (by decide) cz) (fun _ => ?_)
  refine lv_aload_n hx hb dX9_shown_71 rfl (lv_at hl 6 rfl) ?_
  refine lv_iload_n hx hb dX9_shown_72 rfl (lv_at hl 4 rfl) ?_
  refine lv_iload_n hx hb dX9_shown_73 rfl (lv_at hl 3 rfl) ?_
  refine lv_iload hx hb dX9_shown_74 (lv_at hl 0 rfl) ?_
  have hM1223 := k971_showsIt l hl9 dC dI z h0 h1 h2 h4 h5 h7 h8 h9 h10 h11 h12 h13 h14 h3 H1219.size kc0 kc2
  obtain ⟨hF1221, hC1224⟩ := pc_M hM1223 hP hD hK hS hX hT hA [0, 1, 2, 3, 4, 5, 6, 7, 8, 9, 10, 11, 12] [0, 1] rfl rfl rfl
  refine va_calli (va_runV (As := [.int 3, .int 48, .int 0]) (rest := []) ⟨hx, hb, hml, hown, hts⟩ hM1223 (cwV 3 hts (gV q_429 q_430 q_431 q_60 q_428) rfl rfl rfl hV_X9_showsIt ⟨Nat.le_of_ble_eq_true rfl, Nat.le_of_ble_eq_true rfl⟩) ⟨pc_blind, va_recv hK hP (ci := 8) (q := (RX9, TX9, 6)) (q0 := 0) rfl rfl, fun U hU hW => ⟨rfl, hC1224 U hU hW⟩⟩ rfl rfl hl.1 rfl (lv_room (Nat.le_of_ble_eq_true rfl)) dX9_shown_76 ⟨(Nat.le_of_ble_eq_true rfl), (Nat.le_of_ble_eq_true rfl)⟩) hS (fun q9 _ h9 => hF1221 q9 h9) hF1221 (fun r1226 u1225 t1225 H1225 L1225 ht1225 hvm1225 hw1225 hB1225 hz1225 hk1225 hS => ?_)
  have hP := pq_keep hP hD [0, 1, 2, 3, 4, 5, 6, 7, 8, 9, 10, 11, 12] rfl hk1225 hB1225.1 ht1225
  have hG : s.heap.size + 1249 ≤ H1225.size := va_gr (g := 1222) (g1 := 27) hG (by rw [← ht1225]; exact hB1225.2)
  refine W.eq (g2 := F0 m 79 ls [.int 0]) (by rw [hw1225]) ?_
  refine W.widen (k := 1249) (n := 11620) (by decide) (by decide) ?_
  refine lv_if_eq (tgt := 86) hx hb dX9_shown_79 (by decide) (fun _ => ?_) (fun cz => absurd (by decide) cz)
  refine lv_iconst (v := 0) hx hb dX9_shown_86 (by decide) ?_
  refine lv_istore (lv' := [(4, .int 0), (6, .int 0), (5, .ref a1130), (3, .int 48), (2, .int 3), (1, .int 0), (0, .ref h0)]) hx hb dX9_shown_87 hl (by decide) rfl (fun ls hl => ?_)
  refine lv_goto (tgt := 41) hx hb dX9_shown_89 (by decide) ?_
  refine lv_aload hx hb dX9_shown_41 (lv_at hl 2 rfl) ?_
  have hM1229 := k737_hasNext l hl9 dC dI z a1130 h3 h6 H1225.size
  obtain ⟨hF1227, hC1230⟩ := pc_M hM1229 hP hD hK hS hX hT hA [13, 14] [] rfl rfl rfl
  refine va_callFi (va_runF (As := []) (rest := []) (hK.1 1 (RJx35411, TJx35411, 4) rfl).2 ⟨hx, hb, hml, hown, hts⟩ hM1229 (va_cwF 0 hts (gF q_261 q_262 q_263 q_246 q_260) rfl rfl rfl hT.2.2.2.2.2.2.1 hF_xIh ⟨Nat.le_of_ble_eq_true rfl, Nat.le_of_ble_eq_true rfl⟩) ⟨pc_blind, va_recv hK hP (ci := 1) (q := (RJx35411, TJx35411, 4)) (q0 := 13) rfl rfl, fun U hU hW => ⟨rfl, hC1230 U hU hW⟩⟩ rfl rfl hl.1 rfl (lv_room (Nat.le_of_ble_eq_true rfl)) dX9_shown_43 ⟨(Nat.le_of_ble_eq_true rfl), (Nat.le_of_ble_eq_true rfl)⟩) hS (fun q9 _ h9 => hF1227 q9 h9) hF1227 (fun r1232 u1231 t1231 H1231 L1231 ht1231 hvm1231 hw1231 hB1231 hz1231 hk1231 hS => ?_)
  have hP := pq_keep hP hD [13, 14] rfl hk1231 hB1231.1 ht1231
  have hG : s.heap.size + 1249 ≤ H1231.size := Nat.le_trans hG hz1231
  refine W.eq (g2 := F0 m 48 ls [.int 1]) (by rw [hw1231]) ?_
  refine lv_if_eq (tgt := 92) hx hb dX9_shown_48 (by decide) (fun cz => absurd cz (by decide)) (fun _ => ?_)
  refine lv_aload hx hb dX9_shown_51 (lv_at hl 2 rfl) ?_
  have hM1235 := k957_next l hl9 dC dI z a1130 h3 h6 H1231.size kc1
  obtain ⟨hF1233, hC1236⟩ := pc_M hM1235 hP hD hK hS hX hT hA [13, 14, 15] [2] rfl rfl rfl
  refine va_callFr (va_runF (As := []) (rest := []) (hK.1 1 (RJx35411, TJx35411, 4) rfl).2 ⟨hx, hb, hml, hown, hts⟩ hM1235 (va_cwF 0 hts (gF q_308 q_309 q_310 q_246 q_307) rfl rfl rfl hT.2.2.2.2.2.2.2.1 hF_xIn ⟨Nat.le_of_ble_eq_true rfl, Nat.le_of_ble_eq_true rfl⟩) ⟨pc_blind, va_recv hK hP (ci := 1) (q := (RJx35411, TJx35411, 4)) (q0 := 13) rfl rfl, fun U hU hW => ⟨rfl, hC1236 U hU hW⟩⟩ rfl rfl hl.1 rfl (lv_room (Nat.le_of_ble_eq_true rfl)) dX9_shown_53 ⟨(Nat.le_of_ble_eq_true rfl), (Nat.le_of_ble_eq_true rfl)⟩) hS (fun q9 _ h9 => hF1233 q9 h9) hF1233 (fun u1237 r1238 t1237 H1237 L1237 ht1237 hvm1237 hw1237 hB1237 hz1237 hk1237 hS => ?_)
  obtain ⟨hr1237, hB1237⟩ := hB1237
  obtain ⟨hP, hD, hK⟩ := pq_jn (wz := [(h0, ce21 h1 h2 h3 h4), (h1, ce331 h5), (h2, ce3 z.1), (h4, ce366 h7), (h5, ce330 kc0 h8 h9 h10 h11 h12 h13 h14), (h7, ce330 kc2 (z.2.2.1 128) (z.2.2.1 129) (z.2.2.1 130) (z.2.2.1 131) (z.2.2.1 132) (z.2.2.1 133) (z.2.2.1 134)), (h8, ce49), (h9, ce49), (h10, ce49), (h11, ce49), (h12, ce49), (h13, ce49), (h14, ce49), (a1130, ce380 h3), (h3, ce331 h6), (h6, ce330 kc1 (z.2.2.1 128) (z.2.2.1 128) (z.2.2.1 128) (z.2.2.1 128) (z.2.2.1 128) (z.2.2.1 128) (z.2.2.1 128))]) (tz := [(kc0, .object "java/lang/Object"), (kc2, .object "java/lang/Object"), (kc1, .object "java/lang/Object")]) hP hD hK [13, 14, 15] [0, 1] rfl hk1237 hF1233 hB1237.1 ht1237 hvm1237 rfl rfl
  have hG : s.heap.size + 1249 ≤ H1237.size := Nat.le_trans hG hz1237
  refine W.eq (g2 := F0 m 58 ls [.ref (z.2.2.1 128)]) (by rw [hr1237]) ?_
  refine va_castE (nm := "java/lang/Integer") hx hb hown (hts _ q_320) (va_Orecv (hX.2.2.1.1.1 128 (by decide)) hS) dX9_shown_58 ?_
  have hM1241 := k74_intValue l hl9 dC dI z H1237.size
  obtain ⟨hF1239, hC1242⟩ := pc_M hM1241 hP hD hK hS hX hT hA [] [] rfl rfl rfl
  refine va_calli (va_runV (As := []) (rest := []) ⟨hx, hb, hml, hown, hts⟩ hM1241 (cwV 0 hts (gV q_323 q_324 q_325 q_297 q_322) rfl rfl rfl hV_J6_intValue_8abf5 ⟨Nat.le_of_ble_eq_true rfl, Nat.le_of_ble_eq_true rfl⟩) ⟨pc_blind, va_Orecv (hX.2.2.1.1.1 128 (by decide)) hS, fun U hU hW => ⟨rfl, hC1242 U hU hW⟩⟩ rfl rfl hl.1 rfl (lv_room (Nat.le_of_ble_eq_true rfl)) dX9_shown_61 ⟨(Nat.le_of_ble_eq_true rfl), (Nat.le_of_ble_eq_true rfl)⟩) hS (fun q9 _ h9 => hF1239 q9 h9) hF1239 (fun r1244 u1243 t1243 H1243 L1243 ht1243 hvm1243 hw1243 hB1243 hz1243 hk1243 hS => ?_)
  have hP := pq_keep hP hD [] rfl hk1243 hB1243.1 ht1243
  have hG : s.heap.size + 1249 ≤ H1243.size := Nat.le_trans hG hz1243
  refine W.eq (g2 := F0 m 64 ls [.int 0]) (by rw [hw1243]) ?_
  refine lv_istore (lv' := [(6, .int 0), (4, .int 0), (5, .ref a1130), (3, .int 48), (2, .int 3), (1, .int 0), (0, .ref h0)]) hx hb dX9_shown_64 hl (by decide) rfl (fun ls hl => ?_)
  refine lv_iload hx hb dX9_shown_66 (lv_at hl 1 rfl) ?_
  refine lv_if_ne (tgt := 82) hx hb dX9_shown_68 (by decide) (fun cz => absurd (by decide) cz) (fun _ => ?_)
  refine lv_aload_n hx hb dX9_shown_71 rfl (lv_at hl 6 rfl) ?_
  refine lv_iload_n hx hb dX9_shown_72 rfl (lv_at hl 4 rfl) ?_
  refine lv_iload_n hx hb dX9_shown_73 rfl (lv_at hl 3 rfl) ?_
  refine lv_iload hx hb dX9_shown_74 (lv_at hl 0 rfl) ?_
  have hM1247 := k971_showsIt l hl9 dC dI z h0 h1 h2 h4 h5 h7 h8 h9 h10 h11 h12 h13 h14 h3 H1243.size kc0 kc2
  obtain ⟨hF1245, hC1248⟩ := pc_M hM1247 hP hD hK hS hX hT hA [0, 1, 2, 3, 4, 5, 6, 7, 8, 9, 10, 11, 12] [0, 1] rfl rfl rfl
  refine va_calli (va_runV (As := [.int 3, .int 48, .int 0]) (rest := []) ⟨hx, hb, hml, hown, hts⟩ hM1247 (cwV 3 hts (gV q_429 q_430 q_431 q_60 q_428) rfl rfl rfl hV_X9_showsIt ⟨Nat.le_of_ble_eq_true rfl, Nat.le_of_ble_eq_true rfl⟩) ⟨pc_blind, va_recv hK hP (ci := 8) (q := (RX9, TX9, 6)) (q0 := 0) rfl rfl, fun U hU hW => ⟨rfl, hC1248 U hU hW⟩⟩ rfl rfl hl.1 rfl (lv_room (Nat.le_of_ble_eq_true rfl)) dX9_shown_76 ⟨(Nat.le_of_ble_eq_true rfl), (Nat.le_of_ble_eq_true rfl)⟩) hS (fun q9 _ h9 => hF1245 q9 h9) hF1245 (fun r1250 u1249 t1249 H1249 L1249 ht1249 hvm1249 hw1249 hB1249 hz1249 hk1249 hS => ?_)
  have hP := pq_keep hP hD [0, 1, 2, 3, 4, 5, 6, 7, 8, 9, 10, 11, 12] rfl hk1249 hB1249.1 ht1249
  have hG : s.heap.size + 1276 ≤ H1249.size := va_gr (g := 1249) (g1 := 27) hG (by rw [← ht1249]; exact hB1249.2)
  refine W.eq (g2 := F0 m 79 ls [.int 0]) (by rw [hw1249]) ?_
  refine W.widen (k := 1276) (n := 11872) (by decide) (by decide) ?_
  refine lv_if_eq (tgt := 86) hx hb dX9_shown_79 (by decide) (fun _ => ?_) (fun cz => absurd (by decide) cz)
  refine lv_iconst (v := 0) hx hb dX9_shown_86 (by decide) ?_
  refine lv_istore (lv' := [(4, .int 0), (6, .int 0), (5, .ref a1130), (3, .int 48), (2, .int 3), (1, .int 0), (0, .ref h0)]) hx hb dX9_shown_87 hl (by decide) rfl (fun ls hl => ?_)
  refine lv_goto (tgt := 41) hx hb dX9_shown_89 (by decide) ?_
  refine lv_aload hx hb dX9_shown_41 (lv_at hl 2 rfl) ?_
  have hM1253 := k740_hasNext l hl9 dC dI z a1130 h3 h6 H1249.size
  obtain ⟨hF1251, hC1254⟩ := pc_M hM1253 hP hD hK hS hX hT hA [13, 14] [] rfl rfl rfl
  refine va_callFi (va_runF (As := []) (rest := []) (hK.1 1 (RJx35411, TJx35411, 4) rfl).2 ⟨hx, hb, hml, hown, hts⟩ hM1253 (va_cwF 0 hts (gF q_261 q_262 q_263 q_246 q_260) rfl rfl rfl hT.2.2.2.2.2.2.1 hF_xIh ⟨Nat.le_of_ble_eq_true rfl, Nat.le_of_ble_eq_true rfl⟩) ⟨pc_blind, va_recv hK hP (ci := 1) (q := (RJx35411, TJx35411, 4)) (q0 := 13) rfl rfl, fun U hU hW => ⟨rfl, hC1254 U hU hW⟩⟩ rfl rfl hl.1 rfl (lv_room (Nat.le_of_ble_eq_true rfl)) dX9_shown_43 ⟨(Nat.le_of_ble_eq_true rfl), (Nat.le_of_ble_eq_true rfl)⟩) hS (fun q9 _ h9 => hF1251 q9 h9) hF1251 (fun r1256 u1255 t1255 H1255 L1255 ht1255 hvm1255 hw1255 hB1255 hz1255 hk1255 hS => ?_)
  have hP := pq_keep hP hD [13, 14] rfl hk1255 hB1255.1 ht1255
  have hG : s.heap.size + 1276 ≤ H1255.size := Nat.le_trans hG hz1255
  refine W.eq (g2 := F0 m 48 ls [.int 1]) (by rw [hw1255]) ?_
  refine lv_if_eq (tgt := 92) hx hb dX9_shown_48 (by decide) (fun cz => absurd cz (by decide)) (fun _ => ?_)
  refine lv_aload hx hb dX9_shown_51 (lv_at hl 2 rfl) ?_
  have hM1259 := k958_next l hl9 dC dI z a1130 h3 h6 H1255.size kc1
  obtain ⟨hF1257, hC1260⟩ := pc_M hM1259 hP hD hK hS hX hT hA [13, 14, 15] [2] rfl rfl rfl
  refine va_callFr (va_runF (As := []) (rest := []) (hK.1 1 (RJx35411, TJx35411, 4) rfl).2 ⟨hx, hb, hml, hown, hts⟩ hM1259 (va_cwF 0 hts (gF q_308 q_309 q_310 q_246 q_307) rfl rfl rfl hT.2.2.2.2.2.2.2.1 hF_xIn ⟨Nat.le_of_ble_eq_true rfl, Nat.le_of_ble_eq_true rfl⟩) ⟨pc_blind, va_recv hK hP (ci := 1) (q := (RJx35411, TJx35411, 4)) (q0 := 13) rfl rfl, fun U hU hW => ⟨rfl, hC1260 U hU hW⟩⟩ rfl rfl hl.1 rfl (lv_room (Nat.le_of_ble_eq_true rfl)) dX9_shown_53 ⟨(Nat.le_of_ble_eq_true rfl), (Nat.le_of_ble_eq_true rfl)⟩) hS (fun q9 _ h9 => hF1257 q9 h9) hF1257 (fun u1261 r1262 t1261 H1261 L1261 ht1261 hvm1261 hw1261 hB1261 hz1261 hk1261 hS => ?_)
  obtain ⟨hr1261, hB1261⟩ := hB1261
  obtain ⟨hP, hD, hK⟩ := pq_jn (wz := [(h0, ce21 h1 h2 h3 h4), (h1, ce331 h5), (h2, ce3 z.1), (h4, ce366 h7), (h5, ce330 kc0 h8 h9 h10 h11 h12 h13 h14), (h7, ce330 kc2 (z.2.2.1 128) (z.2.2.1 129) (z.2.2.1 130) (z.2.2.1 131) (z.2.2.1 132) (z.2.2.1 133) (z.2.2.1 134)), (h8, ce49), (h9, ce49), (h10, ce49), (h11, ce49), (h12, ce49), (h13, ce49), (h14, ce49), (a1130, ce382 h3), (h3, ce331 h6), (h6, ce330 kc1 (z.2.2.1 128) (z.2.2.1 128) (z.2.2.1 128) (z.2.2.1 128) (z.2.2.1 128) (z.2.2.1 128) (z.2.2.1 128))]) (tz := [(kc0, .object "java/lang/Object"), (kc2, .object "java/lang/Object"), (kc1, .object "java/lang/Object")]) hP hD hK [13, 14, 15] [0, 1] rfl hk1261 hF1257 hB1261.1 ht1261 hvm1261 rfl rfl
  have hG : s.heap.size + 1276 ≤ H1261.size := Nat.le_trans hG hz1261
  refine W.eq (g2 := F0 m 58 ls [.ref (z.2.2.1 128)]) (by rw [hr1261]) ?_
  refine va_castE (nm := "java/lang/Integer") hx hb hown (hts _ q_320) (va_Orecv (hX.2.2.1.1.1 128 (by decide)) hS) dX9_shown_58 ?_
  have hM1265 := k74_intValue l hl9 dC dI z H1261.size
  obtain ⟨hF1263, hC1266⟩ := pc_M hM1265 hP hD hK hS hX hT hA [] [] rfl rfl rfl
  refine va_calli (va_runV (As := []) (rest := []) ⟨hx, hb, hml, hown, hts⟩ hM1265 (cwV 0 hts (gV q_323 q_324 q_325 q_297 q_322) rfl rfl rfl hV_J6_intValue_8abf5 ⟨Nat.le_of_ble_eq_true rfl, Nat.le_of_ble_eq_true rfl⟩) ⟨pc_blind, va_Orecv (hX.2.2.1.1.1 128 (by decide)) hS, fun U hU hW => ⟨rfl, hC1266 U hU hW⟩⟩ rfl rfl hl.1 rfl (lv_room (Nat.le_of_ble_eq_true rfl)) dX9_shown_61 ⟨(Nat.le_of_ble_eq_true rfl), (Nat.le_of_ble_eq_true rfl)⟩) hS (fun q9 _ h9 => hF1263 q9 h9) hF1263 (fun r1268 u1267 t1267 H1267 L1267 ht1267 hvm1267 hw1267 hB1267 hz1267 hk1267 hS => ?_)
  have hP := pq_keep hP hD [] rfl hk1267 hB1267.1 ht1267
  have hG : s.heap.size + 1276 ≤ H1267.size := Nat.le_trans hG hz1267
  refine W.eq (g2 := F0 m 64 ls [.int 0]) (by rw [hw1267]) ?_
  refine lv_istore (lv' := [(6, .int 0), (4, .int 0), (5, .ref a1130), (3, .int 48), (2, .int 3), (1, .int 0), (0, .ref h0)]) hx hb dX9_shown_64 hl (by decide) rfl (fun ls hl => ?_)
  refine lv_iload hx hb dX9_shown_66 (lv_at hl 1 rfl) ?_
  refine lv_if_ne (tgt := 82) hx hb dX9_shown_68 (by decide) (fun cz => absurd (by decide) cz) (fun _ => ?_)
  refine lv_aload_n hx hb dX9_shown_71 rfl (lv_at hl 6 rfl) ?_
  refine lv_iload_n hx hb dX9_shown_72 rfl (lv_at hl 4 rfl) ?_
  refine lv_iload_n hx hb dX9_shown_73 rfl (lv_at hl 3 rfl) ?_
  refine lv_iload hx hb dX9_shown_74 (lv_at hl 0 rfl) ?_
  have hM1271 := k971_showsIt l hl9 dC dI z h0 h1 h2 h4 h5 h7 h8 h9 h10 h11 h12 h13 h14 h3 H1267.size kc0 kc2
  obtain ⟨hF1269, hC1272⟩ := pc_M hM1271 hP hD hK hS hX hT hA [0, 1, 2, 3, 4, 5, 6, 7, 8, 9, 10, 11, 12] [0, 1] rfl rfl rfl
  refine va_calli (va_runV (As := [.int 3, .int 48, .int 0]) (rest := []) ⟨hx, hb, hml, hown, hts⟩ hM1271 (cwV 3 hts (gV q_429 q_430 q_431 q_60 q_428) rfl rfl rfl hV_X9_showsIt ⟨Nat.le_of_ble_eq_true rfl, Nat.le_of_ble_eq_true rfl⟩) ⟨pc_blind, va_recv hK hP (ci := 8) (q := (RX9, TX9, 6)) (q0 := 0) rfl rfl, fun U hU hW => ⟨rfl, hC1272 U hU hW⟩⟩ rfl rfl hl.1 rfl (lv_room (Nat.le_of_ble_eq_true rfl)) dX9_shown_76 ⟨(Nat.le_of_ble_eq_true rfl), (Nat.le_of_ble_eq_true rfl)⟩) hS (fun q9 _ h9 => hF1269 q9 h9) hF1269 (fun r1274 u1273 t1273 H1273 L1273 ht1273 hvm1273 hw1273 hB1273 hz1273 hk1273 hS => ?_)
  have hP := pq_keep hP hD [0, 1, 2, 3, 4, 5, 6, 7, 8, 9, 10, 11, 12] rfl hk1273 hB1273.1 ht1273
  have hG : s.heap.size + 1303 ≤ H1273.size := va_gr (g := 1276) (g1 := 27) hG (by rw [← ht1273]; exact hB1273.2)
  refine W.eq (g2 := F0 m 79 ls [.int 0]) (by rw [hw1273]) ?_
  refine W.widen (k := 1303) (n := 12124) (by decide) (by decide) ?_
  refine lv_if_eq (tgt := 86) hx hb dX9_shown_79 (by decide) (fun _ => ?_) (fun cz => absurd (by decide) cz)
  refine lv_iconst (v := 0) hx hb dX9_shown_86 (by decide) ?_
  refine lv_istore (lv' := [(4, .int 0), (6, .int 0), (5, .ref a1130), (3, .int 48), (2, .int 3), (1, .int 0), (0, .ref h0)]) hx hb dX9_shown_87 hl (by decide) rfl (fun ls hl => ?_)
  refine lv_goto (tgt := 41) hx hb dX9_shown_89 (by decide) ?_
  refine lv_aload hx hb dX9_shown_41 (lv_at hl 2 rfl) ?_
  have hM1277 := k743_hasNext l hl9 dC dI z a1130 h3 h6 H1273.size
  obtain ⟨hF1275, hC1278⟩ := pc_M hM1277 hP hD hK hS hX hT hA [13, 14] [] rfl rfl rfl
  refine va_callFi (va_runF (As := []) (rest := []) (hK.1 1 (RJx35411, TJx35411, 4) rfl).2 ⟨hx, hb, hml, hown, hts⟩ hM1277 (va_cwF 0 hts (gF q_261 q_262 q_263 q_246 q_260) rfl rfl rfl hT.2.2.2.2.2.2.1 hF_xIh ⟨Nat.le_of_ble_eq_true rfl, Nat.le_of_ble_eq_true rfl⟩) ⟨pc_blind, va_recv hK hP (ci := 1) (q := (RJx35411, TJx35411, 4)) (q0 := 13) rfl rfl, fun U hU hW => ⟨rfl, hC1278 U hU hW⟩⟩ rfl rfl hl.1 rfl (lv_room (Nat.le_of_ble_eq_true rfl)) dX9_shown_43 ⟨(Nat.le_of_ble_eq_true rfl), (Nat.le_of_ble_eq_true rfl)⟩) hS (fun q9 _ h9 => hF1275 q9 h9) hF1275 (fun r1280 u1279 t1279 H1279 L1279 ht1279 hvm1279 hw1279 hB1279 hz1279 hk1279 hS => ?_)
  have hP := pq_keep hP hD [13, 14] rfl hk1279 hB1279.1 ht1279
  have hG : s.heap.size + 1303 ≤ H1279.size := Nat.le_trans hG hz1279
  refine W.eq (g2 := F0 m 48 ls [.int 1]) (by rw [hw1279]) ?_
  refine lv_if_eq (tgt := 92) hx hb dX9_shown_48 (by decide) (fun cz => absurd cz (by decide)) (fun _ => ?_)
  refine lv_aload hx hb dX9_shown_51 (lv_at hl 2 rfl) ?_
  have hM1283 := k959_next l hl9 dC dI z a1130 h3 h6 H1279.size kc1
  obtain ⟨hF1281, hC1284⟩ := pc_M hM1283 hP hD hK hS hX hT hA [13, 14, 15] [2] rfl rfl rfl
  refine va_callFr (va_runF (As := []) (rest := []) (hK.1 1 (RJx35411, TJx35411, 4) rfl).2 ⟨hx, hb, hml, hown, hts⟩ hM1283 (va_cwF 0 hts (gF q_308 q_309 q_310 q_246 q_307) rfl rfl rfl hT.2.2.2.2.2.2.2.1 hF_xIn ⟨Nat.le_of_ble_eq_true rfl, Nat.le_of_ble_eq_true rfl⟩) ⟨pc_blind, va_recv hK hP (ci := 1) (q := (RJx35411, TJx35411, 4)) (q0 := 13) rfl rfl, fun U hU hW => ⟨rfl, hC1284 U hU hW⟩⟩ rfl rfl hl.1 rfl (lv_room (Nat.le_of_ble_eq_true rfl)) dX9_shown_53 ⟨(Nat.le_of_ble_eq_true rfl), (Nat.le_of_ble_eq_true rfl)⟩) hS (fun q9 _ h9 => hF1281 q9 h9) hF1281 (fun u1285 r1286 t1285 H1285 L1285 ht1285 hvm1285 hw1285 hB1285 hz1285 hk1285 hS => ?_)
  obtain ⟨hr1285, hB1285⟩ := hB1285
  obtain ⟨hP, hD, hK⟩ := pq_jn (wz := [(h0, ce21 h1 h2 h3 h4), (h1, ce331 h5), (h2, ce3 z.1), (h4, ce366 h7), (h5, ce330 kc0 h8 h9 h10 h11 h12 h13 h14), (h7, ce330 kc2 (z.2.2.1 128) (z.2.2.1 129) (z.2.2.1 130) (z.2.2.1 131) (z.2.2.1 132) (z.2.2.1 133) (z.2.2.1 134)), (h8, ce49), (h9, ce49), (h10, ce49), (h11, ce49), (h12, ce49), (h13, ce49), (h14, ce49), (a1130, ce384 h3), (h3, ce331 h6), (h6, ce330 kc1 (z.2.2.1 128) (z.2.2.1 128) (z.2.2.1 128) (z.2.2.1 128) (z.2.2.1 128) (z.2.2.1 128) (z.2.2.1 128))]) (tz := [(kc0, .object "java/lang/Object"), (kc2, .object "java/lang/Object"), (kc1, .object "java/lang/Object")]) hP hD hK [13, 14, 15] [0, 1] rfl hk1285 hF1281 hB1285.1 ht1285 hvm1285 rfl rfl
  have hG : s.heap.size + 1303 ≤ H1285.size := Nat.le_trans hG hz1285
  refine W.eq (g2 := F0 m 58 ls [.ref (z.2.2.1 128)]) (by rw [hr1285]) ?_
  refine va_castE (nm := "java/lang/Integer") hx hb hown (hts _ q_320) (va_Orecv (hX.2.2.1.1.1 128 (by decide)) hS) dX9_shown_58 ?_
  have hM1289 := k74_intValue l hl9 dC dI z H1285.size
  obtain ⟨hF1287, hC1290⟩ := pc_M hM1289 hP hD hK hS hX hT hA [] [] rfl rfl rfl
  refine va_calli (va_runV (As := []) (rest := []) ⟨hx, hb, hml, hown, hts⟩ hM1289 (cwV 0 hts (gV q_323 q_324 q_325 q_297 q_322) rfl rfl rfl hV_J6_intValue_8abf5 ⟨Nat.le_of_ble_eq_true rfl, Nat.le_of_ble_eq_true rfl⟩) ⟨pc_blind, va_Orecv (hX.2.2.1.1.1 128 (by decide)) hS, fun U hU hW => ⟨rfl, hC1290 U hU hW⟩⟩ rfl rfl hl.1 rfl (lv_room (Nat.le_of_ble_eq_true rfl)) dX9_shown_61 ⟨(Nat.le_of_ble_eq_true rfl), (Nat.le_of_ble_eq_true rfl)⟩) hS (fun q9 _ h9 => hF1287 q9 h9) hF1287 (fun r1292 u1291 t1291 H1291 L1291 ht1291 hvm1291 hw1291 hB1291 hz1291 hk1291 hS => ?_)
  have hP := pq_keep hP hD [] rfl hk1291 hB1291.1 ht1291
  have hG : s.heap.size + 1303 ≤ H1291.size := Nat.le_trans hG hz1291
  refine W.eq (g2 := F0 m 64 ls [.int 0]) (by rw [hw1291]) ?_
  refine lv_istore (lv' := [(6, .int 0), (4, .int 0), (5, .ref a1130), (3, .int 48), (2, .int 3), (1, .int 0), (0, .ref h0)]) hx hb dX9_shown_64 hl (by decide) rfl (fun ls hl => ?_)
  refine lv_iload hx hb dX9_shown_66 (lv_at hl 1 rfl) ?_
  refine lv_if_ne (tgt := 82) hx hb dX9_shown_68 (by decide) (fun cz => absurd (by decide) cz) (fun _ => ?_)
  refine lv_aload_n hx hb dX9_shown_71 rfl (lv_at hl 6 rfl) ?_
  refine lv_iload_n hx hb dX9_shown_72 rfl (lv_at hl 4 rfl) ?_
  refine lv_iload_n hx hb dX9_shown_73 rfl (lv_at hl 3 rfl) ?_
  refine lv_iload hx hb dX9_shown_74 (lv_at hl 0 rfl) ?_
  have hM1295 := k971_showsIt l hl9 dC dI z h0 h1 h2 h4 h5 h7 h8 h9 h10 h11 h12 h13 h14 h3 H1291.size kc0 kc2
  obtain ⟨hF1293, hC1296⟩ := pc_M hM1295 hP hD hK hS hX hT hA [0, 1, 2, 3, 4, 5, 6, 7, 8, 9, 10, 11, 12] [0, 1] rfl rfl rfl
  refine va_calli (va_runV (As := [.int 3, .int 48, .int 0]) (rest := []) ⟨hx, hb, hml, hown, hts⟩ hM1295 (cwV 3 hts (gV q_429 q_430 q_431 q_60 q_428) rfl rfl rfl hV_X9_showsIt ⟨Nat.le_of_ble_eq_true rfl, Nat.le_of_ble_eq_true rfl⟩) ⟨pc_blind, va_recv hK hP (ci := 8) (q := (RX9, TX9, 6)) (q0 := 0) rfl rfl, fun U hU hW => ⟨rfl, hC1296 U hU hW⟩⟩ rfl rfl hl.1 rfl (lv_room (Nat.le_of_ble_eq_true rfl)) dX9_shown_76 ⟨(Nat.le_of_ble_eq_true rfl), (Nat.le_of_ble_eq_true rfl)⟩) hS (fun q9 _ h9 => hF1293 q9 h9) hF1293 (fun r1298 u1297 t1297 H1297 L1297 ht1297 hvm1297 hw1297 hB1297 hz1297 hk1297 hS => ?_)
  have hP := pq_keep hP hD [0, 1, 2, 3, 4, 5, 6, 7, 8, 9, 10, 11, 12] rfl hk1297 hB1297.1 ht1297
  have hG : s.heap.size + 1330 ≤ H1297.size := va_gr (g := 1303) (g1 := 27) hG (by rw [← ht1297]; exact hB1297.2)
  refine W.eq (g2 := F0 m 79 ls [.int 0]) (by rw [hw1297]) ?_
  refine W.widen (k := 1330) (n := 12376) (by decide) (by decide) ?_
  refine lv_if_eq (tgt := 86) hx hb dX9_shown_79 (by decide) (fun _ => ?_) (fun cz => absurd (by decide) cz)
  refine lv_iconst (v := 0) hx hb dX9_shown_86 (by decide) ?_
  refine lv_istore (lv' := [(4, .int 0), (6, .int 0), (5, .ref a1130), (3, .int 48), (2, .int 3), (1, .int 0), (0, .ref h0)]) hx hb dX9_shown_87 hl (by decide) rfl (fun ls hl => ?_)
  refine lv_goto (tgt := 41) hx hb dX9_shown_89 (by decide) ?_
  refine lv_aload hx hb dX9_shown_41 (lv_at hl 2 rfl) ?_
  have hM1301 := k746_hasNext l hl9 dC dI z a1130 h3 h6 H1297.size
  obtain ⟨hF1299, hC1302⟩ := pc_M hM1301 hP hD hK hS hX hT hA [13, 14] [] rfl rfl rfl
  refine va_callFi (va_runF (As := []) (rest := []) (hK.1 1 (RJx35411, TJx35411, 4) rfl).2 ⟨hx, hb, hml, hown, hts⟩ hM1301 (va_cwF 0 hts (gF q_261 q_262 q_263 q_246 q_260) rfl rfl rfl hT.2.2.2.2.2.2.1 hF_xIh ⟨Nat.le_of_ble_eq_true rfl, Nat.le_of_ble_eq_true rfl⟩) ⟨pc_blind, va_recv hK hP (ci := 1) (q := (RJx35411, TJx35411, 4)) (q0 := 13) rfl rfl, fun U hU hW => ⟨rfl, hC1302 U hU hW⟩⟩ rfl rfl hl.1 rfl (lv_room (Nat.le_of_ble_eq_true rfl)) dX9_shown_43 ⟨(Nat.le_of_ble_eq_true rfl), (Nat.le_of_ble_eq_true rfl)⟩) hS (fun q9 _ h9 => hF1299 q9 h9) hF1299 (fun r1304 u1303 t1303 H1303 L1303 ht1303 hvm1303 hw1303 hB1303 hz1303 hk1303 hS => ?_)
  have hP := pq_keep hP hD [13, 14] rfl hk1303 hB1303.1 ht1303
  have hG : s.heap.size + 1330 ≤ H1303.size := Nat.le_trans hG hz1303
  refine W.eq (g2 := F0 m 48 ls [.int 0]) (by rw [hw1303]) ?_
  refine lv_if_eq (tgt := 92) hx hb dX9_shown_48 (by decide) (fun _ => ?_) (fun cz => absurd (by decide) cz)
  refine lv_iload_n hx hb dX9_shown_92 rfl (lv_at hl 5 rfl) ?_
  refine lv_iload hx hb dX9_shown_93 (lv_at hl 0 rfl) ?_
  refine lv_if_eq (tgt := 102) hx hb dX9_shown_95 (by decide) (fun _ => ?_) (fun cz => absurd (by decide) cz)
  refine lv_iconst (v := 0) hx hb dX9_shown_102 (by decide) ?_
  refine lv_iadd hx hb dX9_shown_103 ?_
  refine lv_topi (fun y1305 ey1305 => ?_)
  obtain rfl : y1305 = 0 := ey1305.trans (by decide)
  refine lv_istore_n (lv' := [(1, .int 0), (4, .int 0), (6, .int 0), (5, .ref a1130), (3, .int 48), (2, .int 3), (0, .ref h0)]) hx hb dX9_shown_104 rfl hl (by decide) rfl (fun ls hl => ?_)
  refine lv_iload_n hx hb dX9_shown_105 rfl (lv_at hl 4 rfl) ?_
  refine lv_iconst (v := 1) hx hb dX9_shown_106 (by decide) ?_
  refine lv_iadd hx hb dX9_shown_107 ?_
  refine lv_topi (fun y1306 ey1306 => ?_)
  obtain rfl : y1306 = 49 := ey1306.trans (by decide)
  refine lv_i2c (v := 49) hx hb dX9_shown_108 (by decide) ?_
  refine lv_istore_n (lv' := [(3, .int 49), (1, .int 0), (4, .int 0), (6, .int 0), (5, .ref a1130), (2, .int 3), (0, .ref h0)]) hx hb dX9_shown_109 rfl hl (by decide) rfl (fun ls hl => ?_)
  refine lv_goto (tgt := 23) hx hb dX9_shown_110 (by decide) ?_
  exact hend _ _ _ hS (hP.sub [0, 1, 2, 14, 3, 4, 15, 5, 6, 7, 8, 9, 10, 11, 12] rfl) (hD.sub [0, 1, 2, 14, 3, 4, 15, 5, 6, 7, 8, 9, 10, 11, 12] rfl rfl) (lv_sub hl [0, 1, 5, 6] rfl) hG

set_option maxHeartbeats 8000000 in
set_option maxRecDepth 100000 in
theorem k986_shown_g11 {p : Program} {l : Launch} {e : Env} {s : State} {m : MethodId} {args : Array Value} {below : List Frame} {meth : Method} {c : Code} {Q : State → Prop} {A : Nat → Prop} {H : Heap} {locs : List Loc} {ls : Array Slot} {dC : Nat → ClassId} {dI : Nat → Nat → Nat} {z : XZ} {h0 h1 h2 h3 h4 h5 h6 h7 h8 h9 h10 h11 h12 h13 h14 : Nat} {kc0 kc1 kc2 : ClassId} (hl9 : l.stackTraces = false) (hx : p.tables.exec = Jvm.exec) (hb : c.code = cX9_shown) (hml : c.maxLocals = 7) (hown : s.vm.findClass RX9 = some m.cls) (hts : ∀ w ∈ wsL_law, w.before args s = true) (hA : ∀ q : Nat, s.heap.size ≤ q → A q) (hX : XE z A s s.heap) (hT : XT s) (hS : va_S A s.heap H locs) (hP : va_P (dC, dI) xCl [(h0, ce21 h1 h2 h3 h4), (h1, ce331 h5), (h2, ce3 z.1), (h3, ce331 h6), (h4, ce366 h7), (h5, ce330 kc0 h8 h9 h10 h11 h12 h13 h14), (h6, ce330 kc1 (z.2.2.1 128) (z.2.2.1 128) (z.2.2.1 128) (z.2.2.1 128) (z.2.2.1 128) (z.2.2.1 128) (z.2.2.1 128)), (h7, ce330 kc2 (z.2.2.1 128) (z.2.2.1 129) (z.2.2.1 130) (z.2.2.1 131) (z.2.2.1 132) (z.2.2.1 133) (z.2.2.1 134)), (h8, ce49), (h9, ce49), (h10, ce49), (h11, ce49), (h12, ce49), (h13, ce49), (h14, ce49)] H) (hD : va_D A [(h0, ce21 h1 h2 h3 h4), (h1, ce331 h5), (h2, ce3 z.1), (h3, ce331 h6), (h4, ce366 h7), (h5, ce330 kc0 h8 h9 h10 h11 h12 h13 h14), (h6, ce330 kc1 (z.2.2.1 128) (z.2.2.1 128) (z.2.2.1 128) (z.2.2.1 128) (z.2.2.1 128) (z.2.2.1 128) (z.2.2.1 128)), (h7, ce330 kc2 (z.2.2.1 128) (z.2.2.1 129) (z.2.2.1 130) (z.2.2.1 131) (z.2.2.1 132) (z.2.2.1 133) (z.2.2.1 134)), (h8, ce49), (h9, ce49), (h10, ce49), (h11, ce49), (h12, ce49), (h13, ce49), (h14, ce49)]) (hK : va_K (dC, dI) xCl [(kc0, .object "java/lang/Object"), (kc1, .object "java/lang/Object"), (kc2, .object "java/lang/Object")] s) (hl : lv_has ls 7 [(3, .int 49), (1, .int 0), (2, .int 3), (0, .ref h0)]) (hG : s.heap.size + 1330 ≤ H.size) (hend : ∀ (H' : Heap) (locs' : List Loc) (ls' : Array Slot), va_S A s.heap H' locs' → va_P (dC, dI) xCl [(h0, ce21 h1 h2 h3 h4), (h1, ce331 h5), (h2, ce3 z.1), (h3, ce331 h6), (h4, ce366 h7), (h5, ce330 kc0 h8 h9 h10 h11 h12 h13 h14), (h6, ce330 kc1 (z.2.2.1 128) (z.2.2.1 128) (z.2.2.1 128) (z.2.2.1 128) (z.2.2.1 128) (z.2.2.1 128) (z.2.2.1 128)), (h7, ce330 kc2 (z.2.2.1 128) (z.2.2.1 129) (z.2.2.1 130) (z.2.2.1 131) (z.2.2.1 132) (z.2.2.1 133) (z.2.2.1 134)), (h8, ce49), (h9, ce49), (h10, ce49), (h11, ce49), (h12, ce49), (h13, ce49), (h14, ce49)] H' → va_D A [(h0, ce21 h1 h2 h3 h4), (h1, ce331 h5), (h2, ce3 z.1), (h3, ce331 h6), (h4, ce366 h7), (h5, ce330 kc0 h8 h9 h10 h11 h12 h13 h14), (h6, ce330 kc1 (z.2.2.1 128) (z.2.2.1 128) (z.2.2.1 128) (z.2.2.1 128) (z.2.2.1 128) (z.2.2.1 128) (z.2.2.1 128)), (h7, ce330 kc2 (z.2.2.1 128) (z.2.2.1 129) (z.2.2.1 130) (z.2.2.1 131) (z.2.2.1 132) (z.2.2.1 133) (z.2.2.1 134)), (h8, ce49), (h9, ce49), (h10, ce49), (h11, ce49), (h12, ce49), (h13, ce49), (h14, ce49)] → lv_has ls' 7 [(3, .int 50), (1, .int 0), (2, .int 3), (0, .ref h0)] → s.heap.size + 1520 ≤ H'.size → W p l e ({ frames := 5, cells := 2660, slots := 24752, locals := 121 } : Room) s m args below meth c H' locs' 1520 14144 Q (F0 m 23 ls' [])) : W p l e ({ frames := 5, cells := 2660, slots := 24752, locals := 121 } : Room) s m args below meth c H locs 1330 12376 Q (F0 m 23 ls []) := by
  refine lv_iload_n hx hb dX9_shown_23 rfl (lv_at hl 0 rfl) ?_
  refine lv_bipush (v := 49) hx hb dX9_shown_24 (by decide) ?_
  refine lv_icmp_gt (tgt := 113) hx hb dX9_shown_26 (by decide) (fun cz => absurd cz (by decide)) (fun _ => ?_)
  refine lv_iconst (v := 0) hx hb dX9_shown_29 (by decide) ?_
  refine lv_istore (lv' := [(4, .int 0), (3, .int 49), (1, .int 0), (2, .int 3), (0, .ref h0)]) hx hb dX9_shown_30 hl (by decide) rfl (fun ls hl => ?_)
  refine lv_aload_n hx hb dX9_shown_32 rfl (lv_at hl 4 rfl) ?_
  refine va_get (D := (dC, dI)) (ci := 8) (v := .ref h3) (C := RX9) (T := TX9) (N := 6) hx hb hts in_X9 hown hK hP 0 rfl rfl 3 (by decide) (hts _ q_66) (fun _ h9 => h9) rfl dX9_shown_33 ?_
  have hM1309 := k724_iterator l hl9 dC dI z h3 h6 H.size
  obtain ⟨hF1307, hC1310⟩ := pc_M hM1309 hP hD hK hS hX hT hA [3] [] rfl rfl rfl
  refine va_callr (va_runV (As := []) (rest := []) ⟨hx, hb, hml, hown, hts⟩ hM1309 (cwV 0 hts (gV q_256 q_257 q_258 q_12 q_255) rfl rfl rfl hV_Jx4a65c_iterator_32c93 ⟨Nat.le_of_ble_eq_true rfl, Nat.le_of_ble_eq_true rfl⟩) ⟨pc_blind, va_recv hK hP (ci := 0) (q := (RJx4a65c, TJx4a65c, 3)) (q0 := 3) rfl rfl, fun U hU hW => ⟨rfl, hC1310 U hU hW⟩⟩ rfl rfl hl.1 rfl (lv_room (Nat.le_of_ble_eq_true rfl)) dX9_shown_36 ⟨(Nat.le_of_ble_eq_true rfl), (Nat.le_of_ble_eq_true rfl)⟩) hS (fun q9 _ h9 => hF1307 q9 h9) hF1307 (fun u1311 r1312 t1311 H1311 L1311 ht1311 hvm1311 hw1311 hB1311 hz1311 hk1311 hS => ?_)
  obtain ⟨a1313, hr1311, hB1311⟩ := hB1311
  obtain ⟨hP, hD, hK⟩ := pq_jn (wz := [(h0, ce21 h1 h2 h3 h4), (h1, ce331 h5), (h2, ce3 z.1), (h4, ce366 h7), (h5, ce330 kc0 h8 h9 h10 h11 h12 h13 h14), (h6, ce330 kc1 (z.2.2.1 128) (z.2.2.1 128) (z.2.2.1 128) (z.2.2.1 128) (z.2.2.1 128) (z.2.2.1 128) (z.2.2.1 128)), (h7, ce330 kc2 (z.2.2.1 128) (z.2.2.1 129) (z.2.2.1 130) (z.2.2.1 131) (z.2.2.1 132) (z.2.2.1 133) (z.2.2.1 134)), (h8, ce49), (h9, ce49), (h10, ce49), (h11, ce49), (h12, ce49), (h13, ce49), (h14, ce49), (h3, ce331 h6), (a1313, ce370 h3)]) (tz := [(kc0, .object "java/lang/Object"), (kc1, .object "java/lang/Object"), (kc2, .object "java/lang/Object")]) hP hD hK [3] [0, 1, 2] rfl hk1311 hF1307 hB1311.1 ht1311 hvm1311 rfl rfl
  have hG : s.heap.size + 1331 ≤ H1311.size := va_gr (g := 1330) (g1 := 1) hG (by rw [← ht1311]; exact hB1311.2)
  refine W.eq (g2 := F0 m 39 ls [.ref a1313]) (by rw [hr1311]) ?_
  refine W.widen (k := 1331) (n := 12380) (by decide) (by decide) ?_
  refine lv_astore (lv' := [(5, .ref a1313), (4, .int 0), (3, .int 49), (1, .int 0), (2, .int 3), (0, .ref h0)]) hx hb dX9_shown_39 hl (by decide) rfl (fun ls hl => ?_)
  refine lv_aload hx hb dX9_shown_41 (lv_at hl 0 rfl) ?_
  have hM1316 := k725_hasNext l hl9 dC dI z a1313 h3 h6 H1311.size
  obtain ⟨hF1314, hC1317⟩ := pc_M hM1316 hP hD hK hS hX hT hA [15, 14] [] rfl rfl rfl
  refine va_callFi (va_runF (As := []) (rest := []) (hK.1 1 (RJx35411, TJx35411, 4) rfl).2 ⟨hx, hb, hml, hown, hts⟩ hM1316 (va_cwF 0 hts (gF q_261 q_262 q_263 q_246 q_260) rfl rfl rfl hT.2.2.2.2.2.2.1 hF_xIh ⟨Nat.le_of_ble_eq_true rfl, Nat.le_of_ble_eq_true rfl⟩) ⟨pc_blind, va_recv hK hP (ci := 1) (q := (RJx35411, TJx35411, 4)) (q0 := 15) rfl rfl, fun U hU hW => ⟨rfl, hC1317 U hU hW⟩⟩ rfl rfl hl.1 rfl (lv_room (Nat.le_of_ble_eq_true rfl)) dX9_shown_43 ⟨(Nat.le_of_ble_eq_true rfl), (Nat.le_of_ble_eq_true rfl)⟩) hS (fun q9 _ h9 => hF1314 q9 h9) hF1314 (fun r1319 u1318 t1318 H1318 L1318 ht1318 hvm1318 hw1318 hB1318 hz1318 hk1318 hS => ?_)
  have hP := pq_keep hP hD [15, 14] rfl hk1318 hB1318.1 ht1318
  have hG : s.heap.size + 1331 ≤ H1318.size := Nat.le_trans hG hz1318
  refine W.eq (g2 := F0 m 48 ls [.int 1]) (by rw [hw1318]) ?_
  refine lv_if_eq (tgt := 92) hx hb dX9_shown_48 (by decide) (fun cz => absurd cz (by decide)) (fun _ => ?_)
  refine lv_aload hx hb dX9_shown_51 (lv_at hl 0 rfl) ?_
  have hM1322 := k942_next l hl9 dC dI z a1313 h3 h6 H1318.size kc1
  obtain ⟨hF1320, hC1323⟩ := pc_M hM1322 hP hD hK hS hX hT hA [15, 14, 5] [1] rfl rfl rfl
  refine va_callFr (va_runF (As := []) (rest := []) (hK.1 1 (RJx35411, TJx35411, 4) rfl).2 ⟨hx, hb, hml, hown, hts⟩ hM1322 (va_cwF 0 hts (gF q_308 q_309 q_310 q_246 q_307) rfl rfl rfl hT.2.2.2.2.2.2.2.1 hF_xIn ⟨Nat.le_of_ble_eq_true rfl, Nat.le_of_ble_eq_true rfl⟩) ⟨pc_blind, va_recv hK hP (ci := 1) (q := (RJx35411, TJx35411, 4)) (q0 := 15) rfl rfl, fun U hU hW => ⟨rfl, hC1323 U hU hW⟩⟩ rfl rfl hl.1 rfl (lv_room (Nat.le_of_ble_eq_true rfl)) dX9_shown_53 ⟨(Nat.le_of_ble_eq_true rfl), (Nat.le_of_ble_eq_true rfl)⟩) hS (fun q9 _ h9 => hF1320 q9 h9) hF1320 (fun u1324 r1325 t1324 H1324 L1324 ht1324 hvm1324 hw1324 hB1324 hz1324 hk1324 hS => ?_)
  obtain ⟨hr1324, hB1324⟩ := hB1324
  obtain ⟨hP, hD, hK⟩ := pq_jn (wz := [(h0, ce21 h1 h2 h3 h4), (h1, ce331 h5), (h2, ce3 z.1), (h4, ce366 h7), (h5, ce330 kc0 h8 h9 h10 h11 h12 h13 h14), (h7, ce330 kc2 (z.2.2.1 128) (z.2.2.1 129) (z.2.2.1 130) (z.2.2.1 131) (z.2.2.1 132) (z.2.2.1 133) (z.2.2.1 134)), (h8, ce49), (h9, ce49), (h10, ce49), (h11, ce49), (h12, ce49), (h13, ce49), (h14, ce49), (a1313, ce372 h3), (h3, ce331 h6), (h6, ce330 kc1 (z.2.2.1 128) (z.2.2.1 128) (z.2.2.1 128) (z.2.2.1 128) (z.2.2.1 128) (z.2.2.1 128) (z.2.2.1 128))]) (tz := [(kc0, .object "java/lang/Object"), (kc2, .object "java/lang/Object"), (kc1, .object "java/lang/Object")]) hP hD hK [15, 14, 5] [0, 2] rfl hk1324 hF1320 hB1324.1 ht1324 hvm1324 rfl rfl
  have hG : s.heap.size + 1331 ≤ H1324.size := Nat.le_trans hG hz1324
  refine W.eq (g2 := F0 m 58 ls [.ref (z.2.2.1 128)]) (by rw [hr1324]) ?_
  refine va_castE (nm := "java/lang/Integer") hx hb hown (hts _ q_320) (va_Orecv (hX.2.2.1.1.1 128 (by decide)) hS) dX9_shown_58 ?_
  have hM1328 := k74_intValue l hl9 dC dI z H1324.size
  obtain ⟨hF1326, hC1329⟩ := pc_M hM1328 hP hD hK hS hX hT hA [] [] rfl rfl rfl
  refine va_calli (va_runV (As := []) (rest := []) ⟨hx, hb, hml, hown, hts⟩ hM1328 (cwV 0 hts (gV q_323 q_324 q_325 q_297 q_322) rfl rfl rfl hV_J6_intValue_8abf5 ⟨Nat.le_of_ble_eq_true rfl, Nat.le_of_ble_eq_true rfl⟩) ⟨pc_blind, va_Orecv (hX.2.2.1.1.1 128 (by decide)) hS, fun U hU hW => ⟨rfl, hC1329 U hU hW⟩⟩ rfl rfl hl.1 rfl (lv_room (Nat.le_of_ble_eq_true rfl)) dX9_shown_61 ⟨(Nat.le_of_ble_eq_true rfl), (Nat.le_of_ble_eq_true rfl)⟩) hS (fun q9 _ h9 => hF1326 q9 h9) hF1326 (fun r1331 u1330 t1330 H1330 L1330 ht1330 hvm1330 hw1330 hB1330 hz1330 hk1330 hS => ?_)
  have hP := pq_keep hP hD [] rfl hk1330 hB1330.1 ht1330
  have hG : s.heap.size + 1331 ≤ H1330.size := Nat.le_trans hG hz1330
  refine W.eq (g2 := F0 m 64 ls [.int 0]) (by rw [hw1330]) ?_
  refine lv_istore (lv' := [(6, .int 0), (5, .ref a1313), (4, .int 0), (3, .int 49), (1, .int 0), (2, .int 3), (0, .ref h0)]) hx hb dX9_shown_64 hl (by decide) rfl (fun ls hl => ?_)
  refine lv_iload hx hb dX9_shown_66 (lv_at hl 2 rfl) ?_
  refine lv_if_ne (tgt := 82) hx hb dX9_shown_68 (by decide) (fun cz => absurd (by decide) cz) (fun _ => ?_)
  refine lv_aload_n hx hb dX9_shown_71 rfl (lv_at hl 6 rfl) ?_
  refine lv_iload_n hx hb dX9_shown_72 rfl (lv_at hl 5 rfl) ?_
  refine lv_iload_n hx hb dX9_shown_73 rfl (lv_at hl 3 rfl) ?_
  refine lv_iload hx hb dX9_shown_74 (lv_at hl 0 rfl) ?_
  have hM1334 := k973_showsIt l hl9 dC dI z h0 h1 h2 h4 h5 h7 h8 h9 h10 h11 h12 h13 h14 h3 H1330.size kc0 kc2
  obtain ⟨hF1332, hC1335⟩ := pc_M hM1334 hP hD hK hS hX hT hA [0, 1, 2, 3, 4, 5, 6, 7, 8, 9, 10, 11, 12] [0, 1] rfl rfl rfl
  refine va_calli (va_runV (As := [.int 3, .int 49, .int 0]) (rest := []) ⟨hx, hb, hml, hown, hts⟩ hM1334 (cwV 3 hts (gV q_429 q_430 q_431 q_60 q_428) rfl rfl rfl hV_X9_showsIt ⟨Nat.le_of_ble_eq_true rfl, Nat.le_of_ble_eq_true rfl⟩) ⟨pc_blind, va_recv hK hP (ci := 8) (q := (RX9, TX9, 6)) (q0 := 0) rfl rfl, fun U hU hW => ⟨rfl, hC1335 U hU hW⟩⟩ rfl rfl hl.1 rfl (lv_room (Nat.le_of_ble_eq_true rfl)) dX9_shown_76 ⟨(Nat.le_of_ble_eq_true rfl), (Nat.le_of_ble_eq_true rfl)⟩) hS (fun q9 _ h9 => hF1332 q9 h9) hF1332 (fun r1337 u1336 t1336 H1336 L1336 ht1336 hvm1336 hw1336 hB1336 hz1336 hk1336 hS => ?_)
  have hP := pq_keep hP hD [0, 1, 2, 3, 4, 5, 6, 7, 8, 9, 10, 11, 12] rfl hk1336 hB1336.1 ht1336
  have hG : s.heap.size + 1358 ≤ H1336.size := va_gr (g := 1331) (g1 := 27) hG (by rw [← ht1336]; exact hB1336.2)
  refine W.eq (g2 := F0 m 79 ls [.int 0]) (by rw [hw1336]) ?_
  refine W.widen (k := 1358) (n := 12632) (by decide) (by decide) ?_
  refine lv_if_eq (tgt := 86) hx hb dX9_shown_79 (by decide) (fun _ => ?_) (fun cz => absurd (by decide) cz)
  refine lv_iconst (v := 0) hx hb dX9_shown_86 (by decide) ?_
  refine lv_istore (lv' := [(4, .int 0), (6, .int 0), (5, .ref a1313), (3, .int 49), (1, .int 0), (2, .int 3), (0, .ref h0)]) hx hb dX9_shown_87 hl (by decide) rfl (fun ls hl => ?_)
  refine lv_goto (tgt := 41) hx hb dX9_shown_89 (by decide) ?_
  refine lv_aload hx hb dX9_shown_41 (lv_at hl 2 rfl) ?_
  have hM1340 := k728_hasNext l hl9 dC dI z a1313 h3 h6 H1336.size
  obtain ⟨hF1338, hC1341⟩ := pc_M hM1340 hP hD hK hS hX hT hA [13, 14] [] rfl rfl rfl
  refine va_callFi (va_runF (As := []) (rest := []) (hK.1 1 (RJx35411, TJx35411, 4) rfl).2 ⟨hx, hb, hml, hown, hts⟩ hM1340 (va_cwF 0 hts (gF q_261 q_262 q_263 q_246 q_260) rfl rfl rfl hT.2.2.2.2.2.2.1 hF_xIh ⟨Nat.le_of_ble_eq_true rfl, Nat.le_of_ble_eq_true rfl⟩) ⟨pc_blind, va_recv hK hP (ci := 1) (q := (RJx35411, TJx35411, 4)) (q0 := 13) rfl rfl, fun U hU hW => ⟨rfl, hC1341 U hU hW⟩⟩ rfl rfl hl.1 rfl (lv_room (Nat.le_of_ble_eq_true rfl)) dX9_shown_43 ⟨(Nat.le_of_ble_eq_true rfl), (Nat.le_of_ble_eq_true rfl)⟩) hS (fun q9 _ h9 => hF1338 q9 h9) hF1338 (fun r1343 u1342 t1342 H1342 L1342 ht1342 hvm1342 hw1342 hB1342 hz1342 hk1342 hS => ?_)
  have hP := pq_keep hP hD [13, 14] rfl hk1342 hB1342.1 ht1342
  have hG : s.heap.size + 1358 ≤ H1342.size := Nat.le_trans hG hz1342
  refine W.eq (g2 := F0 m 48 ls [.int 1]) (by rw [hw1342]) ?_
  refine lv_if_eq (tgt := 92) hx hb dX9_shown_48 (by decide) (fun cz => absurd cz (by decide)) (fun _ => ?_)
  refine lv_aload hx hb dX9_shown_51 (lv_at hl 2 rfl) ?_
  have hM1346 := k954_next l hl9 dC dI z a1313 h3 h6 H1342.size kc1
  obtain ⟨hF1344, hC1347⟩ := pc_M hM1346 hP hD hK hS hX hT hA [13, 14, 15] [2] rfl rfl rfl
  refine va_callFr (va_runF (As := []) (rest := []) (hK.1 1 (RJx35411, TJx35411, 4) rfl).2 ⟨hx, hb, hml, hown, hts⟩ hM1346 (va_cwF 0 hts (gF q_308 q_309 q_310 q_246 q_307) rfl rfl rfl hT.2.2.2.2.2.2.2.1 hF_xIn ⟨Nat.le_of_ble_eq_true rfl, Nat.le_of_ble_eq_true rfl⟩) ⟨pc_blind, va_recv hK hP (ci := 1) (q := (RJx35411, TJx35411, 4)) (q0 := 13) rfl rfl, fun U hU hW => ⟨rfl, hC1347 U hU hW⟩⟩ rfl rfl hl.1 rfl (lv_room (Nat.le_of_ble_eq_true rfl)) dX9_shown_53 ⟨(Nat.le_of_ble_eq_true rfl), (Nat.le_of_ble_eq_true rfl)⟩) hS (fun q9 _ h9 => hF1344 q9 h9) hF1344 (fun u1348 r1349 t1348 H1348 L1348 ht1348 hvm1348 hw1348 hB1348 hz1348 hk1348 hS => ?_)
  obtain ⟨hr1348, hB1348⟩ := hB1348
  obtain ⟨hP, hD, hK⟩ := pq_jn (wz := [(h0, ce21 h1 h2 h3 h4), (h1, ce331 h5), (h2, ce3 z.1), (h4, ce366 h7), (h5, ce330 kc0 h8 h9 h10 h11 h12 h13 h14), (h7, ce330 kc2 (z.2.2.1 128) (z.2.2.1 129) (z.2.2.1 130) (z.2.2.1 131) (z.2.2.1 132) (z.2.2.1 133) (z.2.2.1 134)), (h8, ce49), (h9, ce49), (h10, ce49), (h11, ce49), (h12, ce49), (h13, ce49), (h14, ce49), (a1313, ce374 h3), (h3, ce331 h6), (h6, ce330 kc1 (z.2.2.1 128) (z.2.2.1 128) (z.2.2.1 128) (z.2.2.1 128) (z.2.2.1 128) (z.2.2.1 128) (z.2.2.1 128))]) (tz := [(kc0, .object "java/lang/Object"), (kc2, .object "java/lang/Object"), (kc1, .object "java/lang/Object")]) hP hD hK [13, 14, 15] [0, 1] rfl hk1348 hF1344 hB1348.1 ht1348 hvm1348 rfl rfl
  have hG : s.heap.size + 1358 ≤ H1348.size := Nat.le_trans hG hz1348
  refine W.eq (g2 := F0 m 58 ls [.ref (z.2.2.1 128)]) (by rw [hr1348]) ?_
  refine va_castE (nm := "java/lang/Integer") hx hb hown (hts _ q_320) (va_Orecv (hX.2.2.1.1.1 128 (by decide)) hS) dX9_shown_58 ?_
  have hM1352 := k74_intValue l hl9 dC dI z H1348.size
  obtain ⟨hF1350, hC1353⟩ := pc_M hM1352 hP hD hK hS hX hT hA [] [] rfl rfl rfl
  refine va_calli (va_runV (As := []) (rest := []) ⟨hx, hb, hml, hown, hts⟩ hM1352 (cwV 0 hts (gV q_323 q_324 q_325 q_297 q_322) rfl rfl rfl hV_J6_intValue_8abf5 ⟨Nat.le_of_ble_eq_true rfl, Nat.le_of_ble_eq_true rfl⟩) ⟨pc_blind, va_Orecv (hX.2.2.1.1.1 128 (by decide)) hS, fun U hU hW => ⟨rfl, hC1353 U hU hW⟩⟩ rfl rfl hl.1 rfl (lv_room (Nat.le_of_ble_eq_true rfl)) dX9_shown_61 ⟨(Nat.le_of_ble_eq_true rfl), (Nat.le_of_ble_eq_true rfl)⟩) hS (fun q9 _ h9 => hF1350 q9 h9) hF1350 (fun r1355 u1354 t1354 H1354 L1354 ht1354 hvm1354 hw1354 hB1354 hz1354 hk1354 hS => ?_)
  have hP := pq_keep hP hD [] rfl hk1354 hB1354.1 ht1354
  have hG : s.heap.size + 1358 ≤ H1354.size := Nat.le_trans hG hz1354
  refine W.eq (g2 := F0 m 64 ls [.int 0]) (by rw [hw1354]) ?_
  refine lv_istore (lv' := [(6, .int 0), (4, .int 0), (5, .ref a1313), (3, .int 49), (1, .int 0), (2, .int 3), (0, .ref h0)]) hx hb dX9_shown_64 hl (by decide) rfl (fun ls hl => ?_)
  refine lv_iload hx hb dX9_shown_66 (lv_at hl 1 rfl) ?_
  refine lv_if_ne (tgt := 82) hx hb dX9_shown_68 (by decide) (fun cz => absurd (by decide) cz) (fun _ => ?_)
  refine lv_aload_n hx hb dX9_shown_71 rfl (lv_at hl 6 rfl) ?_
  refine lv_iload_n hx hb dX9_shown_72 rfl (lv_at hl 5 rfl) ?_
  refine lv_iload_n hx hb dX9_shown_73 rfl (lv_at hl 3 rfl) ?_
  refine lv_iload hx hb dX9_shown_74 (lv_at hl 0 rfl) ?_
  have hM1358 := k973_showsIt l hl9 dC dI z h0 h1 h2 h4 h5 h7 h8 h9 h10 h11 h12 h13 h14 h3 H1354.size kc0 kc2
  obtain ⟨hF1356, hC1359⟩ := pc_M hM1358 hP hD hK hS hX hT hA [0, 1, 2, 3, 4, 5, 6, 7, 8, 9, 10, 11, 12] [0, 1] rfl rfl rfl
  refine va_calli (va_runV (As := [.int 3, .int 49, .int 0]) (rest := []) ⟨hx, hb, hml, hown, hts⟩ hM1358 (cwV 3 hts (gV q_429 q_430 q_431 q_60 q_428) rfl rfl rfl hV_X9_showsIt ⟨Nat.le_of_ble_eq_true rfl, Nat.le_of_ble_eq_true rfl⟩) ⟨pc_blind, va_recv hK hP (ci := 8) (q := (RX9, TX9, 6)) (q0 := 0) rfl rfl, fun U hU hW => ⟨rfl, hC1359 U hU hW⟩⟩ rfl rfl hl.1 rfl (lv_room (Nat.le_of_ble_eq_true rfl)) dX9_shown_76 ⟨(Nat.le_of_ble_eq_true rfl), (Nat.le_of_ble_eq_true rfl)⟩) hS (fun q9 _ h9 => hF1356 q9 h9) hF1356 (fun r1361 u1360 t1360 H1360 L1360 ht1360 hvm1360 hw1360 hB1360 hz1360 hk1360 hS => ?_)
  have hP := pq_keep hP hD [0, 1, 2, 3, 4, 5, 6, 7, 8, 9, 10, 11, 12] rfl hk1360 hB1360.1 ht1360
  have hG : s.heap.size + 1385 ≤ H1360.size := va_gr (g := 1358) (g1 := 27) hG (by rw [← ht1360]; exact hB1360.2)
  refine W.eq (g2 := F0 m 79 ls [.int 0]) (by rw [hw1360]) ?_
  refine W.widen (k := 1385) (n := 12884) (by decide) (by decide) ?_
  refine lv_if_eq (tgt := 86) hx hb dX9_shown_79 (by decide) (fun _ => ?_) (fun cz => absurd (by decide) cz)
  refine lv_iconst (v := 0) hx hb dX9_shown_86 (by decide) ?_
  refine lv_istore (lv' := [(4, .int 0), (6, .int 0), (5, .ref a1313), (3, .int 49), (1, .int 0), (2, .int 3), (0, .ref h0)]) hx hb dX9_shown_87 hl (by decide) rfl (fun ls hl => ?_)
  refine lv_goto (tgt := 41) hx hb dX9_shown_89 (by decide) ?_
  refine lv_aload hx hb dX9_shown_41 (lv_at hl 2 rfl) ?_
  have hM1364 := k731_hasNext l hl9 dC dI z a1313 h3 h6 H1360.size
  obtain ⟨hF1362, hC1365⟩ := pc_M hM1364 hP hD hK hS hX hT hA [13, 14] [] rfl rfl rfl
  refine va_callFi (va_runF (As := []) (rest := []) (hK.1 1 (RJx35411, TJx35411, 4) rfl).2 ⟨hx, hb, hml, hown, hts⟩ hM1364 (va_cwF 0 hts (gF q_261 q_262 q_263 q_246 q_260) rfl rfl rfl hT.2.2.2.2.2.2.1 hF_xIh ⟨Nat.le_of_ble_eq_true rfl, Nat.le_of_ble_eq_true rfl⟩) ⟨pc_blind, va_recv hK hP (ci := 1) (q := (RJx35411, TJx35411, 4)) (q0 := 13) rfl rfl, fun U hU hW => ⟨rfl, hC1365 U hU hW⟩⟩ rfl rfl hl.1 rfl (lv_room (Nat.le_of_ble_eq_true rfl)) dX9_shown_43 ⟨(Nat.le_of_ble_eq_true rfl), (Nat.le_of_ble_eq_true rfl)⟩) hS (fun q9 _ h9 => hF1362 q9 h9) hF1362 (fun r1367 u1366 t1366 H1366 L1366 ht1366 hvm1366 hw1366 hB1366 hz1366 hk1366 hS => ?_)
  have hP := pq_keep hP hD [13, 14] rfl hk1366 hB1366.1 ht1366
  have hG : s.heap.size + 1385 ≤ H1366.size := Nat.le_trans hG hz1366
  refine W.eq (g2 := F0 m 48 ls [.int 1]) (by rw [hw1366]) ?_
  refine lv_if_eq (tgt := 92) hx hb dX9_shown_48 (by decide) (fun cz => absurd cz (by decide)) (fun _ => ?_)
  refine lv_aload hx hb dX9_shown_51 (lv_at hl 2 rfl) ?_
  have hM1370 := k955_next l hl9 dC dI z a1313 h3 h6 H1366.size kc1
  obtain ⟨hF1368, hC1371⟩ := pc_M hM1370 hP hD hK hS hX hT hA [13, 14, 15] [2] rfl rfl rfl
  refine va_callFr (va_runF (As := []) (rest := []) (hK.1 1 (RJx35411, TJx35411, 4) rfl).2 ⟨hx, hb, hml, hown, hts⟩ hM1370 (va_cwF 0 hts (gF q_308 q_309 q_310 q_246 q_307) rfl rfl rfl hT.2.2.2.2.2.2.2.1 hF_xIn ⟨Nat.le_of_ble_eq_true rfl, Nat.le_of_ble_eq_true rfl⟩) ⟨pc_blind, va_recv hK hP (ci := 1) (q := (RJx35411, TJx35411, 4)) (q0 := 13) rfl rfl, fun U hU hW => ⟨rfl, hC1371 U hU hW⟩⟩ rfl rfl hl.1 rfl (lv_room (Nat.le_of_ble_eq_true rfl)) dX9_shown_53 ⟨(Nat.le_of_ble_eq_true rfl), (Nat.le_of_ble_eq_true rfl)⟩) hS (fun q9 _ h9 => hF1368 q9 h9) hF1368 (fun u1372 r1373 t1372 H1372 L1372 ht1372 hvm1372 hw1372 hB1372 hz1372 hk1372 hS => ?_)
  obtain ⟨hr1372, hB1372⟩ := hB1372
  obtain ⟨hP, hD, hK⟩ := pq_jn (wz := [(h0, ce21 h1 h2 h3 h4), (h1, ce331 h5), (h2, ce3 z.1), (h4, ce366 h7), (h5, ce330 kc0 h8 h9 h10 h11 h12 h13 h14), (h7, ce330 kc2 (z.2.2.1 128) (z.2.2.1 129) (z.2.2.1 130) (z.2.2.1 131) (z.2.2.1 132) (z.2.2.1 133) (z.2.2.1 134)), (h8, ce49), (h9, ce49), (h10, ce49), (h11, ce49), (h12, ce49), (h13, ce49), (h14, ce49), (a1313, ce376 h3), (h3, ce331 h6), (h6, ce330 kc1 (z.2.2.1 128) (z.2.2.1 128) (z.2.2.1 128) (z.2.2.1 128) (z.2.2.1 128) (z.2.2.1 128) (z.2.2.1 128))]) (tz := [(kc0, .object "java/lang/Object"), (kc2, .object "java/lang/Object"), (kc1, .object "java/lang/Object")]) hP hD hK [13, 14, 15] [0, 1] rfl hk1372 hF1368 hB1372.1 ht1372 hvm1372 rfl rfl
  have hG : s.heap.size + 1385 ≤ H1372.size := Nat.le_trans hG hz1372
  refine W.eq (g2 := F0 m 58 ls [.ref (z.2.2.1 128)]) (by rw [hr1372]) ?_
  refine va_castE (nm := "java/lang/Integer") hx hb hown (hts _ q_320) (va_Orecv (hX.2.2.1.1.1 128 (by decide)) hS) dX9_shown_58 ?_
  have hM1376 := k74_intValue l hl9 dC dI z H1372.size
  obtain ⟨hF1374, hC1377⟩ := pc_M hM1376 hP hD hK hS hX hT hA [] [] rfl rfl rfl
  refine va_calli (va_runV (As := []) (rest := []) ⟨hx, hb, hml, hown, hts⟩ hM1376 (cwV 0 hts (gV q_323 q_324 q_325 q_297 q_322) rfl rfl rfl hV_J6_intValue_8abf5 ⟨Nat.le_of_ble_eq_true rfl, Nat.le_of_ble_eq_true rfl⟩) ⟨pc_blind, va_Orecv (hX.2.2.1.1.1 128 (by decide)) hS, fun U hU hW => ⟨rfl, hC1377 U hU hW⟩⟩ rfl rfl hl.1 rfl (lv_room (Nat.le_of_ble_eq_true rfl)) dX9_shown_61 ⟨(Nat.le_of_ble_eq_true rfl), (Nat.le_of_ble_eq_true rfl)⟩) hS (fun q9 _ h9 => hF1374 q9 h9) hF1374 (fun r1379 u1378 t1378 H1378 L1378 ht1378 hvm1378 hw1378 hB1378 hz1378 hk1378 hS => ?_)
  have hP := pq_keep hP hD [] rfl hk1378 hB1378.1 ht1378
  have hG : s.heap.size + 1385 ≤ H1378.size := Nat.le_trans hG hz1378
  refine W.eq (g2 := F0 m 64 ls [.int 0]) (by rw [hw1378]) ?_
  refine lv_istore (lv' := [(6, .int 0), (4, .int 0), (5, .ref a1313), (3, .int 49), (1, .int 0), (2, .int 3), (0, .ref h0)]) hx hb dX9_shown_64 hl (by decide) rfl (fun ls hl => ?_)
  refine lv_iload hx hb dX9_shown_66 (lv_at hl 1 rfl) ?_
  refine lv_if_ne (tgt := 82) hx hb dX9_shown_68 (by decide) (fun cz => absurd (by decide) cz) (fun _ => ?_)
  refine lv_aload_n hx hb dX9_shown_71 rfl (lv_at hl 6 rfl) ?_
  refine lv_iload_n hx hb dX9_shown_72 rfl (lv_at hl 5 rfl) ?_
  refine lv_iload_n hx hb dX9_shown_73 rfl (lv_at hl 3 rfl) ?_
  refine lv_iload hx hb dX9_shown_74 (lv_at hl 0 rfl) ?_
  have hM1382 := k973_showsIt l hl9 dC dI z h0 h1 h2 h4 h5 h7 h8 h9 h10 h11 h12 h13 h14 h3 H1378.size kc0 kc2
  obtain ⟨hF1380, hC1383⟩ := pc_M hM1382 hP hD hK hS hX hT hA [0, 1, 2, 3, 4, 5, 6, 7, 8, 9, 10, 11, 12] [0, 1] rfl rfl rfl
  refine va_calli (va_runV (As := [.int 3, .int 49, .int 0]) (rest := []) ⟨hx, hb, hml, hown, hts⟩ hM1382 (cwV 3 hts (gV q_429 q_430 q_431 q_60 q_428) rfl rfl rfl hV_X9_showsIt ⟨Nat.le_of_ble_eq_true rfl, Nat.le_of_ble_eq_true rfl⟩) ⟨pc_blind, va_recv hK hP (ci := 8) (q := (RX9, TX9, 6)) (q0 := 0) rfl rfl, fun U hU hW => ⟨rfl, hC1383 U hU hW⟩⟩ rfl rfl hl.1 rfl (lv_room (Nat.le_of_ble_eq_true rfl)) dX9_shown_76 ⟨(Nat.le_of_ble_eq_true rfl), (Nat.le_of_ble_eq_true rfl)⟩) hS (fun q9 _ h9 => hF1380 q9 h9) hF1380 (fun r1385 u1384 t1384 H1384 L1384 ht1384 hvm1384 hw1384 hB1384 hz1384 hk1384 hS => ?_)
  have hP := pq_keep hP hD [0, 1, 2, 3, 4, 5, 6, 7, 8, 9, 10, 11, 12] rfl hk1384 hB1384.1 ht1384
  have hG : s.heap.size + 1412 ≤ H1384.size := va_gr (g := 1385) (g1 := 27) hG (by rw [← ht1384]; exact hB1384.2)
  refine W.eq (g2 := F0 m 79 ls [.int 0]) (by rw [hw1384]) ?_
  refine W.widen (k := 1412) (n := 13136) (by decide) (by decide) ?_
  refine lv_if_eq (tgt := 86) hx hb dX9_shown_79 (by decide) (fun _ => ?_) (fun cz => absurd (by decide) cz)
  refine lv_iconst (v := 0) hx hb dX9_shown_86 (by decide) ?_
  refine lv_istore (lv' := [(4, .int 0), (6, .int 0), (5, .ref a1313), (3, .int 49), (1, .int 0), (2, .int 3), (0, .ref h0)]) hx hb dX9_shown_87 hl (by decide) rfl (fun ls hl => ?_)
  refine lv_goto (tgt := 41) hx hb dX9_shown_89 (by decide) ?_
  refine lv_aload hx hb dX9_shown_41 (lv_at hl 2 rfl) ?_
  have hM1388 := k734_hasNext l hl9 dC dI z a1313 h3 h6 H1384.size
  obtain ⟨hF1386, hC1389⟩ := pc_M hM1388 hP hD hK hS hX hT hA [13, 14] [] rfl rfl rfl
  refine va_callFi (va_runF (As := []) (rest := []) (hK.1 1 (RJx35411, TJx35411, 4) rfl).2 ⟨hx, hb, hml, hown, hts⟩ hM1388 (va_cwF 0 hts (gF q_261 q_262 q_263 q_246 q_260) rfl rfl rfl hT.2.2.2.2.2.2.1 hF_xIh ⟨Nat.le_of_ble_eq_true rfl, Nat.le_of_ble_eq_true rfl⟩) ⟨pc_blind, va_recv hK hP (ci := 1) (q := (RJx35411, TJx35411, 4)) (q0 := 13) rfl rfl, fun U hU hW => ⟨rfl, hC1389 U hU hW⟩⟩ rfl rfl hl.1 rfl (lv_room (Nat.le_of_ble_eq_true rfl)) dX9_shown_43 ⟨(Nat.le_of_ble_eq_true rfl), (Nat.le_of_ble_eq_true rfl)⟩) hS (fun q9 _ h9 => hF1386 q9 h9) hF1386 (fun r1391 u1390 t1390 H1390 L1390 ht1390 hvm1390 hw1390 hB1390 hz1390 hk1390 hS => ?_)
  have hP := pq_keep hP hD [13, 14] rfl hk1390 hB1390.1 ht1390
  have hG : s.heap.size + 1412 ≤ H1390.size := Nat.le_trans hG hz1390
  refine W.eq (g2 := F0 m 48 ls [.int 1]) (by rw [hw1390]) ?_
  refine lv_if_eq (tgt := 92) hx hb dX9_shown_48 (by decide) (fun cz => absurd cz (by decide)) (fun _ => ?_)
  refine lv_aload hx hb dX9_shown_51 (lv_at hl 2 rfl) ?_
  have hM1394 := k956_next l hl9 dC dI z a1313 h3 h6 H1390.size kc1
  obtain ⟨hF1392, hC1395⟩ := pc_M hM1394 hP hD hK hS hX hT hA [13, 14, 15] [2] rfl rfl rfl
  refine va_callFr (va_runF (As := []) (rest := []) (hK.1 1 (RJx35411, TJx35411, 4) rfl).2 ⟨hx, hb, hml, hown, hts⟩ hM1394 (va_cwF 0 hts (gF q_308 q_309 q_310 q_246 q_307) rfl rfl rfl hT.2.2.2.2.2.2.2.1 hF_xIn ⟨Nat.le_of_ble_eq_true rfl, Nat.le_of_ble_eq_true rfl⟩) ⟨pc_blind, va_recv hK hP (ci := 1) (q := (RJx35411, TJx35411, 4)) (q0 := 13) rfl rfl, fun U hU hW => ⟨rfl, hC1395 U hU hW⟩⟩ rfl rfl hl.1 rfl (lv_room (Nat.le_of_ble_eq_true rfl)) dX9_shown_53 ⟨(Nat.le_of_ble_eq_true rfl), (Nat.le_of_ble_eq_true rfl)⟩) hS (fun q9 _ h9 => hF1392 q9 h9) hF1392 (fun u1396 r1397 t1396 H1396 L1396 ht1396 hvm1396 hw1396 hB1396 hz1396 hk1396 hS => ?_)
  obtain ⟨hr1396, hB1396⟩ := hB1396
  obtain ⟨hP, hD, hK⟩ := pq_jn (wz := [(h0, ce21 h1 h2 h3 h4), (h1, ce331 h5), (h2, ce3 z.1), (h4, ce366 h7), (h5, ce330 kc0 h8 h9 h10 h11 h12 h13 h14), (h7, ce330 kc2 (z.2.2.1 128) (z.2.2.1 129) (z.2.2.1 130) (z.2.2.1 131) (z.2.2.1 132) (z.2.2.1 133) (z.2.2.1 134)), (h8, ce49), (h9, ce49), (h10, ce49), (h11, ce49), (h12, ce49), (h13, ce49), (h14, ce49), (a1313, ce378 h3), (h3, ce331 h6), (h6, ce330 kc1 (z.2.2.1 128) (z.2.2.1 128) (z.2.2.1 128) (z.2.2.1 128) (z.2.2.1 128) (z.2.2.1 128) (z.2.2.1 128))]) (tz := [(kc0, .object "java/lang/Object"), (kc2, .object "java/lang/Object"), (kc1, .object "java/lang/Object")]) hP hD hK [13, 14, 15] [0, 1] rfl hk1396 hF1392 hB1396.1 ht1396 hvm1396 rfl rfl
  have hG : s.heap.size + 1412 ≤ H1396.size := Nat.le_trans hG hz1396
  refine W.eq (g2 := F0 m 58 ls [.ref (z.2.2.1 128)]) (by rw [hr1396]) ?_
  refine va_castE (nm := "java/lang/Integer") hx hb hown (hts _ q_320) (va_Orecv (hX.2.2.1.1.1 128 (by decide)) hS) dX9_shown_58 ?_
  have hM1400 := k74_intValue l hl9 dC dI z H1396.size
  obtain ⟨hF1398, hC1401⟩ := pc_M hM1400 hP hD hK hS hX hT hA [] [] rfl rfl rfl
  refine va_calli (va_runV (As := []) (rest := []) ⟨hx, hb, hml, hown, hts⟩ hM1400 (cwV 0 hts (gV q_323 q_324 q_325 q_297 q_322) rfl rfl rfl hV_J6_intValue_8abf5 ⟨Nat.le_of_ble_eq_true rfl, Nat.le_of_ble_eq_true rfl⟩) ⟨pc_blind, va_Orecv (hX.2.2.1.1.1 128 (by decide)) hS, fun U hU hW => ⟨rfl, hC1401 U hU hW⟩⟩ rfl rfl hl.1 rfl (lv_room (Nat.le_of_ble_eq_true rfl)) dX9_shown_61 ⟨(Nat.le_of_ble_eq_true rfl), (Nat.le_of_ble_eq_true rfl)⟩) hS (fun q9 _ h9 => hF1398 q9 h9) hF1398 (fun r1403 u1402 t1402 H1402 L1402 ht1402 hvm1402 hw1402 hB1402 hz1402 hk1402 hS => ?_)
  have hP := pq_keep hP hD [] rfl hk1402 hB1402.1 ht1402
  have hG : s.heap.size + 1412 ≤ H1402.size := Nat.le_trans hG hz1402
  refine W.eq (g2 := F0 m 64 ls [.int 0]) (by rw [hw1402]) ?_
  refine lv_istore (lv' := [(6, .int 0), (4, .int 0), (5, .ref a1313), (3, .int 49), (1, .int 0), (2, .int 3), (0, .ref h0)]) hx hb dX9_shown_64 hl (by decide) rfl (fun ls hl => ?_)
  refine lv_iload hx hb dX9_shown_66 (lv_at hl 1 rfl) ?_
  refine lv_if_ne (tgt := 82) hx hb dX9_shown_68 (by decide) (fun cz => absurd (by decide) cz) (fun _ => ?_)
  refine lv_aload_n hx hb dX9_shown_71 rfl (lv_at hl 6 rfl) ?_
  refine lv_iload_n hx hb dX9_shown_72 rfl (lv_at hl 5 rfl) ?_
  refine lv_iload_n hx hb dX9_shown_73 rfl (lv_at hl 3 rfl) ?_
  refine lv_iload hx hb dX9_shown_74 (lv_at hl 0 rfl) ?_
  have hM1406 := k973_showsIt l hl9 dC dI z h0 h1 h2 h4 h5 h7 h8 h9 h10 h11 h12 h13 h14 h3 H1402.size kc0 kc2
  obtain ⟨hF1404, hC1407⟩ := pc_M hM1406 hP hD hK hS hX hT hA [0, 1, 2, 3, 4, 5, 6, 7, 8, 9, 10, 11, 12] [0, 1] rfl rfl rfl
  refine va_calli (va_runV (As := [.int 3, .int 49, .int 0]) (rest := []) ⟨hx, hb, hml, hown, hts⟩ hM1406 (cwV 3 hts (gV q_429 q_430 q_431 q_60 q_428) rfl rfl rfl hV_X9_showsIt ⟨Nat.le_of_ble_eq_true rfl, Nat.le_of_ble_eq_true rfl⟩) ⟨pc_blind, va_recv hK hP (ci := 8) (q := (RX9, TX9, 6)) (q0 := 0) rfl rfl, fun U hU hW => ⟨rfl, hC1407 U hU hW⟩⟩ rfl rfl hl.1 rfl (lv_room (Nat.le_of_ble_eq_true rfl)) dX9_shown_76 ⟨(Nat.le_of_ble_eq_true rfl), (Nat.le_of_ble_eq_true rfl)⟩) hS (fun q9 _ h9 => hF1404 q9 h9) hF1404 (fun r1409 u1408 t1408 H1408 L1408 ht1408 hvm1408 hw1408 hB1408 hz1408 hk1408 hS => ?_)
  have hP := pq_keep hP hD [0, 1, 2, 3, 4, 5, 6, 7, 8, 9, 10, 11, 12] rfl hk1408 hB1408.1 ht1408
  have hG : s.heap.size + 1439 ≤ H1408.size := va_gr (g := 1412) (g1 := 27) hG (by rw [← ht1408]; exact hB1408.2)
  refine W.eq (g2 := F0 m 79 ls [.int 0]) (by rw [hw1408]) ?_
  refine W.widen (k := 1439) (n := 13388) (by decide) (by decide) ?_
  refine lv_if_eq (tgt := 86) hx hb dX9_shown_79 (by decide) (fun _ => ?_) (fun cz => absurd (by decide) cz)
  refine lv_iconst (v := 0) hx hb dX9_shown_86 (by decide) ?_
  refine lv_istore (lv' := [(4, .int 0), (6, .int 0), (5, .ref a1313), (3, .int 49), (1, .int 0), (2, .int 3), (0, .ref h0)]) hx hb dX9_shown_87 hl (by decide) rfl (fun ls hl => ?_)
  refine lv_goto (tgt := 41) hx hb dX9_shown_89 (by decide) ?_
  refine lv_aload hx hb dX9_shown_41 (lv_at hl 2 rfl) ?_
  have hM1412 := k737_hasNext l hl9 dC dI z a1313 h3 h6 H1408.size
  obtain ⟨hF1410, hC1413⟩ := pc_M hM1412 hP hD hK hS hX hT hA [13, 14] [] rfl rfl rfl
  refine va_callFi (va_runF (As := []) (rest := []) (hK.1 1 (RJx35411, TJx35411, 4) rfl).2 ⟨hx, hb, hml, hown, hts⟩ hM1412 (va_cwF 0 hts (gF q_261 q_262 q_263 q_246 q_260) rfl rfl rfl hT.2.2.2.2.2.2.1 hF_xIh ⟨Nat.le_of_ble_eq_true rfl, Nat.le_of_ble_eq_true rfl⟩) ⟨pc_blind, va_recv hK hP (ci := 1) (q := (RJx35411, TJx35411, 4)) (q0 := 13) rfl rfl, fun U hU hW => ⟨rfl, hC1413 U hU hW⟩⟩ rfl rfl hl.1 rfl (lv_room (Nat.le_of_ble_eq_true rfl)) dX9_shown_43 ⟨(Nat.le_of_ble_eq_true rfl), (Nat.le_of_ble_eq_true rfl)⟩) hS (fun q9 _ h9 => hF1410 q9 h9) hF1410 (fun r1415 u1414 t1414 H1414 L1414 ht1414 hvm1414 hw1414 hB1414 hz1414 hk1414 hS => ?_)
  have hP := pq_keep hP hD [13, 14] rfl hk1414 hB1414.1 ht1414
  have hG : s.heap.size + 1439 ≤ H1414.size := Nat.le_trans hG hz1414
  refine W.eq (g2 := F0 m 48 ls [.int 1]) (by rw [hw1414]) ?_
  refine lv_if_eq (tgt := 92) hx hb dX9_shown_48 (by decide) (fun cz => absurd cz (by decide)) (fun _ => ?_)
  refine lv_aload hx hb dX9_shown_51 (lv_at hl 2 rfl) ?_
  have hM1418 := k957_next l hl9 dC dI z a1313 h3 h6 H1414.size kc1
  obtain ⟨hF1416, hC1419⟩ := pc_M hM1418 hP hD hK hS hX hT hA [13, 14, 15] [2] rfl rfl rfl
  refine va_callFr (va_runF (As := []) (rest := []) (hK.1 1 (RJx35411, TJx35411, 4) rfl).2 ⟨hx, hb, hml, hown, hts⟩ hM1418 (va_cwF 0 hts (gF q_308 q_309 q_310 q_246 q_307) rfl rfl rfl hT.2.2.2.2.2.2.2.1 hF_xIn ⟨Nat.le_of_ble_eq_true rfl, Nat.le_of_ble_eq_true rfl⟩) ⟨pc_blind, va_recv hK hP (ci := 1) (q := (RJx35411, TJx35411, 4)) (q0 := 13) rfl rfl, fun U hU hW => ⟨rfl, hC1419 U hU hW⟩⟩ rfl rfl hl.1 rfl (lv_room (Nat.le_of_ble_eq_true rfl)) dX9_shown_53 ⟨(Nat.le_of_ble_eq_true rfl), (Nat.le_of_ble_eq_true rfl)⟩) hS (fun q9 _ h9 => hF1416 q9 h9) hF1416 (fun u1420 r1421 t1420 H1420 L1420 ht1420 hvm1420 hw1420 hB1420 hz1420 hk1420 hS => ?_)
  obtain ⟨hr1420, hB1420⟩ := hB1420
  obtain ⟨hP, hD, hK⟩ := pq_jn (wz := [(h0, ce21 h1 h2 h3 h4), (h1, ce331 h5), (h2, ce3 z.1), (h4, ce366 h7), (h5, ce330 kc0 h8 h9 h10 h11 h12 h13 h14), (h7, ce330 kc2 (z.2.2.1 128) (z.2.2.1 129) (z.2.2.1 130) (z.2.2.1 131) (z.2.2.1 132) (z.2.2.1 133) (z.2.2.1 134)), (h8, ce49), (h9, ce49), (h10, ce49), (h11, ce49), (h12, ce49), (h13, ce49), (h14, ce49), (a1313, ce380 h3), (h3, ce331 h6), (h6, ce330 kc1 (z.2.2.1 128) (z.2.2.1 128) (z.2.2.1 128) (z.2.2.1 128) (z.2.2.1 128) (z.2.2.1 128) (z.2.2.1 128))]) (tz := [(kc0, .object "java/lang/Object"), (kc2, .object "java/lang/Object"), (kc1, .object "java/lang/Object")]) hP hD hK [13, 14, 15] [0, 1] rfl hk1420 hF1416 hB1420.1 ht1420 hvm1420 rfl rfl
  have hG : s.heap.size + 1439 ≤ H1420.size := Nat.le_trans hG hz1420
  refine W.eq (g2 := F0 m 58 ls [.ref (z.2.2.1 128)]) (by rw [hr1420]) ?_
  refine va_castE (nm := "java/lang/Integer") hx hb hown (hts _ q_320) (va_Orecv (hX.2.2.1.1.1 128 (by decide)) hS) dX9_shown_58 ?_
  have hM1424 := k74_intValue l hl9 dC dI z H1420.size
  obtain ⟨hF1422, hC1425⟩ := pc_M hM1424 hP hD hK hS hX hT hA [] [] rfl rfl rfl
  refine va_calli (va_runV (As := []) (rest := []) ⟨hx, hb, hml, hown, hts⟩ hM1424 (cwV 0 hts (gV q_323 q_324 q_325 q_297 q_322) rfl rfl rfl hV_J6_intValue_8abf5 ⟨Nat.le_of_ble_eq_true rfl, Nat.le_of_ble_eq_true rfl⟩) ⟨pc_blind, va_Orecv (hX.2.2.1.1.1 128 (by decide)) hS, fun U hU hW => ⟨rfl, hC1425 U hU hW⟩⟩ rfl rfl hl.1 rfl (lv_room (Nat.le_of_ble_eq_true rfl)) dX9_shown_61 ⟨(Nat.le_of_ble_eq_true rfl), (Nat.le_of_ble_eq_true rfl)⟩) hS (fun q9 _ h9 => hF1422 q9 h9) hF1422 (fun r1427 u1426 t1426 H1426 L1426 ht1426 hvm1426 hw1426 hB1426 hz1426 hk1426 hS => ?_)
  have hP := pq_keep hP hD [] rfl hk1426 hB1426.1 ht1426
  have hG : s.heap.size + 1439 ≤ H1426.size := Nat.le_trans hG hz1426
  refine W.eq (g2 := F0 m 64 ls [.int 0]) (by rw [hw1426]) ?_
  refine lv_istore (lv' := [(6, .int 0), (4, .int 0), (5, .ref a1313), (3, .int 49), (1, .int 0), (2, .int 3), (0, .ref h0)]) hx hb dX9_shown_64 hl (by decide) rfl (fun ls hl => ?_)
  refine lv_iload hx hb dX9_shown_66 (lv_at hl 1 rfl) ?_
  refine lv_if_ne (tgt := 82) hx hb dX9_shown_68 (by decide) (fun cz => absurd (by decide) cz) (fun _ => ?_)
  refine lv_aload_n hx hb dX9_shown_71 rfl (lv_at hl 6 rfl) ?_
  refine lv_iload_n hx hb dX9_shown_72 rfl (lv_at hl 5 rfl) ?_
  refine lv_iload_n hx hb dX9_shown_73 rfl (lv_at hl 3 rfl) ?_
  refine lv_iload hx hb dX9_shown_74 (lv_at hl 0 rfl) ?_
  have hM1430 := k973_showsIt l hl9 dC dI z h0 h1 h2 h4 h5 h7 h8 h9 h10 h11 h12 h13 h14 h3 H1426.size kc0 kc2
  obtain ⟨hF1428, hC1431⟩ := pc_M hM1430 hP hD hK hS hX hT hA [0, 1, 2, 3, 4, 5, 6, 7, 8, 9, 10, 11, 12] [0, 1] rfl rfl rfl
  refine va_calli (va_runV (As := [.int 3, .int 49, .int 0]) (rest := []) ⟨hx, hb, hml, hown, hts⟩ hM1430 (cwV 3 hts (gV q_429 q_430 q_431 q_60 q_428) rfl rfl rfl hV_X9_showsIt ⟨Nat.le_of_ble_eq_true rfl, Nat.le_of_ble_eq_true rfl⟩) ⟨pc_blind, va_recv hK hP (ci := 8) (q := (RX9, TX9, 6)) (q0 := 0) rfl rfl, fun U hU hW => ⟨rfl, hC1431 U hU hW⟩⟩ rfl rfl hl.1 rfl (lv_room (Nat.le_of_ble_eq_true rfl)) dX9_shown_76 ⟨(Nat.le_of_ble_eq_true rfl), (Nat.le_of_ble_eq_true rfl)⟩) hS (fun q9 _ h9 => hF1428 q9 h9) hF1428 (fun r1433 u1432 t1432 H1432 L1432 ht1432 hvm1432 hw1432 hB1432 hz1432 hk1432 hS => ?_)
  have hP := pq_keep hP hD [0, 1, 2, 3, 4, 5, 6, 7, 8, 9, 10, 11, 12] rfl hk1432 hB1432.1 ht1432
  have hG : s.heap.size + 1466 ≤ H1432.size := va_gr (g := 1439) (g1 := 27) hG (by rw [← ht1432]; exact hB1432.2)
  refine W.eq (g2 := F0 m 79 ls [.int 0]) (by rw [hw1432]) ?_
  refine W.widen (k := 1466) (n := 13640) (by decide) (by decide) ?_
  refine lv_if_eq (tgt := 86) hx hb dX9_shown_79 (by decide) (fun _ => ?_) (fun cz => absurd (by decide) cz)
  refine lv_iconst (v := 0) hx hb dX9_shown_86 (by decide) ?_
  refine lv_istore (lv' := [(4, .int 0), (6, .int 0), (5, .ref a1313), (3, .int 49), (1, .int 0), (2, .int 3), (0, .ref h0)]) hx hb dX9_shown_87 hl (by decide) rfl (fun ls hl => ?_)
  refine lv_goto (tgt := 41) hx hb dX9_shown_89 (by decide) ?_
  refine lv_aload hx hb dX9_shown_41 (lv_at hl 2 rfl) ?_
  have hM1436 := k740_hasNext l hl9 dC dI z a1313 h3 h6 H1432.size
  obtain ⟨hF1434, hC1437⟩ := pc_M hM1436 hP hD hK hS hX hT hA [13, 14] [] rfl rfl rfl
  refine va_callFi (va_runF (As := []) (rest := []) (hK.1 1 (RJx35411, TJx35411, 4) rfl).2 ⟨hx, hb, hml, hown, hts⟩ hM1436 (va_cwF 0 hts (gF q_261 q_262 q_263 q_246 q_260) rfl rfl rfl hT.2.2.2.2.2.2.1 hF_xIh ⟨Nat.le_of_ble_eq_true rfl, Nat.le_of_ble_eq_true rfl⟩) ⟨pc_blind, va_recv hK hP (ci := 1) (q := (RJx35411, TJx35411, 4)) (q0 := 13) rfl rfl, fun U hU hW => ⟨rfl, hC1437 U hU hW⟩⟩ rfl rfl hl.1 rfl (lv_room (Nat.le_of_ble_eq_true rfl)) dX9_shown_43 ⟨(Nat.le_of_ble_eq_true rfl), (Nat.le_of_ble_eq_true rfl)⟩) hS (fun q9 _ h9 => hF1434 q9 h9) hF1434 (fun r1439 u1438 t1438 H1438 L1438 ht1438 hvm1438 hw1438 hB1438 hz1438 hk1438 hS => ?_)
  have hP := pq_keep hP hD [13, 14] rfl hk1438 hB1438.1 ht1438
  have hG : s.heap.size + 1466 ≤ H1438.size := Nat.le_trans hG hz1438
  refine W.eq (g2 := F0 m 48 ls [.int 1]) (by rw [hw1438]) ?_
  refine lv_if_eq (tgt := 92) hx hb dX9_shown_48 (by decide) (fun cz => absurd cz (by decide)) (fun _ => ?_)
  refine lv_aload hx hb dX9_shown_51 (lv_at hl 2 rfl) ?_
  have hM1442 := k958_next l hl9 dC dI z a1313 h3 h6 H1438.size kc1
  obtain ⟨hF1440, hC1443⟩ := pc_M hM1442 hP hD hK hS hX hT hA [13, 14, 15] [2] rfl rfl rfl
  refine va_callFr (va_runF (As := []) (rest := []) (hK.1 1 (RJx35411, TJx35411, 4) rfl).2 ⟨hx, hb, hml, hown, hts⟩ hM1442 (va_cwF 0 hts (gF q_308 q_309 q_310 q_246 q_307) rfl rfl rfl hT.2.2.2.2.2.2.2.1 hF_xIn ⟨Nat.le_of_ble_eq_true rfl, Nat.le_of_ble_eq_true rfl⟩) ⟨pc_blind, va_recv hK hP (ci := 1) (q := (RJx35411, TJx35411, 4)) (q0 := 13) rfl rfl, fun U hU hW => ⟨rfl, hC1443 U hU hW⟩⟩ rfl rfl hl.1 rfl (lv_room (Nat.le_of_ble_eq_true rfl)) dX9_shown_53 ⟨(Nat.le_of_ble_eq_true rfl), (Nat.le_of_ble_eq_true rfl)⟩) hS (fun q9 _ h9 => hF1440 q9 h9) hF1440 (fun u1444 r1445 t1444 H1444 L1444 ht1444 hvm1444 hw1444 hB1444 hz1444 hk1444 hS => ?_)
  obtain ⟨hr1444, hB1444⟩ := hB1444
  obtain ⟨hP, hD, hK⟩ := pq_jn (wz := [(h0, ce21 h1 h2 h3 h4), (h1, ce331 h5), (h2, ce3 z.1), (h4, ce366 h7), (h5, ce330 kc0 h8 h9 h10 h11 h12 h13 h14), (h7, ce330 kc2 (z.2.2.1 128) (z.2.2.1 129) (z.2.2.1 130) (z.2.2.1 131) (z.2.2.1 132) (z.2.2.1 133) (z.2.2.1 134)), (h8, ce49), (h9, ce49), (h10, ce49), (h11, ce49), (h12, ce49), (h13, ce49), (h14, ce49), (a1313, ce382 h3), (h3, ce331 h6), (h6, ce330 kc1 (z.2.2.1 128) (z.2.2.1 128) (z.2.2.1 128) (z.2.2.1 128) (z.2.2.1 128) (z.2.2.1 128) (z.2.2.1 128))]) (tz := [(kc0, .object "java/lang/Object"), (kc2, .object "java/lang/Object"), (kc1, .object "java/lang/Object")]) hP hD hK [13, 14, 15] [0, 1] rfl hk1444 hF1440 hB1444.1 ht1444 hvm1444 rfl rfl
  have hG : s.heap.size + 1466 ≤ H1444.size := Nat.le_trans hG hz1444
  refine W.eq (g2 := F0 m 58 ls [.ref (z.2.2.1 128)]) (by rw [hr1444]) ?_
  refine va_castE (nm := "java/lang/Integer") hx hb hown (hts _ q_320) (va_Orecv (hX.2.2.1.1.1 128 (by decide)) hS) dX9_shown_58 ?_
  have hM1448 := k74_intValue l hl9 dC dI z H1444.size
  obtain ⟨hF1446, hC1449⟩ := pc_M hM1448 hP hD hK hS hX hT hA [] [] rfl rfl rfl
  refine va_calli (va_runV (As := []) (rest := []) ⟨hx, hb, hml, hown, hts⟩ hM1448 (cwV 0 hts (gV q_323 q_324 q_325 q_297 q_322) rfl rfl rfl hV_J6_intValue_8abf5 ⟨Nat.le_of_ble_eq_true rfl, Nat.le_of_ble_eq_true rfl⟩) ⟨pc_blind, va_Orecv (hX.2.2.1.1.1 128 (by decide)) hS, fun U hU hW => ⟨rfl, hC1449 U hU hW⟩⟩ rfl rfl hl.1 rfl (lv_room (Nat.le_of_ble_eq_true rfl)) dX9_shown_61 ⟨(Nat.le_of_ble_eq_true rfl), (Nat.le_of_ble_eq_true rfl)⟩) hS (fun q9 _ h9 => hF1446 q9 h9) hF1446 (fun r1451 u1450 t1450 H1450 L1450 ht1450 hvm1450 hw1450 hB1450 hz1450 hk1450 hS => ?_)
  have hP := pq_keep hP hD [] rfl hk1450 hB1450.1 ht1450
  have hG : s.heap.size + 1466 ≤ H1450.size := Nat.le_trans hG hz1450
  refine W.eq (g2 := F0 m 64 ls [.int 0]) (by rw [hw1450]) ?_
  refine lv_istore (lv' := [(6, .int 0), (4, .int 0), (5, .ref a1313), (3, .int 49), (1, .int 0), (2, .int 3), (0, .ref h0)]) hx hb dX9_shown_64 hl (by decide) rfl (fun ls hl => ?_)
  refine lv_iload hx hb dX9_shown_66 (lv_at hl 1 rfl) ?_
  refine lv_if_ne (tgt := 82) hx hb dX9_shown_68 (by decide) (fun cz => absurd (by decide) cz) (fun _ => ?_)
  refine lv_aload_n hx hb dX9_shown_71 rfl (lv_at hl 6 rfl) ?_
  refine lv_iload_n hx hb dX9_shown_72 rfl (lv_at hl 5 rfl) ?_
  refine lv_iload_n hx hb dX9_shown_73 rfl (lv_at hl 3 rfl) ?_
  refine lv_iload hx hb dX9_shown_74 (lv_at hl 0 rfl) ?_
  have hM1454 := k973_showsIt l hl9 dC dI z h0 h1 h2 h4 h5 h7 h8 h9 h10 h11 h12 h13 h14 h3 H1450.size kc0 kc2
  obtain ⟨hF1452, hC1455⟩ := pc_M hM1454 hP hD hK hS hX hT hA [0, 1, 2, 3, 4, 5, 6, 7, 8, 9, 10, 11, 12] [0, 1] rfl rfl rfl
  refine va_calli (va_runV (As := [.int 3, .int 49, .int 0]) (rest := []) ⟨hx, hb, hml, hown, hts⟩ hM1454 (cwV 3 hts (gV q_429 q_430 q_431 q_60 q_428) rfl rfl rfl hV_X9_showsIt ⟨Nat.le_of_ble_eq_true rfl, Nat.le_of_ble_eq_true rfl⟩) ⟨pc_blind, va_recv hK hP (ci := 8) (q := (RX9, TX9, 6)) (q0 := 0) rfl rfl, fun U hU hW => ⟨rfl, hC1455 U hU hW⟩⟩ rfl rfl hl.1 rfl (lv_room (Nat.le_of_ble_eq_true rfl)) dX9_shown_76 ⟨(Nat.le_of_ble_eq_true rfl), (Nat.le_of_ble_eq_true rfl)⟩) hS (fun q9 _ h9 => hF1452 q9 h9) hF1452 (fun r1457 u1456 t1456 H1456 L1456 ht1456 hvm1456 hw1456 hB1456 hz1456 hk1456 hS => ?_)
  have hP := pq_keep hP hD [0, 1, 2, 3, 4, 5, 6, 7, 8, 9, 10, 11, 12] rfl hk1456 hB1456.1 ht1456
  have hG : s.heap.size + 1493 ≤ H1456.size := va_gr (g := 1466) (g1 := 27) hG (by rw [← ht1456]; exact hB1456.2)
  refine W.eq (g2 := F0 m 79 ls [.int 0]) (by rw [hw1456]) ?_
  refine W.widen (k := 1493) (n := 13892) (by decide) (by decide) ?_
  refine lv_if_eq (tgt := 86) hx hb dX9_shown_79 (by decide) (fun _ => ?_) (fun cz => absurd (by decide) cz)
  refine lv_iconst (v := 0) hx hb dX9_shown_86 (by decide) ?_
  refine lv_istore (lv' := [(4, .int 0), (6, .int 0), (5, .ref a1313), (3, .int 49), (1, .int 0), (2, .int 3), (0, .ref h0)]) hx hb dX9_shown_87 hl (by decide) rfl (fun ls hl => ?_)
  refine lv_goto (tgt := 41) hx hb dX9_shown_89 (by decide) ?_
  refine lv_aload hx hb dX9_shown_41 (lv_at hl 2 rfl) ?_
  have hM1460 := k743_hasNext l hl9 dC dI z a1313 h3 h6 H1456.size
  obtain ⟨hF1458, hC1461⟩ := pc_M hM1460 hP hD hK hS hX hT hA [13, 14] [] rfl rfl rfl
  refine va_callFi (va_runF (As := []) (rest := []) (hK.1 1 (RJx35411, TJx35411, 4) rfl).2 ⟨hx, hb, hml, hown, hts⟩ hM1460 (va_cwF 0 hts (gF q_261 q_262 q_263 q_246 q_260) rfl rfl rfl hT.2.2.2.2.2.2.1 hF_xIh ⟨Nat.le_of_ble_eq_true rfl, Nat.le_of_ble_eq_true rfl⟩) ⟨pc_blind, va_recv hK hP (ci := 1) (q := (RJx35411, TJx35411, 4)) (q0 := 13) rfl rfl, fun U hU hW => ⟨rfl, hC1461 U hU hW⟩⟩ rfl rfl hl.1 rfl (lv_room (Nat.le_of_ble_eq_true rfl)) dX9_shown_43 ⟨(Nat.le_of_ble_eq_true rfl), (Nat.le_of_ble_eq_true rfl)⟩) hS (fun q9 _ h9 => hF1458 q9 h9) hF1458 (fun r1463 u1462 t1462 H1462 L1462 ht1462 hvm1462 hw1462 hB1462 hz1462 hk1462 hS => ?_)
  have hP := pq_keep hP hD [13, 14] rfl hk1462 hB1462.1 ht1462
  have hG : s.heap.size + 1493 ≤ H1462.size := Nat.le_trans hG hz1462
  refine W.eq (g2 := F0 m 48 ls [.int 1]) (by rw [hw1462]) ?_
  refine lv_if_eq (tgt := 92) hx hb dX9_shown_48 (by decide) (fun cz => absurd cz (by decide)) (fun _ => ?_)
  refine lv_aload hx hb dX9_shown_51 (lv_at hl 2 rfl) ?_
  have hM1466 := k959_next l hl9 dC dI z a1313 h3 h6 H1462.size kc1
  obtain ⟨hF1464, hC1467⟩ := pc_M hM1466 hP hD hK hS hX hT hA [13, 14, 15] [2] rfl rfl rfl
  refine va_callFr (va_runF (As := []) (rest := []) (hK.1 1 (RJx35411, TJx35411, 4) rfl).2 ⟨hx, hb, hml, hown, hts⟩ hM1466 (va_cwF 0 hts (gF q_308 q_309 q_310 q_246 q_307) rfl rfl rfl hT.2.2.2.2.2.2.2.1 hF_xIn ⟨Nat.le_of_ble_eq_true rfl, Nat.le_of_ble_eq_true rfl⟩) ⟨pc_blind, va_recv hK hP (ci := 1) (q := (RJx35411, TJx35411, 4)) (q0 := 13) rfl rfl, fun U hU hW => ⟨rfl, hC1467 U hU hW⟩⟩ rfl rfl hl.1 rfl (lv_room (Nat.le_of_ble_eq_true rfl)) dX9_shown_53 ⟨(Nat.le_of_ble_eq_true rfl), (Nat.le_of_ble_eq_true rfl)⟩) hS (fun q9 _ h9 => hF1464 q9 h9) hF1464 (fun u1468 r1469 t1468 H1468 L1468 ht1468 hvm1468 hw1468 hB1468 hz1468 hk1468 hS => ?_)
  obtain ⟨hr1468, hB1468⟩ := hB1468
  obtain ⟨hP, hD, hK⟩ := pq_jn (wz := [(h0, ce21 h1 h2 h3 h4), (h1, ce331 h5), (h2, ce3 z.1), (h4, ce366 h7), (h5, ce330 kc0 h8 h9 h10 h11 h12 h13 h14), (h7, ce330 kc2 (z.2.2.1 128) (z.2.2.1 129) (z.2.2.1 130) (z.2.2.1 131) (z.2.2.1 132) (z.2.2.1 133) (z.2.2.1 134)), (h8, ce49), (h9, ce49), (h10, ce49), (h11, ce49), (h12, ce49), (h13, ce49), (h14, ce49), (a1313, ce384 h3), (h3, ce331 h6), (h6, ce330 kc1 (z.2.2.1 128) (z.2.2.1 128) (z.2.2.1 128) (z.2.2.1 128) (z.2.2.1 128) (z.2.2.1 128) (z.2.2.1 128))]) (tz := [(kc0, .object "java/lang/Object"), (kc2, .object "java/lang/Object"), (kc1, .object "java/lang/Object")]) hP hD hK [13, 14, 15] [0, 1] rfl hk1468 hF1464 hB1468.1 ht1468 hvm1468 rfl rfl
  have hG : s.heap.size + 1493 ≤ H1468.size := Nat.le_trans hG hz1468
  refine W.eq (g2 := F0 m 58 ls [.ref (z.2.2.1 128)]) (by rw [hr1468]) ?_
  refine va_castE (nm := "java/lang/Integer") hx hb hown (hts _ q_320) (va_Orecv (hX.2.2.1.1.1 128 (by decide)) hS) dX9_shown_58 ?_
  have hM1472 := k74_intValue l hl9 dC dI z H1468.size
  obtain ⟨hF1470, hC1473⟩ := pc_M hM1472 hP hD hK hS hX hT hA [] [] rfl rfl rfl
  refine va_calli (va_runV (As := []) (rest := []) ⟨hx, hb, hml, hown, hts⟩ hM1472 (cwV 0 hts (gV q_323 q_324 q_325 q_297 q_322) rfl rfl rfl hV_J6_intValue_8abf5 ⟨Nat.le_of_ble_eq_true rfl, Nat.le_of_ble_eq_true rfl⟩) ⟨pc_blind, va_Orecv (hX.2.2.1.1.1 128 (by decide)) hS, fun U hU hW => ⟨rfl, hC1473 U hU hW⟩⟩ rfl rfl hl.1 rfl (lv_room (Nat.le_of_ble_eq_true rfl)) dX9_shown_61 ⟨(Nat.le_of_ble_eq_true rfl), (Nat.le_of_ble_eq_true rfl)⟩) hS (fun q9 _ h9 => hF1470 q9 h9) hF1470 (fun r1475 u1474 t1474 H1474 L1474 ht1474 hvm1474 hw1474 hB1474 hz1474 hk1474 hS => ?_)
  have hP := pq_keep hP hD [] rfl hk1474 hB1474.1 ht1474
  have hG : s.heap.size + 1493 ≤ H1474.size := Nat.le_trans hG hz1474
  refine W.eq (g2 := F0 m 64 ls [.int 0]) (by rw [hw1474]) ?_
  refine lv_istore (lv' := [(6, .int 0), (4, .int 0), (5, .ref a1313), (3, .int 49), (1, .int 0), (2, .int 3), (0, .ref h0)]) hx hb dX9_shown_64 hl (by decide) rfl (fun ls hl => ?_)
  refine lv_iload hx hb dX9_shown_66 (lv_at hl 1 rfl) ?_
  refine lv_if_ne (tgt := 82) hx hb dX9_shown_68 (by decide) (fun cz => absurd (by decide) cz) (fun _ => ?_)
  refine lv_aload_n hx hb dX9_shown_71 rfl (lv_at hl 6 rfl) ?_
  refine lv_iload_n hx hb dX9_shown_72 rfl (lv_at hl 5 rfl) ?_
  refine lv_iload_n hx hb dX9_shown_73 rfl (lv_at hl 3 rfl) ?_
  refine lv_iload hx hb dX9_shown_74 (lv_at hl 0 rfl) ?_
  have hM1478 := k973_showsIt l hl9 dC dI z h0 h1 h2 h4 h5 h7 h8 h9 h10 h11 h12 h13 h14 h3 H1474.size kc0 kc2
  obtain ⟨hF1476, hC1479⟩ := pc_M hM1478 hP hD hK hS hX hT hA [0, 1, 2, 3, 4, 5, 6, 7, 8, 9, 10, 11, 12] [0, 1] rfl rfl rfl
  refine va_calli (va_runV (As := [.int 3, .int 49, .int 0]) (rest := []) ⟨hx, hb, hml, hown, hts⟩ hM1478 (cwV 3 hts (gV q_429 q_430 q_431 q_60 q_428) rfl rfl rfl hV_X9_showsIt ⟨Nat.le_of_ble_eq_true rfl, Nat.le_of_ble_eq_true rfl⟩) ⟨pc_blind, va_recv hK hP (ci := 8) (q := (RX9, TX9, 6)) (q0 := 0) rfl rfl, fun U hU hW => ⟨rfl, hC1479 U hU hW⟩⟩ rfl rfl hl.1 rfl (lv_room (Nat.le_of_ble_eq_true rfl)) dX9_shown_76 ⟨(Nat.le_of_ble_eq_true rfl), (Nat.le_of_ble_eq_true rfl)⟩) hS (fun q9 _ h9 => hF1476 q9 h9) hF1476 (fun r1481 u1480 t1480 H1480 L1480 ht1480 hvm1480 hw1480 hB1480 hz1480 hk1480 hS => ?_)
  have hP := pq_keep hP hD [0, 1, 2, 3, 4, 5, 6, 7, 8, 9, 10, 11, 12] rfl hk1480 hB1480.1 ht1480
  have hG : s.heap.size + 1520 ≤ H1480.size := va_gr (g := 1493) (g1 := 27) hG (by rw [← ht1480]; exact hB1480.2)
  refine W.eq (g2 := F0 m 79 ls [.int 0]) (by rw [hw1480]) ?_
  refine W.widen (k := 1520) (n := 14144) (by decide) (by decide) ?_
  refine lv_if_eq (tgt := 86) hx hb dX9_shown_79 (by decide) (fun _ => ?_) (fun cz => absurd (by decide) cz)
  refine lv_iconst (v := 0) hx hb dX9_shown_86 (by decide) ?_
  refine lv_istore (lv' := [(4, .int 0), (6, .int 0), (5, .ref a1313), (3, .int 49), (1, .int 0), (2, .int 3), (0, .ref h0)]) hx hb dX9_shown_87 hl (by decide) rfl (fun ls hl => ?_)
  refine lv_goto (tgt := 41) hx hb dX9_shown_89 (by decide) ?_
  refine lv_aload hx hb dX9_shown_41 (lv_at hl 2 rfl) ?_
  have hM1484 := k746_hasNext l hl9 dC dI z a1313 h3 h6 H1480.size
  obtain ⟨hF1482, hC1485⟩ := pc_M hM1484 hP hD hK hS hX hT hA [13, 14] [] rfl rfl rfl
  refine va_callFi (va_runF (As := []) (rest := []) (hK.1 1 (RJx35411, TJx35411, 4) rfl).2 ⟨hx, hb, hml, hown, hts⟩ hM1484 (va_cwF 0 hts (gF q_261 q_262 q_263 q_246 q_260) rfl rfl rfl hT.2.2.2.2.2.2.1 hF_xIh ⟨Nat.le_of_ble_eq_true rfl, Nat.le_of_ble_eq_true rfl⟩) ⟨pc_blind, va_recv hK hP (ci := 1) (q := (RJx35411, TJx35411, 4)) (q0 := 13) rfl rfl, fun U hU hW => ⟨rfl, hC1485 U hU hW⟩⟩ rfl rfl hl.1 rfl (lv_room (Nat.le_of_ble_eq_true rfl)) dX9_shown_43 ⟨(Nat.le_of_ble_eq_true rfl), (Nat.le_of_ble_eq_true rfl)⟩) hS (fun q9 _ h9 => hF1482 q9 h9) hF1482 (fun r1487 u1486 t1486 H1486 L1486 ht1486 hvm1486 hw1486 hB1486 hz1486 hk1486 hS => ?_)
  have hP := pq_keep hP hD [13, 14] rfl hk1486 hB1486.1 ht1486
  have hG : s.heap.size + 1520 ≤ H1486.size := Nat.le_trans hG hz1486
  refine W.eq (g2 := F0 m 48 ls [.int 0]) (by rw [hw1486]) ?_
  refine lv_if_eq (tgt := 92) hx hb dX9_shown_48 (by decide) (fun _ => ?_) (fun cz => absurd (by decide) cz)
  refine lv_iload_n hx hb dX9_shown_92 rfl (lv_at hl 4 rfl) ?_
  refine lv_iload hx hb dX9_shown_93 (lv_at hl 0 rfl) ?_
  refine lv_if_eq (tgt := 102) hx hb dX9_shown_95 (by decide) (fun _ => ?_) (fun cz => absurd (by decide) cz)
  refine lv_iconst (v := 0) hx hb dX9_shown_102 (by decide) ?_
  refine lv_iadd hx hb dX9_shown_103 ?_
  refine lv_topi (fun y1488 ey1488 => ?_)
  obtain rfl : y1488 = 0 := ey1488.trans (by decide)
  refine lv_istore_n (lv' := [(1, .int 0), (4, .int 0), (6, .int 0), (5, .ref a1313), (3, .int 49), (2, .int 3), (0, .ref h0)]) hx hb dX9_shown_104 rfl hl (by decide) rfl (fun ls hl => ?_)
  refine lv_iload_n hx hb dX9_shown_105 rfl (lv_at hl 4 rfl) ?_
  refine lv_iconst (v := 1) hx hb dX9_shown_106 (by decide) ?_
  refine lv_iadd hx hb dX9_shown_107 ?_
  refine lv_topi (fun y1489 ey1489 => ?_)
  obtain rfl : y1489 = 50 := ey1489.trans (by decide)
  refine lv_i2c (v := 50) hx hb dX9_shown_108 (by decide) ?_
  refine lv_istore_n (lv' := [(3, .int 50), (1, .int 0), (4, .int 0), (6, .int 0), (5, .ref a1313), (2, .int 3), (0, .ref h0)]) hx hb dX9_shown_109 rfl hl (by decide) rfl (fun ls hl => ?_)
  refine lv_goto (tgt := 23) hx hb dX9_shown_110 (by decide) ?_
  exact hend _ _ _ hS (hP.sub [0, 1, 2, 14, 3, 4, 15, 5, 6, 7, 8, 9, 10, 11, 12] rfl) (hD.sub [0, 1, 2, 14, 3, 4, 15, 5, 6, 7, 8, 9, 10, 11, 12] rfl rfl) (lv_sub hl [0, 1, 5, 6] rfl) hG

set_option maxHeartbeats 8000000 in
set_option maxRecDepth 100000 in
theorem k986_shown_g12 {p : Program} {l : Launch} {e : Env} {s : State} {m : MethodId} {args : Array Value} {below : List Frame} {meth : Method} {c : Code} {Q : State → Prop} {A : Nat → Prop} {H : Heap} {locs : List Loc} {ls : Array Slot} {dC : Nat → ClassId} {dI : Nat → Nat → Nat} {z : XZ} {h0 h1 h2 h3 h4 h5 h6 h7 h8 h9 h10 h11 h12 h13 h14 : Nat} {kc0 kc1 kc2 : ClassId} (hl9 : l.stackTraces = false) (hx : p.tables.exec = Jvm.exec) (hb : c.code = cX9_shown) (hml : c.maxLocals = 7) (hown : s.vm.findClass RX9 = some m.cls) (hts : ∀ w ∈ wsL_law, w.before args s = true) (hA : ∀ q : Nat, s.heap.size ≤ q → A q) (hX : XE z A s s.heap) (hT : XT s) (hS : va_S A s.heap H locs) (hP : va_P (dC, dI) xCl [(h0, ce21 h1 h2 h3 h4), (h1, ce331 h5), (h2, ce3 z.1), (h3, ce331 h6), (h4, ce366 h7), (h5, ce330 kc0 h8 h9 h10 h11 h12 h13 h14), (h6, ce330 kc1 (z.2.2.1 128) (z.2.2.1 128) (z.2.2.1 128) (z.2.2.1 128) (z.2.2.1 128) (z.2.2.1 128) (z.2.2.1 128)), (h7, ce330 kc2 (z.2.2.1 128) (z.2.2.1 129) (z.2.2.1 130) (z.2.2.1 131) (z.2.2.1 132) (z.2.2.1 133) (z.2.2.1 134)), (h8, ce49), (h9, ce49), (h10, ce49), (h11, ce49), (h12, ce49), (h13, ce49), (h14, ce49)] H) (hD : va_D A [(h0, ce21 h1 h2 h3 h4), (h1, ce331 h5), (h2, ce3 z.1), (h3, ce331 h6), (h4, ce366 h7), (h5, ce330 kc0 h8 h9 h10 h11 h12 h13 h14), (h6, ce330 kc1 (z.2.2.1 128) (z.2.2.1 128) (z.2.2.1 128) (z.2.2.1 128) (z.2.2.1 128) (z.2.2.1 128) (z.2.2.1 128)), (h7, ce330 kc2 (z.2.2.1 128) (z.2.2.1 129) (z.2.2.1 130) (z.2.2.1 131) (z.2.2.1 132) (z.2.2.1 133) (z.2.2.1 134)), (h8, ce49), (h9, ce49), (h10, ce49), (h11, ce49), (h12, ce49), (h13, ce49), (h14, ce49)]) (hK : va_K (dC, dI) xCl [(kc0, .object "java/lang/Object"), (kc1, .object "java/lang/Object"), (kc2, .object "java/lang/Object")] s) (hl : lv_has ls 7 [(3, .int 50), (1, .int 0), (2, .int 3), (0, .ref h0)]) (hG : s.heap.size + 1520 ≤ H.size) (hend : ∀ (H' : Heap) (locs' : List Loc) (ls' : Array Slot), va_S A s.heap H' locs' → va_P (dC, dI) xCl [(h0, ce21 h1 h2 h3 h4), (h1, ce331 h5), (h2, ce3 z.1), (h3, ce331 h6), (h4, ce366 h7), (h5, ce330 kc0 h8 h9 h10 h11 h12 h13 h14), (h6, ce330 kc1 (z.2.2.1 128) (z.2.2.1 128) (z.2.2.1 128) (z.2.2.1 128) (z.2.2.1 128) (z.2.2.1 128) (z.2.2.1 128)), (h7, ce330 kc2 (z.2.2.1 128) (z.2.2.1 129) (z.2.2.1 130) (z.2.2.1 131) (z.2.2.1 132) (z.2.2.1 133) (z.2.2.1 134)), (h8, ce49), (h9, ce49), (h10, ce49), (h11, ce49), (h12, ce49), (h13, ce49), (h14, ce49)] H' → va_D A [(h0, ce21 h1 h2 h3 h4), (h1, ce331 h5), (h2, ce3 z.1), (h3, ce331 h6), (h4, ce366 h7), (h5, ce330 kc0 h8 h9 h10 h11 h12 h13 h14), (h6, ce330 kc1 (z.2.2.1 128) (z.2.2.1 128) (z.2.2.1 128) (z.2.2.1 128) (z.2.2.1 128) (z.2.2.1 128) (z.2.2.1 128)), (h7, ce330 kc2 (z.2.2.1 128) (z.2.2.1 129) (z.2.2.1 130) (z.2.2.1 131) (z.2.2.1 132) (z.2.2.1 133) (z.2.2.1 134)), (h8, ce49), (h9, ce49), (h10, ce49), (h11, ce49), (h12, ce49), (h13, ce49), (h14, ce49)] → lv_has ls' 7 [(3, .int 48), (2, .int 4), (1, .int 0), (0, .ref h0)] → s.heap.size + 1520 ≤ H'.size → W p l e ({ frames := 5, cells := 2660, slots := 24752, locals := 121 } : Room) s m args below meth c H' locs' 1520 14144 Q (F0 m 23 ls' [])) : W p l e ({ frames := 5, cells := 2660, slots := 24752, locals := 121 } : Room) s m args below meth c H locs 1520 14144 Q (F0 m 23 ls []) := by
  refine lv_iload_n hx hb dX9_shown_23 rfl (lv_at hl 0 rfl) ?_
  refine lv_bipush (v := 49) hx hb dX9_shown_24 (by decide) ?_
  refine lv_icmp_gt (tgt := 113) hx hb dX9_shown_26 (by decide) (fun _ => ?_) (fun cz => absurd (by decide) cz)
  refine lv_iinc (v := 4) (lv' := [(2, .int 4), (3, .int 50), (1, .int 0), (0, .ref h0)]) hx hb dX9_shown_113 hl (k := 2) rfl (by decide) (by decide) rfl (fun ls hl => ?_)
  refine lv_goto (tgt := 9) hx hb dX9_shown_116 (by decide) ?_
  refine lv_iload_n hx hb dX9_shown_9 rfl (lv_at hl 0 rfl) ?_
  refine lv_aload_n hx hb dX9_shown_10 rfl (lv_at hl 3 rfl) ?_
  refine va_get (D := (dC, dI)) (ci := 8) (v := .ref h1) (C := RX9) (T := TX9) (N := 6) hx hb hts in_X9 hown hK hP 0 rfl rfl 1 (by decide) (hts _ q_64) (fun _ h9 => h9) rfl dX9_shown_11 ?_
  have hM1492 := k20_size l hl9 dC dI z h1 h5 H.size 7 7
  obtain ⟨hF1490, hC1493⟩ := pc_M hM1492 hP hD hK hS hX hT hA [1] [] rfl rfl rfl
  refine va_calli (va_runV (As := []) (rest := [.int 4]) ⟨hx, hb, hml, hown, hts⟩ hM1492 (cwV 0 hts (gV q_272 q_77 q_78 q_12 q_75) rfl rfl rfl hV_Jx4a65c_size_8abf5 ⟨Nat.le_of_ble_eq_true rfl, Nat.le_of_ble_eq_true rfl⟩) ⟨pc_blind, va_recv hK hP (ci := 0) (q := (RJx4a65c, TJx4a65c, 3)) (q0 := 1) rfl rfl, fun U hU hW => ⟨rfl, hC1493 U hU hW⟩⟩ rfl rfl hl.1 rfl (lv_room (Nat.le_of_ble_eq_true rfl)) dX9_shown_14 ⟨(Nat.le_of_ble_eq_true rfl), (Nat.le_of_ble_eq_true rfl)⟩) hS (fun q9 _ h9 => hF1490 q9 h9) hF1490 (fun r1495 u1494 t1494 H1494 L1494 ht1494 hvm1494 hw1494 hB1494 hz1494 hk1494 hS => ?_)
  have hP := pq_keep hP hD [1] rfl hk1494 hB1494.1 ht1494
  have hG : s.heap.size + 1520 ≤ H1494.size := Nat.le_trans hG hz1494
  refine W.eq (g2 := F0 m 17 ls [.int 7, .int 4]) (by rw [hw1494]) ?_
  refine lv_icmp_ge (tgt := 119) hx hb dX9_shown_17 (by decide) (fun cz => absurd cz (by decide)) (fun _ => ?_)
  refine lv_bipush (v := 48) hx hb dX9_shown_20 (by decide) ?_
  refine lv_istore_n (lv' := [(3, .int 48), (2, .int 4), (1, .int 0), (0, .ref h0)]) hx hb dX9_shown_22 rfl hl (by decide) rfl (fun ls hl => ?_)
  exact hend _ _ _ hS (hP.sub [0, 1, 2, 3, 4, 5, 6, 7, 8, 9, 10, 11, 12, 13, 14] rfl) (hD.sub [0, 1, 2, 3, 4, 5, 6, 7, 8, 9, 10, 11, 12, 13, 14] rfl rfl) (lv_sub hl [0, 1, 2, 3] rfl) hG

set_option maxHeartbeats 8000000 in
set_option maxRecDepth 100000 in
theorem k986_shown_g13 {p : Program} {l : Launch} {e : Env} {s : State} {m : MethodId} {args : Array Value} {below : List Frame} {meth : Method} {c : Code} {Q : State → Prop} {A : Nat → Prop} {H : Heap} {locs : List Loc} {ls : Array Slot} {dC : Nat → ClassId} {dI : Nat → Nat → Nat} {z : XZ} {h0 h1 h2 h3 h4 h5 h6 h7 h8 h9 h10 h11 h12 h13 h14 : Nat} {kc0 kc1 kc2 : ClassId} (hl9 : l.stackTraces = false) (hx : p.tables.exec = Jvm.exec) (hb : c.code = cX9_shown) (hml : c.maxLocals = 7) (hown : s.vm.findClass RX9 = some m.cls) (hts : ∀ w ∈ wsL_law, w.before args s = true) (hA : ∀ q : Nat, s.heap.size ≤ q → A q) (hX : XE z A s s.heap) (hT : XT s) (hS : va_S A s.heap H locs) (hP : va_P (dC, dI) xCl [(h0, ce21 h1 h2 h3 h4), (h1, ce331 h5), (h2, ce3 z.1), (h3, ce331 h6), (h4, ce366 h7), (h5, ce330 kc0 h8 h9 h10 h11 h12 h13 h14), (h6, ce330 kc1 (z.2.2.1 128) (z.2.2.1 128) (z.2.2.1 128) (z.2.2.1 128) (z.2.2.1 128) (z.2.2.1 128) (z.2.2.1 128)), (h7, ce330 kc2 (z.2.2.1 128) (z.2.2.1 129) (z.2.2.1 130) (z.2.2.1 131) (z.2.2.1 132) (z.2.2.1 133) (z.2.2.1 134)), (h8, ce49), (h9, ce49), (h10, ce49), (h11, ce49), (h12, ce49), (h13, ce49), (h14, ce49)] H) (hD : va_D A [(h0, ce21 h1 h2 h3 h4), (h1, ce331 h5), (h2, ce3 z.1), (h3, ce331 h6), (h4, ce366 h7), (h5, ce330 kc0 h8 h9 h10 h11 h12 h13 h14), (h6, ce330 kc1 (z.2.2.1 128) (z.2.2.1 128) (z.2.2.1 128) (z.2.2.1 128) (z.2.2.1 128) (z.2.2.1 128) (z.2.2.1 128)), (h7, ce330 kc2 (z.2.2.1 128) (z.2.2.1 129) (z.2.2.1 130) (z.2.2.1 131) (z.2.2.1 132) (z.2.2.1 133) (z.2.2.1 134)), (h8, ce49), (h9, ce49), (h10, ce49), (h11, ce49), (h12, ce49), (h13, ce49), (h14, ce49)]) (hK : va_K (dC, dI) xCl [(kc0, .object "java/lang/Object"), (kc1, .object "java/lang/Object"), (kc2, .object "java/lang/Object")] s) (hl : lv_has ls 7 [(3, .int 48), (2, .int 4), (1, .int 0), (0, .ref h0)]) (hG : s.heap.size + 1520 ≤ H.size) (hend : ∀ (H' : Heap) (locs' : List Loc) (ls' : Array Slot), va_S A s.heap H' locs' → va_P (dC, dI) xCl [(h0, ce21 h1 h2 h3 h4), (h1, ce331 h5), (h2, ce3 z.1), (h3, ce331 h6), (h4, ce366 h7), (h5, ce330 kc0 h8 h9 h10 h11 h12 h13 h14), (h6, ce330 kc1 (z.2.2.1 128) (z.2.2.1 128) (z.2.2.1 128) (z.2.2.1 128) (z.2.2.1 128) (z.2.2.1 128) (z.2.2.1 128)), (h7, ce330 kc2 (z.2.2.1 128) (z.2.2.1 129) (z.2.2.1 130) (z.2.2.1 131) (z.2.2.1 132) (z.2.2.1 133) (z.2.2.1 134)), (h8, ce49), (h9, ce49), (h10, ce49), (h11, ce49), (h12, ce49), (h13, ce49), (h14, ce49)] H' → va_D A [(h0, ce21 h1 h2 h3 h4), (h1, ce331 h5), (h2, ce3 z.1), (h3, ce331 h6), (h4, ce366 h7), (h5, ce330 kc0 h8 h9 h10 h11 h12 h13 h14), (h6, ce330 kc1 (z.2.2.1 128) (z.2.2.1 128) (z.2.2.1 128) (z.2.2.1 128) (z.2.2.1 128) (z.2.2.1 128) (z.2.2.1 128)), (h7, ce330 kc2 (z.2.2.1 128) (z.2.2.1 129) (z.2.2.1 130) (z.2.2.1 131) (z.2.2.1 132) (z.2.2.1 133) (z.2.2.1 134)), (h8, ce49), (h9, ce49), (h10, ce49), (h11, ce49), (h12, ce49), (h13, ce49), (h14, ce49)] → lv_has ls' 7 [(3, .int 49), (1, .int 0), (2, .int 4), (0, .ref h0)] → s.heap.size + 1710 ≤ H'.size → W p l e ({ frames := 5, cells := 2660, slots := 24752, locals := 121 } : Room) s m args below meth c H' locs' 1710 15912 Q (F0 m 23 ls' [])) : W p l e ({ frames := 5, cells := 2660, slots := 24752, locals := 121 } : Room) s m args below meth c H locs 1520 14144 Q (F0 m 23 ls []) := by
  refine lv_iload_n hx hb dX9_shown_23 rfl (lv_at hl 0 rfl) ?_
  refine lv_bipush (v := 49) hx hb dX9_shown_24 (by decide) ?_
  refine lv_icmp_gt (tgt := 113) hx hb dX9_shown_26 (by decide) (fun cz => absurd cz (by decide)) (fun _ => ?_)
  refine lv_iconst (v := 0) hx hb dX9_shown_29 (by decide) ?_
  refine lv_istore (lv' := [(4, .int 0), (3, .int 48), (2, .int 4), (1, .int 0), (0, .ref h0)]) hx hb dX9_shown_30 hl (by decide) rfl (fun ls hl => ?_)
  refine lv_aload_n hx hb dX9_shown_32 rfl (lv_at hl 4 rfl) ?_
  refine va_get (D := (dC, dI)) (ci := 8) (v := .ref h3) (C := RX9) (T := TX9) (N := 6) hx hb hts in_X9 hown hK hP 0 rfl rfl 3 (by decide) (hts _ q_66) (fun _ h9 => h9) rfl dX9_shown_33 ?_
  have hM1498 := k724_iterator l hl9 dC dI z h3 h6 H.size
  obtain ⟨hF1496, hC1499⟩ := pc_M hM1498 hP hD hK hS hX hT hA [3] [] rfl rfl rfl
  refine va_callr (va_runV (As := []) (rest := []) ⟨hx, hb, hml, hown, hts⟩ hM1498 (cwV 0 hts (gV q_256 q_257 q_258 q_12 q_255) rfl rfl rfl hV_Jx4a65c_iterator_32c93 ⟨Nat.le_of_ble_eq_true rfl, Nat.le_of_ble_eq_true rfl⟩) ⟨pc_blind, va_recv hK hP (ci := 0) (q := (RJx4a65c, TJx4a65c, 3)) (q0 := 3) rfl rfl, fun U hU hW => ⟨rfl, hC1499 U hU hW⟩⟩ rfl rfl hl.1 rfl (lv_room (Nat.le_of_ble_eq_true rfl)) dX9_shown_36 ⟨(Nat.le_of_ble_eq_true rfl), (Nat.le_of_ble_eq_true rfl)⟩) hS (fun q9 _ h9 => hF1496 q9 h9) hF1496 (fun u1500 r1501 t1500 H1500 L1500 ht1500 hvm1500 hw1500 hB1500 hz1500 hk1500 hS => ?_)
  obtain ⟨a1502, hr1500, hB1500⟩ := hB1500
  obtain ⟨hP, hD, hK⟩ := pq_jn (wz := [(h0, ce21 h1 h2 h3 h4), (h1, ce331 h5), (h2, ce3 z.1), (h4, ce366 h7), (h5, ce330 kc0 h8 h9 h10 h11 h12 h13 h14), (h6, ce330 kc1 (z.2.2.1 128) (z.2.2.1 128) (z.2.2.1 128) (z.2.2.1 128) (z.2.2.1 128) (z.2.2.1 128) (z.2.2.1 128)), (h7, ce330 kc2 (z.2.2.1 128) (z.2.2.1 129) (z.2.2.1 130) (z.2.2.1 131) (z.2.2.1 132) (z.2.2.1 133) (z.2.2.1 134)), (h8, ce49), (h9, ce49), (h10, ce49), (h11, ce49), (h12, ce49), (h13, ce49), (h14, ce49), (h3, ce331 h6), (a1502, ce370 h3)]) (tz := [(kc0, .object "java/lang/Object"), (kc1, .object "java/lang/Object"), (kc2, .object "java/lang/Object")]) hP hD hK [3] [0, 1, 2] rfl hk1500 hF1496 hB1500.1 ht1500 hvm1500 rfl rfl
  have hG : s.heap.size + 1521 ≤ H1500.size := va_gr (g := 1520) (g1 := 1) hG (by rw [← ht1500]; exact hB1500.2)
  refine W.eq (g2 := F0 m 39 ls [.ref a1502]) (by rw [hr1500]) ?_
  refine W.widen (k := 1521) (n := 14148) (by decide) (by decide) ?_
  refine lv_astore (lv' := [(5, .ref a1502), (4, .int 0), (3, .int 48), (2, .int 4), (1, .int 0), (0, .ref h0)]) hx hb dX9_shown_39 hl (by decide) rfl (fun ls hl => ?_)
  refine lv_aload hx hb dX9_shown_41 (lv_at hl 0 rfl) ?_
  have hM1505 := k725_hasNext l hl9 dC dI z a1502 h3 h6 H1500.size
  obtain ⟨hF1503, hC1506⟩ := pc_M hM1505 hP hD hK hS hX hT hA [15, 14] [] rfl rfl rfl
  refine va_callFi (va_runF (As := []) (rest := []) (hK.1 1 (RJx35411, TJx35411, 4) rfl).2 ⟨hx, hb, hml, hown, hts⟩ hM1505 (va_cwF 0 hts (gF q_261 q_262 q_263 q_246 q_260) rfl rfl rfl hT.2.2.2.2.2.2.1 hF_xIh ⟨Nat.le_of_ble_eq_true rfl, Nat.le_of_ble_eq_true rfl⟩) ⟨pc_blind, va_recv hK hP (ci := 1) (q := (RJx35411, TJx35411, 4)) (q0 := 15) rfl rfl, fun U hU hW => ⟨rfl, hC1506 U hU hW⟩⟩ rfl rfl hl.1 rfl (lv_room (Nat.le_of_ble_eq_true rfl)) dX9_shown_43 ⟨(Nat.le_of_ble_eq_true rfl), (Nat.le_of_ble_eq_true rfl)⟩) hS (fun q9 _ h9 => hF1503 q9 h9) hF1503 (fun r1508 u1507 t1507 H1507 L1507 ht1507 hvm1507 hw1507 hB1507 hz1507 hk1507 hS => ?_)
  have hP := pq_keep hP hD [15, 14] rfl hk1507 hB1507.1 ht1507
  have hG : s.heap.size + 1521 ≤ H1507.size := Nat.le_trans hG hz1507
  refine W.eq (g2 := F0 m 48 ls [.int 1]) (by rw [hw1507]) ?_
  refine lv_if_eq (tgt := 92) hx hb dX9_shown_48 (by decide) (fun cz => absurd cz (by decide)) (fun _ => ?_)
  refine lv_aload hx hb dX9_shown_51 (lv_at hl 0 rfl) ?_
  have hM1511 := k942_next l hl9 dC dI z a1502 h3 h6 H1507.size kc1
  obtain ⟨hF1509, hC1512⟩ := pc_M hM1511 hP hD hK hS hX hT hA [15, 14, 5] [1] rfl rfl rfl
  refine va_callFr (va_runF (As := []) (rest := []) (hK.1 1 (RJx35411, TJx35411, 4) rfl).2 ⟨hx, hb, hml, hown, hts⟩ hM1511 (va_cwF 0 hts (gF q_308 q_309 q_310 q_246 q_307) rfl rfl rfl hT.2.2.2.2.2.2.2.1 hF_xIn ⟨Nat.le_of_ble_eq_true rfl, Nat.le_of_ble_eq_true rfl⟩) ⟨pc_blind, va_recv hK hP (ci := 1) (q := (RJx35411, TJx35411, 4)) (q0 := 15) rfl rfl, fun U hU hW => ⟨rfl, hC1512 U hU hW⟩⟩ rfl rfl hl.1 rfl (lv_room (Nat.le_of_ble_eq_true rfl)) dX9_shown_53 ⟨(Nat.le_of_ble_eq_true rfl), (Nat.le_of_ble_eq_true rfl)⟩) hS (fun q9 _ h9 => hF1509 q9 h9) hF1509 (fun u1513 r1514 t1513 H1513 L1513 ht1513 hvm1513 hw1513 hB1513 hz1513 hk1513 hS => ?_)
  obtain ⟨hr1513, hB1513⟩ := hB1513
  obtain ⟨hP, hD, hK⟩ := pq_jn (wz := [(h0, ce21 h1 h2 h3 h4), (h1, ce331 h5), (h2, ce3 z.1), (h4, ce366 h7), (h5, ce330 kc0 h8 h9 h10 h11 h12 h13 h14), (h7, ce330 kc2 (z.2.2.1 128) (z.2.2.1 129) (z.2.2.1 130) (z.2.2.1 131) (z.2.2.1 132) (z.2.2.1 133) (z.2.2.1 134)), (h8, ce49), (h9, ce49), (h10, ce49), (h11, ce49), (h12, ce49), (h13, ce49), (h14, ce49), (a1502, ce372 h3), (h3, ce331 h6), (h6, ce330 kc1 (z.2.2.1 128) (z.2.2.1 128) (z.2.2.1 128) (z.2.2.1 128) (z.2.2.1 128) (z.2.2.1 128) (z.2.2.1 128))]) (tz := [(kc0, .object "java/lang/Object"), (kc2, .object "java/lang/Object"), (kc1, .object "java/lang/Object")]) hP hD hK [15, 14, 5] [0, 2] rfl hk1513 hF1509 hB1513.1 ht1513 hvm1513 rfl rfl
  have hG : s.heap.size + 1521 ≤ H1513.size := Nat.le_trans hG hz1513
  refine W.eq (g2 := F0 m 58 ls [.ref (z.2.2.1 128)]) (by rw [hr1513]) ?_
  refine va_castE (nm := "java/lang/Integer") hx hb hown (hts _ q_320) (va_Orecv (hX.2.2.1.1.1 128 (by decide)) hS) dX9_shown_58 ?_
  have hM1517 := k74_intValue l hl9 dC dI z H1513.size
  obtain ⟨hF1515, hC1518⟩ := pc_M hM1517 hP hD hK hS hX hT hA [] [] rfl rfl rfl
  refine va_calli (va_runV (As := []) (rest := []) ⟨hx, hb, hml, hown, hts⟩ hM1517 (cwV 0 hts (gV q_323 q_324 q_325 q_297 q_322) rfl rfl rfl hV_J6_intValue_8abf5 ⟨Nat.le_of_ble_eq_true rfl, Nat.le_of_ble_eq_true rfl⟩) ⟨pc_blind, va_Orecv (hX.2.2.1.1.1 128 (by decide)) hS, fun U hU hW => ⟨rfl, hC1518 U hU hW⟩⟩ rfl rfl hl.1 rfl (lv_room (Nat.le_of_ble_eq_true rfl)) dX9_shown_61 ⟨(Nat.le_of_ble_eq_true rfl), (Nat.le_of_ble_eq_true rfl)⟩) hS (fun q9 _ h9 => hF1515 q9 h9) hF1515 (fun r1520 u1519 t1519 H1519 L1519 ht1519 hvm1519 hw1519 hB1519 hz1519 hk1519 hS => ?_)
  have hP := pq_keep hP hD [] rfl hk1519 hB1519.1 ht1519
  have hG : s.heap.size + 1521 ≤ H1519.size := Nat.le_trans hG hz1519
  refine W.eq (g2 := F0 m 64 ls [.int 0]) (by rw [hw1519]) ?_
  refine lv_istore (lv' := [(6, .int 0), (5, .ref a1502), (4, .int 0), (3, .int 48), (2, .int 4), (1, .int 0), (0, .ref h0)]) hx hb dX9_shown_64 hl (by decide) rfl (fun ls hl => ?_)
  refine lv_iload hx hb dX9_shown_66 (lv_at hl 2 rfl) ?_
  refine lv_if_ne (tgt := 82) hx hb dX9_shown_68 (by decide) (fun cz => absurd (by decide) cz) (fun _ => ?_)
  refine lv_aload_n hx hb dX9_shown_71 rfl (lv_at hl 6 rfl) ?_
  refine lv_iload_n hx hb dX9_shown_72 rfl (lv_at hl 4 rfl) ?_
  refine lv_iload_n hx hb dX9_shown_73 rfl (lv_at hl 3 rfl) ?_
  refine lv_iload hx hb dX9_shown_74 (lv_at hl 0 rfl) ?_
  have hM1523 := k975_showsIt l hl9 dC dI z h0 h1 h2 h4 h5 h7 h8 h9 h10 h11 h12 h13 h14 h3 H1519.size kc0 kc2
  obtain ⟨hF1521, hC1524⟩ := pc_M hM1523 hP hD hK hS hX hT hA [0, 1, 2, 3, 4, 5, 6, 7, 8, 9, 10, 11, 12] [0, 1] rfl rfl rfl
  refine va_calli (va_runV (As := [.int 4, .int 48, .int 0]) (rest := []) ⟨hx, hb, hml, hown, hts⟩ hM1523 (cwV 3 hts (gV q_429 q_430 q_431 q_60 q_428) rfl rfl rfl hV_X9_showsIt ⟨Nat.le_of_ble_eq_true rfl, Nat.le_of_ble_eq_true rfl⟩) ⟨pc_blind, va_recv hK hP (ci := 8) (q := (RX9, TX9, 6)) (q0 := 0) rfl rfl, fun U hU hW => ⟨rfl, hC1524 U hU hW⟩⟩ rfl rfl hl.1 rfl (lv_room (Nat.le_of_ble_eq_true rfl)) dX9_shown_76 ⟨(Nat.le_of_ble_eq_true rfl), (Nat.le_of_ble_eq_true rfl)⟩) hS (fun q9 _ h9 => hF1521 q9 h9) hF1521 (fun r1526 u1525 t1525 H1525 L1525 ht1525 hvm1525 hw1525 hB1525 hz1525 hk1525 hS => ?_)
  have hP := pq_keep hP hD [0, 1, 2, 3, 4, 5, 6, 7, 8, 9, 10, 11, 12] rfl hk1525 hB1525.1 ht1525
  have hG : s.heap.size + 1548 ≤ H1525.size := va_gr (g := 1521) (g1 := 27) hG (by rw [← ht1525]; exact hB1525.2)
  refine W.eq (g2 := F0 m 79 ls [.int 0]) (by rw [hw1525]) ?_
  refine W.widen (k := 1548) (n := 14400) (by decide) (by decide) ?_
  refine lv_if_eq (tgt := 86) hx hb dX9_shown_79 (by decide) (fun _ => ?_) (fun cz => absurd (by decide) cz)
  refine lv_iconst (v := 0) hx hb dX9_shown_86 (by decide) ?_
  refine lv_istore (lv' := [(4, .int 0), (6, .int 0), (5, .ref a1502), (3, .int 48), (2, .int 4), (1, .int 0), (0, .ref h0)]) hx hb dX9_shown_87 hl (by decide) rfl (fun ls hl => ?_)
  refine lv_goto (tgt := 41) hx hb dX9_shown_89 (by decide) ?_
  refine lv_aload hx hb dX9_shown_41 (lv_at hl 2 rfl) ?_
  have hM1529 := k728_hasNext l hl9 dC dI z a1502 h3 h6 H1525.size
  obtain ⟨hF1527, hC1530⟩ := pc_M hM1529 hP hD hK hS hX hT hA [13, 14] [] rfl rfl rfl
  refine va_callFi (va_runF (As := []) (rest := []) (hK.1 1 (RJx35411, TJx35411, 4) rfl).2 ⟨hx, hb, hml, hown, hts⟩ hM1529 (va_cwF 0 hts (gF q_261 q_262 q_263 q_246 q_260) rfl rfl rfl hT.2.2.2.2.2.2.1 hF_xIh ⟨Nat.le_of_ble_eq_true rfl, Nat.le_of_ble_eq_true rfl⟩) ⟨pc_blind, va_recv hK hP (ci := 1) (q := (RJx35411, TJx35411, 4)) (q0 := 13) rfl rfl, fun U hU hW => ⟨rfl, hC1530 U hU hW⟩⟩ rfl rfl hl.1 rfl (lv_room (Nat.le_of_ble_eq_true rfl)) dX9_shown_43 ⟨(Nat.le_of_ble_eq_true rfl), (Nat.le_of_ble_eq_true rfl)⟩) hS (fun q9 _ h9 => hF1527 q9 h9) hF1527 (fun r1532 u1531 t1531 H1531 L1531 ht1531 hvm1531 hw1531 hB1531 hz1531 hk1531 hS => ?_)
  have hP := pq_keep hP hD [13, 14] rfl hk1531 hB1531.1 ht1531
  have hG : s.heap.size + 1548 ≤ H1531.size := Nat.le_trans hG hz1531
  refine W.eq (g2 := F0 m 48 ls [.int 1]) (by rw [hw1531]) ?_
  refine lv_if_eq (tgt := 92) hx hb dX9_shown_48 (by decide) (fun cz => absurd cz (by decide)) (fun _ => ?_)
  refine lv_aload hx hb dX9_shown_51 (lv_at hl 2 rfl) ?_
  have hM1535 := k954_next l hl9 dC dI z a1502 h3 h6 H1531.size kc1
  obtain ⟨hF1533, hC1536⟩ := pc_M hM1535 hP hD hK hS hX hT hA [13, 14, 15] [2] rfl rfl rfl
  refine va_callFr (va_runF (As := []) (rest := []) (hK.1 1 (RJx35411, TJx35411, 4) rfl).2 ⟨hx, hb, hml, hown, hts⟩ hM1535 (va_cwF 0 hts (gF q_308 q_309 q_310 q_246 q_307) rfl rfl rfl hT.2.2.2.2.2.2.2.1 hF_xIn ⟨Nat.le_of_ble_eq_true rfl, Nat.le_of_ble_eq_true rfl⟩) ⟨pc_blind, va_recv hK hP (ci := 1) (q := (RJx35411, TJx35411, 4)) (q0 := 13) rfl rfl, fun U hU hW => ⟨rfl, hC1536 U hU hW⟩⟩ rfl rfl hl.1 rfl (lv_room (Nat.le_of_ble_eq_true rfl)) dX9_shown_53 ⟨(Nat.le_of_ble_eq_true rfl), (Nat.le_of_ble_eq_true rfl)⟩) hS (fun q9 _ h9 => hF1533 q9 h9) hF1533 (fun u1537 r1538 t1537 H1537 L1537 ht1537 hvm1537 hw1537 hB1537 hz1537 hk1537 hS => ?_)
  obtain ⟨hr1537, hB1537⟩ := hB1537
  obtain ⟨hP, hD, hK⟩ := pq_jn (wz := [(h0, ce21 h1 h2 h3 h4), (h1, ce331 h5), (h2, ce3 z.1), (h4, ce366 h7), (h5, ce330 kc0 h8 h9 h10 h11 h12 h13 h14), (h7, ce330 kc2 (z.2.2.1 128) (z.2.2.1 129) (z.2.2.1 130) (z.2.2.1 131) (z.2.2.1 132) (z.2.2.1 133) (z.2.2.1 134)), (h8, ce49), (h9, ce49), (h10, ce49), (h11, ce49), (h12, ce49), (h13, ce49), (h14, ce49), (a1502, ce374 h3), (h3, ce331 h6), (h6, ce330 kc1 (z.2.2.1 128) (z.2.2.1 128) (z.2.2.1 128) (z.2.2.1 128) (z.2.2.1 128) (z.2.2.1 128) (z.2.2.1 128))]) (tz := [(kc0, .object "java/lang/Object"), (kc2, .object "java/lang/Object"), (kc1, .object "java/lang/Object")]) hP hD hK [13, 14, 15] [0, 1] rfl hk1537 hF1533 hB1537.1 ht1537 hvm1537 rfl rfl
  have hG : s.heap.size + 1548 ≤ H1537.size := Nat.le_trans hG hz1537
  refine W.eq (g2 := F0 m 58 ls [.ref (z.2.2.1 128)]) (by rw [hr1537]) ?_
  refine va_castE (nm := "java/lang/Integer") hx hb hown (hts _ q_320) (va_Orecv (hX.2.2.1.1.1 128 (by decide)) hS) dX9_shown_58 ?_
  have hM1541 := k74_intValue l hl9 dC dI z H1537.size
  obtain ⟨hF1539, hC1542⟩ := pc_M hM1541 hP hD hK hS hX hT hA [] [] rfl rfl rfl
  refine va_calli (va_runV (As := []) (rest := []) ⟨hx, hb, hml, hown, hts⟩ hM1541 (cwV 0 hts (gV q_323 q_324 q_325 q_297 q_322) rfl rfl rfl hV_J6_intValue_8abf5 ⟨Nat.le_of_ble_eq_true rfl, Nat.le_of_ble_eq_true rfl⟩) ⟨pc_blind, va_Orecv (hX.2.2.1.1.1 128 (by decide)) hS, fun U hU hW => ⟨rfl, hC1542 U hU hW⟩⟩ rfl rfl hl.1 rfl (lv_room (Nat.le_of_ble_eq_true rfl)) dX9_shown_61 ⟨(Nat.le_of_ble_eq_true rfl), (Nat.le_of_ble_eq_true rfl)⟩) hS (fun q9 _ h9 => hF1539 q9 h9) hF1539 (fun r1544 u1543 t1543 H1543 L1543 ht1543 hvm1543 hw1543 hB1543 hz1543 hk1543 hS => ?_)
  have hP := pq_keep hP hD [] rfl hk1543 hB1543.1 ht1543
  have hG : s.heap.size + 1548 ≤ H1543.size := Nat.le_trans hG hz1543
  refine W.eq (g2 := F0 m 64 ls [.int 0]) (by rw [hw1543]) ?_
  refine lv_istore (lv' := [(6, .int 0), (4, .int 0), (5, .ref a1502), (3, .int 48), (2, .int 4), (1, .int 0), (0, .ref h0)]) hx hb dX9_shown_64 hl (by decide) rfl (fun ls hl => ?_)
  refine lv_iload hx hb dX9_shown_66 (lv_at hl 1 rfl) ?_
  refine lv_if_ne (tgt := 82) hx hb dX9_shown_68 (by decide) (fun cz => absurd (by decide) cz) (fun _ => ?_)
  refine lv_aload_n hx hb dX9_shown_71 rfl (lv_at hl 6 rfl) ?_
  refine lv_iload_n hx hb dX9_shown_72 rfl (lv_at hl 4 rfl) ?_
  refine lv_iload_n hx hb dX9_shown_73 rfl (lv_at hl 3 rfl) ?_
  refine lv_iload hx hb dX9_shown_74 (lv_at hl 0 rfl) ?_
  have hM1547 := k975_showsIt l hl9 dC dI z h0 h1 h2 h4 h5 h7 h8 h9 h10 h11 h12 h13 h14 h3 H1543.size kc0 kc2
  obtain ⟨hF1545, hC1548⟩ := pc_M hM1547 hP hD hK hS hX hT hA [0, 1, 2, 3, 4, 5, 6, 7, 8, 9, 10, 11, 12] [0, 1] rfl rfl rfl
  refine va_calli (va_runV (As := [.int 4, .int 48, .int 0]) (rest := []) ⟨hx, hb, hml, hown, hts⟩ hM1547 (cwV 3 hts (gV q_429 q_430 q_431 q_60 q_428) rfl rfl rfl hV_X9_showsIt ⟨Nat.le_of_ble_eq_true rfl, Nat.le_of_ble_eq_true rfl⟩) ⟨pc_blind, va_recv hK hP (ci := 8) (q := (RX9, TX9, 6)) (q0 := 0) rfl rfl, fun U hU hW => ⟨rfl, hC1548 U hU hW⟩⟩ rfl rfl hl.1 rfl (lv_room (Nat.le_of_ble_eq_true rfl)) dX9_shown_76 ⟨(Nat.le_of_ble_eq_true rfl), (Nat.le_of_ble_eq_true rfl)⟩) hS (fun q9 _ h9 => hF1545 q9 h9) hF1545 (fun r1550 u1549 t1549 H1549 L1549 ht1549 hvm1549 hw1549 hB1549 hz1549 hk1549 hS => ?_)
  have hP := pq_keep hP hD [0, 1, 2, 3, 4, 5, 6, 7, 8, 9, 10, 11, 12] rfl hk1549 hB1549.1 ht1549
  have hG : s.heap.size + 1575 ≤ H1549.size := va_gr (g := 1548) (g1 := 27) hG (by rw [← ht1549]; exact hB1549.2)
  refine W.eq (g2 := F0 m 79 ls [.int 0]) (by rw [hw1549]) ?_
  refine W.widen (k := 1575) (n := 14652) (by decide) (by decide) ?_
  refine lv_if_eq (tgt := 86) hx hb dX9_shown_79 (by decide) (fun _ => ?_) (fun cz => absurd (by decide) cz)
  refine lv_iconst (v := 0) hx hb dX9_shown_86 (by decide) ?_
  refine lv_istore (lv' := [(4, .int 0), (6, .int 0), (5, .ref a1502), (3, .int 48), (2, .int 4), (1, .int 0), (0, .ref h0)]) hx hb dX9_shown_87 hl (by decide) rfl (fun ls hl => ?_)
  refine lv_goto (tgt := 41) hx hb dX9_shown_89 (by decide) ?_
  refine lv_aload hx hb dX9_shown_41 (lv_at hl 2 rfl) ?_
  have hM1553 := k731_hasNext l hl9 dC dI z a1502 h3 h6 H1549.size
  obtain ⟨hF1551, hC1554⟩ := pc_M hM1553 hP hD hK hS hX hT hA [13, 14] [] rfl rfl rfl
  refine va_callFi (va_runF (As := []) (rest := []) (hK.1 1 (RJx35411, TJx35411, 4) rfl).2 ⟨hx, hb, hml, hown, hts⟩ hM1553 (va_cwF 0 hts (gF q_261 q_262 q_263 q_246 q_260) rfl rfl rfl hT.2.2.2.2.2.2.1 hF_xIh ⟨Nat.le_of_ble_eq_true rfl, Nat.le_of_ble_eq_true rfl⟩) ⟨pc_blind, va_recv hK hP (ci := 1) (q := (RJx35411, TJx35411, 4)) (q0 := 13) rfl rfl, fun U hU hW => ⟨rfl, hC1554 U hU hW⟩⟩ rfl rfl hl.1 rfl (lv_room (Nat.le_of_ble_eq_true rfl)) dX9_shown_43 ⟨(Nat.le_of_ble_eq_true rfl), (Nat.le_of_ble_eq_true rfl)⟩) hS (fun q9 _ h9 => hF1551 q9 h9) hF1551 (fun r1556 u1555 t1555 H1555 L1555 ht1555 hvm1555 hw1555 hB1555 hz1555 hk1555 hS => ?_)
  have hP := pq_keep hP hD [13, 14] rfl hk1555 hB1555.1 ht1555
  have hG : s.heap.size + 1575 ≤ H1555.size := Nat.le_trans hG hz1555
  refine W.eq (g2 := F0 m 48 ls [.int 1]) (by rw [hw1555]) ?_
  refine lv_if_eq (tgt := 92) hx hb dX9_shown_48 (by decide) (fun cz => absurd cz (by decide)) (fun _ => ?_)
  refine lv_aload hx hb dX9_shown_51 (lv_at hl 2 rfl) ?_
  have hM1559 := k955_next l hl9 dC dI z a1502 h3 h6 H1555.size kc1
  obtain ⟨hF1557, hC1560⟩ := pc_M hM1559 hP hD hK hS hX hT hA [13, 14, 15] [2] rfl rfl rfl
  refine va_callFr (va_runF (As := []) (rest := []) (hK.1 1 (RJx35411, TJx35411, 4) rfl).2 ⟨hx, hb, hml, hown, hts⟩ hM1559 (va_cwF 0 hts (gF q_308 q_309 q_310 q_246 q_307) rfl rfl rfl hT.2.2.2.2.2.2.2.1 hF_xIn ⟨Nat.le_of_ble_eq_true rfl, Nat.le_of_ble_eq_true rfl⟩) ⟨pc_blind, va_recv hK hP (ci := 1) (q := (RJx35411, TJx35411, 4)) (q0 := 13) rfl rfl, fun U hU hW => ⟨rfl, hC1560 U hU hW⟩⟩ rfl rfl hl.1 rfl (lv_room (Nat.le_of_ble_eq_true rfl)) dX9_shown_53 ⟨(Nat.le_of_ble_eq_true rfl), (Nat.le_of_ble_eq_true rfl)⟩) hS (fun q9 _ h9 => hF1557 q9 h9) hF1557 (fun u1561 r1562 t1561 H1561 L1561 ht1561 hvm1561 hw1561 hB1561 hz1561 hk1561 hS => ?_)
  obtain ⟨hr1561, hB1561⟩ := hB1561
  obtain ⟨hP, hD, hK⟩ := pq_jn (wz := [(h0, ce21 h1 h2 h3 h4), (h1, ce331 h5), (h2, ce3 z.1), (h4, ce366 h7), (h5, ce330 kc0 h8 h9 h10 h11 h12 h13 h14), (h7, ce330 kc2 (z.2.2.1 128) (z.2.2.1 129) (z.2.2.1 130) (z.2.2.1 131) (z.2.2.1 132) (z.2.2.1 133) (z.2.2.1 134)), (h8, ce49), (h9, ce49), (h10, ce49), (h11, ce49), (h12, ce49), (h13, ce49), (h14, ce49), (a1502, ce376 h3), (h3, ce331 h6), (h6, ce330 kc1 (z.2.2.1 128) (z.2.2.1 128) (z.2.2.1 128) (z.2.2.1 128) (z.2.2.1 128) (z.2.2.1 128) (z.2.2.1 128))]) (tz := [(kc0, .object "java/lang/Object"), (kc2, .object "java/lang/Object"), (kc1, .object "java/lang/Object")]) hP hD hK [13, 14, 15] [0, 1] rfl hk1561 hF1557 hB1561.1 ht1561 hvm1561 rfl rfl
  have hG : s.heap.size + 1575 ≤ H1561.size := Nat.le_trans hG hz1561
  refine W.eq (g2 := F0 m 58 ls [.ref (z.2.2.1 128)]) (by rw [hr1561]) ?_
  refine va_castE (nm := "java/lang/Integer") hx hb hown (hts _ q_320) (va_Orecv (hX.2.2.1.1.1 128 (by decide)) hS) dX9_shown_58 ?_
  have hM1565 := k74_intValue l hl9 dC dI z H1561.size
  obtain ⟨hF1563, hC1566⟩ := pc_M hM1565 hP hD hK hS hX hT hA [] [] rfl rfl rfl
  refine va_calli (va_runV (As := []) (rest := []) ⟨hx, hb, hml, hown, hts⟩ hM1565 (cwV 0 hts (gV q_323 q_324 q_325 q_297 q_322) rfl rfl rfl hV_J6_intValue_8abf5 ⟨Nat.le_of_ble_eq_true rfl, Nat.le_of_ble_eq_true rfl⟩) ⟨pc_blind, va_Orecv (hX.2.2.1.1.1 128 (by decide)) hS, fun U hU hW => ⟨rfl, hC1566 U hU hW⟩⟩ rfl rfl hl.1 rfl (lv_room (Nat.le_of_ble_eq_true rfl)) dX9_shown_61 ⟨(Nat.le_of_ble_eq_true rfl), (Nat.le_of_ble_eq_true rfl)⟩) hS (fun q9 _ h9 => hF1563 q9 h9) hF1563 (fun r1568 u1567 t1567 H1567 L1567 ht1567 hvm1567 hw1567 hB1567 hz1567 hk1567 hS => ?_)
  have hP := pq_keep hP hD [] rfl hk1567 hB1567.1 ht1567
  have hG : s.heap.size + 1575 ≤ H1567.size := Nat.le_trans hG hz1567
  refine W.eq (g2 := F0 m 64 ls [.int 0]) (by rw [hw1567]) ?_
  refine lv_istore (lv' := [(6, .int 0), (4, .int 0), (5, .ref a1502), (3, .int 48), (2, .int 4), (1, .int 0), (0, .ref h0)]) hx hb dX9_shown_64 hl (by decide) rfl (fun ls hl => ?_)
  refine lv_iload hx hb dX9_shown_66 (lv_at hl 1 rfl) ?_
  refine lv_if_ne (tgt := 82) hx hb dX9_shown_68 (by decide) (fun cz => absurd (by decide) cz) (fun _ => ?_)
  refine lv_aload_n hx hb dX9_shown_71 rfl (lv_at hl 6 rfl) ?_
  refine lv_iload_n hx hb dX9_shown_72 rfl (lv_at hl 4 rfl) ?_
  refine lv_iload_n hx hb dX9_shown_73 rfl (lv_at hl 3 rfl) ?_
  refine lv_iload hx hb dX9_shown_74 (lv_at hl 0 rfl) ?_
  have hM1571 := k975_showsIt l hl9 dC dI z h0 h1 h2 h4 h5 h7 h8 h9 h10 h11 h12 h13 h14 h3 H1567.size kc0 kc2
  obtain ⟨hF1569, hC1572⟩ := pc_M hM1571 hP hD hK hS hX hT hA [0, 1, 2, 3, 4, 5, 6, 7, 8, 9, 10, 11, 12] [0, 1] rfl rfl rfl
  refine va_calli (va_runV (As := [.int 4, .int 48, .int 0]) (rest := []) ⟨hx, hb, hml, hown, hts⟩ hM1571 (cwV 3 hts (gV q_429 q_430 q_431 q_60 q_428) rfl rfl rfl hV_X9_showsIt ⟨Nat.le_of_ble_eq_true rfl, Nat.le_of_ble_eq_true rfl⟩) ⟨pc_blind, va_recv hK hP (ci := 8) (q := (RX9, TX9, 6)) (q0 := 0) rfl rfl, fun U hU hW => ⟨rfl, hC1572 U hU hW⟩⟩ rfl rfl hl.1 rfl (lv_room (Nat.le_of_ble_eq_true rfl)) dX9_shown_76 ⟨(Nat.le_of_ble_eq_true rfl), (Nat.le_of_ble_eq_true rfl)⟩) hS (fun q9 _ h9 => hF1569 q9 h9) hF1569 (fun r1574 u1573 t1573 H1573 L1573 ht1573 hvm1573 hw1573 hB1573 hz1573 hk1573 hS => ?_)
  have hP := pq_keep hP hD [0, 1, 2, 3, 4, 5, 6, 7, 8, 9, 10, 11, 12] rfl hk1573 hB1573.1 ht1573
  have hG : s.heap.size + 1602 ≤ H1573.size := va_gr (g := 1575) (g1 := 27) hG (by rw [← ht1573]; exact hB1573.2)
  refine W.eq (g2 := F0 m 79 ls [.int 0]) (by rw [hw1573]) ?_
  refine W.widen (k := 1602) (n := 14904) (by decide) (by decide) ?_
  refine lv_if_eq (tgt := 86) hx hb dX9_shown_79 (by decide) (fun _ => ?_) (fun cz => absurd (by decide) cz)
  refine lv_iconst (v := 0) hx hb dX9_shown_86 (by decide) ?_
  refine lv_istore (lv' := [(4, .int 0), (6, .int 0), (5, .ref a1502), (3, .int 48), (2, .int 4), (1, .int 0), (0, .ref h0)]) hx hb dX9_shown_87 hl (by decide) rfl (fun ls hl => ?_)
  refine lv_goto (tgt := 41) hx hb dX9_shown_89 (by decide) ?_
  refine lv_aload hx hb dX9_shown_41 (lv_at hl 2 rfl) ?_
  have hM1577 := k734_hasNext l hl9 dC dI z a1502 h3 h6 H1573.size
  obtain ⟨hF1575, hC1578⟩ := pc_M hM1577 hP hD hK hS hX hT hA [13, 14] [] rfl rfl rfl
  refine va_callFi (va_runF (As := []) (rest := []) (hK.1 1 (RJx35411, TJx35411, 4) rfl).2 ⟨hx, hb, hml, hown, hts⟩ hM1577 (va_cwF 0 hts (gF q_261 q_262 q_263 q_246 q_260) rfl rfl rfl hT.2.2.2.2.2.2.1 hF_xIh ⟨Nat.le_of_ble_eq_true rfl, Nat.le_of_ble_eq_true rfl⟩) ⟨pc_blind, va_recv hK hP (ci := 1) (q := (RJx35411, TJx35411, 4)) (q0 := 13) rfl rfl, fun U hU hW => ⟨rfl, hC1578 U hU hW⟩⟩ rfl rfl hl.1 rfl (lv_room (Nat.le_of_ble_eq_true rfl)) dX9_shown_43 ⟨(Nat.le_of_ble_eq_true rfl), (Nat.le_of_ble_eq_true rfl)⟩) hS (fun q9 _ h9 => hF1575 q9 h9) hF1575 (fun r1580 u1579 t1579 H1579 L1579 ht1579 hvm1579 hw1579 hB1579 hz1579 hk1579 hS => ?_)
  have hP := pq_keep hP hD [13, 14] rfl hk1579 hB1579.1 ht1579
  have hG : s.heap.size + 1602 ≤ H1579.size := Nat.le_trans hG hz1579
  refine W.eq (g2 := F0 m 48 ls [.int 1]) (by rw [hw1579]) ?_
  refine lv_if_eq (tgt := 92) hx hb dX9_shown_48 (by decide) (fun cz => absurd cz (by decide)) (fun _ => ?_)
  refine lv_aload hx hb dX9_shown_51 (lv_at hl 2 rfl) ?_
  have hM1583 := k956_next l hl9 dC dI z a1502 h3 h6 H1579.size kc1
  obtain ⟨hF1581, hC1584⟩ := pc_M hM1583 hP hD hK hS hX hT hA [13, 14, 15] [2] rfl rfl rfl
  refine va_callFr (va_runF (As := []) (rest := []) (hK.1 1 (RJx35411, TJx35411, 4) rfl).2 ⟨hx, hb, hml, hown, hts⟩ hM1583 (va_cwF 0 hts (gF q_308 q_309 q_310 q_246 q_307) rfl rfl rfl hT.2.2.2.2.2.2.2.1 hF_xIn ⟨Nat.le_of_ble_eq_true rfl, Nat.le_of_ble_eq_true rfl⟩) ⟨pc_blind, va_recv hK hP (ci := 1) (q := (RJx35411, TJx35411, 4)) (q0 := 13) rfl rfl, fun U hU hW => ⟨rfl, hC1584 U hU hW⟩⟩ rfl rfl hl.1 rfl (lv_room (Nat.le_of_ble_eq_true rfl)) dX9_shown_53 ⟨(Nat.le_of_ble_eq_true rfl), (Nat.le_of_ble_eq_true rfl)⟩) hS (fun q9 _ h9 => hF1581 q9 h9) hF1581 (fun u1585 r1586 t1585 H1585 L1585 ht1585 hvm1585 hw1585 hB1585 hz1585 hk1585 hS => ?_)
  obtain ⟨hr1585, hB1585⟩ := hB1585
  obtain ⟨hP, hD, hK⟩ := pq_jn (wz := [(h0, ce21 h1 h2 h3 h4), (h1, ce331 h5), (h2, ce3 z.1), (h4, ce366 h7), (h5, ce330 kc0 h8 h9 h10 h11 h12 h13 h14), (h7, ce330 kc2 (z.2.2.1 128) (z.2.2.1 129) (z.2.2.1 130) (z.2.2.1 131) (z.2.2.1 132) (z.2.2.1 133) (z.2.2.1 134)), (h8, ce49), (h9, ce49), (h10, ce49), (h11, ce49), (h12, ce49), (h13, ce49), (h14, ce49), (a1502, ce378 h3), (h3, ce331 h6), (h6, ce330 kc1 (z.2.2.1 128) (z.2.2.1 128) (z.2.2.1 128) (z.2.2.1 128) (z.2.2.1 128) (z.2.2.1 128) (z.2.2.1 128))]) (tz := [(kc0, .object "java/lang/Object"), (kc2, .object "java/lang/Object"), (kc1, .object "java/lang/Object")]) hP hD hK [13, 14, 15] [0, 1] rfl hk1585 hF1581 hB1585.1 ht1585 hvm1585 rfl rfl
  have hG : s.heap.size + 1602 ≤ H1585.size := Nat.le_trans hG hz1585
  refine W.eq (g2 := F0 m 58 ls [.ref (z.2.2.1 128)]) (by rw [hr1585]) ?_
  refine va_castE (nm := "java/lang/Integer") hx hb hown (hts _ q_320) (va_Orecv (hX.2.2.1.1.1 128 (by decide)) hS) dX9_shown_58 ?_
  have hM1589 := k74_intValue l hl9 dC dI z H1585.size
  obtain ⟨hF1587, hC1590⟩ := pc_M hM1589 hP hD hK hS hX hT hA [] [] rfl rfl rfl
  refine va_calli (va_runV (As := []) (rest := []) ⟨hx, hb, hml, hown, hts⟩ hM1589 (cwV 0 hts (gV q_323 q_324 q_325 q_297 q_322) rfl rfl rfl hV_J6_intValue_8abf5 ⟨Nat.le_of_ble_eq_true rfl, Nat.le_of_ble_eq_true rfl⟩) ⟨pc_blind, va_Orecv (hX.2.2.1.1.1 128 (by decide)) hS, fun U hU hW => ⟨rfl, hC1590 U hU hW⟩⟩ rfl rfl hl.1 rfl (lv_room (Nat.le_of_ble_eq_true rfl)) dX9_shown_61 ⟨(Nat.le_of_ble_eq_true rfl), (Nat.le_of_ble_eq_true rfl)⟩) hS (fun q9 _ h9 => hF1587 q9 h9) hF1587 (fun r1592 u1591 t1591 H1591 L1591 ht1591 hvm1591 hw1591 hB1591 hz1591 hk1591 hS => ?_)
  have hP := pq_keep hP hD [] rfl hk1591 hB1591.1 ht1591
  have hG : s.heap.size + 1602 ≤ H1591.size := Nat.le_trans hG hz1591
  refine W.eq (g2 := F0 m 64 ls [.int 0]) (by rw [hw1591]) ?_
  refine lv_istore (lv' := [(6, .int 0), (4, .int 0), (5, .ref a1502), (3, .int 48), (2, .int 4), (1, .int 0), (0, .ref h0)]) hx hb dX9_shown_64 hl (by decide) rfl (fun ls hl => ?_)
  refine lv_iload hx hb dX9_shown_66 (lv_at hl 1 rfl) ?_
  refine lv_if_ne (tgt := 82) hx hb dX9_shown_68 (by decide) (fun cz => absurd (by decide) cz) (fun _ => ?_)
  refine lv_aload_n hx hb dX9_shown_71 rfl (lv_at hl 6 rfl) ?_
  refine lv_iload_n hx hb dX9_shown_72 rfl (lv_at hl 4 rfl) ?_
  refine lv_iload_n hx hb dX9_shown_73 rfl (lv_at hl 3 rfl) ?_
  refine lv_iload hx hb dX9_shown_74 (lv_at hl 0 rfl) ?_
  have hM1595 := k975_showsIt l hl9 dC dI z h0 h1 h2 h4 h5 h7 h8 h9 h10 h11 h12 h13 h14 h3 H1591.size kc0 kc2
  obtain ⟨hF1593, hC1596⟩ := pc_M hM1595 hP hD hK hS hX hT hA [0, 1, 2, 3, 4, 5, 6, 7, 8, 9, 10, 11, 12] [0, 1] rfl rfl rfl
  refine va_calli (va_runV (As := [.int 4, .int 48, .int 0]) (rest := []) ⟨hx, hb, hml, hown, hts⟩ hM1595 (cwV 3 hts (gV q_429 q_430 q_431 q_60 q_428) rfl rfl rfl hV_X9_showsIt ⟨Nat.le_of_ble_eq_true rfl, Nat.le_of_ble_eq_true rfl⟩) ⟨pc_blind, va_recv hK hP (ci := 8) (q := (RX9, TX9, 6)) (q0 := 0) rfl rfl, fun U hU hW => ⟨rfl, hC1596 U hU hW⟩⟩ rfl rfl hl.1 rfl (lv_room (Nat.le_of_ble_eq_true rfl)) dX9_shown_76 ⟨(Nat.le_of_ble_eq_true rfl), (Nat.le_of_ble_eq_true rfl)⟩) hS (fun q9 _ h9 => hF1593 q9 h9) hF1593 (fun r1598 u1597 t1597 H1597 L1597 ht1597 hvm1597 hw1597 hB1597 hz1597 hk1597 hS => ?_)
  have hP := pq_keep hP hD [0, 1, 2, 3, 4, 5, 6, 7, 8, 9, 10, 11, 12] rfl hk1597 hB1597.1 ht1597
  have hG : s.heap.size + 1629 ≤ H1597.size := va_gr (g := 1602) (g1 := 27) hG (by rw [← ht1597]; exact hB1597.2)
  refine W.eq (g2 := F0 m 79 ls [.int 0]) (by rw [hw1597]) ?_
  refine W.widen (k := 1629) (n := 15156) (by decide) (by decide) ?_
  refine lv_if_eq (tgt := 86) hx hb dX9_shown_79 (by decide) (fun _ => ?_) (fun cz => absurd (by decide) cz)
  refine lv_iconst (v := 0) hx hb dX9_shown_86 (by decide) ?_
  refine lv_istore (lv' := [(4, .int 0), (6, .int 0), (5, .ref a1502), (3, .int 48), (2, .int 4), (1, .int 0), (0, .ref h0)]) hx hb dX9_shown_87 hl (by decide) rfl (fun ls hl => ?_)
  refine lv_goto (tgt := 41) hx hb dX9_shown_89 (by decide) ?_
  refine lv_aload hx hb dX9_shown_41 (lv_at hl 2 rfl) ?_
  have hM1601 := k737_hasNext l hl9 dC dI z a1502 h3 h6 H1597.size
  obtain ⟨hF1599, hC1602⟩ := pc_M hM1601 hP hD hK hS hX hT hA [13, 14] [] rfl rfl rfl
  refine va_callFi (va_runF (As := []) (rest := []) (hK.1 1 (RJx35411, TJx35411, 4) rfl).2 ⟨hx, hb, hml, hown, hts⟩ hM1601 (va_cwF 0 hts (gF q_261 q_262 q_263 q_246 q_260) rfl rfl rfl hT.2.2.2.2.2.2.1 hF_xIh ⟨Nat.le_of_ble_eq_true rfl, Nat.le_of_ble_eq_true rfl⟩) ⟨pc_blind, va_recv hK hP (ci := 1) (q := (RJx35411, TJx35411, 4)) (q0 := 13) rfl rfl, fun U hU hW => ⟨rfl, hC1602 U hU hW⟩⟩ rfl rfl hl.1 rfl (lv_room (Nat.le_of_ble_eq_true rfl)) dX9_shown_43 ⟨(Nat.le_of_ble_eq_true rfl), (Nat.le_of_ble_eq_true rfl)⟩) hS (fun q9 _ h9 => hF1599 q9 h9) hF1599 (fun r1604 u1603 t1603 H1603 L1603 ht1603 hvm1603 hw1603 hB1603 hz1603 hk1603 hS => ?_)
  have hP := pq_keep hP hD [13, 14] rfl hk1603 hB1603.1 ht1603
  have hG : s.heap.size + 1629 ≤ H1603.size := Nat.le_trans hG hz1603
  refine W.eq (g2 := F0 m 48 ls [.int 1]) (by rw [hw1603]) ?_
  refine lv_if_eq (tgt := 92) hx hb dX9_shown_48 (by decide) (fun cz => absurd cz (by decide)) (fun _ => ?_)
  refine lv_aload hx hb dX9_shown_51 (lv_at hl 2 rfl) ?_
  have hM1607 := k957_next l hl9 dC dI z a1502 h3 h6 H1603.size kc1
  obtain ⟨hF1605, hC1608⟩ := pc_M hM1607 hP hD hK hS hX hT hA [13, 14, 15] [2] rfl rfl rfl
  refine va_callFr (va_runF (As := []) (rest := []) (hK.1 1 (RJx35411, TJx35411, 4) rfl).2 ⟨hx, hb, hml, hown, hts⟩ hM1607 (va_cwF 0 hts (gF q_308 q_309 q_310 q_246 q_307) rfl rfl rfl hT.2.2.2.2.2.2.2.1 hF_xIn ⟨Nat.le_of_ble_eq_true rfl, Nat.le_of_ble_eq_true rfl⟩) ⟨pc_blind, va_recv hK hP (ci := 1) (q := (RJx35411, TJx35411, 4)) (q0 := 13) rfl rfl, fun U hU hW => ⟨rfl, hC1608 U hU hW⟩⟩ rfl rfl hl.1 rfl (lv_room (Nat.le_of_ble_eq_true rfl)) dX9_shown_53 ⟨(Nat.le_of_ble_eq_true rfl), (Nat.le_of_ble_eq_true rfl)⟩) hS (fun q9 _ h9 => hF1605 q9 h9) hF1605 (fun u1609 r1610 t1609 H1609 L1609 ht1609 hvm1609 hw1609 hB1609 hz1609 hk1609 hS => ?_)
  obtain ⟨hr1609, hB1609⟩ := hB1609
  obtain ⟨hP, hD, hK⟩ := pq_jn (wz := [(h0, ce21 h1 h2 h3 h4), (h1, ce331 h5), (h2, ce3 z.1), (h4, ce366 h7), (h5, ce330 kc0 h8 h9 h10 h11 h12 h13 h14), (h7, ce330 kc2 (z.2.2.1 128) (z.2.2.1 129) (z.2.2.1 130) (z.2.2.1 131) (z.2.2.1 132) (z.2.2.1 133) (z.2.2.1 134)), (h8, ce49), (h9, ce49), (h10, ce49), (h11, ce49), (h12, ce49), (h13, ce49), (h14, ce49), (a1502, ce380 h3), (h3, ce331 h6), (h6, ce330 kc1 (z.2.2.1 128) (z.2.2.1 128) (z.2.2.1 128) (z.2.2.1 128) (z.2.2.1 128) (z.2.2.1 128) (z.2.2.1 128))]) (tz := [(kc0, .object "java/lang/Object"), (kc2, .object "java/lang/Object"), (kc1, .object "java/lang/Object")]) hP hD hK [13, 14, 15] [0, 1] rfl hk1609 hF1605 hB1609.1 ht1609 hvm1609 rfl rfl
  have hG : s.heap.size + 1629 ≤ H1609.size := Nat.le_trans hG hz1609
  refine W.eq (g2 := F0 m 58 ls [.ref (z.2.2.1 128)]) (by rw [hr1609]) ?_
  refine va_castE (nm := "java/lang/Integer") hx hb hown (hts _ q_320) (va_Orecv (hX.2.2.1.1.1 128 (by decide)) hS) dX9_shown_58 ?_
  have hM1613 := k74_intValue l hl9 dC dI z H1609.size
  obtain ⟨hF1611, hC1614⟩ := pc_M hM1613 hP hD hK hS hX hT hA [] [] rfl rfl rfl
  refine va_calli (va_runV (As := []) (rest := []) ⟨hx, hb, hml, hown, hts⟩ hM1613 (cwV 0 hts (gV q_323 q_324 q_325 q_297 q_322) rfl rfl rfl hV_J6_intValue_8abf5 ⟨Nat.le_of_ble_eq_true rfl, Nat.le_of_ble_eq_true rfl⟩) ⟨pc_blind, va_Orecv (hX.2.2.1.1.1 128 (by decide)) hS, fun U hU hW => ⟨rfl, hC1614 U hU hW⟩⟩ rfl rfl hl.1 rfl (lv_room (Nat.le_of_ble_eq_true rfl)) dX9_shown_61 ⟨(Nat.le_of_ble_eq_true rfl), (Nat.le_of_ble_eq_true rfl)⟩) hS (fun q9 _ h9 => hF1611 q9 h9) hF1611 (fun r1616 u1615 t1615 H1615 L1615 ht1615 hvm1615 hw1615 hB1615 hz1615 hk1615 hS => ?_)
  have hP := pq_keep hP hD [] rfl hk1615 hB1615.1 ht1615
  have hG : s.heap.size + 1629 ≤ H1615.size := Nat.le_trans hG hz1615
  refine W.eq (g2 := F0 m 64 ls [.int 0]) (by rw [hw1615]) ?_
  refine lv_istore (lv' := [(6, .int 0), (4, .int 0), (5, .ref a1502), (3, .int 48), (2, .int 4), (1, .int 0), (0, .ref h0)]) hx hb dX9_shown_64 hl (by decide) rfl (fun ls hl => ?_)
  refine lv_iload hx hb dX9_shown_66 (lv_at hl 1 rfl) ?_
  refine lv_if_ne (tgt := 82) hx hb dX9_shown_68 (by decide) (fun cz => absurd (by decide) cz) (fun _ => ?_)
  refine lv_aload_n hx hb dX9_shown_71 rfl (lv_at hl 6 rfl) ?_
  refine lv_iload_n hx hb dX9_shown_72 rfl (lv_at hl 4 rfl) ?_
  refine lv_iload_n hx hb dX9_shown_73 rfl (lv_at hl 3 rfl) ?_
  refine lv_iload hx hb dX9_shown_74 (lv_at hl 0 rfl) ?_
  have hM1619 := k975_showsIt l hl9 dC dI z h0 h1 h2 h4 h5 h7 h8 h9 h10 h11 h12 h13 h14 h3 H1615.size kc0 kc2
  obtain ⟨hF1617, hC1620⟩ := pc_M hM1619 hP hD hK hS hX hT hA [0, 1, 2, 3, 4, 5, 6, 7, 8, 9, 10, 11, 12] [0, 1] rfl rfl rfl
  refine va_calli (va_runV (As := [.int 4, .int 48, .int 0]) (rest := []) ⟨hx, hb, hml, hown, hts⟩ hM1619 (cwV 3 hts (gV q_429 q_430 q_431 q_60 q_428) rfl rfl rfl hV_X9_showsIt ⟨Nat.le_of_ble_eq_true rfl, Nat.le_of_ble_eq_true rfl⟩) ⟨pc_blind, va_recv hK hP (ci := 8) (q := (RX9, TX9, 6)) (q0 := 0) rfl rfl, fun U hU hW => ⟨rfl, hC1620 U hU hW⟩⟩ rfl rfl hl.1 rfl (lv_room (Nat.le_of_ble_eq_true rfl)) dX9_shown_76 ⟨(Nat.le_of_ble_eq_true rfl), (Nat.le_of_ble_eq_true rfl)⟩) hS (fun q9 _ h9 => hF1617 q9 h9) hF1617 (fun r1622 u1621 t1621 H1621 L1621 ht1621 hvm1621 hw1621 hB1621 hz1621 hk1621 hS => ?_)
  have hP := pq_keep hP hD [0, 1, 2, 3, 4, 5, 6, 7, 8, 9, 10, 11, 12] rfl hk1621 hB1621.1 ht1621
  have hG : s.heap.size + 1656 ≤ H1621.size := va_gr (g := 1629) (g1 := 27) hG (by rw [← ht1621]; exact hB1621.2)
  refine W.eq (g2 := F0 m 79 ls [.int 0]) (by rw [hw1621]) ?_
  refine W.widen (k := 1656) (n := 15408) (by decide) (by decide) ?_
  refine lv_if_eq (tgt := 86) hx hb dX9_shown_79 (by decide) (fun _ => ?_) (fun cz => absurd (by decide) cz)
  refine lv_iconst (v := 0) hx hb dX9_shown_86 (by decide) ?_
  refine lv_istore (lv' := [(4, .int 0), (6, .int 0), (5, .ref a1502), (3, .int 48), (2, .int 4), (1, .int 0), (0, .ref h0)]) hx hb dX9_shown_87 hl (by decide) rfl (fun ls hl => ?_)
  refine lv_goto (tgt := 41) hx hb dX9_shown_89 (by decide) ?_
  refine lv_aload hx hb dX9_shown_41 (lv_at hl 2 rfl) ?_
  have hM1625 := k740_hasNext l hl9 dC dI z a1502 h3 h6 H1621.size
  obtain ⟨hF1623, hC1626⟩ := pc_M hM1625 hP hD hK hS hX hT hA [13, 14] [] rfl rfl rfl
  refine va_callFi (va_runF (As := []) (rest := []) (hK.1 1 (RJx35411, TJx35411, 4) rfl).2 ⟨hx, hb, hml, hown, hts⟩ hM1625 (va_cwF 0 hts (gF q_261 q_262 q_263 q_246 q_260) rfl rfl rfl hT.2.2.2.2.2.2.1 hF_xIh ⟨Nat.le_of_ble_eq_true rfl, Nat.le_of_ble_eq_true rfl⟩) ⟨pc_blind, va_recv hK hP (ci := 1) (q := (RJx35411, TJx35411, 4)) (q0 := 13) rfl rfl, fun U hU hW => ⟨rfl, hC1626 U hU hW⟩⟩ rfl rfl hl.1 rfl (lv_room (Nat.le_of_ble_eq_true rfl)) dX9_shown_43 ⟨(Nat.le_of_ble_eq_true rfl), (Nat.le_of_ble_eq_true rfl)⟩) hS (fun q9 _ h9 => hF1623 q9 h9) hF1623 (fun r1628 u1627 t1627 H1627 L1627 ht1627 hvm1627 hw1627 hB1627 hz1627 hk1627 hS => ?_)
  have hP := pq_keep hP hD [13, 14] rfl hk1627 hB1627.1 ht1627
  have hG : s.heap.size + 1656 ≤ H1627.size := Nat.le_trans hG hz1627
  refine W.eq (g2 := F0 m 48 ls [.int 1]) (by rw [hw1627]) ?_
  refine lv_if_eq (tgt := 92) hx hb dX9_shown_48 (by decide) (fun cz => absurd cz (by decide)) (fun _ => ?_)
  refine lv_aload hx hb dX9_shown_51 (lv_at hl 2 rfl) ?_
  have hM1631 := k958_next l hl9 dC dI z a1502 h3 h6 H1627.size kc1
  obtain ⟨hF1629, hC1632⟩ := pc_M hM1631 hP hD hK hS hX hT hA [13, 14, 15] [2] rfl rfl rfl
  refine va_callFr (va_runF (As := []) (rest := []) (hK.1 1 (RJx35411, TJx35411, 4) rfl).2 ⟨hx, hb, hml, hown, hts⟩ hM1631 (va_cwF 0 hts (gF q_308 q_309 q_310 q_246 q_307) rfl rfl rfl hT.2.2.2.2.2.2.2.1 hF_xIn ⟨Nat.le_of_ble_eq_true rfl, Nat.le_of_ble_eq_true rfl⟩) ⟨pc_blind, va_recv hK hP (ci := 1) (q := (RJx35411, TJx35411, 4)) (q0 := 13) rfl rfl, fun U hU hW => ⟨rfl, hC1632 U hU hW⟩⟩ rfl rfl hl.1 rfl (lv_room (Nat.le_of_ble_eq_true rfl)) dX9_shown_53 ⟨(Nat.le_of_ble_eq_true rfl), (Nat.le_of_ble_eq_true rfl)⟩) hS (fun q9 _ h9 => hF1629 q9 h9) hF1629 (fun u1633 r1634 t1633 H1633 L1633 ht1633 hvm1633 hw1633 hB1633 hz1633 hk1633 hS => ?_)
  obtain ⟨hr1633, hB1633⟩ := hB1633
  obtain ⟨hP, hD, hK⟩ := pq_jn (wz := [(h0, ce21 h1 h2 h3 h4), (h1, ce331 h5), (h2, ce3 z.1), (h4, ce366 h7), (h5, ce330 kc0 h8 h9 h10 h11 h12 h13 h14), (h7, ce330 kc2 (z.2.2.1 128) (z.2.2.1 129) (z.2.2.1 130) (z.2.2.1 131) (z.2.2.1 132) (z.2.2.1 133) (z.2.2.1 134)), (h8, ce49), (h9, ce49), (h10, ce49), (h11, ce49), (h12, ce49), (h13, ce49), (h14, ce49), (a1502, ce382 h3), (h3, ce331 h6), (h6, ce330 kc1 (z.2.2.1 128) (z.2.2.1 128) (z.2.2.1 128) (z.2.2.1 128) (z.2.2.1 128) (z.2.2.1 128) (z.2.2.1 128))]) (tz := [(kc0, .object "java/lang/Object"), (kc2, .object "java/lang/Object"), (kc1, .object "java/lang/Object")]) hP hD hK [13, 14, 15] [0, 1] rfl hk1633 hF1629 hB1633.1 ht1633 hvm1633 rfl rfl
  have hG : s.heap.size + 1656 ≤ H1633.size := Nat.le_trans hG hz1633
  refine W.eq (g2 := F0 m 58 ls [.ref (z.2.2.1 128)]) (by rw [hr1633]) ?_
  refine va_castE (nm := "java/lang/Integer") hx hb hown (hts _ q_320) (va_Orecv (hX.2.2.1.1.1 128 (by decide)) hS) dX9_shown_58 ?_
  have hM1637 := k74_intValue l hl9 dC dI z H1633.size
  obtain ⟨hF1635, hC1638⟩ := pc_M hM1637 hP hD hK hS hX hT hA [] [] rfl rfl rfl
  refine va_calli (va_runV (As := []) (rest := []) ⟨hx, hb, hml, hown, hts⟩ hM1637 (cwV 0 hts (gV q_323 q_324 q_325 q_297 q_322) rfl rfl rfl hV_J6_intValue_8abf5 ⟨Nat.le_of_ble_eq_true rfl, Nat.le_of_ble_eq_true rfl⟩) ⟨pc_blind, va_Orecv (hX.2.2.1.1.1 128 (by decide)) hS, fun U hU hW => ⟨rfl, hC1638 U hU hW⟩⟩ rfl rfl hl.1 rfl (lv_room (Nat.le_of_ble_eq_true rfl)) dX9_shown_61 ⟨(Nat.le_of_ble_eq_true rfl), (Nat.le_of_ble_eq_true rfl)⟩) hS (fun q9 _ h9 => hF1635 q9 h9) hF1635 (fun r1640 u1639 t1639 H1639 L1639 ht1639 hvm1639 hw1639 hB1639 hz1639 hk1639 hS => ?_)
  have hP := pq_keep hP hD [] rfl hk1639 hB1639.1 ht1639
  have hG : s.heap.size + 1656 ≤ H1639.size := Nat.le_trans hG hz1639
  refine W.eq (g2 := F0 m 64 ls [.int 0]) (by rw [hw1639]) ?_
  refine lv_istore (lv' := [(6, .int 0), (4, .int 0), (5, .ref a1502), (3, .int 48), (2, .int 4), (1, .int 0), (0, .ref h0)]) hx hb dX9_shown_64 hl (by decide) rfl (fun ls hl => ?_)
  refine lv_iload hx hb dX9_shown_66 (lv_at hl 1 rfl) ?_
  refine lv_if_ne (tgt := 82) hx hb dX9_shown_68 (by decide) (fun cz => absurd (by decide) cz) (fun _ => ?_)
  refine lv_aload_n hx hb dX9_shown_71 rfl (lv_at hl 6 rfl) ?_
  refine lv_iload_n hx hb dX9_shown_72 rfl (lv_at hl 4 rfl) ?_
  refine lv_iload_n hx hb dX9_shown_73 rfl (lv_at hl 3 rfl) ?_
  refine lv_iload hx hb dX9_shown_74 (lv_at hl 0 rfl) ?_
  have hM1643 := k975_showsIt l hl9 dC dI z h0 h1 h2 h4 h5 h7 h8 h9 h10 h11 h12 h13 h14 h3 H1639.size kc0 kc2
  obtain ⟨hF1641, hC1644⟩ := pc_M hM1643 hP hD hK hS hX hT hA [0, 1, 2, 3, 4, 5, 6, 7, 8, 9, 10, 11, 12] [0, 1] rfl rfl rfl
  refine va_calli (va_runV (As := [.int 4, .int 48, .int 0]) (rest := []) ⟨hx, hb, hml, hown, hts⟩ hM1643 (cwV 3 hts (gV q_429 q_430 q_431 q_60 q_428) rfl rfl rfl hV_X9_showsIt ⟨Nat.le_of_ble_eq_true rfl, Nat.le_of_ble_eq_true rfl⟩) ⟨pc_blind, va_recv hK hP (ci := 8) (q := (RX9, TX9, 6)) (q0 := 0) rfl rfl, fun U hU hW => ⟨rfl, hC1644 U hU hW⟩⟩ rfl rfl hl.1 rfl (lv_room (Nat.le_of_ble_eq_true rfl)) dX9_shown_76 ⟨(Nat.le_of_ble_eq_true rfl), (Nat.le_of_ble_eq_true rfl)⟩) hS (fun q9 _ h9 => hF1641 q9 h9) hF1641 (fun r1646 u1645 t1645 H1645 L1645 ht1645 hvm1645 hw1645 hB1645 hz1645 hk1645 hS => ?_)
  have hP := pq_keep hP hD [0, 1, 2, 3, 4, 5, 6, 7, 8, 9, 10, 11, 12] rfl hk1645 hB1645.1 ht1645
  have hG : s.heap.size + 1683 ≤ H1645.size := va_gr (g := 1656) (g1 := 27) hG (by rw [← ht1645]; exact hB1645.2)
  refine W.eq (g2 := F0 m 79 ls [.int 0]) (by rw [hw1645]) ?_
  refine W.widen (k := 1683) (n := 15660) (by decide) (by decide) ?_
  refine lv_if_eq (tgt := 86) hx hb dX9_shown_79 (by decide) (fun _ => ?_) (fun cz => absurd (by decide) cz)
  refine lv_iconst (v := 0) hx hb dX9_shown_86 (by decide) ?_
  refine lv_istore (lv' := [(4, .int 0), (6, .int 0), (5, .ref a1502), (3, .int 48), (2, .int 4), (1, .int 0), (0, .ref h0)]) hx hb dX9_shown_87 hl (by decide) rfl (fun ls hl => ?_)
  refine lv_goto (tgt := 41) hx hb dX9_shown_89 (by decide) ?_
  refine lv_aload hx hb dX9_shown_41 (lv_at hl 2 rfl) ?_
  have hM1649 := k743_hasNext l hl9 dC dI z a1502 h3 h6 H1645.size
  obtain ⟨hF1647, hC1650⟩ := pc_M hM1649 hP hD hK hS hX hT hA [13, 14] [] rfl rfl rfl
  refine va_callFi (va_runF (As := []) (rest := []) (hK.1 1 (RJx35411, TJx35411, 4) rfl).2 ⟨hx, hb, hml, hown, hts⟩ hM1649 (va_cwF 0 hts (gF q_261 q_262 q_263 q_246 q_260) rfl rfl rfl hT.2.2.2.2.2.2.1 hF_xIh ⟨Nat.le_of_ble_eq_true rfl, Nat.le_of_ble_eq_true rfl⟩) ⟨pc_blind, va_recv hK hP (ci := 1) (q := (RJx35411, TJx35411, 4)) (q0 := 13) rfl rfl, fun U hU hW => ⟨rfl, hC1650 U hU hW⟩⟩ rfl rfl hl.1 rfl (lv_room (Nat.le_of_ble_eq_true rfl)) dX9_shown_43 ⟨(Nat.le_of_ble_eq_true rfl), (Nat.le_of_ble_eq_true rfl)⟩) hS (fun q9 _ h9 => hF1647 q9 h9) hF1647 (fun r1652 u1651 t1651 H1651 L1651 ht1651 hvm1651 hw1651 hB1651 hz1651 hk1651 hS => ?_)
  have hP := pq_keep hP hD [13, 14] rfl hk1651 hB1651.1 ht1651
  have hG : s.heap.size + 1683 ≤ H1651.size := Nat.le_trans hG hz1651
  refine W.eq (g2 := F0 m 48 ls [.int 1]) (by rw [hw1651]) ?_
  refine lv_if_eq (tgt := 92) hx hb dX9_shown_48 (by decide) (fun cz => absurd cz (by decide)) (fun _ => ?_)
  refine lv_aload hx hb dX9_shown_51 (lv_at hl 2 rfl) ?_
  have hM1655 := k959_next l hl9 dC dI z a1502 h3 h6 H1651.size kc1
  obtain ⟨hF1653, hC1656⟩ := pc_M hM1655 hP hD hK hS hX hT hA [13, 14, 15] [2] rfl rfl rfl
  refine va_callFr (va_runF (As := []) (rest := []) (hK.1 1 (RJx35411, TJx35411, 4) rfl).2 ⟨hx, hb, hml, hown, hts⟩ hM1655 (va_cwF 0 hts (gF q_308 q_309 q_310 q_246 q_307) rfl rfl rfl hT.2.2.2.2.2.2.2.1 hF_xIn ⟨Nat.le_of_ble_eq_true rfl, Nat.le_of_ble_eq_true rfl⟩) ⟨pc_blind, va_recv hK hP (ci := 1) (q := (RJx35411, TJx35411, 4)) (q0 := 13) rfl rfl, fun U hU hW => ⟨rfl, hC1656 U hU hW⟩⟩ rfl rfl hl.1 rfl (lv_room (Nat.le_of_ble_eq_true rfl)) dX9_shown_53 ⟨(Nat.le_of_ble_eq_true rfl), (Nat.le_of_ble_eq_true rfl)⟩) hS (fun q9 _ h9 => hF1653 q9 h9) hF1653 (fun u1657 r1658 t1657 H1657 L1657 ht1657 hvm1657 hw1657 hB1657 hz1657 hk1657 hS => ?_)
  obtain ⟨hr1657, hB1657⟩ := hB1657
  obtain ⟨hP, hD, hK⟩ := pq_jn (wz := [(h0, ce21 h1 h2 h3 h4), (h1, ce331 h5), (h2, ce3 z.1), (h4, ce366 h7), (h5, ce330 kc0 h8 h9 h10 h11 h12 h13 h14), (h7, ce330 kc2 (z.2.2.1 128) (z.2.2.1 129) (z.2.2.1 130) (z.2.2.1 131) (z.2.2.1 132) (z.2.2.1 133) (z.2.2.1 134)), (h8, ce49), (h9, ce49), (h10, ce49), (h11, ce49), (h12, ce49), (h13, ce49), (h14, ce49), (a1502, ce384 h3), (h3, ce331 h6), (h6, ce330 kc1 (z.2.2.1 128) (z.2.2.1 128) (z.2.2.1 128) (z.2.2.1 128) (z.2.2.1 128) (z.2.2.1 128) (z.2.2.1 128))]) (tz := [(kc0, .object "java/lang/Object"), (kc2, .object "java/lang/Object"), (kc1, .object "java/lang/Object")]) hP hD hK [13, 14, 15] [0, 1] rfl hk1657 hF1653 hB1657.1 ht1657 hvm1657 rfl rfl
  have hG : s.heap.size + 1683 ≤ H1657.size := Nat.le_trans hG hz1657
  refine W.eq (g2 := F0 m 58 ls [.ref (z.2.2.1 128)]) (by rw [hr1657]) ?_
  refine va_castE (nm := "java/lang/Integer") hx hb hown (hts _ q_320) (va_Orecv (hX.2.2.1.1.1 128 (by decide)) hS) dX9_shown_58 ?_
  have hM1661 := k74_intValue l hl9 dC dI z H1657.size
  obtain ⟨hF1659, hC1662⟩ := pc_M hM1661 hP hD hK hS hX hT hA [] [] rfl rfl rfl
  refine va_calli (va_runV (As := []) (rest := []) ⟨hx, hb, hml, hown, hts⟩ hM1661 (cwV 0 hts (gV q_323 q_324 q_325 q_297 q_322) rfl rfl rfl hV_J6_intValue_8abf5 ⟨Nat.le_of_ble_eq_true rfl, Nat.le_of_ble_eq_true rfl⟩) ⟨pc_blind, va_Orecv (hX.2.2.1.1.1 128 (by decide)) hS, fun U hU hW => ⟨rfl, hC1662 U hU hW⟩⟩ rfl rfl hl.1 rfl (lv_room (Nat.le_of_ble_eq_true rfl)) dX9_shown_61 ⟨(Nat.le_of_ble_eq_true rfl), (Nat.le_of_ble_eq_true rfl)⟩) hS (fun q9 _ h9 => hF1659 q9 h9) hF1659 (fun r1664 u1663 t1663 H1663 L1663 ht1663 hvm1663 hw1663 hB1663 hz1663 hk1663 hS => ?_)
  have hP := pq_keep hP hD [] rfl hk1663 hB1663.1 ht1663
  have hG : s.heap.size + 1683 ≤ H1663.size := Nat.le_trans hG hz1663
  refine W.eq (g2 := F0 m 64 ls [.int 0]) (by rw [hw1663]) ?_
  refine lv_istore (lv' := [(6, .int 0), (4, .int 0), (5, .ref a1502), (3, .int 48), (2, .int 4), (1, .int 0), (0, .ref h0)]) hx hb dX9_shown_64 hl (by decide) rfl (fun ls hl => ?_)
  refine lv_iload hx hb dX9_shown_66 (lv_at hl 1 rfl) ?_
  refine lv_if_ne (tgt := 82) hx hb dX9_shown_68 (by decide) (fun cz => absurd (by decide) cz) (fun _ => ?_)
  refine lv_aload_n hx hb dX9_shown_71 rfl (lv_at hl 6 rfl) ?_
  refine lv_iload_n hx hb dX9_shown_72 rfl (lv_at hl 4 rfl) ?_
  refine lv_iload_n hx hb dX9_shown_73 rfl (lv_at hl 3 rfl) ?_
  refine lv_iload hx hb dX9_shown_74 (lv_at hl 0 rfl) ?_
  have hM1667 := k975_showsIt l hl9 dC dI z h0 h1 h2 h4 h5 h7 h8 h9 h10 h11 h12 h13 h14 h3 H1663.size kc0 kc2
  obtain ⟨hF1665, hC1668⟩ := pc_M hM1667 hP hD hK hS hX hT hA [0, 1, 2, 3, 4, 5, 6, 7, 8, 9, 10, 11, 12] [0, 1] rfl rfl rfl
  refine va_calli (va_runV (As := [.int 4, .int 48, .int 0]) (rest := []) ⟨hx, hb, hml, hown, hts⟩ hM1667 (cwV 3 hts (gV q_429 q_430 q_431 q_60 q_428) rfl rfl rfl hV_X9_showsIt ⟨Nat.le_of_ble_eq_true rfl, Nat.le_of_ble_eq_true rfl⟩) ⟨pc_blind, va_recv hK hP (ci := 8) (q := (RX9, TX9, 6)) (q0 := 0) rfl rfl, fun U hU hW => ⟨rfl, hC1668 U hU hW⟩⟩ rfl rfl hl.1 rfl (lv_room (Nat.le_of_ble_eq_true rfl)) dX9_shown_76 ⟨(Nat.le_of_ble_eq_true rfl), (Nat.le_of_ble_eq_true rfl)⟩) hS (fun q9 _ h9 => hF1665 q9 h9) hF1665 (fun r1670 u1669 t1669 H1669 L1669 ht1669 hvm1669 hw1669 hB1669 hz1669 hk1669 hS => ?_)
  have hP := pq_keep hP hD [0, 1, 2, 3, 4, 5, 6, 7, 8, 9, 10, 11, 12] rfl hk1669 hB1669.1 ht1669
  have hG : s.heap.size + 1710 ≤ H1669.size := va_gr (g := 1683) (g1 := 27) hG (by rw [← ht1669]; exact hB1669.2)
  refine W.eq (g2 := F0 m 79 ls [.int 0]) (by rw [hw1669]) ?_
  refine W.widen (k := 1710) (n := 15912) (by decide) (by decide) ?_
  refine lv_if_eq (tgt := 86) hx hb dX9_shown_79 (by decide) (fun _ => ?_) (fun cz => absurd (by decide) cz)
  refine lv_iconst (v := 0) hx hb dX9_shown_86 (by decide) ?_
  refine lv_istore (lv' := [(4, .int 0), (6, .int 0), (5, .ref a1502), (3, .int 48), (2, .int 4), (1, .int 0), (0, .ref h0)]) hx hb dX9_shown_87 hl (by decide) rfl (fun ls hl => ?_)
  refine lv_goto (tgt := 41) hx hb dX9_shown_89 (by decide) ?_
  refine lv_aload hx hb dX9_shown_41 (lv_at hl 2 rfl) ?_
  have hM1673 := k746_hasNext l hl9 dC dI z a1502 h3 h6 H1669.size
  obtain ⟨hF1671, hC1674⟩ := pc_M hM1673 hP hD hK hS hX hT hA [13, 14] [] rfl rfl rfl
  refine va_callFi (va_runF (As := []) (rest := []) (hK.1 1 (RJx35411, TJx35411, 4) rfl).2 ⟨hx, hb, hml, hown, hts⟩ hM1673 (va_cwF 0 hts (gF q_261 q_262 q_263 q_246 q_260) rfl rfl rfl hT.2.2.2.2.2.2.1 hF_xIh ⟨Nat.le_of_ble_eq_true rfl, Nat.le_of_ble_eq_true rfl⟩) ⟨pc_blind, va_recv hK hP (ci := 1) (q := (RJx35411, TJx35411, 4)) (q0 := 13) rfl rfl, fun U hU hW => ⟨rfl, hC1674 U hU hW⟩⟩ rfl rfl hl.1 rfl (lv_room (Nat.le_of_ble_eq_true rfl)) dX9_shown_43 ⟨(Nat.le_of_ble_eq_true rfl), (Nat.le_of_ble_eq_true rfl)⟩) hS (fun q9 _ h9 => hF1671 q9 h9) hF1671 (fun r1676 u1675 t1675 H1675 L1675 ht1675 hvm1675 hw1675 hB1675 hz1675 hk1675 hS => ?_)
  have hP := pq_keep hP hD [13, 14] rfl hk1675 hB1675.1 ht1675
  have hG : s.heap.size + 1710 ≤ H1675.size := Nat.le_trans hG hz1675
  refine W.eq (g2 := F0 m 48 ls [.int 0]) (by rw [hw1675]) ?_
  refine lv_if_eq (tgt := 92) hx hb dX9_shown_48 (by decide) (fun _ => ?_) (fun cz => absurd (by decide) cz)
  refine lv_iload_n hx hb dX9_shown_92 rfl (lv_at hl 5 rfl) ?_
  refine lv_iload hx hb dX9_shown_93 (lv_at hl 0 rfl) ?_
  refine lv_if_eq (tgt := 102) hx hb dX9_shown_95 (by decide) (fun _ => ?_) (fun cz => absurd (by decide) cz)
  refine lv_iconst (v := 0) hx hb dX9_shown_102 (by decide) ?_
  refine lv_iadd hx hb dX9_shown_103 ?_
  refine lv_topi (fun y1677 ey1677 => ?_)
  obtain rfl : y1677 = 0 := ey1677.trans (by decide)
  refine lv_istore_n (lv' := [(1, .int 0), (4, .int 0), (6, .int 0), (5, .ref a1502), (3, .int 48), (2, .int 4), (0, .ref h0)]) hx hb dX9_shown_104 rfl hl (by decide) rfl (fun ls hl => ?_)
  refine lv_iload_n hx hb dX9_shown_105 rfl (lv_at hl 4 rfl) ?_
  refine lv_iconst (v := 1) hx hb dX9_shown_106 (by decide) ?_
  refine lv_iadd hx hb dX9_shown_107 ?_
  refine lv_topi (fun y1678 ey1678 => ?_)
  obtain rfl : y1678 = 49 := ey1678.trans (by decide)
  refine lv_i2c (v := 49) hx hb dX9_shown_108 (by decide) ?_
  refine lv_istore_n (lv' := [(3, .int 49), (1, .int 0), (4, .int 0), (6, .int 0), (5, .ref a1502), (2, .int 4), (0, .ref h0)]) hx hb dX9_shown_109 rfl hl (by decide) rfl (fun ls hl => ?_)
  refine lv_goto (tgt := 23) hx hb dX9_shown_110 (by decide) ?_
  exact hend _ _ _ hS (hP.sub [0, 1, 2, 14, 3, 4, 15, 5, 6, 7, 8, 9, 10, 11, 12] rfl) (hD.sub [0, 1, 2, 14, 3, 4, 15, 5, 6, 7, 8, 9, 10, 11, 12] rfl rfl) (lv_sub hl [0, 1, 5, 6] rfl) hG

set_option maxHeartbeats 8000000 in
set_option maxRecDepth 100000 in
theorem k986_shown_g14 {p : Program} {l : Launch} {e : Env} {s : State} {m : MethodId} {args : Array Value} {below : List Frame} {meth : Method} {c : Code} {Q : State → Prop} {A : Nat → Prop} {H : Heap} {locs : List Loc} {ls : Array Slot} {dC : Nat → ClassId} {dI : Nat → Nat → Nat} {z : XZ} {h0 h1 h2 h3 h4 h5 h6 h7 h8 h9 h10 h11 h12 h13 h14 : Nat} {kc0 kc1 kc2 : ClassId} (hl9 : l.stackTraces = false) (hx : p.tables.exec = Jvm.exec) (hb : c.code = cX9_shown) (hml : c.maxLocals = 7) (hown : s.vm.findClass RX9 = some m.cls) (hts : ∀ w ∈ wsL_law, w.before args s = true) (hA : ∀ q : Nat, s.heap.size ≤ q → A q) (hX : XE z A s s.heap) (hT : XT s) (hS : va_S A s.heap H locs) (hP : va_P (dC, dI) xCl [(h0, ce21 h1 h2 h3 h4), (h1, ce331 h5), (h2, ce3 z.1), (h3, ce331 h6), (h4, ce366 h7), (h5, ce330 kc0 h8 h9 h10 h11 h12 h13 h14), (h6, ce330 kc1 (z.2.2.1 128) (z.2.2.1 128) (z.2.2.1 128) (z.2.2.1 128) (z.2.2.1 128) (z.2.2.1 128) (z.2.2.1 128)), (h7, ce330 kc2 (z.2.2.1 128) (z.2.2.1 129) (z.2.2.1 130) (z.2.2.1 131) (z.2.2.1 132) (z.2.2.1 133) (z.2.2.1 134)), (h8, ce49), (h9, ce49), (h10, ce49), (h11, ce49), (h12, ce49), (h13, ce49), (h14, ce49)] H) (hD : va_D A [(h0, ce21 h1 h2 h3 h4), (h1, ce331 h5), (h2, ce3 z.1), (h3, ce331 h6), (h4, ce366 h7), (h5, ce330 kc0 h8 h9 h10 h11 h12 h13 h14), (h6, ce330 kc1 (z.2.2.1 128) (z.2.2.1 128) (z.2.2.1 128) (z.2.2.1 128) (z.2.2.1 128) (z.2.2.1 128) (z.2.2.1 128)), (h7, ce330 kc2 (z.2.2.1 128) (z.2.2.1 129) (z.2.2.1 130) (z.2.2.1 131) (z.2.2.1 132) (z.2.2.1 133) (z.2.2.1 134)), (h8, ce49), (h9, ce49), (h10, ce49), (h11, ce49), (h12, ce49), (h13, ce49), (h14, ce49)]) (hK : va_K (dC, dI) xCl [(kc0, .object "java/lang/Object"), (kc1, .object "java/lang/Object"), (kc2, .object "java/lang/Object")] s) (hl : lv_has ls 7 [(3, .int 49), (1, .int 0), (2, .int 4), (0, .ref h0)]) (hG : s.heap.size + 1710 ≤ H.size) (hend : ∀ (H' : Heap) (locs' : List Loc) (ls' : Array Slot), va_S A s.heap H' locs' → va_P (dC, dI) xCl [(h0, ce21 h1 h2 h3 h4), (h1, ce331 h5), (h2, ce3 z.1), (h3, ce331 h6), (h4, ce366 h7), (h5, ce330 kc0 h8 h9 h10 h11 h12 h13 h14), (h6, ce330 kc1 (z.2.2.1 128) (z.2.2.1 128) (z.2.2.1 128) (z.2.2.1 128) (z.2.2.1 128) (z.2.2.1 128) (z.2.2.1 128)), (h7, ce330 kc2 (z.2.2.1 128) (z.2.2.1 129) (z.2.2.1 130) (z.2.2.1 131) (z.2.2.1 132) (z.2.2.1 133) (z.2.2.1 134)), (h8, ce49), (h9, ce49), (h10, ce49), (h11, ce49), (h12, ce49), (h13, ce49), (h14, ce49)] H' → va_D A [(h0, ce21 h1 h2 h3 h4), (h1, ce331 h5), (h2, ce3 z.1), (h3, ce331 h6), (h4, ce366 h7), (h5, ce330 kc0 h8 h9 h10 h11 h12 h13 h14), (h6, ce330 kc1 (z.2.2.1 128) (z.2.2.1 128) (z.2.2.1 128) (z.2.2.1 128) (z.2.2.1 128) (z.2.2.1 128) (z.2.2.1 128)), (h7, ce330 kc2 (z.2.2.1 128) (z.2.2.1 129) (z.2.2.1 130) (z.2.2.1 131) (z.2.2.1 132) (z.2.2.1 133) (z.2.2.1 134)), (h8, ce49), (h9, ce49), (h10, ce49), (h11, ce49), (h12, ce49), (h13, ce49), (h14, ce49)] → lv_has ls' 7 [(3, .int 50), (1, .int 0), (2, .int 4), (0, .ref h0)] → s.heap.size + 1900 ≤ H'.size → W p l e ({ frames := 5, cells := 2660, slots := 24752, locals := 121 } : Room) s m args below meth c H' locs' 1900 17680 Q (F0 m 23 ls' [])) : W p l e ({ frames := 5, cells := 2660, slots := 24752, locals := 121 } : Room) s m args below meth c H locs 1710 15912 Q (F0 m 23 ls []) := by
  refine lv_iload_n hx hb dX9_shown_23 rfl (lv_at hl 0 rfl) ?_
  refine lv_bipush (v := 49) hx hb dX9_shown_24 (by decide) ?_
  refine lv_icmp_gt (tgt := 113) hx hb dX9_shown_26 (by decide) (fun cz => absurd cz (by decide)) (fun _ => ?_)
  refine lv_iconst (v := 0) hx hb dX9_shown_29 (by decide) ?_
  refine lv_istore (lv' := [(4, .int 0), (3, .int 49), (1, .int 0), (2, .int 4), (0, .ref h0)]) hx hb dX9_shown_30 hl (by decide) rfl (fun ls hl => ?_)
  refine lv_aload_n hx hb dX9_shown_32 rfl (lv_at hl 4 rfl) ?_
  refine va_get (D := (dC, dI)) (ci := 8) (v := .ref h3) (C := RX9) (T := TX9) (N := 6) hx hb hts in_X9 hown hK hP 0 rfl rfl 3 (by decide) (hts _ q_66) (fun _ h9 => h9) rfl dX9_shown_33 ?_
  have hM1681 := k724_iterator l hl9 dC dI z h3 h6 H.size
  obtain ⟨hF1679, hC1682⟩ := pc_M hM1681 hP hD hK hS hX hT hA [3] [] rfl rfl rfl
  refine va_callr (va_runV (As := []) (rest := []) ⟨hx, hb, hml, hown, hts⟩ hM1681 (cwV 0 hts (gV q_256 q_257 q_258 q_12 q_255) rfl rfl rfl hV_Jx4a65c_iterator_32c93 ⟨Nat.le_of_ble_eq_true rfl, Nat.le_of_ble_eq_true rfl⟩) ⟨pc_blind, va_recv hK hP (ci := 0) (q := (RJx4a65c, TJx4a65c, 3)) (q0 := 3) rfl rfl, fun U hU hW => ⟨rfl, hC1682 U hU hW⟩⟩ rfl rfl hl.1 rfl (lv_room (Nat.le_of_ble_eq_true rfl)) dX9_shown_36 ⟨(Nat.le_of_ble_eq_true rfl), (Nat.le_of_ble_eq_true rfl)⟩) hS (fun q9 _ h9 => hF1679 q9 h9) hF1679 (fun u1683 r1684 t1683 H1683 L1683 ht1683 hvm1683 hw1683 hB1683 hz1683 hk1683 hS => ?_)
  obtain ⟨a1685, hr1683, hB1683⟩ := hB1683
  obtain ⟨hP, hD, hK⟩ := pq_jn (wz := [(h0, ce21 h1 h2 h3 h4), (h1, ce331 h5), (h2, ce3 z.1), (h4, ce366 h7), (h5, ce330 kc0 h8 h9 h10 h11 h12 h13 h14), (h6, ce330 kc1 (z.2.2.1 128) (z.2.2.1 128) (z.2.2.1 128) (z.2.2.1 128) (z.2.2.1 128) (z.2.2.1 128) (z.2.2.1 128)), (h7, ce330 kc2 (z.2.2.1 128) (z.2.2.1 129) (z.2.2.1 130) (z.2.2.1 131) (z.2.2.1 132) (z.2.2.1 133) (z.2.2.1 134)), (h8, ce49), (h9, ce49), (h10, ce49), (h11, ce49), (h12, ce49), (h13, ce49), (h14, ce49), (h3, ce331 h6), (a1685, ce370 h3)]) (tz := [(kc0, .object "java/lang/Object"), (kc1, .object "java/lang/Object"), (kc2, .object "java/lang/Object")]) hP hD hK [3] [0, 1, 2] rfl hk1683 hF1679 hB1683.1 ht1683 hvm1683 rfl rfl
  have hG : s.heap.size + 1711 ≤ H1683.size := va_gr (g := 1710) (g1 := 1) hG (by rw [← ht1683]; exact hB1683.2)
  refine W.eq (g2 := F0 m 39 ls [.ref a1685]) (by rw [hr1683]) ?_
  refine W.widen (k := 1711) (n := 15916) (by decide) (by decide) ?_
  refine lv_astore (lv' := [(5, .ref a1685), (4, .int 0), (3, .int 49), (1, .int 0), (2, .int 4), (0, .ref h0)]) hx hb dX9_shown_39 hl (by decide) rfl (fun ls hl => ?_)
  refine lv_aload hx hb dX9_shown_41 (lv_at hl 0 rfl) ?_
  have hM1688 := k725_hasNext l hl9 dC dI z a1685 h3 h6 H1683.size
  obtain ⟨hF1686, hC1689⟩ := pc_M hM1688 hP hD hK hS hX hT hA [15, 14] [] rfl rfl rfl
  refine va_callFi (va_runF (As := []) (rest := []) (hK.1 1 (RJx35411, TJx35411, 4) rfl).2 ⟨hx, hb, hml, hown, hts⟩ hM1688 (va_cwF 0 hts (gF q_261 q_262 q_263 q_246 q_260) rfl rfl rfl hT.2.2.2.2.2.2.1 hF_xIh ⟨Nat.le_of_ble_eq_true rfl, Nat.le_of_ble_eq_true rfl⟩) ⟨pc_blind, va_recv hK hP (ci := 1) (q := (RJx35411, TJx35411, 4)) (q0 := 15) rfl rfl, fun U hU hW => ⟨rfl, hC1689 U hU hW⟩⟩ rfl rfl hl.1 rfl (lv_room (Nat.le_of_ble_eq_true rfl)) dX9_shown_43 ⟨(Nat.le_of_ble_eq_true rfl), (Nat.le_of_ble_eq_true rfl)⟩) hS (fun q9 _ h9 => hF1686 q9 h9) hF1686 (fun r1691 u1690 t1690 H1690 L1690 ht1690 hvm1690 hw1690 hB1690 hz1690 hk1690 hS => ?_)
  have hP := pq_keep hP hD [15, 14] rfl hk1690 hB1690.1 ht1690
  have hG : s.heap.size + 1711 ≤ H1690.size := Nat.le_trans hG hz1690
  refine W.eq (g2 := F0 m 48 ls [.int 1]) (by rw [hw1690]) ?_
  refine lv_if_eq (tgt := 92) hx hb dX9_shown_48 (by decide) (fun cz => absurd cz (by decide)) (fun _ => ?_)
  refine lv_aload hx hb dX9_shown_51 (lv_at hl 0 rfl) ?_
  have hM1694 := k942_next l hl9 dC dI z a1685 h3 h6 H1690.size kc1
  obtain ⟨hF1692, hC1695⟩ := pc_M hM1694 hP hD hK hS hX hT hA [15, 14, 5] [1] rfl rfl rfl
  refine va_callFr (va_runF (As := []) (rest := []) (hK.1 1 (RJx35411, TJx35411, 4) rfl).2 ⟨hx, hb, hml, hown, hts⟩ hM1694 (va_cwF 0 hts (gF q_308 q_309 q_310 q_246 q_307) rfl rfl rfl hT.2.2.2.2.2.2.2.1 hF_xIn ⟨Nat.le_of_ble_eq_true rfl, Nat.le_of_ble_eq_true rfl⟩) ⟨pc_blind, va_recv hK hP (ci := 1) (q := (RJx35411, TJx35411, 4)) (q0 := 15) rfl rfl, fun U hU hW => ⟨rfl, hC1695 U hU hW⟩⟩ rfl rfl hl.1 rfl (lv_room (Nat.le_of_ble_eq_true rfl)) dX9_shown_53 ⟨(Nat.le_of_ble_eq_true rfl), (Nat.le_of_ble_eq_true rfl)⟩) hS (fun q9 _ h9 => hF1692 q9 h9) hF1692 (fun u1696 r1697 t1696 H1696 L1696 ht1696 hvm1696 hw1696 hB1696 hz1696 hk1696 hS => ?_)
  obtain ⟨hr1696, hB1696⟩ := hB1696
  obtain ⟨hP, hD, hK⟩ := pq_jn (wz := [(h0, ce21 h1 h2 h3 h4), (h1, ce331 h5), (h2, ce3 z.1), (h4, ce366 h7), (h5, ce330 kc0 h8 h9 h10 h11 h12 h13 h14), (h7, ce330 kc2 (z.2.2.1 128) (z.2.2.1 129) (z.2.2.1 130) (z.2.2.1 131) (z.2.2.1 132) (z.2.2.1 133) (z.2.2.1 134)), (h8, ce49), (h9, ce49), (h10, ce49), (h11, ce49), (h12, ce49), (h13, ce49), (h14, ce49), (a1685, ce372 h3), (h3, ce331 h6), (h6, ce330 kc1 (z.2.2.1 128) (z.2.2.1 128) (z.2.2.1 128) (z.2.2.1 128) (z.2.2.1 128) (z.2.2.1 128) (z.2.2.1 128))]) (tz := [(kc0, .object "java/lang/Object"), (kc2, .object "java/lang/Object"), (kc1, .object "java/lang/Object")]) hP hD hK [15, 14, 5] [0, 2] rfl hk1696 hF1692 hB1696.1 ht1696 hvm1696 rfl rfl
  have hG : s.heap.size + 1711 ≤ H1696.size := Nat.le_trans hG hz1696
  refine W.eq (g2 := F0 m 58 ls [.ref (z.2.2.1 128)]) (by rw [hr1696]) ?_
  refine va_castE (nm := "java/lang/Integer") hx hb hown (hts _ q_320) (va_Orecv (hX.2.2.1.1.1 128 (by decide)) hS) dX9_shown_58 ?_
  have hM1700 := k74_intValue l hl9 dC dI z H1696.size
  obtain ⟨hF1698, hC1701⟩ := pc_M hM1700 hP hD hK hS hX hT hA [] [] rfl rfl rfl
  refine va_calli (va_runV (As := []) (rest := []) ⟨hx, hb, hml, hown, hts⟩ hM1700 (cwV 0 hts (gV q_323 q_324 q_325 q_297 q_322) rfl rfl rfl hV_J6_intValue_8abf5 ⟨Nat.le_of_ble_eq_true rfl, Nat.le_of_ble_eq_true rfl⟩) ⟨pc_blind, va_Orecv (hX.2.2.1.1.1 128 (by decide)) hS, fun U hU hW => ⟨rfl, hC1701 U hU hW⟩⟩ rfl rfl hl.1 rfl (lv_room (Nat.le_of_ble_eq_true rfl)) dX9_shown_61 ⟨(Nat.le_of_ble_eq_true rfl), (Nat.le_of_ble_eq_true rfl)⟩) hS (fun q9 _ h9 => hF1698 q9 h9) hF1698 (fun r1703 u1702 t1702 H1702 L1702 ht1702 hvm1702 hw1702 hB1702 hz1702 hk1702 hS => ?_)
  have hP := pq_keep hP hD [] rfl hk1702 hB1702.1 ht1702
  have hG : s.heap.size + 1711 ≤ H1702.size := Nat.le_trans hG hz1702
  refine W.eq (g2 := F0 m 64 ls [.int 0]) (by rw [hw1702]) ?_
  refine lv_istore (lv' := [(6, .int 0), (5, .ref a1685), (4, .int 0), (3, .int 49), (1, .int 0), (2, .int 4), (0, .ref h0)]) hx hb dX9_shown_64 hl (by decide) rfl (fun ls hl => ?_)
  refine lv_iload hx hb dX9_shown_66 (lv_at hl 2 rfl) ?_
  refine lv_if_ne (tgt := 82) hx hb dX9_shown_68 (by decide) (fun cz => absurd (by decide) cz) (fun _ => ?_)
  refine lv_aload_n hx hb dX9_shown_71 rfl (lv_at hl 6 rfl) ?_
  refine lv_iload_n hx hb dX9_shown_72 rfl (lv_at hl 5 rfl) ?_
  refine lv_iload_n hx hb dX9_shown_73 rfl (lv_at hl 3 rfl) ?_
  refine lv_iload hx hb dX9_shown_74 (lv_at hl 0 rfl) ?_
  have hM1706 := k977_showsIt l hl9 dC dI z h0 h1 h2 h4 h5 h7 h8 h9 h10 h11 h12 h13 h14 h3 H1702.size kc0 kc2
  obtain ⟨hF1704, hC1707⟩ := pc_M hM1706 hP hD hK hS hX hT hA [0, 1, 2, 3, 4, 5, 6, 7, 8, 9, 10, 11, 12] [0, 1] rfl rfl rfl
  refine va_calli (va_runV (As := [.int 4, .int 49, .int 0]) (rest := []) ⟨hx, hb, hml, hown, hts⟩ hM1706 (cwV 3 hts (gV q_429 q_430 q_431 q_60 q_428) rfl rfl rfl hV_X9_showsIt ⟨Nat.le_of_ble_eq_true rfl, Nat.le_of_ble_eq_true rfl⟩) ⟨pc_blind, va_recv hK hP (ci := 8) (q := (RX9, TX9, 6)) (q0 := 0) rfl rfl, fun U hU hW => ⟨rfl, hC1707 U hU hW⟩⟩ rfl rfl hl.1 rfl (lv_room (Nat.le_of_ble_eq_true rfl)) dX9_shown_76 ⟨(Nat.le_of_ble_eq_true rfl), (Nat.le_of_ble_eq_true rfl)⟩) hS (fun q9 _ h9 => hF1704 q9 h9) hF1704 (fun r1709 u1708 t1708 H1708 L1708 ht1708 hvm1708 hw1708 hB1708 hz1708 hk1708 hS => ?_)
  have hP := pq_keep hP hD [0, 1, 2, 3, 4, 5, 6, 7, 8, 9, 10, 11, 12] rfl hk1708 hB1708.1 ht1708
  have hG : s.heap.size + 1738 ≤ H1708.size := va_gr (g := 1711) (g1 := 27) hG (by rw [← ht1708]; exact hB1708.2)
  refine W.eq (g2 := F0 m 79 ls [.int 0]) (by rw [hw1708]) ?_
  refine W.widen (k := 1738) (n := 16168) (by decide) (by decide) ?_
  refine lv_if_eq (tgt := 86) hx hb dX9_shown_79 (by decide) (fun _ => ?_) (fun cz => absurd (by decide) cz)
  refine lv_iconst (v := 0) hx hb dX9_shown_86 (by decide) ?_
  refine lv_istore (lv' := [(4, .int 0), (6, .int 0), (5, .ref a1685), (3, .int 49), (1, .int 0), (2, .int 4), (0, .ref h0)]) hx hb dX9_shown_87 hl (by decide) rfl (fun ls hl => ?_)
  refine lv_goto (tgt := 41) hx hb dX9_shown_89 (by decide) ?_
  refine lv_aload hx hb dX9_shown_41 (lv_at hl 2 rfl) ?_
  have hM1712 := k728_hasNext l hl9 dC dI z a1685 h3 h6 H1708.size
  obtain ⟨hF1710, hC1713⟩ := pc_M hM1712 hP hD hK hS hX hT hA [13, 14] [] rfl rfl rfl
  refine va_callFi (va_runF (As := []) (rest := []) (hK.1 1 (RJx35411, TJx35411, 4) rfl).2 ⟨hx, hb, hml, hown, hts⟩ hM1712 (va_cwF 0 hts (gF q_261 q_262 q_263 q_246 q_260) rfl rfl rfl hT.2.2.2.2.2.2.1 hF_xIh ⟨Nat.le_of_ble_eq_true rfl, Nat.le_of_ble_eq_true rfl⟩) ⟨pc_blind, va_recv hK hP (ci := 1) (q := (RJx35411, TJx35411, 4)) (q0 := 13) rfl rfl, fun U hU hW => ⟨rfl, hC1713 U hU hW⟩⟩ rfl rfl hl.1 rfl (lv_room (Nat.le_of_ble_eq_true rfl)) dX9_shown_43 ⟨(Nat.le_of_ble_eq_true rfl), (Nat.le_of_ble_eq_true rfl)⟩) hS (fun q9 _ h9 => hF1710 q9 h9) hF1710 (fun r1715 u1714 t1714 H1714 L1714 ht1714 hvm1714 hw1714 hB1714 hz1714 hk1714 hS => ?_)
  have hP := pq_keep hP hD [13, 14] rfl hk1714 hB1714.1 ht1714
  have hG : s.heap.size + 1738 ≤ H1714.size := Nat.le_trans hG hz1714
  refine W.eq (g2 := F0 m 48 ls [.int 1]) (by rw [hw1714]) ?_
  refine lv_if_eq (tgt := 92) hx hb dX9_shown_48 (by decide) (fun cz => absurd cz (by decide)) (fun _ => ?_)
  refine lv_aload hx hb dX9_shown_51 (lv_at hl 2 rfl) ?_
  have hM1718 := k954_next l hl9 dC dI z a1685 h3 h6 H1714.size kc1
  obtain ⟨hF1716, hC1719⟩ := pc_M hM1718 hP hD hK hS hX hT hA [13, 14, 15] [2] rfl rfl rfl
  refine va_callFr (va_runF (As := []) (rest := []) (hK.1 1 (RJx35411, TJx35411, 4) rfl).2 ⟨hx, hb, hml, hown, hts⟩ hM1718 (va_cwF 0 hts (gF q_308 q_309 q_310 q_246 q_307) rfl rfl rfl hT.2.2.2.2.2.2.2.1 hF_xIn ⟨Nat.le_of_ble_eq_true rfl, Nat.le_of_ble_eq_true rfl⟩) ⟨pc_blind, va_recv hK hP (ci := 1) (q := (RJx35411, TJx35411, 4)) (q0 := 13) rfl rfl, fun U hU hW => ⟨rfl, hC1719 U hU hW⟩⟩ rfl rfl hl.1 rfl (lv_room (Nat.le_of_ble_eq_true rfl)) dX9_shown_53 ⟨(Nat.le_of_ble_eq_true rfl), (Nat.le_of_ble_eq_true rfl)⟩) hS (fun q9 _ h9 => hF1716 q9 h9) hF1716 (fun u1720 r1721 t1720 H1720 L1720 ht1720 hvm1720 hw1720 hB1720 hz1720 hk1720 hS => ?_)
  obtain ⟨hr1720, hB1720⟩ := hB1720
  obtain ⟨hP, hD, hK⟩ := pq_jn (wz := [(h0, ce21 h1 h2 h3 h4), (h1, ce331 h5), (h2, ce3 z.1), (h4, ce366 h7), (h5, ce330 kc0 h8 h9 h10 h11 h12 h13 h14), (h7, ce330 kc2 (z.2.2.1 128) (z.2.2.1 129) (z.2.2.1 130) (z.2.2.1 131) (z.2.2.1 132) (z.2.2.1 133) (z.2.2.1 134)), (h8, ce49), (h9, ce49), (h10, ce49), (h11, ce49), (h12, ce49), (h13, ce49), (h14, ce49), (a1685, ce374 h3), (h3, ce331 h6), (h6, ce330 kc1 (z.2.2.1 128) (z.2.2.1 128) (z.2.2.1 128) (z.2.2.1 128) (z.2.2.1 128) (z.2.2.1 128) (z.2.2.1 128))]) (tz := [(kc0, .object "java/lang/Object"), (kc2, .object "java/lang/Object"), (kc1, .object "java/lang/Object")]) hP hD hK [13, 14, 15] [0, 1] rfl hk1720 hF1716 hB1720.1 ht1720 hvm1720 rfl rfl
  have hG : s.heap.size + 1738 ≤ H1720.size := Nat.le_trans hG hz1720
  refine W.eq (g2 := F0 m 58 ls [.ref (z.2.2.1 128)]) (by rw [hr1720]) ?_
  refine va_castE (nm := "java/lang/Integer") hx hb hown (hts _ q_320) (va_Orecv (hX.2.2.1.1.1 128 (by decide)) hS) dX9_shown_58 ?_
  have hM1724 := k74_intValue l hl9 dC dI z H1720.size
  obtain ⟨hF1722, hC1725⟩ := pc_M hM1724 hP hD hK hS hX hT hA [] [] rfl rfl rfl
  refine va_calli (va_runV (As := []) (rest := []) ⟨hx, hb, hml, hown, hts⟩ hM1724 (cwV 0 hts (gV q_323 q_324 q_325 q_297 q_322) rfl rfl rfl hV_J6_intValue_8abf5 ⟨Nat.le_of_ble_eq_true rfl, Nat.le_of_ble_eq_true rfl⟩) ⟨pc_blind, va_Orecv (hX.2.2.1.1.1 128 (by decide)) hS, fun U hU hW => ⟨rfl, hC1725 U hU hW⟩⟩ rfl rfl hl.1 rfl (lv_room (Nat.le_of_ble_eq_true rfl)) dX9_shown_61 ⟨(Nat.le_of_ble_eq_true rfl), (Nat.le_of_ble_eq_true rfl)⟩) hS (fun q9 _ h9 => hF1722 q9 h9) hF1722 (fun r1727 u1726 t1726 H1726 L1726 ht1726 hvm1726 hw1726 hB1726 hz1726 hk1726 hS => ?_)
  have hP := pq_keep hP hD [] rfl hk1726 hB1726.1 ht1726
  have hG : s.heap.size + 1738 ≤ H1726.size := Nat.le_trans hG hz1726
  refine W.eq (g2 := F0 m 64 ls [.int 0]) (by rw [hw1726]) ?_
  refine lv_istore (lv' := [(6, .int 0), (4, .int 0), (5, .ref a1685), (3, .int 49), (1, .int 0), (2, .int 4), (0, .ref h0)]) hx hb dX9_shown_64 hl (by decide) rfl (fun ls hl => ?_)
  refine lv_iload hx hb dX9_shown_66 (lv_at hl 1 rfl) ?_
  refine lv_if_ne (tgt := 82) hx hb dX9_shown_68 (by decide) (fun cz => absurd (by decide) cz) (fun _ => ?_)
  refine lv_aload_n hx hb dX9_shown_71 rfl (lv_at hl 6 rfl) ?_
  refine lv_iload_n hx hb dX9_shown_72 rfl (lv_at hl 5 rfl) ?_
  refine lv_iload_n hx hb dX9_shown_73 rfl (lv_at hl 3 rfl) ?_
  refine lv_iload hx hb dX9_shown_74 (lv_at hl 0 rfl) ?_
  have hM1730 := k977_showsIt l hl9 dC dI z h0 h1 h2 h4 h5 h7 h8 h9 h10 h11 h12 h13 h14 h3 H1726.size kc0 kc2
  obtain ⟨hF1728, hC1731⟩ := pc_M hM1730 hP hD hK hS hX hT hA [0, 1, 2, 3, 4, 5, 6, 7, 8, 9, 10, 11, 12] [0, 1] rfl rfl rfl
  refine va_calli (va_runV (As := [.int 4, .int 49, .int 0]) (rest := []) ⟨hx, hb, hml, hown, hts⟩ hM1730 (cwV 3 hts (gV q_429 q_430 q_431 q_60 q_428) rfl rfl rfl hV_X9_showsIt ⟨Nat.le_of_ble_eq_true rfl, Nat.le_of_ble_eq_true rfl⟩) ⟨pc_blind, va_recv hK hP (ci := 8) (q := (RX9, TX9, 6)) (q0 := 0) rfl rfl, fun U hU hW => ⟨rfl, hC1731 U hU hW⟩⟩ rfl rfl hl.1 rfl (lv_room (Nat.le_of_ble_eq_true rfl)) dX9_shown_76 ⟨(Nat.le_of_ble_eq_true rfl), (Nat.le_of_ble_eq_true rfl)⟩) hS (fun q9 _ h9 => hF1728 q9 h9) hF1728 (fun r1733 u1732 t1732 H1732 L1732 ht1732 hvm1732 hw1732 hB1732 hz1732 hk1732 hS => ?_)
  have hP := pq_keep hP hD [0, 1, 2, 3, 4, 5, 6, 7, 8, 9, 10, 11, 12] rfl hk1732 hB1732.1 ht1732
  have hG : s.heap.size + 1765 ≤ H1732.size := va_gr (g := 1738) (g1 := 27) hG (by rw [← ht1732]; exact hB1732.2)
  refine W.eq (g2 := F0 m 79 ls [.int 0]) (by rw [hw1732]) ?_
  refine W.widen (k := 1765) (n := 16420) (by decide) (by decide) ?_
  refine lv_if_eq (tgt := 86) hx hb dX9_shown_79 (by decide) (fun _ => ?_) (fun cz => absurd (by decide) cz)
  refine lv_iconst (v := 0) hx hb dX9_shown_86 (by decide) ?_
  refine lv_istore (lv' := [(4, .int 0), (6, .int 0), (5, .ref a1685), (3, .int 49), (1, .int 0), (2, .int 4), (0, .ref h0)]) hx hb dX9_shown_87 hl (by decide) rfl (fun ls hl => ?_)
  refine lv_goto (tgt := 41) hx hb dX9_shown_89 (by decide) ?_
  refine lv_aload hx hb dX9_shown_41 (lv_at hl 2 rfl) ?_
  have hM1736 := k731_hasNext l hl9 dC dI z a1685 h3 h6 H1732.size
  obtain ⟨hF1734, hC1737⟩ := pc_M hM1736 hP hD hK hS hX hT hA [13, 14] [] rfl rfl rfl
  refine va_callFi (va_runF (As := []) (rest := []) (hK.1 1 (RJx35411, TJx35411, 4) rfl).2 ⟨hx, hb, hml, hown, hts⟩ hM1736 (va_cwF 0 hts (gF q_261 q_262 q_263 q_246 q_260) rfl rfl rfl hT.2.2.2.2.2.2.1 hF_xIh ⟨Nat.le_of_ble_eq_true rfl, Nat.le_of_ble_eq_true rfl⟩) ⟨pc_blind, va_recv hK hP (ci := 1) (q := (RJx35411, TJx35411, 4)) (q0 := 13) rfl rfl, fun U hU hW => ⟨rfl, hC1737 U hU hW⟩⟩ rfl rfl hl.1 rfl (lv_room (Nat.le_of_ble_eq_true rfl)) dX9_shown_43 ⟨(Nat.le_of_ble_eq_true rfl), (Nat.le_of_ble_eq_true rfl)⟩) hS (fun q9 _ h9 => hF1734 q9 h9) hF1734 (fun r1739 u1738 t1738 H1738 L1738 ht1738 hvm1738 hw1738 hB1738 hz1738 hk1738 hS => ?_)
  have hP := pq_keep hP hD [13, 14] rfl hk1738 hB1738.1 ht1738
  have hG : s.heap.size + 1765 ≤ H1738.size := Nat.le_trans hG hz1738
  refine W.eq (g2 := F0 m 48 ls [.int 1]) (by rw [hw1738]) ?_
  refine lv_if_eq (tgt := 92) hx hb dX9_shown_48 (by decide) (fun cz => absurd cz (by decide)) (fun _ => ?_)
  refine lv_aload hx hb dX9_shown_51 (lv_at hl 2 rfl) ?_
  have hM1742 := k955_next l hl9 dC dI z a1685 h3 h6 H1738.size kc1
  obtain ⟨hF1740, hC1743⟩ := pc_M hM1742 hP hD hK hS hX hT hA [13, 14, 15] [2] rfl rfl rfl
  refine va_callFr (va_runF (As := []) (rest := []) (hK.1 1 (RJx35411, TJx35411, 4) rfl).2 ⟨hx, hb, hml, hown, hts⟩ hM1742 (va_cwF 0 hts (gF q_308 q_309 q_310 q_246 q_307) rfl rfl rfl hT.2.2.2.2.2.2.2.1 hF_xIn ⟨Nat.le_of_ble_eq_true rfl, Nat.le_of_ble_eq_true rfl⟩) ⟨pc_blind, va_recv hK hP (ci := 1) (q := (RJx35411, TJx35411, 4)) (q0 := 13) rfl rfl, fun U hU hW => ⟨rfl, hC1743 U hU hW⟩⟩ rfl rfl hl.1 rfl (lv_room (Nat.le_of_ble_eq_true rfl)) dX9_shown_53 ⟨(Nat.le_of_ble_eq_true rfl), (Nat.le_of_ble_eq_true rfl)⟩) hS (fun q9 _ h9 => hF1740 q9 h9) hF1740 (fun u1744 r1745 t1744 H1744 L1744 ht1744 hvm1744 hw1744 hB1744 hz1744 hk1744 hS => ?_)
  obtain ⟨hr1744, hB1744⟩ := hB1744
  obtain ⟨hP, hD, hK⟩ := pq_jn (wz := [(h0, ce21 h1 h2 h3 h4), (h1, ce331 h5), (h2, ce3 z.1), (h4, ce366 h7), (h5, ce330 kc0 h8 h9 h10 h11 h12 h13 h14), (h7, ce330 kc2 (z.2.2.1 128) (z.2.2.1 129) (z.2.2.1 130) (z.2.2.1 131) (z.2.2.1 132) (z.2.2.1 133) (z.2.2.1 134)), (h8, ce49), (h9, ce49), (h10, ce49), (h11, ce49), (h12, ce49), (h13, ce49), (h14, ce49), (a1685, ce376 h3), (h3, ce331 h6), (h6, ce330 kc1 (z.2.2.1 128) (z.2.2.1 128) (z.2.2.1 128) (z.2.2.1 128) (z.2.2.1 128) (z.2.2.1 128) (z.2.2.1 128))]) (tz := [(kc0, .object "java/lang/Object"), (kc2, .object "java/lang/Object"), (kc1, .object "java/lang/Object")]) hP hD hK [13, 14, 15] [0, 1] rfl hk1744 hF1740 hB1744.1 ht1744 hvm1744 rfl rfl
  have hG : s.heap.size + 1765 ≤ H1744.size := Nat.le_trans hG hz1744
  refine W.eq (g2 := F0 m 58 ls [.ref (z.2.2.1 128)]) (by rw [hr1744]) ?_
  refine va_castE (nm := "java/lang/Integer") hx hb hown (hts _ q_320) (va_Orecv (hX.2.2.1.1.1 128 (by decide)) hS) dX9_shown_58 ?_
  have hM1748 := k74_intValue l hl9 dC dI z H1744.size
  obtain ⟨hF1746, hC1749⟩ := pc_M hM1748 hP hD hK hS hX hT hA [] [] rfl rfl rfl
  refine va_calli (va_runV (As := []) (rest := []) ⟨hx, hb, hml, hown, hts⟩ hM1748 (cwV 0 hts (gV q_323 q_324 q_325 q_297 q_322) rfl rfl rfl hV_J6_intValue_8abf5 ⟨Nat.le_of_ble_eq_true rfl, Nat.le_of_ble_eq_true rfl⟩) ⟨pc_blind, va_Orecv (hX.2.2.1.1.1 128 (by decide)) hS, fun U hU hW => ⟨rfl, hC1749 U hU hW⟩⟩ rfl rfl hl.1 rfl (lv_room (Nat.le_of_ble_eq_true rfl)) dX9_shown_61 ⟨(Nat.le_of_ble_eq_true rfl), (Nat.le_of_ble_eq_true rfl)⟩) hS (fun q9 _ h9 => hF1746 q9 h9) hF1746 (fun r1751 u1750 t1750 H1750 L1750 ht1750 hvm1750 hw1750 hB1750 hz1750 hk1750 hS => ?_)
  have hP := pq_keep hP hD [] rfl hk1750 hB1750.1 ht1750
  have hG : s.heap.size + 1765 ≤ H1750.size := Nat.le_trans hG hz1750
  refine W.eq (g2 := F0 m 64 ls [.int 0]) (by rw [hw1750]) ?_
  refine lv_istore (lv' := [(6, .int 0), (4, .int 0), (5, .ref a1685), (3, .int 49), (1, .int 0), (2, .int 4), (0, .ref h0)]) hx hb dX9_shown_64 hl (by decide) rfl (fun ls hl => ?_)
  refine lv_iload hx hb dX9_shown_66 (lv_at hl 1 rfl) ?_
  refine lv_if_ne (tgt := 82) hx hb dX9_shown_68 (by decide) (fun cz => absurd (by decide) cz) (fun _ => ?_)
  refine lv_aload_n hx hb dX9_shown_71 rfl (lv_at hl 6 rfl) ?_
  refine lv_iload_n hx hb dX9_shown_72 rfl (lv_at hl 5 rfl) ?_
  refine lv_iload_n hx hb dX9_shown_73 rfl (lv_at hl 3 rfl) ?_
  refine lv_iload hx hb dX9_shown_74 (lv_at hl 0 rfl) ?_
  have hM1754 := k977_showsIt l hl9 dC dI z h0 h1 h2 h4 h5 h7 h8 h9 h10 h11 h12 h13 h14 h3 H1750.size kc0 kc2
  obtain ⟨hF1752, hC1755⟩ := pc_M hM1754 hP hD hK hS hX hT hA [0, 1, 2, 3, 4, 5, 6, 7, 8, 9, 10, 11, 12] [0, 1] rfl rfl rfl
  refine va_calli (va_runV (As := [.int 4, .int 49, .int 0]) (rest := []) ⟨hx, hb, hml, hown, hts⟩ hM1754 (cwV 3 hts (gV q_429 q_430 q_431 q_60 q_428) rfl rfl rfl hV_X9_showsIt ⟨Nat.le_of_ble_eq_true rfl, Nat.le_of_ble_eq_true rfl⟩) ⟨pc_blind, va_recv hK hP (ci := 8) (q := (RX9, TX9, 6)) (q0 := 0) rfl rfl, fun U hU hW => ⟨rfl, hC1755 U hU hW⟩⟩ rfl rfl hl.1 rfl (lv_room (Nat.le_of_ble_eq_true rfl)) dX9_shown_76 ⟨(Nat.le_of_ble_eq_true rfl), (Nat.le_of_ble_eq_true rfl)⟩) hS (fun q9 _ h9 => hF1752 q9 h9) hF1752 (fun r1757 u1756 t1756 H1756 L1756 ht1756 hvm1756 hw1756 hB1756 hz1756 hk1756 hS => ?_)
  have hP := pq_keep hP hD [0, 1, 2, 3, 4, 5, 6, 7, 8, 9, 10, 11, 12] rfl hk1756 hB1756.1 ht1756
  have hG : s.heap.size + 1792 ≤ H1756.size := va_gr (g := 1765) (g1 := 27) hG (by rw [← ht1756]; exact hB1756.2)
  refine W.eq (g2 := F0 m 79 ls [.int 0]) (by rw [hw1756]) ?_
  refine W.widen (k := 1792) (n := 16672) (by decide) (by decide) ?_
  refine lv_if_eq (tgt := 86) hx hb dX9_shown_79 (by decide) (fun _ => ?_) (fun cz => absurd (by decide) cz)
  refine lv_iconst (v := 0) hx hb dX9_shown_86 (by decide) ?_
  refine lv_istore (lv' := [(4, .int 0), (6, .int 0), (5, .ref a1685), (3, .int 49), (1, .int 0), (2, .int 4), (0, .ref h0)]) hx hb dX9_shown_87 hl (by decide) rfl (fun ls hl => ?_)
  refine lv_goto (tgt := 41) hx hb dX9_shown_89 (by decide) ?_
  refine lv_aload hx hb dX9_shown_41 (lv_at hl 2 rfl) ?_
  have hM1760 := k734_hasNext l hl9 dC dI z a1685 h3 h6 H1756.size
  obtain ⟨hF1758, hC1761⟩ := pc_M hM1760 hP hD hK hS hX hT hA [13, 14] [] rfl rfl rfl
  refine va_callFi (va_runF (As := []) (rest := []) (hK.1 1 (RJx35411, TJx35411, 4) rfl).2 ⟨hx, hb, hml, hown, hts⟩ hM1760 (va_cwF 0 hts (gF q_261 q_262 q_263 q_246 q_260) rfl rfl rfl hT.2.2.2.2.2.2.1 hF_xIh ⟨Nat.le_of_ble_eq_true rfl, Nat.le_of_ble_eq_true rfl⟩) ⟨pc_blind, va_recv hK hP (ci := 1) (q := (RJx35411, TJx35411, 4)) (q0 := 13) rfl rfl, fun U hU hW => ⟨rfl, hC1761 U hU hW⟩⟩ rfl rfl hl.1 rfl (lv_room (Nat.le_of_ble_eq_true rfl)) dX9_shown_43 ⟨(Nat.le_of_ble_eq_true rfl), (Nat.le_of_ble_eq_true rfl)⟩) hS (fun q9 _ h9 => hF1758 q9 h9) hF1758 (fun r1763 u1762 t1762 H1762 L1762 ht1762 hvm1762 hw1762 hB1762 hz1762 hk1762 hS => ?_)
  have hP := pq_keep hP hD [13, 14] rfl hk1762 hB1762.1 ht1762
  have hG : s.heap.size + 1792 ≤ H1762.size := Nat.le_trans hG hz1762
  refine W.eq (g2 := F0 m 48 ls [.int 1]) (by rw [hw1762]) ?_
  refine lv_if_eq (tgt := 92) hx hb dX9_shown_48 (by decide) (fun cz => absurd cz (by decide)) (fun _ => ?_)
  refine lv_aload hx hb dX9_shown_51 (lv_at hl 2 rfl) ?_
  have hM1766 := k956_next l hl9 dC dI z a1685 h3 h6 H1762.size kc1
  obtain ⟨hF1764, hC1767⟩ := pc_M hM1766 hP hD hK hS hX hT hA [13, 14, 15] [2] rfl rfl rfl
  refine va_callFr (va_runF (As := []) (rest := []) (hK.1 1 (RJx35411, TJx35411, 4) rfl).2 ⟨hx, hb, hml, hown, hts⟩ hM1766 (va_cwF 0 hts (gF q_308 q_309 q_310 q_246 q_307) rfl rfl rfl hT.2.2.2.2.2.2.2.1 hF_xIn ⟨Nat.le_of_ble_eq_true rfl, Nat.le_of_ble_eq_true rfl⟩) ⟨pc_blind, va_recv hK hP (ci := 1) (q := (RJx35411, TJx35411, 4)) (q0 := 13) rfl rfl, fun U hU hW => ⟨rfl, hC1767 U hU hW⟩⟩ rfl rfl hl.1 rfl (lv_room (Nat.le_of_ble_eq_true rfl)) dX9_shown_53 ⟨(Nat.le_of_ble_eq_true rfl), (Nat.le_of_ble_eq_true rfl)⟩) hS (fun q9 _ h9 => hF1764 q9 h9) hF1764 (fun u1768 r1769 t1768 H1768 L1768 ht1768 hvm1768 hw1768 hB1768 hz1768 hk1768 hS => ?_)
  obtain ⟨hr1768, hB1768⟩ := hB1768
  obtain ⟨hP, hD, hK⟩ := pq_jn (wz := [(h0, ce21 h1 h2 h3 h4), (h1, ce331 h5), (h2, ce3 z.1), (h4, ce366 h7), (h5, ce330 kc0 h8 h9 h10 h11 h12 h13 h14), (h7, ce330 kc2 (z.2.2.1 128) (z.2.2.1 129) (z.2.2.1 130) (z.2.2.1 131) (z.2.2.1 132) (z.2.2.1 133) (z.2.2.1 134)), (h8, ce49), (h9, ce49), (h10, ce49), (h11, ce49), (h12, ce49), (h13, ce49), (h14, ce49), (a1685, ce378 h3), (h3, ce331 h6), (h6, ce330 kc1 (z.2.2.1 128) (z.2.2.1 128) (z.2.2.1 128) (z.2.2.1 128) (z.2.2.1 128) (z.2.2.1 128) (z.2.2.1 128))]) (tz := [(kc0, .object "java/lang/Object"), (kc2, .object "java/lang/Object"), (kc1, .object "java/lang/Object")]) hP hD hK [13, 14, 15] [0, 1] rfl hk1768 hF1764 hB1768.1 ht1768 hvm1768 rfl rfl
  have hG : s.heap.size + 1792 ≤ H1768.size := Nat.le_trans hG hz1768
  refine W.eq (g2 := F0 m 58 ls [.ref (z.2.2.1 128)]) (by rw [hr1768]) ?_
  refine va_castE (nm := "java/lang/Integer") hx hb hown (hts _ q_320) (va_Orecv (hX.2.2.1.1.1 128 (by decide)) hS) dX9_shown_58 ?_
  have hM1772 := k74_intValue l hl9 dC dI z H1768.size
  obtain ⟨hF1770, hC1773⟩ := pc_M hM1772 hP hD hK hS hX hT hA [] [] rfl rfl rfl
  refine va_calli (va_runV (As := []) (rest := []) ⟨hx, hb, hml, hown, hts⟩ hM1772 (cwV 0 hts (gV q_323 q_324 q_325 q_297 q_322) rfl rfl rfl hV_J6_intValue_8abf5 ⟨Nat.le_of_ble_eq_true rfl, Nat.le_of_ble_eq_true rfl⟩) ⟨pc_blind, va_Orecv (hX.2.2.1.1.1 128 (by decide)) hS, fun U hU hW => ⟨rfl, hC1773 U hU hW⟩⟩ rfl rfl hl.1 rfl (lv_room (Nat.le_of_ble_eq_true rfl)) dX9_shown_61 ⟨(Nat.le_of_ble_eq_true rfl), (Nat.le_of_ble_eq_true rfl)⟩) hS (fun q9 _ h9 => hF1770 q9 h9) hF1770 (fun r1775 u1774 t1774 H1774 L1774 ht1774 hvm1774 hw1774 hB1774 hz1774 hk1774 hS => ?_)
  have hP := pq_keep hP hD [] rfl hk1774 hB1774.1 ht1774
  have hG : s.heap.size + 1792 ≤ H1774.size := Nat.le_trans hG hz1774
  refine W.eq (g2 := F0 m 64 ls [.int 0]) (by rw [hw1774]) ?_
  refine lv_istore (lv' := [(6, .int 0), (4, .int 0), (5, .ref a1685), (3, .int 49), (1, .int 0), (2, .int 4), (0, .ref h0)]) hx hb dX9_shown_64 hl (by decide) rfl (fun ls hl => ?_)
  refine lv_iload hx hb dX9_shown_66 (lv_at hl 1 rfl) ?_
  refine lv_if_ne (tgt := 82) hx hb dX9_shown_68 (by decide) (fun cz => absurd (by decide) cz) (fun _ => ?_)
  refine lv_aload_n hx hb dX9_shown_71 rfl (lv_at hl 6 rfl) ?_
  refine lv_iload_n hx hb dX9_shown_72 rfl (lv_at hl 5 rfl) ?_
  refine lv_iload_n hx hb dX9_shown_73 rfl (lv_at hl 3 rfl) ?_
  refine lv_iload hx hb dX9_shown_74 (lv_at hl 0 rfl) ?_
  have hM1778 := k977_showsIt l hl9 dC dI z h0 h1 h2 h4 h5 h7 h8 h9 h10 h11 h12 h13 h14 h3 H1774.size kc0 kc2
  obtain ⟨hF1776, hC1779⟩ := pc_M hM1778 hP hD hK hS hX hT hA [0, 1, 2, 3, 4, 5, 6, 7, 8, 9, 10, 11, 12] [0, 1] rfl rfl rfl
  refine va_calli (va_runV (As := [.int 4, .int 49, .int 0]) (rest := []) ⟨hx, hb, hml, hown, hts⟩ hM1778 (cwV 3 hts (gV q_429 q_430 q_431 q_60 q_428) rfl rfl rfl hV_X9_showsIt ⟨Nat.le_of_ble_eq_true rfl, Nat.le_of_ble_eq_true rfl⟩) ⟨pc_blind, va_recv hK hP (ci := 8) (q := (RX9, TX9, 6)) (q0 := 0) rfl rfl, fun U hU hW => ⟨rfl, hC1779 U hU hW⟩⟩ rfl rfl hl.1 rfl (lv_room (Nat.le_of_ble_eq_true rfl)) dX9_shown_76 ⟨(Nat.le_of_ble_eq_true rfl), (Nat.le_of_ble_eq_true rfl)⟩) hS (fun q9 _ h9 => hF1776 q9 h9) hF1776 (fun r1781 u1780 t1780 H1780 L1780 ht1780 hvm1780 hw1780 hB1780 hz1780 hk1780 hS => ?_)
  have hP := pq_keep hP hD [0, 1, 2, 3, 4, 5, 6, 7, 8, 9, 10, 11, 12] rfl hk1780 hB1780.1 ht1780
  have hG : s.heap.size + 1819 ≤ H1780.size := va_gr (g := 1792) (g1 := 27) hG (by rw [← ht1780]; exact hB1780.2)
  refine W.eq (g2 := F0 m 79 ls [.int 0]) (by rw [hw1780]) ?_
  refine W.widen (k := 1819) (n := 16924) (by decide) (by decide) ?_
  refine lv_if_eq (tgt := 86) hx hb dX9_shown_79 (by decide) (fun _ => ?_) (fun cz => absurd (by decide) cz)
  refine lv_iconst (v := 0) hx hb dX9_shown_86 (by decide) ?_
  refine lv_istore (lv' := [(4, .int 0), (6, .int 0), (5, .ref a1685), (3, .int 49), (1, .int 0), (2, .int 4), (0, .ref h0)]) hx hb dX9_shown_87 hl (by decide) rfl (fun ls hl => ?_)
  refine lv_goto (tgt := 41) hx hb dX9_shown_89 (by decide) ?_
  refine lv_aload hx hb dX9_shown_41 (lv_at hl 2 rfl) ?_
  have hM1784 := k737_hasNext l hl9 dC dI z a1685 h3 h6 H1780.size
  obtain ⟨hF1782, hC1785⟩ := pc_M hM1784 hP hD hK hS hX hT hA [13, 14] [] rfl rfl rfl
  refine va_callFi (va_runF (As := []) (rest := []) (hK.1 1 (RJx35411, TJx35411, 4) rfl).2 ⟨hx, hb, hml, hown, hts⟩ hM1784 (va_cwF 0 hts (gF q_261 q_262 q_263 q_246 q_260) rfl rfl rfl hT.2.2.2.2.2.2.1 hF_xIh ⟨Nat.le_of_ble_eq_true rfl, Nat.le_of_ble_eq_true rfl⟩) ⟨pc_blind, va_recv hK hP (ci := 1) (q := (RJx35411, TJx35411, 4)) (q0 := 13) rfl rfl, fun U hU hW => ⟨rfl, hC1785 U hU hW⟩⟩ rfl rfl hl.1 rfl (lv_room (Nat.le_of_ble_eq_true rfl)) dX9_shown_43 ⟨(Nat.le_of_ble_eq_true rfl), (Nat.le_of_ble_eq_true rfl)⟩) hS (fun q9 _ h9 => hF1782 q9 h9) hF1782 (fun r1787 u1786 t1786 H1786 L1786 ht1786 hvm1786 hw1786 hB1786 hz1786 hk1786 hS => ?_)
  have hP := pq_keep hP hD [13, 14] rfl hk1786 hB1786.1 ht1786
  have hG : s.heap.size + 1819 ≤ H1786.size := Nat.le_trans hG hz1786
  refine W.eq (g2 := F0 m 48 ls [.int 1]) (by rw [hw1786]) ?_
  refine lv_if_eq (tgt := 92) hx hb dX9_shown_48 (by decide) (fun cz => absurd cz (by decide)) (fun _ => ?_)
  refine lv_aload hx hb dX9_shown_51 (lv_at hl 2 rfl) ?_
  have hM1790 := k957_next l hl9 dC dI z a1685 h3 h6 H1786.size kc1
  obtain ⟨hF1788, hC1791⟩ := pc_M hM1790 hP hD hK hS hX hT hA [13, 14, 15] [2] rfl rfl rfl
  refine va_callFr (va_runF (As := []) (rest := []) (hK.1 1 (RJx35411, TJx35411, 4) rfl).2 ⟨hx, hb, hml, hown, hts⟩ hM1790 (va_cwF 0 hts (gF q_308 q_309 q_310 q_246 q_307) rfl rfl rfl hT.2.2.2.2.2.2.2.1 hF_xIn ⟨Nat.le_of_ble_eq_true rfl, Nat.le_of_ble_eq_true rfl⟩) ⟨pc_blind, va_recv hK hP (ci := 1) (q := (RJx35411, TJx35411, 4)) (q0 := 13) rfl rfl, fun U hU hW => ⟨rfl, hC1791 U hU hW⟩⟩ rfl rfl hl.1 rfl (lv_room (Nat.le_of_ble_eq_true rfl)) dX9_shown_53 ⟨(Nat.le_of_ble_eq_true rfl), (Nat.le_of_ble_eq_true rfl)⟩) hS (fun q9 _ h9 => hF1788 q9 h9) hF1788 (fun u1792 r1793 t1792 H1792 L1792 ht1792 hvm1792 hw1792 hB1792 hz1792 hk1792 hS => ?_)
  obtain ⟨hr1792, hB1792⟩ := hB1792
  obtain ⟨hP, hD, hK⟩ := pq_jn (wz := [(h0, ce21 h1 h2 h3 h4), (h1, ce331 h5), (h2, ce3 z.1), (h4, ce366 h7), (h5, ce330 kc0 h8 h9 h10 h11 h12 h13 h14), (h7, ce330 kc2 (z.2.2.1 128) (z.2.2.1 129) (z.2.2.1 130) (z.2.2.1 131) (z.2.2.1 132) (z.2.2.1 133) (z.2.2.1 134)), (h8, ce49), (h9, ce49), (h10, ce49), (h11, ce49), (h12, ce49), (h13, ce49), (h14, ce49), (a1685, ce380 h3), (h3, ce331 h6), (h6, ce330 kc1 (z.2.2.1 128) (z.2.2.1 128) (z.2.2.1 128) (z.2.2.1 128) (z.2.2.1 128) (z.2.2.1 128) (z.2.2.1 128))]) (tz := [(kc0, .object "java/lang/Object"), (kc2, .object "java/lang/Object"), (kc1, .object "java/lang/Object")]) hP hD hK [13, 14, 15] [0, 1] rfl hk1792 hF1788 hB1792.1 ht1792 hvm1792 rfl rfl
  have hG : s.heap.size + 1819 ≤ H1792.size := Nat.le_trans hG hz1792
  refine W.eq (g2 := F0 m 58 ls [.ref (z.2.2.1 128)]) (by rw [hr1792]) ?_
  refine va_castE (nm := "java/lang/Integer") hx hb hown (hts _ q_320) (va_Orecv (hX.2.2.1.1.1 128 (by decide)) hS) dX9_shown_58 ?_
  have hM1796 := k74_intValue l hl9 dC dI z H1792.size
  obtain ⟨hF1794, hC1797⟩ := pc_M hM1796 hP hD hK hS hX hT hA [] [] rfl rfl rfl
  refine va_calli (va_runV (As := []) (rest := []) ⟨hx, hb, hml, hown, hts⟩ hM1796 (cwV 0 hts (gV q_323 q_324 q_325 q_297 q_322) rfl rfl rfl hV_J6_intValue_8abf5 ⟨Nat.le_of_ble_eq_true rfl, Nat.le_of_ble_eq_true rfl⟩) ⟨pc_blind, va_Orecv (hX.2.2.1.1.1 128 (by decide)) hS, fun U hU hW => ⟨rfl, hC1797 U hU hW⟩⟩ rfl rfl hl.1 rfl (lv_room (Nat.le_of_ble_eq_true rfl)) dX9_shown_61 ⟨(Nat.le_of_ble_eq_true rfl), (Nat.le_of_ble_eq_true rfl)⟩) hS (fun q9 _ h9 => hF1794 q9 h9) hF1794 (fun r1799 u1798 t1798 H1798 L1798 ht1798 hvm1798 hw1798 hB1798 hz1798 hk1798 hS => ?_)
  have hP := pq_keep hP hD [] rfl hk1798 hB1798.1 ht1798
  have hG : s.heap.size + 1819 ≤ H1798.size := Nat.le_trans hG hz1798
  refine W.eq (g2 := F0 m 64 ls [.int 0]) (by rw [hw1798]) ?_
  refine lv_istore (lv' := [(6, .int 0), (4, .int 0), (5, .ref a1685), (3, .int 49), (1, .int 0), (2, .int 4), (0, .ref h0)]) hx hb dX9_shown_64 hl (by decide) rfl (fun ls hl => ?_)
  refine lv_iload hx hb dX9_shown_66 (lv_at hl 1 rfl) ?_
  refine lv_if_ne (tgt := 82) hx hb dX9_shown_68 (by decide) (fun cz => absurd (by decide) cz) (fun _ => ?_)
  refine lv_aload_n hx hb dX9_shown_71 rfl (lv_at hl 6 rfl) ?_
  refine lv_iload_n hx hb dX9_shown_72 rfl (lv_at hl 5 rfl) ?_
  refine lv_iload_n hx hb dX9_shown_73 rfl (lv_at hl 3 rfl) ?_
  refine lv_iload hx hb dX9_shown_74 (lv_at hl 0 rfl) ?_
  have hM1802 := k977_showsIt l hl9 dC dI z h0 h1 h2 h4 h5 h7 h8 h9 h10 h11 h12 h13 h14 h3 H1798.size kc0 kc2
  obtain ⟨hF1800, hC1803⟩ := pc_M hM1802 hP hD hK hS hX hT hA [0, 1, 2, 3, 4, 5, 6, 7, 8, 9, 10, 11, 12] [0, 1] rfl rfl rfl
  refine va_calli (va_runV (As := [.int 4, .int 49, .int 0]) (rest := []) ⟨hx, hb, hml, hown, hts⟩ hM1802 (cwV 3 hts (gV q_429 q_430 q_431 q_60 q_428) rfl rfl rfl hV_X9_showsIt ⟨Nat.le_of_ble_eq_true rfl, Nat.le_of_ble_eq_true rfl⟩) ⟨pc_blind, va_recv hK hP (ci := 8) (q := (RX9, TX9, 6)) (q0 := 0) rfl rfl, fun U hU hW => ⟨rfl, hC1803 U hU hW⟩⟩ rfl rfl hl.1 rfl (lv_room (Nat.le_of_ble_eq_true rfl)) dX9_shown_76 ⟨(Nat.le_of_ble_eq_true rfl), (Nat.le_of_ble_eq_true rfl)⟩) hS (fun q9 _ h9 => hF1800 q9 h9) hF1800 (fun r1805 u1804 t1804 H1804 L1804 ht1804 hvm1804 hw1804 hB1804 hz1804 hk1804 hS => ?_)
  have hP := pq_keep hP hD [0, 1, 2, 3, 4, 5, 6, 7, 8, 9, 10, 11, 12] rfl hk1804 hB1804.1 ht1804
  have hG : s.heap.size + 1846 ≤ H1804.size := va_gr (g := 1819) (g1 := 27) hG (by rw [← ht1804]; exact hB1804.2)
  refine W.eq (g2 := F0 m 79 ls [.int 0]) (by rw [hw1804]) ?_
  refine W.widen (k := 1846) (n := 17176) (by decide) (by decide) ?_
  refine lv_if_eq (tgt := 86) hx hb dX9_shown_79 (by decide) (fun _ => ?_) (fun cz => absurd (by decide) cz)
  refine lv_iconst (v := 0) hx hb dX9_shown_86 (by decide) ?_
  refine lv_istore (lv' := [(4, .int 0), (6, .int 0), (5, .ref a1685), (3, .int 49), (1, .int 0), (2, .int 4), (0, .ref h0)]) hx hb dX9_shown_87 hl (by decide) rfl (fun ls hl => ?_)
  refine lv_goto (tgt := 41) hx hb dX9_shown_89 (by decide) ?_
  refine lv_aload hx hb dX9_shown_41 (lv_at hl 2 rfl) ?_
  have hM1808 := k740_hasNext l hl9 dC dI z a1685 h3 h6 H1804.size
  obtain ⟨hF1806, hC1809⟩ := pc_M hM1808 hP hD hK hS hX hT hA [13, 14] [] rfl rfl rfl
  refine va_callFi (va_runF (As := []) (rest := []) (hK.1 1 (RJx35411, TJx35411, 4) rfl).2 ⟨hx, hb, hml, hown, hts⟩ hM1808 (va_cwF 0 hts (gF q_261 q_262 q_263 q_246 q_260) rfl rfl rfl hT.2.2.2.2.2.2.1 hF_xIh ⟨Nat.le_of_ble_eq_true rfl, Nat.le_of_ble_eq_true rfl⟩) ⟨pc_blind, va_recv hK hP (ci := 1) (q := (RJx35411, TJx35411, 4)) (q0 := 13) rfl rfl, fun U hU hW => ⟨rfl, hC1809 U hU hW⟩⟩ rfl rfl hl.1 rfl (lv_room (Nat.le_of_ble_eq_true rfl)) dX9_shown_43 ⟨(Nat.le_of_ble_eq_true rfl), (Nat.le_of_ble_eq_true rfl)⟩) hS (fun q9 _ h9 => hF1806 q9 h9) hF1806 (fun r1811 u1810 t1810 H1810 L1810 ht1810 hvm1810 hw1810 hB1810 hz1810 hk1810 hS => ?_)
  have hP := pq_keep hP hD [13, 14] rfl hk1810 hB1810.1 ht1810
  have hG : s.heap.size + 1846 ≤ H1810.size := Nat.le_trans hG hz1810
  refine W.eq (g2 := F0 m 48 ls [.int 1]) (by rw [hw1810]) ?_
  refine lv_if_eq (tgt := 92) hx hb dX9_shown_48 (by decide) (fun cz => absurd cz (by decide)) (fun _ => ?_)
  refine lv_aload hx hb dX9_shown_51 (lv_at hl 2 rfl) ?_
  have hM1814 := k958_next l hl9 dC dI z a1685 h3 h6 H1810.size kc1
  obtain ⟨hF1812, hC1815⟩ := pc_M hM1814 hP hD hK hS hX hT hA [13, 14, 15] [2] rfl rfl rfl
  refine va_callFr (va_runF (As := []) (rest := []) (hK.1 1 (RJx35411, TJx35411, 4) rfl).2 ⟨hx, hb, hml, hown, hts⟩ hM1814 (va_cwF 0 hts (gF q_308 q_309 q_310 q_246 q_307) rfl rfl rfl hT.2.2.2.2.2.2.2.1 hF_xIn ⟨Nat.le_of_ble_eq_true rfl, Nat.le_of_ble_eq_true rfl⟩) ⟨pc_blind, va_recv hK hP (ci := 1) (q := (RJx35411, TJx35411, 4)) (q0 := 13) rfl rfl, fun U hU hW => ⟨rfl, hC1815 U hU hW⟩⟩ rfl rfl hl.1 rfl (lv_room (Nat.le_of_ble_eq_true rfl)) dX9_shown_53 ⟨(Nat.le_of_ble_eq_true rfl), (Nat.le_of_ble_eq_true rfl)⟩) hS (fun q9 _ h9 => hF1812 q9 h9) hF1812 (fun u1816 r1817 t1816 H1816 L1816 ht1816 hvm1816 hw1816 hB1816 hz1816 hk1816 hS => ?_)
  obtain ⟨hr1816, hB1816⟩ := hB1816
  obtain ⟨hP, hD, hK⟩ := pq_jn (wz := [(h0, ce21 h1 h2 h3 h4), (h1, ce331 h5), (h2, ce3 z.1), (h4, ce366 h7), (h5, ce330 kc0 h8 h9 h10 h11 h12 h13 h14), (h7, ce330 kc2 (z.2.2.1 128) (z.2.2.1 129) (z.2.2.1 130) (z.2.2.1 131) (z.2.2.1 132) (z.2.2.1 133) (z.2.2.1 134)), (h8, ce49), (h9, ce49), (h10, ce49), (h11, ce49), (h12, ce49), (h13, ce49), (h14, ce49), (a1685, ce382 h3), (h3, ce331 h6), (h6, ce330 kc1 (z.2.2.1 128) (z.2.2.1 128) (z.2.2.1 128) (z.2.2.1 128) (z.2.2.1 128) (z.2.2.1 128) (z.2.2.1 128))]) (tz := [(kc0, .object "java/lang/Object"), (kc2, .object "java/lang/Object"), (kc1, .object "java/lang/Object")]) hP hD hK [13, 14, 15] [0, 1] rfl hk1816 hF1812 hB1816.1 ht1816 hvm1816 rfl rfl
  have hG : s.heap.size + 1846 ≤ H1816.size := Nat.le_trans hG hz1816
  refine W.eq (g2 := F0 m 58 ls [.ref (z.2.2.1 128)]) (by rw [hr1816]) ?_
  refine va_castE (nm := "java/lang/Integer") hx hb hown (hts _ q_320) (va_Orecv (hX.2.2.1.1.1 128 (by decide)) hS) dX9_shown_58 ?_
  have hM1820 := k74_intValue l hl9 dC dI z H1816.size
  obtain ⟨hF1818, hC1821⟩ := pc_M hM1820 hP hD hK hS hX hT hA [] [] rfl rfl rfl
  refine va_calli (va_runV (As := []) (rest := []) ⟨hx, hb, hml, hown, hts⟩ hM1820 (cwV 0 hts (gV q_323 q_324 q_325 q_297 q_322) rfl rfl rfl hV_J6_intValue_8abf5 ⟨Nat.le_of_ble_eq_true rfl, Nat.le_of_ble_eq_true rfl⟩) ⟨pc_blind, va_Orecv (hX.2.2.1.1.1 128 (by decide)) hS, fun U hU hW => ⟨rfl, hC1821 U hU hW⟩⟩ rfl rfl hl.1 rfl (lv_room (Nat.le_of_ble_eq_true rfl)) dX9_shown_61 ⟨(Nat.le_of_ble_eq_true rfl), (Nat.le_of_ble_eq_true rfl)⟩) hS (fun q9 _ h9 => hF1818 q9 h9) hF1818 (fun r1823 u1822 t1822 H1822 L1822 ht1822 hvm1822 hw1822 hB1822 hz1822 hk1822 hS => ?_)
  have hP := pq_keep hP hD [] rfl hk1822 hB1822.1 ht1822
  have hG : s.heap.size + 1846 ≤ H1822.size := Nat.le_trans hG hz1822
  refine W.eq (g2 := F0 m 64 ls [.int 0]) (by rw [hw1822]) ?_
  refine lv_istore (lv' := [(6, .int 0), (4, .int 0), (5, .ref a1685), (3, .int 49), (1, .int 0), (2, .int 4), (0, .ref h0)]) hx hb dX9_shown_64 hl (by decide) rfl (fun ls hl => ?_)
  refine lv_iload hx hb dX9_shown_66 (lv_at hl 1 rfl) ?_
  refine lv_if_ne (tgt := 82) hx hb dX9_shown_68 (by decide) (fun cz => absurd (by decide) cz) (fun _ => ?_)
  refine lv_aload_n hx hb dX9_shown_71 rfl (lv_at hl 6 rfl) ?_
  refine lv_iload_n hx hb dX9_shown_72 rfl (lv_at hl 5 rfl) ?_
  refine lv_iload_n hx hb dX9_shown_73 rfl (lv_at hl 3 rfl) ?_
  refine lv_iload hx hb dX9_shown_74 (lv_at hl 0 rfl) ?_
  have hM1826 := k977_showsIt l hl9 dC dI z h0 h1 h2 h4 h5 h7 h8 h9 h10 h11 h12 h13 h14 h3 H1822.size kc0 kc2
  obtain ⟨hF1824, hC1827⟩ := pc_M hM1826 hP hD hK hS hX hT hA [0, 1, 2, 3, 4, 5, 6, 7, 8, 9, 10, 11, 12] [0, 1] rfl rfl rfl
  refine va_calli (va_runV (As := [.int 4, .int 49, .int 0]) (rest := []) ⟨hx, hb, hml, hown, hts⟩ hM1826 (cwV 3 hts (gV q_429 q_430 q_431 q_60 q_428) rfl rfl rfl hV_X9_showsIt ⟨Nat.le_of_ble_eq_true rfl, Nat.le_of_ble_eq_true rfl⟩) ⟨pc_blind, va_recv hK hP (ci := 8) (q := (RX9, TX9, 6)) (q0 := 0) rfl rfl, fun U hU hW => ⟨rfl, hC1827 U hU hW⟩⟩ rfl rfl hl.1 rfl (lv_room (Nat.le_of_ble_eq_true rfl)) dX9_shown_76 ⟨(Nat.le_of_ble_eq_true rfl), (Nat.le_of_ble_eq_true rfl)⟩) hS (fun q9 _ h9 => hF1824 q9 h9) hF1824 (fun r1829 u1828 t1828 H1828 L1828 ht1828 hvm1828 hw1828 hB1828 hz1828 hk1828 hS => ?_)
  have hP := pq_keep hP hD [0, 1, 2, 3, 4, 5, 6, 7, 8, 9, 10, 11, 12] rfl hk1828 hB1828.1 ht1828
  have hG : s.heap.size + 1873 ≤ H1828.size := va_gr (g := 1846) (g1 := 27) hG (by rw [← ht1828]; exact hB1828.2)
  refine W.eq (g2 := F0 m 79 ls [.int 0]) (by rw [hw1828]) ?_
  refine W.widen (k := 1873) (n := 17428) (by decide) (by decide) ?_
  refine lv_if_eq (tgt := 86) hx hb dX9_shown_79 (by decide) (fun _ => ?_) (fun cz => absurd (by decide) cz)
  refine lv_iconst (v := 0) hx hb dX9_shown_86 (by decide) ?_
  refine lv_istore (lv' := [(4, .int 0), (6, .int 0), (5, .ref a1685), (3, .int 49), (1, .int 0), (2, .int 4), (0, .ref h0)]) hx hb dX9_shown_87 hl (by decide) rfl (fun ls hl => ?_)
  refine lv_goto (tgt := 41) hx hb dX9_shown_89 (by decide) ?_
  refine lv_aload hx hb dX9_shown_41 (lv_at hl 2 rfl) ?_
  have hM1832 := k743_hasNext l hl9 dC dI z a1685 h3 h6 H1828.size
  obtain ⟨hF1830, hC1833⟩ := pc_M hM1832 hP hD hK hS hX hT hA [13, 14] [] rfl rfl rfl
  refine va_callFi (va_runF (As := []) (rest := []) (hK.1 1 (RJx35411, TJx35411, 4) rfl).2 ⟨hx, hb, hml, hown, hts⟩ hM1832 (va_cwF 0 hts (gF q_261 q_262 q_263 q_246 q_260) rfl rfl rfl hT.2.2.2.2.2.2.1 hF_xIh ⟨Nat.le_of_ble_eq_true rfl, Nat.le_of_ble_eq_true rfl⟩) ⟨pc_blind, va_recv hK hP (ci := 1) (q := (RJx35411, TJx35411, 4)) (q0 := 13) rfl rfl, fun U hU hW => ⟨rfl, hC1833 U hU hW⟩⟩ rfl rfl hl.1 rfl (lv_room (Nat.le_of_ble_eq_true rfl)) dX9_shown_43 ⟨(Nat.le_of_ble_eq_true rfl), (Nat.le_of_ble_eq_true rfl)⟩) hS (fun q9 _ h9 => hF1830 q9 h9) hF1830 (fun r1835 u1834 t1834 H1834 L1834 ht1834 hvm1834 hw1834 hB1834 hz1834 hk1834 hS => ?_)
  have hP := pq_keep hP hD [13, 14] rfl hk1834 hB1834.1 ht1834
  have hG : s.heap.size + 1873 ≤ H1834.size := Nat.le_trans hG hz1834
  refine W.eq (g2 := F0 m 48 ls [.int 1]) (by rw [hw1834]) ?_
  refine lv_if_eq (tgt := 92) hx hb dX9_shown_48 (by decide) (fun cz => absurd cz (by decide)) (fun _ => ?_)
  refine lv_aload hx hb dX9_shown_51 (lv_at hl 2 rfl) ?_
  have hM1838 := k959_next l hl9 dC dI z a1685 h3 h6 H1834.size kc1
  obtain ⟨hF1836, hC1839⟩ := pc_M hM1838 hP hD hK hS hX hT hA [13, 14, 15] [2] rfl rfl rfl
  refine va_callFr (va_runF (As := []) (rest := []) (hK.1 1 (RJx35411, TJx35411, 4) rfl).2 ⟨hx, hb, hml, hown, hts⟩ hM1838 (va_cwF 0 hts (gF q_308 q_309 q_310 q_246 q_307) rfl rfl rfl hT.2.2.2.2.2.2.2.1 hF_xIn ⟨Nat.le_of_ble_eq_true rfl, Nat.le_of_ble_eq_true rfl⟩) ⟨pc_blind, va_recv hK hP (ci := 1) (q := (RJx35411, TJx35411, 4)) (q0 := 13) rfl rfl, fun U hU hW => ⟨rfl, hC1839 U hU hW⟩⟩ rfl rfl hl.1 rfl (lv_room (Nat.le_of_ble_eq_true rfl)) dX9_shown_53 ⟨(Nat.le_of_ble_eq_true rfl), (Nat.le_of_ble_eq_true rfl)⟩) hS (fun q9 _ h9 => hF1836 q9 h9) hF1836 (fun u1840 r1841 t1840 H1840 L1840 ht1840 hvm1840 hw1840 hB1840 hz1840 hk1840 hS => ?_)
  obtain ⟨hr1840, hB1840⟩ := hB1840
  obtain ⟨hP, hD, hK⟩ := pq_jn (wz := [(h0, ce21 h1 h2 h3 h4), (h1, ce331 h5), (h2, ce3 z.1), (h4, ce366 h7), (h5, ce330 kc0 h8 h9 h10 h11 h12 h13 h14), (h7, ce330 kc2 (z.2.2.1 128) (z.2.2.1 129) (z.2.2.1 130) (z.2.2.1 131) (z.2.2.1 132) (z.2.2.1 133) (z.2.2.1 134)), (h8, ce49), (h9, ce49), (h10, ce49), (h11, ce49), (h12, ce49), (h13, ce49), (h14, ce49), (a1685, ce384 h3), (h3, ce331 h6), (h6, ce330 kc1 (z.2.2.1 128) (z.2.2.1 128) (z.2.2.1 128) (z.2.2.1 128) (z.2.2.1 128) (z.2.2.1 128) (z.2.2.1 128))]) (tz := [(kc0, .object "java/lang/Object"), (kc2, .object "java/lang/Object"), (kc1, .object "java/lang/Object")]) hP hD hK [13, 14, 15] [0, 1] rfl hk1840 hF1836 hB1840.1 ht1840 hvm1840 rfl rfl
  have hG : s.heap.size + 1873 ≤ H1840.size := Nat.le_trans hG hz1840
  refine W.eq (g2 := F0 m 58 ls [.ref (z.2.2.1 128)]) (by rw [hr1840]) ?_
  refine va_castE (nm := "java/lang/Integer") hx hb hown (hts _ q_320) (va_Orecv (hX.2.2.1.1.1 128 (by decide)) hS) dX9_shown_58 ?_
  have hM1844 := k74_intValue l hl9 dC dI z H1840.size
  obtain ⟨hF1842, hC1845⟩ := pc_M hM1844 hP hD hK hS hX hT hA [] [] rfl rfl rfl
  refine va_calli (va_runV (As := []) (rest := []) ⟨hx, hb, hml, hown, hts⟩ hM1844 (cwV 0 hts (gV q_323 q_324 q_325 q_297 q_322) rfl rfl rfl hV_J6_intValue_8abf5 ⟨Nat.le_of_ble_eq_true rfl, Nat.le_of_ble_eq_true rfl⟩) ⟨pc_blind, va_Orecv (hX.2.2.1.1.1 128 (by decide)) hS, fun U hU hW => ⟨rfl, hC1845 U hU hW⟩⟩ rfl rfl hl.1 rfl (lv_room (Nat.le_of_ble_eq_true rfl)) dX9_shown_61 ⟨(Nat.le_of_ble_eq_true rfl), (Nat.le_of_ble_eq_true rfl)⟩) hS (fun q9 _ h9 => hF1842 q9 h9) hF1842 (fun r1847 u1846 t1846 H1846 L1846 ht1846 hvm1846 hw1846 hB1846 hz1846 hk1846 hS => ?_)
  have hP := pq_keep hP hD [] rfl hk1846 hB1846.1 ht1846
  have hG : s.heap.size + 1873 ≤ H1846.size := Nat.le_trans hG hz1846
  refine W.eq (g2 := F0 m 64 ls [.int 0]) (by rw [hw1846]) ?_
  refine lv_istore (lv' := [(6, .int 0), (4, .int 0), (5, .ref a1685), (3, .int 49), (1, .int 0), (2, .int 4), (0, .ref h0)]) hx hb dX9_shown_64 hl (by decide) rfl (fun ls hl => ?_)
  refine lv_iload hx hb dX9_shown_66 (lv_at hl 1 rfl) ?_
  refine lv_if_ne (tgt := 82) hx hb dX9_shown_68 (by decide) (fun cz => absurd (by decide) cz) (fun _ => ?_)
  refine lv_aload_n hx hb dX9_shown_71 rfl (lv_at hl 6 rfl) ?_
  refine lv_iload_n hx hb dX9_shown_72 rfl (lv_at hl 5 rfl) ?_
  refine lv_iload_n hx hb dX9_shown_73 rfl (lv_at hl 3 rfl) ?_
  refine lv_iload hx hb dX9_shown_74 (lv_at hl 0 rfl) ?_
  have hM1850 := k977_showsIt l hl9 dC dI z h0 h1 h2 h4 h5 h7 h8 h9 h10 h11 h12 h13 h14 h3 H1846.size kc0 kc2
  obtain ⟨hF1848, hC1851⟩ := pc_M hM1850 hP hD hK hS hX hT hA [0, 1, 2, 3, 4, 5, 6, 7, 8, 9, 10, 11, 12] [0, 1] rfl rfl rfl
  refine va_calli (va_runV (As := [.int 4, .int 49, .int 0]) (rest := []) ⟨hx, hb, hml, hown, hts⟩ hM1850 (cwV 3 hts (gV q_429 q_430 q_431 q_60 q_428) rfl rfl rfl hV_X9_showsIt ⟨Nat.le_of_ble_eq_true rfl, Nat.le_of_ble_eq_true rfl⟩) ⟨pc_blind, va_recv hK hP (ci := 8) (q := (RX9, TX9, 6)) (q0 := 0) rfl rfl, fun U hU hW => ⟨rfl, hC1851 U hU hW⟩⟩ rfl rfl hl.1 rfl (lv_room (Nat.le_of_ble_eq_true rfl)) dX9_shown_76 ⟨(Nat.le_of_ble_eq_true rfl), (Nat.le_of_ble_eq_true rfl)⟩) hS (fun q9 _ h9 => hF1848 q9 h9) hF1848 (fun r1853 u1852 t1852 H1852 L1852 ht1852 hvm1852 hw1852 hB1852 hz1852 hk1852 hS => ?_)
  have hP := pq_keep hP hD [0, 1, 2, 3, 4, 5, 6, 7, 8, 9, 10, 11, 12] rfl hk1852 hB1852.1 ht1852
  have hG : s.heap.size + 1900 ≤ H1852.size := va_gr (g := 1873) (g1 := 27) hG (by rw [← ht1852]; exact hB1852.2)
  refine W.eq (g2 := F0 m 79 ls [.int 0]) (by rw [hw1852]) ?_
  refine W.widen (k := 1900) (n := 17680) (by decide) (by decide) ?_
  refine lv_if_eq (tgt := 86) hx hb dX9_shown_79 (by decide) (fun _ => ?_) (fun cz => absurd (by decide) cz)
  refine lv_iconst (v := 0) hx hb dX9_shown_86 (by decide) ?_
  refine lv_istore (lv' := [(4, .int 0), (6, .int 0), (5, .ref a1685), (3, .int 49), (1, .int 0), (2, .int 4), (0, .ref h0)]) hx hb dX9_shown_87 hl (by decide) rfl (fun ls hl => ?_)
  refine lv_goto (tgt := 41) hx hb dX9_shown_89 (by decide) ?_
  refine lv_aload hx hb dX9_shown_41 (lv_at hl 2 rfl) ?_
  have hM1856 := k746_hasNext l hl9 dC dI z a1685 h3 h6 H1852.size
  obtain ⟨hF1854, hC1857⟩ := pc_M hM1856 hP hD hK hS hX hT hA [13, 14] [] rfl rfl rfl
  refine va_callFi (va_runF (As := []) (rest := []) (hK.1 1 (RJx35411, TJx35411, 4) rfl).2 ⟨hx, hb, hml, hown, hts⟩ hM1856 (va_cwF 0 hts (gF q_261 q_262 q_263 q_246 q_260) rfl rfl rfl hT.2.2.2.2.2.2.1 hF_xIh ⟨Nat.le_of_ble_eq_true rfl, Nat.le_of_ble_eq_true rfl⟩) ⟨pc_blind, va_recv hK hP (ci := 1) (q := (RJx35411, TJx35411, 4)) (q0 := 13) rfl rfl, fun U hU hW => ⟨rfl, hC1857 U hU hW⟩⟩ rfl rfl hl.1 rfl (lv_room (Nat.le_of_ble_eq_true rfl)) dX9_shown_43 ⟨(Nat.le_of_ble_eq_true rfl), (Nat.le_of_ble_eq_true rfl)⟩) hS (fun q9 _ h9 => hF1854 q9 h9) hF1854 (fun r1859 u1858 t1858 H1858 L1858 ht1858 hvm1858 hw1858 hB1858 hz1858 hk1858 hS => ?_)
  have hP := pq_keep hP hD [13, 14] rfl hk1858 hB1858.1 ht1858
  have hG : s.heap.size + 1900 ≤ H1858.size := Nat.le_trans hG hz1858
  refine W.eq (g2 := F0 m 48 ls [.int 0]) (by rw [hw1858]) ?_
  refine lv_if_eq (tgt := 92) hx hb dX9_shown_48 (by decide) (fun _ => ?_) (fun cz => absurd (by decide) cz)
  refine lv_iload_n hx hb dX9_shown_92 rfl (lv_at hl 4 rfl) ?_
  refine lv_iload hx hb dX9_shown_93 (lv_at hl 0 rfl) ?_
  refine lv_if_eq (tgt := 102) hx hb dX9_shown_95 (by decide) (fun _ => ?_) (fun cz => absurd (by decide) cz)
  refine lv_iconst (v := 0) hx hb dX9_shown_102 (by decide) ?_
  refine lv_iadd hx hb dX9_shown_103 ?_
  refine lv_topi (fun y1860 ey1860 => ?_)
  obtain rfl : y1860 = 0 := ey1860.trans (by decide)
  refine lv_istore_n (lv' := [(1, .int 0), (4, .int 0), (6, .int 0), (5, .ref a1685), (3, .int 49), (2, .int 4), (0, .ref h0)]) hx hb dX9_shown_104 rfl hl (by decide) rfl (fun ls hl => ?_)
  refine lv_iload_n hx hb dX9_shown_105 rfl (lv_at hl 4 rfl) ?_
  refine lv_iconst (v := 1) hx hb dX9_shown_106 (by decide) ?_
  refine lv_iadd hx hb dX9_shown_107 ?_
  refine lv_topi (fun y1861 ey1861 => ?_)
  obtain rfl : y1861 = 50 := ey1861.trans (by decide)
  refine lv_i2c (v := 50) hx hb dX9_shown_108 (by decide) ?_
  refine lv_istore_n (lv' := [(3, .int 50), (1, .int 0), (4, .int 0), (6, .int 0), (5, .ref a1685), (2, .int 4), (0, .ref h0)]) hx hb dX9_shown_109 rfl hl (by decide) rfl (fun ls hl => ?_)
  refine lv_goto (tgt := 23) hx hb dX9_shown_110 (by decide) ?_
  exact hend _ _ _ hS (hP.sub [0, 1, 2, 14, 3, 4, 15, 5, 6, 7, 8, 9, 10, 11, 12] rfl) (hD.sub [0, 1, 2, 14, 3, 4, 15, 5, 6, 7, 8, 9, 10, 11, 12] rfl rfl) (lv_sub hl [0, 1, 5, 6] rfl) hG

set_option maxHeartbeats 8000000 in
set_option maxRecDepth 100000 in
theorem k986_shown_g15 {p : Program} {l : Launch} {e : Env} {s : State} {m : MethodId} {args : Array Value} {below : List Frame} {meth : Method} {c : Code} {Q : State → Prop} {A : Nat → Prop} {H : Heap} {locs : List Loc} {ls : Array Slot} {dC : Nat → ClassId} {dI : Nat → Nat → Nat} {z : XZ} {h0 h1 h2 h3 h4 h5 h6 h7 h8 h9 h10 h11 h12 h13 h14 : Nat} {kc0 kc1 kc2 : ClassId} (hl9 : l.stackTraces = false) (hx : p.tables.exec = Jvm.exec) (hb : c.code = cX9_shown) (hml : c.maxLocals = 7) (hown : s.vm.findClass RX9 = some m.cls) (hts : ∀ w ∈ wsL_law, w.before args s = true) (hA : ∀ q : Nat, s.heap.size ≤ q → A q) (hX : XE z A s s.heap) (hT : XT s) (hS : va_S A s.heap H locs) (hP : va_P (dC, dI) xCl [(h0, ce21 h1 h2 h3 h4), (h1, ce331 h5), (h2, ce3 z.1), (h3, ce331 h6), (h4, ce366 h7), (h5, ce330 kc0 h8 h9 h10 h11 h12 h13 h14), (h6, ce330 kc1 (z.2.2.1 128) (z.2.2.1 128) (z.2.2.1 128) (z.2.2.1 128) (z.2.2.1 128) (z.2.2.1 128) (z.2.2.1 128)), (h7, ce330 kc2 (z.2.2.1 128) (z.2.2.1 129) (z.2.2.1 130) (z.2.2.1 131) (z.2.2.1 132) (z.2.2.1 133) (z.2.2.1 134)), (h8, ce49), (h9, ce49), (h10, ce49), (h11, ce49), (h12, ce49), (h13, ce49), (h14, ce49)] H) (hD : va_D A [(h0, ce21 h1 h2 h3 h4), (h1, ce331 h5), (h2, ce3 z.1), (h3, ce331 h6), (h4, ce366 h7), (h5, ce330 kc0 h8 h9 h10 h11 h12 h13 h14), (h6, ce330 kc1 (z.2.2.1 128) (z.2.2.1 128) (z.2.2.1 128) (z.2.2.1 128) (z.2.2.1 128) (z.2.2.1 128) (z.2.2.1 128)), (h7, ce330 kc2 (z.2.2.1 128) (z.2.2.1 129) (z.2.2.1 130) (z.2.2.1 131) (z.2.2.1 132) (z.2.2.1 133) (z.2.2.1 134)), (h8, ce49), (h9, ce49), (h10, ce49), (h11, ce49), (h12, ce49), (h13, ce49), (h14, ce49)]) (hK : va_K (dC, dI) xCl [(kc0, .object "java/lang/Object"), (kc1, .object "java/lang/Object"), (kc2, .object "java/lang/Object")] s) (hl : lv_has ls 7 [(3, .int 50), (1, .int 0), (2, .int 4), (0, .ref h0)]) (hG : s.heap.size + 1900 ≤ H.size) (hend : ∀ (H' : Heap) (locs' : List Loc) (ls' : Array Slot), va_S A s.heap H' locs' → va_P (dC, dI) xCl [(h0, ce21 h1 h2 h3 h4), (h1, ce331 h5), (h2, ce3 z.1), (h3, ce331 h6), (h4, ce366 h7), (h5, ce330 kc0 h8 h9 h10 h11 h12 h13 h14), (h6, ce330 kc1 (z.2.2.1 128) (z.2.2.1 128) (z.2.2.1 128) (z.2.2.1 128) (z.2.2.1 128) (z.2.2.1 128) (z.2.2.1 128)), (h7, ce330 kc2 (z.2.2.1 128) (z.2.2.1 129) (z.2.2.1 130) (z.2.2.1 131) (z.2.2.1 132) (z.2.2.1 133) (z.2.2.1 134)), (h8, ce49), (h9, ce49), (h10, ce49), (h11, ce49), (h12, ce49), (h13, ce49), (h14, ce49)] H' → va_D A [(h0, ce21 h1 h2 h3 h4), (h1, ce331 h5), (h2, ce3 z.1), (h3, ce331 h6), (h4, ce366 h7), (h5, ce330 kc0 h8 h9 h10 h11 h12 h13 h14), (h6, ce330 kc1 (z.2.2.1 128) (z.2.2.1 128) (z.2.2.1 128) (z.2.2.1 128) (z.2.2.1 128) (z.2.2.1 128) (z.2.2.1 128)), (h7, ce330 kc2 (z.2.2.1 128) (z.2.2.1 129) (z.2.2.1 130) (z.2.2.1 131) (z.2.2.1 132) (z.2.2.1 133) (z.2.2.1 134)), (h8, ce49), (h9, ce49), (h10, ce49), (h11, ce49), (h12, ce49), (h13, ce49), (h14, ce49)] → lv_has ls' 7 [(3, .int 48), (2, .int 5), (1, .int 0), (0, .ref h0)] → s.heap.size + 1900 ≤ H'.size → W p l e ({ frames := 5, cells := 2660, slots := 24752, locals := 121 } : Room) s m args below meth c H' locs' 1900 17680 Q (F0 m 23 ls' [])) : W p l e ({ frames := 5, cells := 2660, slots := 24752, locals := 121 } : Room) s m args below meth c H locs 1900 17680 Q (F0 m 23 ls []) := by
  refine lv_iload_n hx hb dX9_shown_23 rfl (lv_at hl 0 rfl) ?_
  refine lv_bipush (v := 49) hx hb dX9_shown_24 (by decide) ?_
  refine lv_icmp_gt (tgt := 113) hx hb dX9_shown_26 (by decide) (fun _ => ?_) (fun cz => absurd (by decide) cz)
  refine lv_iinc (v := 5) (lv' := [(2, .int 5), (3, .int 50), (1, .int 0), (0, .ref h0)]) hx hb dX9_shown_113 hl (k := 2) rfl (by decide) (by decide) rfl (fun ls hl => ?_)
  refine lv_goto (tgt := 9) hx hb dX9_shown_116 (by decide) ?_
  refine lv_iload_n hx hb dX9_shown_9 rfl (lv_at hl 0 rfl) ?_
  refine lv_aload_n hx hb dX9_shown_10 rfl (lv_at hl 3 rfl) ?_
  refine va_get (D := (dC, dI)) (ci := 8) (v := .ref h1) (C := RX9) (T := TX9) (N := 6) hx hb hts in_X9 hown hK hP 0 rfl rfl 1 (by decide) (hts _ q_64) (fun _ h9 => h9) rfl dX9_shown_11 ?_
  have hM1864 := k20_size l hl9 dC dI z h1 h5 H.size 7 7
  obtain ⟨hF1862, hC1865⟩ := pc_M hM1864 hP hD hK hS hX hT hA [1] [] rfl rfl rfl
  refine va_calli (va_runV (As := []) (rest := [.int 5]) ⟨hx, hb, hml, hown, hts⟩ hM1864 (cwV 0 hts (gV q_272 q_77 q_78 q_12 q_75) rfl rfl rfl hV_Jx4a65c_size_8abf5 ⟨Nat.le_of_ble_eq_true rfl, Nat.le_of_ble_eq_true rfl⟩) ⟨pc_blind, va_recv hK hP (ci := 0) (q := (RJx4a65c, TJx4a65c, 3)) (q0 := 1) rfl rfl, fun U hU hW => ⟨rfl, hC1865 U hU hW⟩⟩ rfl rfl hl.1 rfl (lv_room (Nat.le_of_ble_eq_true rfl)) dX9_shown_14 ⟨(Nat.le_of_ble_eq_true rfl), (Nat.le_of_ble_eq_true rfl)⟩) hS (fun q9 _ h9 => hF1862 q9 h9) hF1862 (fun r1867 u1866 t1866 H1866 L1866 ht1866 hvm1866 hw1866 hB1866 hz1866 hk1866 hS => ?_)
  have hP := pq_keep hP hD [1] rfl hk1866 hB1866.1 ht1866
  have hG : s.heap.size + 1900 ≤ H1866.size := Nat.le_trans hG hz1866
  refine W.eq (g2 := F0 m 17 ls [.int 7, .int 5]) (by rw [hw1866]) ?_
  refine lv_icmp_ge (tgt := 119) hx hb dX9_shown_17 (by decide) (fun cz => absurd cz (by decide)) (fun _ => ?_)
  refine lv_bipush (v := 48) hx hb dX9_shown_20 (by decide) ?_
  refine lv_istore_n (lv' := [(3, .int 48), (2, .int 5), (1, .int 0), (0, .ref h0)]) hx hb dX9_shown_22 rfl hl (by decide) rfl (fun ls hl => ?_)
  exact hend _ _ _ hS (hP.sub [0, 1, 2, 3, 4, 5, 6, 7, 8, 9, 10, 11, 12, 13, 14] rfl) (hD.sub [0, 1, 2, 3, 4, 5, 6, 7, 8, 9, 10, 11, 12, 13, 14] rfl rfl) (lv_sub hl [0, 1, 2, 3] rfl) hG
