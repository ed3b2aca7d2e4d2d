set_option maxHeartbeats 8000000 in
set_option maxRecDepth 100000 in
theorem k669_shown_g1 {p : Program} {l : Launch} {e : Env} {s : State} {m : MethodId} {args : Array Value} {below : List Frame} {meth : Method} {c : Code} {Q : State → Prop} {A : Nat → Prop} {H : Heap} {locs : List Loc} {ls : Array Slot} {dC : Nat → ClassId} {dI : Nat → Nat → Nat} {z : XZ} {h0 h1 h2 h3 h4 h5 h6 h7 h8 h9 h10 h11 h12 : Nat} {kc0 kc1 kc2 : ClassId} (hl9 : l.stackTraces = false) (hx : p.tables.exec = Jvm.exec) (hb : c.code = cX9_shown) (hml : c.maxLocals = 7) (hown : s.vm.findClass RX9 = some m.cls) (hts : ∀ w ∈ wsL_law, w.before args s = true) (hA : ∀ q : Nat, s.heap.size ≤ q → A q) (hX : XE z A s s.heap) (hT : XT s) (hS : va_S A s.heap H locs) (hP : va_P (dC, dI) xCl [(h0, ce21 h1 h2 h3 h4), (h1, ce201 h5), (h2, ce3 z.1), (h3, ce276 h6), (h4, ce226 h7), (h5, ce200 kc0 h8 h9 h10 h11 h12), (h6, ce275 kc1 (z.2.2.1 128) (z.2.2.1 128) (z.2.2.1 128) (z.2.2.1 128) (z.2.2.1 128) (z.2.2.1 128) (z.2.2.1 128)), (h7, ce200 kc2 (z.2.2.1 128) (z.2.2.1 129) (z.2.2.1 130) (z.2.2.1 131) (z.2.2.1 132)), (h8, ce49), (h9, ce49), (h10, ce49), (h11, ce49), (h12, ce49)] H) (hD : va_D A [(h0, ce21 h1 h2 h3 h4), (h1, ce201 h5), (h2, ce3 z.1), (h3, ce276 h6), (h4, ce226 h7), (h5, ce200 kc0 h8 h9 h10 h11 h12), (h6, ce275 kc1 (z.2.2.1 128) (z.2.2.1 128) (z.2.2.1 128) (z.2.2.1 128) (z.2.2.1 128) (z.2.2.1 128) (z.2.2.1 128)), (h7, ce200 kc2 (z.2.2.1 128) (z.2.2.1 129) (z.2.2.1 130) (z.2.2.1 131) (z.2.2.1 132)), (h8, ce49), (h9, ce49), (h10, ce49), (h11, ce49), (h12, ce49)]) (hK : va_K (dC, dI) xCl [(kc0, .object "java/lang/Object"), (kc1, .object "java/lang/Object"), (kc2, .object "java/lang/Object")] s) (hl : lv_has ls 7 [(3, .int 48), (2, .int 0), (1, .int 0), (0, .ref h0)]) (hG : s.heap.size + 0 ≤ H.size) (hend : ∀ (H' : Heap) (locs' : List Loc) (ls' : Array Slot), va_S A s.heap H' locs' → va_P (dC, dI) xCl [(h0, ce21 h1 h2 h3 h4), (h1, ce201 h5), (h2, ce3 z.1), (h3, ce276 h6), (h4, ce226 h7), (h5, ce200 kc0 h8 h9 h10 h11 h12), (h6, ce275 kc1 (z.2.2.1 128) (z.2.2.1 128) (z.2.2.1 128) (z.2.2.1 128) (z.2.2.1 128) (z.2.2.1 128) (z.2.2.1 128)), (h7, ce200 kc2 (z.2.2.1 128) (z.2.2.1 129) (z.2.2.1 130) (z.2.2.1 131) (z.2.2.1 132)), (h8, ce49), (h9, ce49), (h10, ce49), (h11, ce49), (h12, ce49)] H' → va_D A [(h0, ce21 h1 h2 h3 h4), (h1, ce201 h5), (h2, ce3 z.1), (h3, ce276 h6), (h4, ce226 h7), (h5, ce200 kc0 h8 h9 h10 h11 h12), (h6, ce275 kc1 (z.2.2.1 128) (z.2.2.1 128) (z.2.2.1 128) (z.2.2.1 128) (z.2.2.1 128) (z.2.2.1 128) (z.2.2.1 128)), (h7, ce200 kc2 (z.2.2.1 128) (z.2.2.1 129) (z.2.2.1 130) (z.2.2.1 131) (z.2.2.1 132)), (h8, ce49), (h9, ce49), (h10, ce49), (h11, ce49), (h12, ce49)] → lv_has ls' 7 [(3, .int 49), (1, .int 0), (2, .int 0), (0, .ref h0)] → s.heap.size + 148 ≤ H'.size → W p l e ({ frames := 5, cells := 1480, slots := 16000, locals := 121 } : Room) s m args below meth c H' locs' 148 1600 Q (F0 m 23 ls' [])) : W p l e ({ frames := 5, cells := 1480, slots := 16000, locals := 121 } : Room) s m args below meth c H locs 0 0 Q (F0 m 23 ls []) := by
  refine lv_iload_n hx hb dX9_shown_23 rfl (lv_at hl 0 rfl) ?_
  refine lv_bipush (v := 49) hx hb dX9_shown_24 (by decide) ?_
  refine lv_icmp_gt (tgt := 113) hx hb dX9_shown_26 (by decide) (fun cz => absurd cz (by decide)) (fun _ => ?_)
  refine lv_iconst (v := 0) hx hb dX9_shown_29 (by decide) ?_
  refine lv_istore (lv' := [(4, .int 0), (3, .int 48), (2, .int 0), (1, .int 0), (0, .ref h0)]) hx hb dX9_shown_30 hl (by decide) rfl (fun ls hl => ?_)
  refine lv_aload_n hx hb dX9_shown_32 rfl (lv_at hl 4 rfl) ?_
  refine va_get (D := (dC, dI)) (ci := 8) (v := .ref h3) (C := RX9) (T := TX9) (N := 6) hx hb hts in_X9 hown hK hP 0 rfl rfl 3 (by decide) (hts _ q_66) (fun _ h9 => h9) rfl dX9_shown_33 ?_
  have hM10 := k619_iterator l hl9 dC dI z h3 h6 H.size
  obtain ⟨hF8, hC11⟩ := pc_M hM10 hP hD hK hS hX hT hA [3] [] rfl rfl rfl
  refine va_callr (va_runV (As := []) (rest := []) ⟨hx, hb, hml, hown, hts⟩ hM10 (cwV 0 hts (gV q_256 q_257 q_258 q_12 q_255) rfl rfl rfl hV_Jx4a65c_iterator_32c93 ⟨Nat.le_of_ble_eq_true rfl, Nat.le_of_ble_eq_true rfl⟩) ⟨pc_blind, va_recv hK hP (ci := 0) (q := (RJx4a65c, TJx4a65c, 3)) (q0 := 3) rfl rfl, fun U hU hW => ⟨rfl, hC11 U hU hW⟩⟩ rfl rfl hl.1 rfl (lv_room (Nat.le_of_ble_eq_true rfl)) dX9_shown_36 ⟨(Nat.le_of_ble_eq_true rfl), (Nat.le_of_ble_eq_true rfl)⟩) hS (fun q9 _ h9 => hF8 q9 h9) hF8 (fun u12 r13 t12 H12 L12 ht12 hvm12 hw12 hB12 hz12 hk12 hS => ?_)
  obtain ⟨a14, hr12, hB12⟩ := hB12
  obtain ⟨hP, hD, hK⟩ := pq_jn (wz := [(h0, ce21 h1 h2 h3 h4), (h1, ce201 h5), (h2, ce3 z.1), (h4, ce226 h7), (h5, ce200 kc0 h8 h9 h10 h11 h12), (h6, ce275 kc1 (z.2.2.1 128) (z.2.2.1 128) (z.2.2.1 128) (z.2.2.1 128) (z.2.2.1 128) (z.2.2.1 128) (z.2.2.1 128)), (h7, ce200 kc2 (z.2.2.1 128) (z.2.2.1 129) (z.2.2.1 130) (z.2.2.1 131) (z.2.2.1 132)), (h8, ce49), (h9, ce49), (h10, ce49), (h11, ce49), (h12, ce49), (h3, ce276 h6), (a14, ce292 h3)]) (tz := [(kc0, .object "java/lang/Object"), (kc1, .object "java/lang/Object"), (kc2, .object "java/lang/Object")]) hP hD hK [3] [0, 1, 2] rfl hk12 hF8 hB12.1 ht12 hvm12 rfl rfl
  have hG : s.heap.size + 1 ≤ H12.size := va_gr (g := 0) (g1 := 1) hG (by rw [← ht12]; exact hB12.2)
  refine W.eq (g2 := F0 m 39 ls [.ref a14]) (by rw [hr12]) ?_
  refine W.widen (k := 1) (n := 4) (by decide) (by decide) ?_
  refine lv_astore (lv' := [(5, .ref a14), (4, .int 0), (3, .int 48), (2, .int 0), (1, .int 0), (0, .ref h0)]) hx hb dX9_shown_39 hl (by decide) rfl (fun ls hl => ?_)
  refine lv_aload hx hb dX9_shown_41 (lv_at hl 0 rfl) ?_
  have hM17 := k620_hasNext l hl9 dC dI z a14 h3 h6 H12.size
  obtain ⟨hF15, hC18⟩ := pc_M hM17 hP hD hK hS hX hT hA [13, 12] [] rfl rfl rfl
  refine va_callFi (va_runF (As := []) (rest := []) (hK.1 1 (RJx35411, TJx35411, 4) rfl).2 ⟨hx, hb, hml, hown, hts⟩ hM17 (va_cwF 0 hts (gF q_261 q_262 q_263 q_246 q_260) rfl rfl rfl hT.2.2.2.2.2.2.1 hF_xIh ⟨Nat.le_of_ble_eq_true rfl, Nat.le_of_ble_eq_true rfl⟩) ⟨pc_blind, va_recv hK hP (ci := 1) (q := (RJx35411, TJx35411, 4)) (q0 := 13) rfl rfl, fun U hU hW => ⟨rfl, hC18 U hU hW⟩⟩ rfl rfl hl.1 rfl (lv_room (Nat.le_of_ble_eq_true rfl)) dX9_shown_43 ⟨(Nat.le_of_ble_eq_true rfl), (Nat.le_of_ble_eq_true rfl)⟩) hS (fun q9 _ h9 => hF15 q9 h9) hF15 (fun r20 u19 t19 H19 L19 ht19 hvm19 hw19 hB19 hz19 hk19 hS => ?_)
  have hP := pq_keep hP hD [13, 12] rfl hk19 hB19.1 ht19
  have hG : s.heap.size + 1 ≤ H19.size := Nat.le_trans hG hz19
  refine W.eq (g2 := F0 m 48 ls [.int 1]) (by rw [hw19]) ?_
  refine lv_if_eq (tgt := 92) hx hb dX9_shown_48 (by decide) (fun cz => absurd cz (by decide)) (fun _ => ?_)
  refine lv_aload hx hb dX9_shown_51 (lv_at hl 0 rfl) ?_
  have hM23 := k622_next l hl9 dC dI z a14 h3 h6 H19.size kc1
  obtain ⟨hF21, hC24⟩ := pc_M hM23 hP hD hK hS hX hT hA [13, 12, 5] [1] rfl rfl rfl
  refine va_callFr (va_runF (As := []) (rest := []) (hK.1 1 (RJx35411, TJx35411, 4) rfl).2 ⟨hx, hb, hml, hown, hts⟩ hM23 (va_cwF 0 hts (gF q_308 q_309 q_310 q_246 q_307) rfl rfl rfl hT.2.2.2.2.2.2.2.1 hF_xIn ⟨Nat.le_of_ble_eq_true rfl, Nat.le_of_ble_eq_true rfl⟩) ⟨pc_blind, va_recv hK hP (ci := 1) (q := (RJx35411, TJx35411, 4)) (q0 := 13) rfl rfl, fun U hU hW => ⟨rfl, hC24 U hU hW⟩⟩ rfl rfl hl.1 rfl (lv_room (Nat.le_of_ble_eq_true rfl)) dX9_shown_53 ⟨(Nat.le_of_ble_eq_true rfl), (Nat.le_of_ble_eq_true rfl)⟩) hS (fun q9 _ h9 => hF21 q9 h9) hF21 (fun u25 r26 t25 H25 L25 ht25 hvm25 hw25 hB25 hz25 hk25 hS => ?_)
  obtain ⟨hr25, hB25⟩ := hB25
  obtain ⟨hP, hD, hK⟩ := pq_jn (wz := [(h0, ce21 h1 h2 h3 h4), (h1, ce201 h5), (h2, ce3 z.1), (h4, ce226 h7), (h5, ce200 kc0 h8 h9 h10 h11 h12), (h7, ce200 kc2 (z.2.2.1 128) (z.2.2.1 129) (z.2.2.1 130) (z.2.2.1 131) (z.2.2.1 132)), (h8, ce49), (h9, ce49), (h10, ce49), (h11, ce49), (h12, ce49), (a14, ce294 h3), (h3, ce276 h6), (h6, ce275 kc1 (z.2.2.1 128) (z.2.2.1 128) (z.2.2.1 128) (z.2.2.1 128) (z.2.2.1 128) (z.2.2.1 128) (z.2.2.1 128))]) (tz := [(kc0, .object "java/lang/Object"), (kc2, .object "java/lang/Object"), (kc1, .object "java/lang/Object")]) hP hD hK [13, 12, 5] [0, 2] rfl hk25 hF21 hB25.1 ht25 hvm25 rfl rfl
  have hG : s.heap.size + 1 ≤ H25.size := Nat.le_trans hG hz25
  refine W.eq (g2 := F0 m 58 ls [.ref (z.2.2.1 128)]) (by rw [hr25]) ?_
  refine va_castE (nm := "java/lang/Integer") hx hb hown (hts _ q_320) (va_Orecv (hX.2.2.1.1.1 128 (by decide)) hS) dX9_shown_58 ?_
  have hM29 := k74_intValue l hl9 dC dI z H25.size
  obtain ⟨hF27, hC30⟩ := pc_M hM29 hP hD hK hS hX hT hA [] [] rfl rfl rfl
  refine va_calli (va_runV (As := []) (rest := []) ⟨hx, hb, hml, hown, hts⟩ hM29 (cwV 0 hts (gV q_323 q_324 q_325 q_297 q_322) rfl rfl rfl hV_J6_intValue_8abf5 ⟨Nat.le_of_ble_eq_true rfl, Nat.le_of_ble_eq_true rfl⟩) ⟨pc_blind, va_Orecv (hX.2.2.1.1.1 128 (by decide)) hS, fun U hU hW => ⟨rfl, hC30 U hU hW⟩⟩ rfl rfl hl.1 rfl (lv_room (Nat.le_of_ble_eq_true rfl)) dX9_shown_61 ⟨(Nat.le_of_ble_eq_true rfl), (Nat.le_of_ble_eq_true rfl)⟩) hS (fun q9 _ h9 => hF27 q9 h9) hF27 (fun r32 u31 t31 H31 L31 ht31 hvm31 hw31 hB31 hz31 hk31 hS => ?_)
  have hP := pq_keep hP hD [] rfl hk31 hB31.1 ht31
  have hG : s.heap.size + 1 ≤ H31.size := Nat.le_trans hG hz31
  refine W.eq (g2 := F0 m 64 ls [.int 0]) (by rw [hw31]) ?_
  refine lv_istore (lv' := [(6, .int 0), (5, .ref a14), (4, .int 0), (3, .int 48), (2, .int 0), (1, .int 0), (0, .ref h0)]) hx hb dX9_shown_64 hl (by decide) rfl (fun ls hl => ?_)
  refine lv_iload hx hb dX9_shown_66 (lv_at hl 2 rfl) ?_
  refine lv_if_ne (tgt := 82) hx hb dX9_shown_68 (by decide) (fun cz => absurd (by decide) cz) (fun _ => ?_)
  refine lv_aload_n hx hb dX9_shown_71 rfl (lv_at hl 6 rfl) ?_
  refine lv_iload_n hx hb dX9_shown_72 rfl (lv_at hl 4 rfl) ?_
  refine lv_iload_n hx hb dX9_shown_73 rfl (lv_at hl 3 rfl) ?_
  refine lv_iload hx hb dX9_shown_74 (lv_at hl 0 rfl) ?_
  have hM35 := k631_showsIt l hl9 dC dI z h0 h1 h2 h4 h5 h7 h8 h9 h10 h11 h12 h3 H31.size kc0 kc2
  obtain ⟨hF33, hC36⟩ := pc_M hM35 hP hD hK hS hX hT hA [0, 1, 2, 3, 4, 5, 6, 7, 8, 9, 10] [0, 1] rfl rfl rfl
  refine va_calli (va_runV (As := [.int 0, .int 48, .int 0]) (rest := []) ⟨hx, hb, hml, hown, hts⟩ hM35 (cwV 3 hts (gV q_429 q_430 q_431 q_60 q_428) rfl rfl rfl hV_X9_showsIt ⟨Nat.le_of_ble_eq_true rfl, Nat.le_of_ble_eq_true rfl⟩) ⟨pc_blind, va_recv hK hP (ci := 8) (q := (RX9, TX9, 6)) (q0 := 0) rfl rfl, fun U hU hW => ⟨rfl, hC36 U hU hW⟩⟩ rfl rfl hl.1 rfl (lv_room (Nat.le_of_ble_eq_true rfl)) dX9_shown_76 ⟨(Nat.le_of_ble_eq_true rfl), (Nat.le_of_ble_eq_true rfl)⟩) hS (fun q9 _ h9 => hF33 q9 h9) hF33 (fun r38 u37 t37 H37 L37 ht37 hvm37 hw37 hB37 hz37 hk37 hS => ?_)
  have hP := pq_keep hP hD [0, 1, 2, 3, 4, 5, 6, 7, 8, 9, 10] rfl hk37 hB37.1 ht37
  have hG : s.heap.size + 22 ≤ H37.size := va_gr (g := 1) (g1 := 21) hG (by rw [← ht37]; exact hB37.2)
  refine W.eq (g2 := F0 m 79 ls [.int 0]) (by rw [hw37]) ?_
  refine W.widen (k := 22) (n := 232) (by decide) (by decide) ?_
  refine lv_if_eq (tgt := 86) hx hb dX9_shown_79 (by decide) (fun _ => ?_) (fun cz => absurd (by decide) cz)
  refine lv_iconst (v := 0) hx hb dX9_shown_86 (by decide) ?_
  refine lv_istore (lv' := [(4, .int 0), (6, .int 0), (5, .ref a14), (3, .int 48), (2, .int 0), (1, .int 0), (0, .ref h0)]) hx hb dX9_shown_87 hl (by decide) rfl (fun ls hl => ?_)
  refine lv_goto (tgt := 41) hx hb dX9_shown_89 (by decide) ?_
  refine lv_aload hx hb dX9_shown_41 (lv_at hl 2 rfl) ?_
  have hM41 := k632_hasNext l hl9 dC dI z a14 h3 h6 H37.size
  obtain ⟨hF39, hC42⟩ := pc_M hM41 hP hD hK hS hX hT hA [11, 12] [] rfl rfl rfl
  refine va_callFi (va_runF (As := []) (rest := []) (hK.1 1 (RJx35411, TJx35411, 4) rfl).2 ⟨hx, hb, hml, hown, hts⟩ hM41 (va_cwF 0 hts (gF q_261 q_262 q_263 q_246 q_260) rfl rfl rfl hT.2.2.2.2.2.2.1 hF_xIh ⟨Nat.le_of_ble_eq_true rfl, Nat.le_of_ble_eq_true rfl⟩) ⟨pc_blind, va_recv hK hP (ci := 1) (q := (RJx35411, TJx35411, 4)) (q0 := 11) rfl rfl, fun U hU hW => ⟨rfl, hC42 U hU hW⟩⟩ rfl rfl hl.1 rfl (lv_room (Nat.le_of_ble_eq_true rfl)) dX9_shown_43 ⟨(Nat.le_of_ble_eq_true rfl), (Nat.le_of_ble_eq_true rfl)⟩) hS (fun q9 _ h9 => hF39 q9 h9) hF39 (fun r44 u43 t43 H43 L43 ht43 hvm43 hw43 hB43 hz43 hk43 hS => ?_)
  have hP := pq_keep hP hD [11, 12] rfl hk43 hB43.1 ht43
  have hG : s.heap.size + 22 ≤ H43.size := Nat.le_trans hG hz43
  refine W.eq (g2 := F0 m 48 ls [.int 1]) (by rw [hw43]) ?_
  refine lv_if_eq (tgt := 92) hx hb dX9_shown_48 (by decide) (fun cz => absurd cz (by decide)) (fun _ => ?_)
  refine lv_aload hx hb dX9_shown_51 (lv_at hl 2 rfl) ?_
  have hM47 := k634_next l hl9 dC dI z a14 h3 h6 H43.size kc1
  obtain ⟨hF45, hC48⟩ := pc_M hM47 hP hD hK hS hX hT hA [11, 12, 13] [2] rfl rfl rfl
  refine va_callFr (va_runF (As := []) (rest := []) (hK.1 1 (RJx35411, TJx35411, 4) rfl).2 ⟨hx, hb, hml, hown, hts⟩ hM47 (va_cwF 0 hts (gF q_308 q_309 q_310 q_246 q_307) rfl rfl rfl hT.2.2.2.2.2.2.2.1 hF_xIn ⟨Nat.le_of_ble_eq_true rfl, Nat.le_of_ble_eq_true rfl⟩) ⟨pc_blind, va_recv hK hP (ci := 1) (q := (RJx35411, TJx35411, 4)) (q0 := 11) rfl rfl, fun U hU hW => ⟨rfl, hC48 U hU hW⟩⟩ rfl rfl hl.1 rfl (lv_room (Nat.le_of_ble_eq_true rfl)) dX9_shown_53 ⟨(Nat.le_of_ble_eq_true rfl), (Nat.le_of_ble_eq_true rfl)⟩) hS (fun q9 _ h9 => hF45 q9 h9) hF45 (fun u49 r50 t49 H49 L49 ht49 hvm49 hw49 hB49 hz49 hk49 hS => ?_)
  obtain ⟨hr49, hB49⟩ := hB49
  obtain ⟨hP, hD, hK⟩ := pq_jn (wz := [(h0, ce21 h1 h2 h3 h4), (h1, ce201 h5), (h2, ce3 z.1), (h4, ce226 h7), (h5, ce200 kc0 h8 h9 h10 h11 h12), (h7, ce200 kc2 (z.2.2.1 128) (z.2.2.1 129) (z.2.2.1 130) (z.2.2.1 131) (z.2.2.1 132)), (h8, ce49), (h9, ce49), (h10, ce49), (h11, ce49), (h12, ce49), (a14, ce310 h3), (h3, ce276 h6), (h6, ce275 kc1 (z.2.2.1 128) (z.2.2.1 128) (z.2.2.1 128) (z.2.2.1 128) (z.2.2.1 128) (z.2.2.1 128) (z.2.2.1 128))]) (tz := [(kc0, .object "java/lang/Object"), (kc2, .object "java/lang/Object"), (kc1, .object "java/lang/Object")]) hP hD hK [11, 12, 13] [0, 1] rfl hk49 hF45 hB49.1 ht49 hvm49 rfl rfl
  have hG : s.heap.size + 22 ≤ H49.size := Nat.le_trans hG hz49
  refine W.eq (g2 := F0 m 58 ls [.ref (z.2.2.1 128)]) (by rw [hr49]) ?_
  refine va_castE (nm := "java/lang/Integer") hx hb hown (hts _ q_320) (va_Orecv (hX.2.2.1.1.1 128 (by decide)) hS) dX9_shown_58 ?_
  have hM53 := k74_intValue l hl9 dC dI z H49.size
  obtain ⟨hF51, hC54⟩ := pc_M hM53 hP hD hK hS hX hT hA [] [] rfl rfl rfl
  refine va_calli (va_runV (As := []) (rest := []) ⟨hx, hb, hml, hown, hts⟩ hM53 (cwV 0 hts (gV q_323 q_324 q_325 q_297 q_322) rfl rfl rfl hV_J6_intValue_8abf5 ⟨Nat.le_of_ble_eq_true rfl, Nat.le_of_ble_eq_true rfl⟩) ⟨pc_blind, va_Orecv (hX.2.2.1.1.1 128 (by decide)) hS, fun U hU hW => ⟨rfl, hC54 U hU hW⟩⟩ rfl rfl hl.1 rfl (lv_room (Nat.le_of_ble_eq_true rfl)) dX9_shown_61 ⟨(Nat.le_of_ble_eq_true rfl), (Nat.le_of_ble_eq_true rfl)⟩) hS (fun q9 _ h9 => hF51 q9 h9) hF51 (fun r56 u55 t55 H55 L55 ht55 hvm55 hw55 hB55 hz55 hk55 hS => ?_)
  have hP := pq_keep hP hD [] rfl hk55 hB55.1 ht55
  have hG : s.heap.size + 22 ≤ H55.size := Nat.le_trans hG hz55
  refine W.eq (g2 := F0 m 64 ls [.int 0]) (by rw [hw55]) ?_
  refine lv_istore (lv' := [(6, .int 0), (4, .int 0), (5, .ref a14), (3, .int 48), (2, .int 0), (1, .int 0), (0, .ref h0)]) hx hb dX9_shown_64 hl (by decide) rfl (fun ls hl => ?_)
  refine lv_iload hx hb dX9_shown_66 (lv_at hl 1 rfl) ?_
  refine lv_if_ne (tgt := 82) hx hb dX9_shown_68 (by decide) (fun cz => absurd (by decide) cz) (fun _ => ?_)
  refine lv_aload_n hx hb dX9_shown_71 rfl (lv_at hl 6 rfl) ?_
  refine lv_iload_n hx hb dX9_shown_72 rfl (lv_at hl 4 rfl) ?_
  refine lv_iload_n hx hb dX9_shown_73 rfl (lv_at hl 3 rfl) ?_
  refine lv_iload hx hb dX9_shown_74 (lv_at hl 0 rfl) ?_
  have hM59 := k631_showsIt l hl9 dC dI z h0 h1 h2 h4 h5 h7 h8 h9 h10 h11 h12 h3 H55.size kc0 kc2
  obtain ⟨hF57, hC60⟩ := pc_M hM59 hP hD hK hS hX hT hA [0, 1, 2, 3, 4, 5, 6, 7, 8, 9, 10] [0, 1] rfl rfl rfl
  refine va_calli (va_runV (As := [.int 0, .int 48, .int 0]) (rest := []) ⟨hx, hb, hml, hown, hts⟩ hM59 (cwV 3 hts (gV q_429 q_430 q_431 q_60 q_428) rfl rfl rfl hV_X9_showsIt ⟨Nat.le_of_ble_eq_true rfl, Nat.le_of_ble_eq_true rfl⟩) ⟨pc_blind, va_recv hK hP (ci := 8) (q := (RX9, TX9, 6)) (q0 := 0) rfl rfl, fun U hU hW => ⟨rfl, hC60 U hU hW⟩⟩ rfl rfl hl.1 rfl (lv_room (Nat.le_of_ble_eq_true rfl)) dX9_shown_76 ⟨(Nat.le_of_ble_eq_true rfl), (Nat.le_of_ble_eq_true rfl)⟩) hS (fun q9 _ h9 => hF57 q9 h9) hF57 (fun r62 u61 t61 H61 L61 ht61 hvm61 hw61 hB61 hz61 hk61 hS => ?_)
  have hP := pq_keep hP hD [0, 1, 2, 3, 4, 5, 6, 7, 8, 9, 10] rfl hk61 hB61.1 ht61
  have hG : s.heap.size + 43 ≤ H61.size := va_gr (g := 22) (g1 := 21) hG (by rw [← ht61]; exact hB61.2)
  refine W.eq (g2 := F0 m 79 ls [.int 0]) (by rw [hw61]) ?_
  refine W.widen (k := 43) (n := 460) (by decide) (by decide) ?_
  refine lv_if_eq (tgt := 86) hx hb dX9_shown_79 (by decide) (fun _ => ?_) (fun cz => absurd (by decide) cz)
  refine lv_iconst (v := 0) hx hb dX9_shown_86 (by decide) ?_
  refine lv_istore (lv' := [(4, .int 0), (6, .int 0), (5, .ref a14), (3, .int 48), (2, .int 0), (1, .int 0), (0, .ref h0)]) hx hb dX9_shown_87 hl (by decide) rfl (fun ls hl => ?_)
  refine lv_goto (tgt := 41) hx hb dX9_shown_89 (by decide) ?_
  refine lv_aload hx hb dX9_shown_41 (lv_at hl 2 rfl) ?_
  have hM65 := k635_hasNext l hl9 dC dI z a14 h3 h6 H61.size
  obtain ⟨hF63, hC66⟩ := pc_M hM65 hP hD hK hS hX hT hA [11, 12] [] rfl rfl rfl
  refine va_callFi (va_runF (As := []) (rest := []) (hK.1 1 (RJx35411, TJx35411, 4) rfl).2 ⟨hx, hb, hml, hown, hts⟩ hM65 (va_cwF 0 hts (gF q_261 q_262 q_263 q_246 q_260) rfl rfl rfl hT.2.2.2.2.2.2.1 hF_xIh ⟨Nat.le_of_ble_eq_true rfl, Nat.le_of_ble_eq_true rfl⟩) ⟨pc_blind, va_recv hK hP (ci := 1) (q := (RJx35411, TJx35411, 4)) (q0 := 11) rfl rfl, fun U hU hW => ⟨rfl, hC66 U hU hW⟩⟩ rfl rfl hl.1 rfl (lv_room (Nat.le_of_ble_eq_true rfl)) dX9_shown_43 ⟨(Nat.le_of_ble_eq_true rfl), (Nat.le_of_ble_eq_true rfl)⟩) hS (fun q9 _ h9 => hF63 q9 h9) hF63 (fun r68 u67 t67 H67 L67 ht67 hvm67 hw67 hB67 hz67 hk67 hS => ?_)
  have hP := pq_keep hP hD [11, 12] rfl hk67 hB67.1 ht67
  have hG : s.heap.size + 43 ≤ H67.size := Nat.le_trans hG hz67
  refine W.eq (g2 := F0 m 48 ls [.int 1]) (by rw [hw67]) ?_
  refine lv_if_eq (tgt := 92) hx hb dX9_shown_48 (by decide) (fun cz => absurd cz (by decide)) (fun _ => ?_)
  refine lv_aload hx hb dX9_shown_51 (lv_at hl 2 rfl) ?_
  have hM71 := k637_next l hl9 dC dI z a14 h3 h6 H67.size kc1
  obtain ⟨hF69, hC72⟩ := pc_M hM71 hP hD hK hS hX hT hA [11, 12, 13] [2] rfl rfl rfl
  refine va_callFr (va_runF (As := []) (rest := []) (hK.1 1 (RJx35411, TJx35411, 4) rfl).2 ⟨hx, hb, hml, hown, hts⟩ hM71 (va_cwF 0 hts (gF q_308 q_309 q_310 q_246 q_307) rfl rfl rfl hT.2.2.2.2.2.2.2.1 hF_xIn ⟨Nat.le_of_ble_eq_true rfl, Nat.le_of_ble_eq_true rfl⟩) ⟨pc_blind, va_recv hK hP (ci := 1) (q := (RJx35411, TJx35411, 4)) (q0 := 11) rfl rfl, fun U hU hW => ⟨rfl, hC72 U hU hW⟩⟩ rfl rfl hl.1 rfl (lv_room (Nat.le_of_ble_eq_true rfl)) dX9_shown_53 ⟨(Nat.le_of_ble_eq_true rfl), (Nat.le_of_ble_eq_true rfl)⟩) hS (fun q9 _ h9 => hF69 q9 h9) hF69 (fun u73 r74 t73 H73 L73 ht73 hvm73 hw73 hB73 hz73 hk73 hS => ?_)
  obtain ⟨hr73, hB73⟩ := hB73
  obtain ⟨hP, hD, hK⟩ := pq_jn (wz := [(h0, ce21 h1 h2 h3 h4), (h1, ce201 h5), (h2, ce3 z.1), (h4, ce226 h7), (h5, ce200 kc0 h8 h9 h10 h11 h12), (h7, ce200 kc2 (z.2.2.1 128) (z.2.2.1 129) (z.2.2.1 130) (z.2.2.1 131) (z.2.2.1 132)), (h8, ce49), (h9, ce49), (h10, ce49), (h11, ce49), (h12, ce49), (a14, ce312 h3), (h3, ce276 h6), (h6, ce275 kc1 (z.2.2.1 128) (z.2.2.1 128) (z.2.2.1 128) (z.2.2.1 128) (z.2.2.1 128) (z.2.2.1 128) (z.2.2.1 128))]) (tz := [(kc0, .object "java/lang/Object"), (kc2, .object "java/lang/Object"), (kc1, .object "java/lang/Object")]) hP hD hK [11, 12, 13] [0, 1] rfl hk73 hF69 hB73.1 ht73 hvm73 rfl rfl
  have hG : s.heap.size + 43 ≤ H73.size := Nat.le_trans hG hz73
  refine W.eq (g2 := F0 m 58 ls [.ref (z.2.2.1 128)]) (by rw [hr73]) ?_
  refine va_castE (nm := "java/lang/Integer") hx hb hown (hts _ q_320) (va_Orecv (hX.2.2.1.1.1 128 (by decide)) hS) dX9_shown_58 ?_
  have hM77 := k74_intValue l hl9 dC dI z H73.size
  obtain ⟨hF75, hC78⟩ := pc_M hM77 hP hD hK hS hX hT hA [] [] rfl rfl rfl
  refine va_calli (va_runV (As := []) (rest := []) ⟨hx, hb, hml, hown, hts⟩ hM77 (cwV 0 hts (gV q_323 q_324 q_325 q_297 q_322) rfl rfl rfl hV_J6_intValue_8abf5 ⟨Nat.le_of_ble_eq_true rfl, Nat.le_of_ble_eq_true rfl⟩) ⟨pc_blind, va_Orecv (hX.2.2.1.1.1 128 (by decide)) hS, fun U hU hW => ⟨rfl, hC78 U hU hW⟩⟩ rfl rfl hl.1 rfl (lv_room (Nat.le_of_ble_eq_true rfl)) dX9_shown_61 ⟨(Nat.le_of_ble_eq_true rfl), (Nat.le_of_ble_eq_true rfl)⟩) hS (fun q9 _ h9 => hF75 q9 h9) hF75 (fun r80 u79 t79 H79 L79 ht79 hvm79 hw79 hB79 hz79 hk79 hS => ?_)
  have hP := pq_keep hP hD [] rfl hk79 hB79.1 ht79
  have hG : s.heap.size + 43 ≤ H79.size := Nat.le_trans hG hz79
  refine W.eq (g2 := F0 m 64 ls [.int 0]) (by rw [hw79]) ?_
  refine lv_istore (lv' := [(6, .int 0), (4, .int 0), (5, .ref a14), (3, .int 48), (2, .int 0), (1, .int 0), (0, .ref h0)]) hx hb dX9_shown_64 hl (by decide) rfl (fun ls hl => ?_)
  refine lv_iload hx hb dX9_shown_66 (lv_at hl 1 rfl) ?_
  refine lv_if_ne (tgt := 82) hx hb dX9_shown_68 (by decide) (fun cz => absurd (by decide) cz) (fun _ => ?_)
  refine lv_aload_n hx hb dX9_shown_71 rfl (lv_at hl 6 rfl) ?_
  refine lv_iload_n hx hb dX9_shown_72 rfl (lv_at hl 4 rfl) ?_
  refine lv_iload_n hx hb dX9_shown_73 rfl (lv_at hl 3 rfl) ?_
  refine lv_iload hx hb dX9_shown_74 (lv_at hl 0 rfl) ?_
  have hM83 := k631_showsIt l hl9 dC dI z h0 h1 h2 h4 h5 h7 h8 h9 h10 h11 h12 h3 H79.size kc0 kc2
  obtain ⟨hF81, hC84⟩ := pc_M hM83 hP hD hK hS hX hT hA [0, 1, 2, 3, 4, 5, 6, 7, 8, 9, 10] [0, 1] rfl rfl rfl
  refine va_calli (va_runV (As := [.int 0, .int 48, .int 0]) (rest := []) ⟨hx, hb, hml, hown, hts⟩ hM83 (cwV 3 hts (gV q_429 q_430 q_431 q_60 q_428) rfl rfl rfl hV_X9_showsIt ⟨Nat.le_of_ble_eq_true rfl, Nat.le_of_ble_eq_true rfl⟩) ⟨pc_blind, va_recv hK hP (ci := 8) (q := (RX9, TX9, 6)) (q0 := 0) rfl rfl, fun U hU hW => ⟨rfl, hC84 U hU hW⟩⟩ rfl rfl hl.1 rfl (lv_room (Nat.le_of_ble_eq_true rfl)) dX9_shown_76 ⟨(Nat.le_of_ble_eq_true rfl), (Nat.le_of_ble_eq_true rfl)⟩) hS (fun q9 _ h9 => hF81 q9 h9) hF81 (fun r86 u85 t85 H85 L85 ht85 hvm85 hw85 hB85 hz85 hk85 hS => ?_)
  have hP := pq_keep hP hD [0, 1, 2, 3, 4, 5, 6, 7, 8, 9, 10] rfl hk85 hB85.1 ht85
  have hG : s.heap.size + 64 ≤ H85.size := va_gr (g := 43) (g1 := 21) hG (by rw [← ht85]; exact hB85.2)
  refine W.eq (g2 := F0 m 79 ls [.int 0]) (by rw [hw85]) ?_
  refine W.widen (k := 64) (n := 688) (by decide) (by decide) ?_
  refine lv_if_eq (tgt := 86) hx hb dX9_shown_79 (by decide) (fun _ => ?_) (fun cz => absurd (by decide) cz)
  refine lv_iconst (v := 0) hx hb dX9_shown_86 (by decide) ?_
  refine lv_istore (lv' := [(4, .int 0), (6, .int 0), (5, .ref a14), (3, .int 48), (2, .int 0), (1, .int 0), (0, .ref h0)]) hx hb dX9_shown_87 hl (by decide) rfl (fun ls hl => ?_)
  refine lv_goto (tgt := 41) hx hb dX9_shown_89 (by decide) ?_
  refine lv_aload hx hb dX9_shown_41 (lv_at hl 2 rfl) ?_
  have hM89 := k638_hasNext l hl9 dC dI z a14 h3 h6 H85.size
  obtain ⟨hF87, hC90⟩ := pc_M hM89 hP hD hK hS hX hT hA [11, 12] [] rfl rfl rfl
  refine va_callFi (va_runF (As := []) (rest := []) (hK.1 1 (RJx35411, TJx35411, 4) rfl).2 ⟨hx, hb, hml, hown, hts⟩ hM89 (va_cwF 0 hts (gF q_261 q_262 q_263 q_246 q_260) rfl rfl rfl hT.2.2.2.2.2.2.1 hF_xIh ⟨Nat.le_of_ble_eq_true rfl, Nat.le_of_ble_eq_true rfl⟩) ⟨pc_blind, va_recv hK hP (ci := 1) (q := (RJx35411, TJx35411, 4)) (q0 := 11) rfl rfl, fun U hU hW => ⟨rfl, hC90 U hU hW⟩⟩ rfl rfl hl.1 rfl (lv_room (Nat.le_of_ble_eq_true rfl)) dX9_shown_43 ⟨(Nat.le_of_ble_eq_true rfl), (Nat.le_of_ble_eq_true rfl)⟩) hS (fun q9 _ h9 => hF87 q9 h9) hF87 (fun r92 u91 t91 H91 L91 ht91 hvm91 hw91 hB91 hz91 hk91 hS => ?_)
  have hP := pq_keep hP hD [11, 12] rfl hk91 hB91.1 ht91
  have hG : s.heap.size + 64 ≤ H91.size := Nat.le_trans hG hz91
  refine W.eq (g2 := F0 m 48 ls [.int 1]) (by rw [hw91]) ?_
  refine lv_if_eq (tgt := 92) hx hb dX9_shown_48 (by decide) (fun cz => absurd cz (by decide)) (fun _ => ?_)
  refine lv_aload hx hb dX9_shown_51 (lv_at hl 2 rfl) ?_
  have hM95 := k640_next l hl9 dC dI z a14 h3 h6 H91.size kc1
  obtain ⟨hF93, hC96⟩ := pc_M hM95 hP hD hK hS hX hT hA [11, 12, 13] [2] rfl rfl rfl
  refine va_callFr (va_runF (As := []) (rest := []) (hK.1 1 (RJx35411, TJx35411, 4) rfl).2 ⟨hx, hb, hml, hown, hts⟩ hM95 (va_cwF 0 hts (gF q_308 q_309 q_310 q_246 q_307) rfl rfl rfl hT.2.2.2.2.2.2.2.1 hF_xIn ⟨Nat.le_of_ble_eq_true rfl, Nat.le_of_ble_eq_true rfl⟩) ⟨pc_blind, va_recv hK hP (ci := 1) (q := (RJx35411, TJx35411, 4)) (q0 := 11) rfl rfl, fun U hU hW => ⟨rfl, hC96 U hU hW⟩⟩ rfl rfl hl.1 rfl (lv_room (Nat.le_of_ble_eq_true rfl)) dX9_shown_53 ⟨(Nat.le_of_ble_eq_true rfl), (Nat.le_of_ble_eq_true rfl)⟩) hS (fun q9 _ h9 => hF93 q9 h9) hF93 (fun u97 r98 t97 H97 L97 ht97 hvm97 hw97 hB97 hz97 hk97 hS => ?_)
  obtain ⟨hr97, hB97⟩ := hB97
  obtain ⟨hP, hD, hK⟩ := pq_jn (wz := [(h0, ce21 h1 h2 h3 h4), (h1, ce201 h5), (h2, ce3 z.1), (h4, ce226 h7), (h5, ce200 kc0 h8 h9 h10 h11 h12), (h7, ce200 kc2 (z.2.2.1 128) (z.2.2.1 129) (z.2.2.1 130) (z.2.2.1 131) (z.2.2.1 132)), (h8, ce49), (h9, ce49), (h10, ce49), (h11, ce49), (h12, ce49), (a14, ce314 h3), (h3, ce276 h6), (h6, ce275 kc1 (z.2.2.1 128) (z.2.2.1 128) (z.2.2.1 128) (z.2.2.1 128) (z.2.2.1 128) (z.2.2.1 128) (z.2.2.1 128))]) (tz := [(kc0, .object "java/lang/Object"), (kc2, .object "java/lang/Object"), (kc1, .object "java/lang/Object")]) hP hD hK [11, 12, 13] [0, 1] rfl hk97 hF93 hB97.1 ht97 hvm97 rfl rfl
  have hG : s.heap.size + 64 ≤ H97.size := Nat.le_trans hG hz97
  refine W.eq (g2 := F0 m 58 ls [.ref (z.2.2.1 128)]) (by rw [hr97]) ?_
  refine va_castE (nm := "java/lang/Integer") hx hb hown (hts _ q_320) (va_Orecv (hX.2.2.1.1.1 128 (by decide)) hS) dX9_shown_58 ?_
  have hM101 := k74_intValue l hl9 dC dI z H97.size
  obtain ⟨hF99, hC102⟩ := pc_M hM101 hP hD hK hS hX hT hA [] [] rfl rfl rfl
  refine va_calli (va_runV (As := []) (rest := []) ⟨hx, hb, hml, hown, hts⟩ hM101 (cwV 0 hts (gV q_323 q_324 q_325 q_297 q_322) rfl rfl rfl hV_J6_intValue_8abf5 ⟨Nat.le_of_ble_eq_true rfl, Nat.le_of_ble_eq_true rfl⟩) ⟨pc_blind, va_Orecv (hX.2.2.1.1.1 128 (by decide)) hS, fun U hU hW => ⟨rfl, hC102 U hU hW⟩⟩ rfl rfl hl.1 rfl (lv_room (Nat.le_of_ble_eq_true rfl)) dX9_shown_61 ⟨(Nat.le_of_ble_eq_true rfl), (Nat.le_of_ble_eq_true rfl)⟩) hS (fun q9 _ h9 => hF99 q9 h9) hF99 (fun r104 u103 t103 H103 L103 ht103 hvm103 hw103 hB103 hz103 hk103 hS => ?_)
  have hP := pq_keep hP hD [] rfl hk103 hB103.1 ht103
  have hG : s.heap.size + 64 ≤ H103.size := Nat.le_trans hG hz103
  refine W.eq (g2 := F0 m 64 ls [.int 0]) (by rw [hw103]) ?_
  refine lv_istore (lv' := [(6, .int 0), (4, .int 0), (5, .ref a14), (3, .int 48), (2, .int 0), (1, .int 0), (0, .ref h0)]) hx hb dX9_shown_64 hl (by decide) rfl (fun ls hl => ?_)
  refine lv_iload hx hb dX9_shown_66 (lv_at hl 1 rfl) ?_
  refine lv_if_ne (tgt := 82) hx hb dX9_shown_68 (by decide) (fun cz => absurd (by decide) cz) (fun _ => ?_)
  refine lv_aload_n hx hb dX9_shown_71 rfl (lv_at hl 6 rfl) ?_
  refine lv_iload_n hx hb dX9_shown_72 rfl (lv_at hl 4 rfl) ?_
  refine lv_iload_n hx hb dX9_shown_73 rfl (lv_at hl 3 rfl) ?_
  refine lv_iload hx hb dX9_shown_74 (lv_at hl 0 rfl) ?_
  have hM107 := k631_showsIt l hl9 dC dI z h0 h1 h2 h4 h5 h7 h8 h9 h10 h11 h12 h3 H103.size kc0 kc2
  obtain ⟨hF105, hC108⟩ := pc_M hM107 hP hD hK hS hX hT hA [0, 1, 2, 3, 4, 5, 6, 7, 8, 9, 10] [0, 1] rfl rfl rfl
  refine va_calli (va_runV (As := [.int 0, .int 48, .int 0]) (rest := []) ⟨hx, hb, hml, hown, hts⟩ hM107 (cwV 3 hts (gV q_429 q_430 q_431 q_60 q_428) rfl rfl rfl hV_X9_showsIt ⟨Nat.le_of_ble_eq_true rfl, Nat.le_of_ble_eq_true rfl⟩) ⟨pc_blind, va_recv hK hP (ci := 8) (q := (RX9, TX9, 6)) (q0 := 0) rfl rfl, fun U hU hW => ⟨rfl, hC108 U hU hW⟩⟩ rfl rfl hl.1 rfl (lv_room (Nat.le_of_ble_eq_true rfl)) dX9_shown_76 ⟨(Nat.le_of_ble_eq_true rfl), (Nat.le_of_ble_eq_true rfl)⟩) hS (fun q9 _ h9 => hF105 q9 h9) hF105 (fun r110 u109 t109 H109 L109 ht109 hvm109 hw109 hB109 hz109 hk109 hS => ?_)
  have hP := pq_keep hP hD [0, 1, 2, 3, 4, 5, 6, 7, 8, 9, 10] rfl hk109 hB109.1 ht109
  have hG : s.heap.size + 85 ≤ H109.size := va_gr (g := 64) (g1 := 21) hG (by rw [← ht109]; exact hB109.2)
  refine W.eq (g2 := F0 m 79 ls [.int 0]) (by rw [hw109]) ?_
  refine W.widen (k := 85) (n := 916) (by decide) (by decide) ?_
  refine lv_if_eq (tgt := 86) hx hb dX9_shown_79 (by decide) (fun _ => ?_) (fun cz => absurd (by decide) cz)
  refine lv_iconst (v := 0) hx hb dX9_shown_86 (by decide) ?_
  refine lv_istore (lv' := [(4, .int 0), (6, .int 0), (5, .ref a14), (3, .int 48), (2, .int 0), (1, .int 0), (0, .ref h0)]) hx hb dX9_shown_87 hl (by decide) rfl (fun ls hl => ?_)
  refine lv_goto (tgt := 41) hx hb dX9_shown_89 (by decide) ?_
  refine lv_aload hx hb dX9_shown_41 (lv_at hl 2 rfl) ?_
  have hM113 := k641_hasNext l hl9 dC dI z a14 h3 h6 H109.size
  obtain ⟨hF111, hC114⟩ := pc_M hM113 hP hD hK hS hX hT hA [11, 12] [] rfl rfl rfl
  refine va_callFi (va_runF (As := []) (rest := []) (hK.1 1 (RJx35411, TJx35411, 4) rfl).2 ⟨hx, hb, hml, hown, hts⟩ hM113 (va_cwF 0 hts (gF q_261 q_262 q_263 q_246 q_260) rfl rfl rfl hT.2.2.2.2.2.2.1 hF_xIh ⟨Nat.le_of_ble_eq_true rfl, Nat.le_of_ble_eq_true rfl⟩) ⟨pc_blind, va_recv hK hP (ci := 1) (q := (RJx35411, TJx35411, 4)) (q0 := 11) rfl rfl, fun U hU hW => ⟨rfl, hC114 U hU hW⟩⟩ rfl rfl hl.1 rfl (lv_room (Nat.le_of_ble_eq_true rfl)) dX9_shown_43 ⟨(Nat.le_of_ble_eq_true rfl), (Nat.le_of_ble_eq_true rfl)⟩) hS (fun q9 _ h9 => hF111 q9 h9) hF111 (fun r116 u115 t115 H115 L115 ht115 hvm115 hw115 hB115 hz115 hk115 hS => ?_)
  have hP := pq_keep hP hD [11, 12] rfl hk115 hB115.1 ht115
  have hG : s.heap.size + 85 ≤ H115.size := Nat.le_trans hG hz115
  refine W.eq (g2 := F0 m 48 ls [.int 1]) (by rw [hw115]) ?_
  refine lv_if_eq (tgt := 92) hx hb dX9_shown_48 (by decide) (fun cz => absurd cz (by decide)) (fun _ => ?_)
  refine lv_aload hx hb dX9_shown_51 (lv_at hl 2 rfl) ?_
  have hM119 := k643_next l hl9 dC dI z a14 h3 h6 H115.size kc1
  obtain ⟨hF117, hC120⟩ := pc_M hM119 hP hD hK hS hX hT hA [11, 12, 13] [2] rfl rfl rfl
  refine va_callFr (va_runF (As := []) (rest := []) (hK.1 1 (RJx35411, TJx35411, 4) rfl).2 ⟨hx, hb, hml, hown, hts⟩ hM119 (va_cwF 0 hts (gF q_308 q_309 q_310 q_246 q_307) rfl rfl rfl hT.2.2.2.2.2.2.2.1 hF_xIn ⟨Nat.le_of_ble_eq_true rfl, Nat.le_of_ble_eq_true rfl⟩) ⟨pc_blind, va_recv hK hP (ci := 1) (q := (RJx35411, TJx35411, 4)) (q0 := 11) rfl rfl, fun U hU hW => ⟨rfl, hC120 U hU hW⟩⟩ rfl rfl hl.1 rfl (lv_room (Nat.le_of_ble_eq_true rfl)) dX9_shown_53 ⟨(Nat.le_of_ble_eq_true rfl), (Nat.le_of_ble_eq_true rfl)⟩) hS (fun q9 _ h9 => hF117 q9 h9) hF117 (fun u121 r122 t121 H121 L121 ht121 hvm121 hw121 hB121 hz121 hk121 hS => ?_)
  obtain ⟨hr121, hB121⟩ := hB121
  obtain ⟨hP, hD, hK⟩ := pq_jn (wz := [(h0, ce21 h1 h2 h3 h4), (h1, ce201 h5), (h2, ce3 z.1), (h4, ce226 h7), (h5, ce200 kc0 h8 h9 h10 h11 h12), (h7, ce200 kc2 (z.2.2.1 128) (z.2.2.1 129) (z.2.2.1 130) (z.2.2.1 131) (z.2.2.1 132)), (h8, ce49), (h9, ce49), (h10, ce49), (h11, ce49), (h12, ce49), (a14, ce316 h3), (h3, ce276 h6), (h6, ce275 kc1 (z.2.2.1 128) (z.2.2.1 128) (z.2.2.1 128) (z.2.2.1 128) (z.2.2.1 128) (z.2.2.1 128) (z.2.2.1 128))]) (tz := [(kc0, .object "java/lang/Object"), (kc2, .object "java/lang/Object"), (kc1, .object "java/lang/Object")]) hP hD hK [11, 12, 13] [0, 1] rfl hk121 hF117 hB121.1 ht121 hvm121 rfl rfl
  have hG : s.heap.size + 85 ≤ H121.size := Nat.le_trans hG hz121
  refine W.eq (g2 := F0 m 58 ls [.ref (z.2.2.1 128)]) (by rw [hr121]) ?_
  refine va_castE (nm := "java/lang/Integer") hx hb hown (hts _ q_320) (va_Orecv (hX.2.2.1.1.1 128 (by decide)) hS) dX9_shown_58 ?_
  have hM125 := k74_intValue l hl9 dC dI z H121.size
  obtain ⟨hF123, hC126⟩ := pc_M hM125 hP hD hK hS hX hT hA [] [] rfl rfl rfl
  refine va_calli (va_runV (As := []) (rest := []) ⟨hx, hb, hml, hown, hts⟩ hM125 (cwV 0 hts (gV q_323 q_324 q_325 q_297 q_322) rfl rfl rfl hV_J6_intValue_8abf5 ⟨Nat.le_of_ble_eq_true rfl, Nat.le_of_ble_eq_true rfl⟩) ⟨pc_blind, va_Orecv (hX.2.2.1.1.1 128 (by decide)) hS, fun U hU hW => ⟨rfl, hC126 U hU hW⟩⟩ rfl rfl hl.1 rfl (lv_room (Nat.le_of_ble_eq_true rfl)) dX9_shown_61 ⟨(Nat.le_of_ble_eq_true rfl), (Nat.le_of_ble_eq_true rfl)⟩) hS (fun q9 _ h9 => hF123 q9 h9) hF123 (fun r128 u127 t127 H127 L127 ht127 hvm127 hw127 hB127 hz127 hk127 hS => ?_)
  have hP := pq_keep hP hD [] rfl hk127 hB127.1 ht127
  have hG : s.heap.size + 85 ≤ H127.size := Nat.le_trans hG hz127
  refine W.eq (g2 := F0 m 64 ls [.int 0]) (by rw [hw127]) ?_
  refine lv_istore (lv' := [(6, .int 0), (4, .int 0), (5, .ref a14), (3, .int 48), (2, .int 0), (1, .int 0), (0, .ref h0)]) hx hb dX9_shown_64 hl (by decide) rfl (fun ls hl => ?_)
  refine lv_iload hx hb dX9_shown_66 (lv_at hl 1 rfl) ?_
  refine lv_if_ne (tgt := 82) hx hb dX9_shown_68 (by decide) (fun cz => absurd (by decide) cz) (fun _ => ?_)
  refine lv_aload_n hx hb dX9_shown_71 rfl (lv_at hl 6 rfl) ?_
  refine lv_iload_n hx hb dX9_shown_72 rfl (lv_at hl 4 rfl) ?_
  refine lv_iload_n hx hb dX9_shown_73 rfl (lv_at hl 3 rfl) ?_
  refine lv_iload hx hb dX9_shown_74 (lv_at hl 0 rfl) ?_
  have hM131 := k631_showsIt l hl9 dC dI z h0 h1 h2 h4 h5 h7 h8 h9 h10 h11 h12 h3 H127.size kc0 kc2
  obtain ⟨hF129, hC132⟩ := pc_M hM131 hP hD hK hS hX hT hA [0, 1, 2, 3, 4, 5, 6, 7, 8, 9, 10] [0, 1] rfl rfl rfl
  refine va_calli (va_runV (As := [.int 0, .int 48, .int 0]) (rest := []) ⟨hx, hb, hml, hown, hts⟩ hM131 (cwV 3 hts (gV q_429 q_430 q_431 q_60 q_428) rfl rfl rfl hV_X9_showsIt ⟨Nat.le_of_ble_eq_true rfl, Nat.le_of_ble_eq_true rfl⟩) ⟨pc_blind, va_recv hK hP (ci := 8) (q := (RX9, TX9, 6)) (q0 := 0) rfl rfl, fun U hU hW => ⟨rfl, hC132 U hU hW⟩⟩ rfl rfl hl.1 rfl (lv_room (Nat.le_of_ble_eq_true rfl)) dX9_shown_76 ⟨(Nat.le_of_ble_eq_true rfl), (Nat.le_of_ble_eq_true rfl)⟩) hS (fun q9 _ h9 => hF129 q9 h9) hF129 (fun r134 u133 t133 H133 L133 ht133 hvm133 hw133 hB133 hz133 hk133 hS => ?_)
  have hP := pq_keep hP hD [0, 1, 2, 3, 4, 5, 6, 7, 8, 9, 10] rfl hk133 hB133.1 ht133
  have hG : s.heap.size + 106 ≤ H133.size := va_gr (g := 85) (g1 := 21) hG (by rw [← ht133]; exact hB133.2)
  refine W.eq (g2 := F0 m 79 ls [.int 0]) (by rw [hw133]) ?_
  refine W.widen (k := 106) (n := 1144) (by decide) (by decide) ?_
  refine lv_if_eq (tgt := 86) hx hb dX9_shown_79 (by decide) (fun _ => ?_) (fun cz => absurd (by decide) cz)
  refine lv_iconst (v := 0) hx hb dX9_shown_86 (by decide) ?_
  refine lv_istore (lv' := [(4, .int 0), (6, .int 0), (5, .ref a14), (3, .int 48), (2, .int 0), (1, .int 0), (0, .ref h0)]) hx hb dX9_shown_87 hl (by decide) rfl (fun ls hl => ?_)
  refine lv_goto (tgt := 41) hx hb dX9_shown_89 (by decide) ?_
  refine lv_aload hx hb dX9_shown_41 (lv_at hl 2 rfl) ?_
  have hM137 := k644_hasNext l hl9 dC dI z a14 h3 h6 H133.size
  obtain ⟨hF135, hC138⟩ := pc_M hM137 hP hD hK hS hX hT hA [11, 12] [] rfl rfl rfl
  refine va_callFi (va_runF (As := []) (rest := []) (hK.1 1 (RJx35411, TJx35411, 4) rfl).2 ⟨hx, hb, hml, hown, hts⟩ hM137 (va_cwF 0 hts (gF q_261 q_262 q_263 q_246 q_260) rfl rfl rfl hT.2.2.2.2.2.2.1 hF_xIh ⟨Nat.le_of_ble_eq_true rfl, Nat.le_of_ble_eq_true rfl⟩) ⟨pc_blind, va_recv hK hP (ci := 1) (q := (RJx35411, TJx35411, 4)) (q0 := 11) rfl rfl, fun U hU hW => ⟨rfl, hC138 U hU hW⟩⟩ rfl rfl hl.1 rfl (lv_room (Nat.le_of_ble_eq_true rfl)) dX9_shown_43 ⟨(Nat.le_of_ble_eq_true rfl), (Nat.le_of_ble_eq_true rfl)⟩) hS (fun q9 _ h9 => hF135 q9 h9) hF135 (fun r140 u139 t139 H139 L139 ht139 hvm139 hw139 hB139 hz139 hk139 hS => ?_)
  have hP := pq_keep hP hD [11, 12] rfl hk139 hB139.1 ht139
  have hG : s.heap.size + 106 ≤ H139.size := Nat.le_trans hG hz139
  refine W.eq (g2 := F0 m 48 ls [.int 1]) (by rw [hw139]) ?_
  refine lv_if_eq (tgt := 92) hx hb dX9_shown_48 (by decide) (fun cz => absurd cz (by decide)) (fun _ => ?_)
  refine lv_aload hx hb dX9_shown_51 (lv_at hl 2 rfl) ?_
  have hM143 := k646_next l hl9 dC dI z a14 h3 h6 H139.size kc1
  obtain ⟨hF141, hC144⟩ := pc_M hM143 hP hD hK hS hX hT hA [11, 12, 13] [2] rfl rfl rfl
  refine va_callFr (va_runF (As := []) (rest := []) (hK.1 1 (RJx35411, TJx35411, 4) rfl).2 ⟨hx, hb, hml, hown, hts⟩ hM143 (va_cwF 0 hts (gF q_308 q_309 q_310 q_246 q_307) rfl rfl rfl hT.2.2.2.2.2.2.2.1 hF_xIn ⟨Nat.le_of_ble_eq_true rfl, Nat.le_of_ble_eq_true rfl⟩) ⟨pc_blind, va_recv hK hP (ci := 1) (q := (RJx35411, TJx35411, 4)) (q0 := 11) rfl rfl, fun U hU hW => ⟨rfl, hC144 U hU hW⟩⟩ rfl rfl hl.1 rfl (lv_room (Nat.le_of_ble_eq_true rfl)) dX9_shown_53 ⟨(Nat.le_of_ble_eq_true rfl), (Nat.le_of_ble_eq_true rfl)⟩) hS (fun q9 _ h9 => hF141 q9 h9) hF141 (fun u145 r146 t145 H145 L145 ht145 hvm145 hw145 hB145 hz145 hk145 hS => ?_)
  obtain ⟨hr145, hB145⟩ := hB145
  obtain ⟨hP, hD, hK⟩ := pq_jn (wz := [(h0, ce21 h1 h2 h3 h4), (h1, ce201 h5), (h2, ce3 z.1), (h4, ce226 h7), (h5, ce200 kc0 h8 h9 h10 h11 h12), (h7, ce200 kc2 (z.2.2.1 128) (z.2.2.1 129) (z.2.2.1 130) (z.2.2.1 131) (z.2.2.1 132)), (h8, ce49), (h9, ce49), (h10, ce49), (h11, ce49), (h12, ce49), (a14, ce318 h3), (h3, ce276 h6), (h6, ce275 kc1 (z.2.2.1 128) (z.2.2.1 128) (z.2.2.1 128) (z.2.2.1 128) (z.2.2.1 128) (z.2.2.1 128) (z.2.2.1 128))]) (tz := [(kc0, .object "java/lang/Object"), (kc2, .object "java/lang/Object"), (kc1, .object "java/lang/Object")]) hP hD hK [11, 12, 13] [0, 1] rfl hk145 hF141 hB145.1 ht145 hvm145 rfl rfl
  have hG : s.heap.size + 106 ≤ H145.size := Nat.le_trans hG hz145
  refine W.eq (g2 := F0 m 58 ls [.ref (z.2.2.1 128)]) (by rw [hr145]) ?_
  refine va_castE (nm := "java/lang/Integer") hx hb hown (hts _ q_320) (va_Orecv (hX.2.2.1.1.1 128 (by decide)) hS) dX9_shown_58 ?_
  have hM149 := k74_intValue l hl9 dC dI z H145.size
  obtain ⟨hF147, hC150⟩ := pc_M hM149 hP hD hK hS hX hT hA [] [] rfl rfl rfl
  refine va_calli (va_runV (As := []) (rest := []) ⟨hx, hb, hml, hown, hts⟩ hM149 (cwV 0 hts (gV q_323 q_324 q_325 q_297 q_322) rfl rfl rfl hV_J6_intValue_8abf5 ⟨Nat.le_of_ble_eq_true rfl, Nat.le_of_ble_eq_true rfl⟩) ⟨pc_blind, va_Orecv (hX.2.2.1.1.1 128 (by decide)) hS, fun U hU hW => ⟨rfl, hC150 U hU hW⟩⟩ rfl rfl hl.1 rfl (lv_room (Nat.le_of_ble_eq_true rfl)) dX9_shown_61 ⟨(Nat.le_of_ble_eq_true rfl), (Nat.le_of_ble_eq_true rfl)⟩) hS (fun q9 _ h9 => hF147 q9 h9) hF147 (fun r152 u151 t151 H151 L151 ht151 hvm151 hw151 hB151 hz151 hk151 hS => ?_)
  have hP := pq_keep hP hD [] rfl hk151 hB151.1 ht151
  have hG : s.heap.size + 106 ≤ H151.size := Nat.le_trans hG hz151
  refine W.eq (g2 := F0 m 64 ls [.int 0]) (by rw [hw151]) ?_
  refine lv_istore (lv' := [(6, .int 0), (4, .int 0), (5, .ref a14), (3, .int 48), (2, .int 0), (1, .int 0), (0, .ref h0)]) hx hb dX9_shown_64 hl (by decide) rfl (fun ls hl => ?_)
  refine lv_iload hx hb dX9_shown_66 (lv_at hl 1 rfl) ?_
  refine lv_if_ne (tgt := 82) hx hb dX9_shown_68 (by decide) (fun cz => absurd (by decide) cz) (fun _ => ?_)
  refine lv_aload_n hx hb dX9_shown_71 rfl (lv_at hl 6 rfl) ?_
  refine lv_iload_n hx hb dX9_shown_72 rfl (lv_at hl 4 rfl) ?_
  refine lv_iload_n hx hb dX9_shown_73 rfl (lv_at hl 3 rfl) ?_
  refine lv_iload hx hb dX9_shown_74 (lv_at hl 0 rfl) ?_
  have hM155 := k631_showsIt l hl9 dC dI z h0 h1 h2 h4 h5 h7 h8 h9 h10 h11 h12 h3 H151.size kc0 kc2
  obtain ⟨hF153, hC156⟩ := pc_M hM155 hP hD hK hS hX hT hA [0, 1, 2, 3, 4, 5, 6, 7, 8, 9, 10] [0, 1] rfl rfl rfl
  refine va_calli (va_runV (As := [.int 0, .int 48, .int 0]) (rest := []) ⟨hx, hb, hml, hown, hts⟩ hM155 (cwV 3 hts (gV q_429 q_430 q_431 q_60 q_428) rfl rfl rfl hV_X9_showsIt ⟨Nat.le_of_ble_eq_true rfl, Nat.le_of_ble_eq_true rfl⟩) ⟨pc_blind, va_recv hK hP (ci := 8) (q := (RX9, TX9, 6)) (q0 := 0) rfl rfl, fun U hU hW => ⟨rfl, hC156 U hU hW⟩⟩ rfl rfl hl.1 rfl (lv_room (Nat.le_of_ble_eq_true rfl)) dX9_shown_76 ⟨(Nat.le_of_ble_eq_true rfl), (Nat.le_of_ble_eq_true rfl)⟩) hS (fun q9 _ h9 => hF153 q9 h9) hF153 (fun r158 u157 t157 H157 L157 ht157 hvm157 hw157 hB157 hz157 hk157 hS => ?_)
  have hP := pq_keep hP hD [0, 1, 2, 3, 4, 5, 6, 7, 8, 9, 10] rfl hk157 hB157.1 ht157
  have hG : s.heap.size + 127 ≤ H157.size := va_gr (g := 106) (g1 := 21) hG (by rw [← ht157]; exact hB157.2)
  refine W.eq (g2 := F0 m 79 ls [.int 0]) (by rw [hw157]) ?_
  refine W.widen (k := 127) (n := 1372) (by decide) (by decide) ?_
  refine lv_if_eq (tgt := 86) hx hb dX9_shown_79 (by decide) (fun _ => ?_) (fun cz => absurd (by decide) cz)
  refine lv_iconst (v := 0) hx hb dX9_shown_86 (by decide) ?_
  refine lv_istore (lv' := [(4, .int 0), (6, .int 0), (5, .ref a14), (3, .int 48), (2, .int 0), (1, .int 0), (0, .ref h0)]) hx hb dX9_shown_87 hl (by decide) rfl (fun ls hl => ?_)
  refine lv_goto (tgt := 41) hx hb dX9_shown_89 (by decide) ?_
  refine lv_aload hx hb dX9_shown_41 (lv_at hl 2 rfl) ?_
  have hM161 := k647_hasNext l hl9 dC dI z a14 h3 h6 H157.size
  obtain ⟨hF159, hC162⟩ := pc_M hM161 hP hD hK hS hX hT hA [11, 12] [] rfl rfl rfl
  refine va_callFi (va_runF (As := []) (rest := []) (hK.1 1 (RJx35411, TJx35411, 4) rfl).2 ⟨hx, hb, hml, hown, hts⟩ hM161 (va_cwF 0 hts (gF q_261 q_262 q_263 q_246 q_260) rfl rfl rfl hT.2.2.2.2.2.2.1 hF_xIh ⟨Nat.le_of_ble_eq_true rfl, Nat.le_of_ble_eq_true rfl⟩) ⟨pc_blind, va_recv hK hP (ci := 1) (q := (RJx35411, TJx35411, 4)) (q0 := 11) rfl rfl, fun U hU hW => ⟨rfl, hC162 U hU hW⟩⟩ rfl rfl hl.1 rfl (lv_room (Nat.le_of_ble_eq_true rfl)) dX9_shown_43 ⟨(Nat.le_of_ble_eq_true rfl), (Nat.le_of_ble_eq_true rfl)⟩) hS (fun q9 _ h9 => hF159 q9 h9) hF159 (fun r164 u163 t163 H163 L163 ht163 hvm163 hw163 hB163 hz163 hk163 hS => ?_)
  have hP := pq_keep hP hD [11, 12] rfl hk163 hB163.1 ht163
  have hG : s.heap.size + 127 ≤ H163.size := Nat.le_trans hG hz163
  refine W.eq (g2 := F0 m 48 ls [.int 1]) (by rw [hw163]) ?_
  refine lv_if_eq (tgt := 92) hx hb dX9_shown_48 (by decide) (fun cz => absurd cz (by decide)) (fun _ => ?_)
  refine lv_aload hx hb dX9_shown_51 (lv_at hl 2 rfl) ?_
  have hM167 := k649_next l hl9 dC dI z a14 h3 h6 H163.size kc1
  obtain ⟨hF165, hC168⟩ := pc_M hM167 hP hD hK hS hX hT hA [11, 12, 13] [2] rfl rfl rfl
  refine va_callFr (va_runF (As := []) (rest := []) (hK.1 1 (RJx35411, TJx35411, 4) rfl).2 ⟨hx, hb, hml, hown, hts⟩ hM167 (va_cwF 0 hts (gF q_308 q_309 q_310 q_246 q_307) rfl rfl rfl hT.2.2.2.2.2.2.2.1 hF_xIn ⟨Nat.le_of_ble_eq_true rfl, Nat.le_of_ble_eq_true rfl⟩) ⟨pc_blind, va_recv hK hP (ci := 1) (q := (RJx35411, TJx35411, 4)) (q0 := 11) rfl rfl, fun U hU hW => ⟨rfl, hC168 U hU hW⟩⟩ rfl rfl hl.1 rfl (lv_room (Nat.le_of_ble_eq_true rfl)) dX9_shown_53 ⟨(Nat.le_of_ble_eq_true rfl), (Nat.le_of_ble_eq_true rfl)⟩) hS (fun q9 _ h9 => hF165 q9 h9) hF165 (fun u169 r170 t169 H169 L169 ht169 hvm169 hw169 hB169 hz169 hk169 hS => ?_)
  obtain ⟨hr169, hB169⟩ := hB169
  obtain ⟨hP, hD, hK⟩ := pq_jn (wz := [(h0, ce21 h1 h2 h3 h4), (h1, ce201 h5), (h2, ce3 z.1), (h4, ce226 h7), (h5, ce200 kc0 h8 h9 h10 h11 h12), (h7, ce200 kc2 (z.2.2.1 128) (z.2.2.1 129) (z.2.2.1 130) (z.2.2.1 131) (z.2.2.1 132)), (h8, ce49), (h9, ce49), (h10, ce49), (h11, ce49), (h12, ce49), (a14, ce320 h3), (h3, ce276 h6), (h6, ce275 kc1 (z.2.2.1 128) (z.2.2.1 128) (z.2.2.1 128) (z.2.2.1 128) (z.2.2.1 128) (z.2.2.1 128) (z.2.2.1 128))]) (tz := [(kc0, .object "java/lang/Object"), (kc2, .object "java/lang/Object"), (kc1, .object "java/lang/Object")]) hP hD hK [11, 12, 13] [0, 1] rfl hk169 hF165 hB169.1 ht169 hvm169 rfl rfl
  have hG : s.heap.size + 127 ≤ H169.size := Nat.le_trans hG hz169
  refine W.eq (g2 := F0 m 58 ls [.ref (z.2.2.1 128)]) (by rw [hr169]) ?_
  refine va_castE (nm := "java/lang/Integer") hx hb hown (hts _ q_320) (va_Orecv (hX.2.2.1.1.1 128 (by decide)) hS) dX9_shown_58 ?_
  have hM173 := k74_intValue l hl9 dC dI z H169.size
  obtain ⟨hF171, hC174⟩ := pc_M hM173 hP hD hK hS hX hT hA [] [] rfl rfl rfl
  refine va_calli (va_runV (As := []) (rest := []) ⟨hx, hb, hml, hown, hts⟩ hM173 (cwV 0 hts (gV q_323 q_324 q_325 q_297 q_322) rfl rfl rfl hV_J6_intValue_8abf5 ⟨Nat.le_of_ble_eq_true rfl, Nat.le_of_ble_eq_true rfl⟩) ⟨pc_blind, va_Orecv (hX.2.2.1.1.1 128 (by decide)) hS, fun U hU hW => ⟨rfl, hC174 U hU hW⟩⟩ rfl rfl hl.1 rfl (lv_room (Nat.le_of_ble_eq_true rfl)) dX9_shown_61 ⟨(Nat.le_of_ble_eq_true rfl), (Nat.le_of_ble_eq_true rfl)⟩) hS (fun q9 _ h9 => hF171 q9 h9) hF171 (fun r176 u175 t175 H175 L175 ht175 hvm175 hw175 hB175 hz175 hk175 hS => ?_)
  have hP := pq_keep hP hD [] rfl hk175 hB175.1 ht175
  have hG : s.heap.size + 127 ≤ H175.size := Nat.le_trans hG hz175
  refine W.eq (g2 := F0 m 64 ls [.int 0]) (by rw [hw175]) ?_
  refine lv_istore (lv' := [(6, .int 0), (4, .int 0), (5, .ref a14), (3, .int 48), (2, .int 0), (1, .int 0), (0, .ref h0)]) hx hb dX9_shown_64 hl (by decide) rfl (fun ls hl => ?_)
  refine lv_iload hx hb dX9_shown_66 (lv_at hl 1 rfl) ?_
  refine lv_if_ne (tgt := 82) hx hb dX9_shown_68 (by decide) (fun cz => absurd (by decide) cz) (fun _ => ?_)
  refine lv_aload_n hx hb dX9_shown_71 rfl (lv_at hl 6 rfl) ?_
  refine lv_iload_n hx hb dX9_shown_72 rfl (lv_at hl 4 rfl) ?_
  refine lv_iload_n hx hb dX9_shown_73 rfl (lv_at hl 3 rfl) ?_
  refine lv_iload hx hb dX9_shown_74 (lv_at hl 0 rfl) ?_
  have hM179 := k631_showsIt l hl9 dC dI z h0 h1 h2 h4 h5 h7 h8 h9 h10 h11 h12 h3 H175.size kc0 kc2
  obtain ⟨hF177, hC180⟩ := pc_M hM179 hP hD hK hS hX hT hA [0, 1, 2, 3, 4, 5, 6, 7, 8, 9, 10] [0, 1] rfl rfl rfl
  refine va_calli (va_runV (As := [.int 0, .int 48, .int 0]) (rest := []) ⟨hx, hb, hml, hown, hts⟩ hM179 (cwV 3 hts (gV q_429 q_430 q_431 q_60 q_428) rfl rfl rfl hV_X9_showsIt ⟨Nat.le_of_ble_eq_true rfl, Nat.le_of_ble_eq_true rfl⟩) ⟨pc_blind, va_recv hK hP (ci := 8) (q := (RX9, TX9, 6)) (q0 := 0) rfl rfl, fun U hU hW => ⟨rfl, hC180 U hU hW⟩⟩ rfl rfl hl.1 rfl (lv_room (Nat.le_of_ble_eq_true rfl)) dX9_shown_76 ⟨(Nat.le_of_ble_eq_true rfl), (Nat.le_of_ble_eq_true rfl)⟩) hS (fun q9 _ h9 => hF177 q9 h9) hF177 (fun r182 u181 t181 H181 L181 ht181 hvm181 hw181 hB181 hz181 hk181 hS => ?_)
  have hP := pq_keep hP hD [0, 1, 2, 3, 4, 5, 6, 7, 8, 9, 10] rfl hk181 hB181.1 ht181
  have hG : s.heap.size + 148 ≤ H181.size := va_gr (g := 127) (g1 := 21) hG (by rw [← ht181]; exact hB181.2)
  refine W.eq (g2 := F0 m 79 ls [.int 0]) (by rw [hw181]) ?_
  refine W.widen (k := 148) (n := 1600) (by decide) (by decide) ?_
  refine lv_if_eq (tgt := 86) hx hb dX9_shown_79 (by decide) (fun _ => ?_) (fun cz => absurd (by decide) cz)
  refine lv_iconst (v := 0) hx hb dX9_shown_86 (by decide) ?_
  refine lv_istore (lv' := [(4, .int 0), (6, .int 0), (5, .ref a14), (3, .int 48), (2, .int 0), (1, .int 0), (0, .ref h0)]) hx hb dX9_shown_87 hl (by decide) rfl (fun ls hl => ?_)
  refine lv_goto (tgt := 41) hx hb dX9_shown_89 (by decide) ?_
  refine lv_aload hx hb dX9_shown_41 (lv_at hl 2 rfl) ?_
  have hM185 := k650_hasNext l hl9 dC dI z a14 h3 h6 H181.size
  obtain ⟨hF183, hC186⟩ := pc_M hM185 hP hD hK hS hX hT hA [11, 12] [] rfl rfl rfl
  refine va_callFi (va_runF (As := []) (rest := []) (hK.1 1 (RJx35411, TJx35411, 4) rfl).2 ⟨hx, hb, hml, hown, hts⟩ hM185 (va_cwF 0 hts (gF q_261 q_262 q_263 q_246 q_260) rfl rfl rfl hT.2.2.2.2.2.2.1 hF_xIh ⟨Nat.le_of_ble_eq_true rfl, Nat.le_of_ble_eq_true rfl⟩) ⟨pc_blind, va_recv hK hP (ci := 1) (q := (RJx35411, TJx35411, 4)) (q0 := 11) rfl rfl, fun U hU hW => ⟨rfl, hC186 U hU hW⟩⟩ rfl rfl hl.1 rfl (lv_room (Nat.le_of_ble_eq_true rfl)) dX9_shown_43 ⟨(Nat.le_of_ble_eq_true rfl), (Nat.le_of_ble_eq_true rfl)⟩) hS (fun q9 _ h9 => hF183 q9 h9) hF183 (fun r188 u187 t187 H187 L187 ht187 hvm187 hw187 hB187 hz187 hk187 hS => ?_)
  have hP := pq_keep hP hD [11, 12] rfl hk187 hB187.1 ht187
  have hG : s.heap.size + 148 ≤ H187.size := Nat.le_trans hG hz187
  refine W.eq (g2 := F0 m 48 ls [.int 0]) (by rw [hw187]) ?_
  refine lv_if_eq (tgt := 92) hx hb dX9_shown_48 (by decide) (fun _ => ?_) (fun cz => absurd (by decide) cz)
  refine lv_iload_n hx hb dX9_shown_92 rfl (lv_at hl 5 rfl) ?_
  refine lv_iload hx hb dX9_shown_93 (lv_at hl 0 rfl) ?_
  refine lv_if_eq (tgt := 102) hx hb dX9_shown_95 (by decide) (fun _ => ?_) (fun cz => absurd (by decide) cz)
  refine lv_iconst (v := 0) hx hb dX9_shown_102 (by decide) ?_
  refine lv_iadd hx hb dX9_shown_103 ?_
  refine lv_topi (fun y189 ey189 => ?_)
  obtain rfl : y189 = 0 := ey189.trans (by decide)
  refine lv_istore_n (lv' := [(1, .int 0), (4, .int 0), (6, .int 0), (5, .ref a14), (3, .int 48), (2, .int 0), (0, .ref h0)]) hx hb dX9_shown_104 rfl hl (by decide) rfl (fun ls hl => ?_)
  refine lv_iload_n hx hb dX9_shown_105 rfl (lv_at hl 4 rfl) ?_
  refine lv_iconst (v := 1) hx hb dX9_shown_106 (by decide) ?_
  refine lv_iadd hx hb dX9_shown_107 ?_
  refine lv_topi (fun y190 ey190 => ?_)
  obtain rfl : y190 = 49 := ey190.trans (by decide)
  refine lv_i2c (v := 49) hx hb dX9_shown_108 (by decide) ?_
  refine lv_istore_n (lv' := [(3, .int 49), (1, .int 0), (4, .int 0), (6, .int 0), (5, .ref a14), (2, .int 0), (0, .ref h0)]) hx hb dX9_shown_109 rfl hl (by decide) rfl (fun ls hl => ?_)
  refine lv_goto (tgt := 23) hx hb dX9_shown_110 (by decide) ?_
  exact hend _ _ _ hS (hP.sub [0, 1, 2, 12, 3, 4, 13, 5, 6, 7, 8, 9, 10] rfl) (hD.sub [0, 1, 2, 12, 3, 4, 13, 5, 6, 7, 8, 9, 10] rfl rfl) (lv_sub hl [0, 1, 5, 6] rfl) hG

set_option maxHeartbeats 8000000 in
set_option maxRecDepth 100000 in
theorem k669_shown_g2 {p : Program} {l : Launch} {e : Env} {s : State} {m : MethodId} {args : Array Value} {below : List Frame} {meth : Method} {c : Code} {Q : State → Prop} {A : Nat → Prop} {H : Heap} {locs : List Loc} {ls : Array Slot} {dC : Nat → ClassId} {dI : Nat → Nat → Nat} {z : XZ} {h0 h1 h2 h3 h4 h5 h6 h7 h8 h9 h10 h11 h12 : Nat} {kc0 kc1 kc2 : ClassId} (hl9 : l.stackTraces = false) (hx : p.tables.exec = Jvm.exec) (hb : c.code = cX9_shown) (hml : c.maxLocals = 7) (hown : s.vm.findClass RX9 = some m.cls) (hts : ∀ w ∈ wsL_law, w.before args s = true) (hA : ∀ q : Nat, s.heap.size ≤ q → A q) (hX : XE z A s s.heap) (hT : XT s) (hS : va_S A s.heap H locs) (hP : va_P (dC, dI) xCl [(h0, ce21 h1 h2 h3 h4), (h1, ce201 h5), (h2, ce3 z.1), (h3, ce276 h6), (h4, ce226 h7), (h5, ce200 kc0 h8 h9 h10 h11 h12), (h6, ce275 kc1 (z.2.2.1 128) (z.2.2.1 128) (z.2.2.1 128) (z.2.2.1 128) (z.2.2.1 128) (z.2.2.1 128) (z.2.2.1 128)), (h7, ce200 kc2 (z.2.2.1 128) (z.2.2.1 129) (z.2.2.1 130) (z.2.2.1 131) (z.2.2.1 132)), (h8, ce49), (h9, ce49), (h10, ce49), (h11, ce49), (h12, ce49)] H) (hD : va_D A [(h0, ce21 h1 h2 h3 h4), (h1, ce201 h5), (h2, ce3 z.1), (h3, ce276 h6), (h4, ce226 h7), (h5, ce200 kc0 h8 h9 h10 h11 h12), (h6, ce275 kc1 (z.2.2.1 128) (z.2.2.1 128) (z.2.2.1 128) (z.2.2.1 128) (z.2.2.1 128) (z.2.2.1 128) (z.2.2.1 128)), (h7, ce200 kc2 (z.2.2.1 128) (z.2.2.1 129) (z.2.2.1 130) (z.2.2.1 131) (z.2.2.1 132)), (h8, ce49), (h9, ce49), (h10, ce49), (h11, ce49), (h12, ce49)]) (hK : va_K (dC, dI) xCl [(kc0, .object "java/lang/Object"), (kc1, .object "java/lang/Object"), (kc2, .object "java/lang/Object")] s) (hl : lv_has ls 7 [(3, .int 49), (1, .int 0), (2, .int 0), (0, .ref h0)]) (hG : s.heap.size + 148 ≤ H.size) (hend : ∀ (H' : Heap) (locs' : List Loc) (ls' : Array Slot), va_S A s.heap H' locs' → va_P (dC, dI) xCl [(h0, ce21 h1 h2 h3 h4), (h1, ce201 h5), (h2, ce3 z.1), (h3, ce276 h6), (h4, ce226 h7), (h5, ce200 kc0 h8 h9 h10 h11 h12), (h6, ce275 kc1 (z.2.2.1 128) (z.2.2.1 128) (z.2.2.1 128) (z.2.2.1 128) (z.2.2.1 128) (z.2.2.1 128) (z.2.2.1 128)), (h7, ce200 kc2 (z.2.2.1 128) (z.2.2.1 129) (z.2.2.1 130) (z.2.2.1 131) (z.2.2.1 132)), (h8, ce49), (h9, ce49), (h10, ce49), (h11, ce49), (h12, ce49)] H' → va_D A [(h0, ce21 h1 h2 h3 h4), (h1, ce201 h5), (h2, ce3 z.1), (h3, ce276 h6), (h4, ce226 h7), (h5, ce200 kc0 h8 h9 h10 h11 h12), (h6, ce275 kc1 (z.2.2.1 128) (z.2.2.1 128) (z.2.2.1 128) (z.2.2.1 128) (z.2.2.1 128) (z.2.2.1 128) (z.2.2.1 128)), (h7, ce200 kc2 (z.2.2.1 128) (z.2.2.1 129) (z.2.2.1 130) (z.2.2.1 131) (z.2.2.1 132)), (h8, ce49), (h9, ce49), (h10, ce49), (h11, ce49), (h12, ce49)] → lv_has ls' 7 [(3, .int 50), (1, .int 0), (2, .int 0), (0, .ref h0)] → s.heap.size + 296 ≤ H'.size → W p l e ({ frames := 5, cells := 1480, slots := 16000, locals := 121 } : Room) s m args below meth c H' locs' 296 3200 Q (F0 m 23 ls' [])) : W p l e ({ frames := 5, cells := 1480, slots := 16000, locals := 121 } : Room) s m args below meth c H locs 148 1600 Q (F0 m 23 ls []) := by
  refine lv_iload_n hx hb dX9_shown_23 rfl (lv_at hl 0 rfl) ?_
  refine lv_bipush (v := 49) hx hb dX9_shown_24 (by decide) ?_
  refine lv_icmp_gt (tgt := 113) hx hb dX9_shown_26 (by decide) (fun cz => absurd cz (by decide)) (fun _ => ?_)
  refine lv_iconst (v := 0) hx hb dX9_shown_29 (by decide) ?_
  refine lv_istore (lv' := [(4, .int 0), (3, .int 49), (1, .int 0), (2, .int 0), (0, .ref h0)]) hx hb dX9_shown_30 hl (by decide) rfl (fun ls hl => ?_)
  refine lv_aload_n hx hb dX9_shown_32 rfl (lv_at hl 4 rfl) ?_
  refine va_get (D := (dC, dI)) (ci := 8) (v := .ref h3) (C := RX9) (T := TX9) (N := 6) hx hb hts in_X9 hown hK hP 0 rfl rfl 3 (by decide) (hts _ q_66) (fun _ h9 => h9) rfl dX9_shown_33 ?_
  have hM193 := k619_iterator l hl9 dC dI z h3 h6 H.size
  obtain ⟨hF191, hC194⟩ := pc_M hM193 hP hD hK hS hX hT hA [3] [] rfl rfl rfl
  refine va_callr (va_runV (As := []) (rest := []) ⟨hx, hb, hml, hown, hts⟩ hM193 (cwV 0 hts (gV q_256 q_257 q_258 q_12 q_255) rfl rfl rfl hV_Jx4a65c_iterator_32c93 ⟨Nat.le_of_ble_eq_true rfl, Nat.le_of_ble_eq_true rfl⟩) ⟨pc_blind, va_recv hK hP (ci := 0) (q := (RJx4a65c, TJx4a65c, 3)) (q0 := 3) rfl rfl, fun U hU hW => ⟨rfl, hC194 U hU hW⟩⟩ rfl rfl hl.1 rfl (lv_room (Nat.le_of_ble_eq_true rfl)) dX9_shown_36 ⟨(Nat.le_of_ble_eq_true rfl), (Nat.le_of_ble_eq_true rfl)⟩) hS (fun q9 _ h9 => hF191 q9 h9) hF191 (fun u195 r196 t195 H195 L195 ht195 hvm195 hw195 hB195 hz195 hk195 hS => ?_)
  obtain ⟨a197, hr195, hB195⟩ := hB195
  obtain ⟨hP, hD, hK⟩ := pq_jn (wz := [(h0, ce21 h1 h2 h3 h4), (h1, ce201 h5), (h2, ce3 z.1), (h4, ce226 h7), (h5, ce200 kc0 h8 h9 h10 h11 h12), (h6, ce275 kc1 (z.2.2.1 128) (z.2.2.1 128) (z.2.2.1 128) (z.2.2.1 128) (z.2.2.1 128) (z.2.2.1 128) (z.2.2.1 128)), (h7, ce200 kc2 (z.2.2.1 128) (z.2.2.1 129) (z.2.2.1 130) (z.2.2.1 131) (z.2.2.1 132)), (h8, ce49), (h9, ce49), (h10, ce49), (h11, ce49), (h12, ce49), (h3, ce276 h6), (a197, ce292 h3)]) (tz := [(kc0, .object "java/lang/Object"), (kc1, .object "java/lang/Object"), (kc2, .object "java/lang/Object")]) hP hD hK [3] [0, 1, 2] rfl hk195 hF191 hB195.1 ht195 hvm195 rfl rfl
  have hG : s.heap.size + 149 ≤ H195.size := va_gr (g := 148) (g1 := 1) hG (by rw [← ht195]; exact hB195.2)
  refine W.eq (g2 := F0 m 39 ls [.ref a197]) (by rw [hr195]) ?_
  refine W.widen (k := 149) (n := 1604) (by decide) (by decide) ?_
  refine lv_astore (lv' := [(5, .ref a197), (4, .int 0), (3, .int 49), (1, .int 0), (2, .int 0), (0, .ref h0)]) hx hb dX9_shown_39 hl (by decide) rfl (fun ls hl => ?_)
  refine lv_aload hx hb dX9_shown_41 (lv_at hl 0 rfl) ?_
  have hM200 := k620_hasNext l hl9 dC dI z a197 h3 h6 H195.size
  obtain ⟨hF198, hC201⟩ := pc_M hM200 hP hD hK hS hX hT hA [13, 12] [] rfl rfl rfl
  refine va_callFi (va_runF (As := []) (rest := []) (hK.1 1 (RJx35411, TJx35411, 4) rfl).2 ⟨hx, hb, hml, hown, hts⟩ hM200 (va_cwF 0 hts (gF q_261 q_262 q_263 q_246 q_260) rfl rfl rfl hT.2.2.2.2.2.2.1 hF_xIh ⟨Nat.le_of_ble_eq_true rfl, Nat.le_of_ble_eq_true rfl⟩) ⟨pc_blind, va_recv hK hP (ci := 1) (q := (RJx35411, TJx35411, 4)) (q0 := 13) rfl rfl, fun U hU hW => ⟨rfl, hC201 U hU hW⟩⟩ rfl rfl hl.1 rfl (lv_room (Nat.le_of_ble_eq_true rfl)) dX9_shown_43 ⟨(Nat.le_of_ble_eq_true rfl), (Nat.le_of_ble_eq_true rfl)⟩) hS (fun q9 _ h9 => hF198 q9 h9) hF198 (fun r203 u202 t202 H202 L202 ht202 hvm202 hw202 hB202 hz202 hk202 hS => ?_)
  have hP := pq_keep hP hD [13, 12] rfl hk202 hB202.1 ht202
  have hG : s.heap.size + 149 ≤ H202.size := Nat.le_trans hG hz202
  refine W.eq (g2 := F0 m 48 ls [.int 1]) (by rw [hw202]) ?_
  refine lv_if_eq (tgt := 92) hx hb dX9_shown_48 (by decide) (fun cz => absurd cz (by decide)) (fun _ => ?_)
  refine lv_aload hx hb dX9_shown_51 (lv_at hl 0 rfl) ?_
  have hM206 := k622_next l hl9 dC dI z a197 h3 h6 H202.size kc1
  obtain ⟨hF204, hC207⟩ := pc_M hM206 hP hD hK hS hX hT hA [13, 12, 5] [1] rfl rfl rfl
  refine va_callFr (va_runF (As := []) (rest := []) (hK.1 1 (RJx35411, TJx35411, 4) rfl).2 ⟨hx, hb, hml, hown, hts⟩ hM206 (va_cwF 0 hts (gF q_308 q_309 q_310 q_246 q_307) rfl rfl rfl hT.2.2.2.2.2.2.2.1 hF_xIn ⟨Nat.le_of_ble_eq_true rfl, Nat.le_of_ble_eq_true rfl⟩) ⟨pc_blind, va_recv hK hP (ci := 1) (q := (RJx35411, TJx35411, 4)) (q0 := 13) rfl rfl, fun U hU hW => ⟨rfl, hC207 U hU hW⟩⟩ rfl rfl hl.1 rfl (lv_room (Nat.le_of_ble_eq_true rfl)) dX9_shown_53 ⟨(Nat.le_of_ble_eq_true rfl), (Nat.le_of_ble_eq_true rfl)⟩) hS (fun q9 _ h9 => hF204 q9 h9) hF204 (fun u208 r209 t208 H208 L208 ht208 hvm208 hw208 hB208 hz208 hk208 hS => ?_)
  obtain ⟨hr208, hB208⟩ := hB208
  obtain ⟨hP, hD, hK⟩ := pq_jn (wz := [(h0, ce21 h1 h2 h3 h4), (h1, ce201 h5), (h2, ce3 z.1), (h4, ce226 h7), (h5, ce200 kc0 h8 h9 h10 h11 h12), (h7, ce200 kc2 (z.2.2.1 128) (z.2.2.1 129) (z.2.2.1 130) (z.2.2.1 131) (z.2.2.1 132)), (h8, ce49), (h9, ce49), (h10, ce49), (h11, ce49), (h12, ce49), (a197, ce294 h3), (h3, ce276 h6), (h6, ce275 kc1 (z.2.2.1 128) (z.2.2.1 128) (z.2.2.1 128) (z.2.2.1 128) (z.2.2.1 128) (z.2.2.1 128) (z.2.2.1 128))]) (tz := [(kc0, .object "java/lang/Object"), (kc2, .object "java/lang/Object"), (kc1, .object "java/lang/Object")]) hP hD hK [13, 12, 5] [0, 2] rfl hk208 hF204 hB208.1 ht208 hvm208 rfl rfl
  have hG : s.heap.size + 149 ≤ H208.size := Nat.le_trans hG hz208
  refine W.eq (g2 := F0 m 58 ls [.ref (z.2.2.1 128)]) (by rw [hr208]) ?_
  refine va_castE (nm := "java/lang/Integer") hx hb hown (hts _ q_320) (va_Orecv (hX.2.2.1.1.1 128 (by decide)) hS) dX9_shown_58 ?_
  have hM212 := k74_intValue l hl9 dC dI z H208.size
  obtain ⟨hF210, hC213⟩ := pc_M hM212 hP hD hK hS hX hT hA [] [] rfl rfl rfl
  refine va_calli (va_runV (As := []) (rest := []) ⟨hx, hb, hml, hown, hts⟩ hM212 (cwV 0 hts (gV q_323 q_324 q_325 q_297 q_322) rfl rfl rfl hV_J6_intValue_8abf5 ⟨Nat.le_of_ble_eq_true rfl, Nat.le_of_ble_eq_true rfl⟩) ⟨pc_blind, va_Orecv (hX.2.2.1.1.1 128 (by decide)) hS, fun U hU hW => ⟨rfl, hC213 U hU hW⟩⟩ rfl rfl hl.1 rfl (lv_room (Nat.le_of_ble_eq_true rfl)) dX9_shown_61 ⟨(Nat.le_of_ble_eq_true rfl), (Nat.le_of_ble_eq_true rfl)⟩) hS (fun q9 _ h9 => hF210 q9 h9) hF210 (fun r215 u214 t214 H214 L214 ht214 hvm214 hw214 hB214 hz214 hk214 hS => ?_)
  have hP := pq_keep hP hD [] rfl hk214 hB214.1 ht214
  have hG : s.heap.size + 149 ≤ H214.size := Nat.le_trans hG hz214
  refine W.eq (g2 := F0 m 64 ls [.int 0]) (by rw [hw214]) ?_
  refine lv_istore (lv' := [(6, .int 0), (5, .ref a197), (4, .int 0), (3, .int 49), (1, .int 0), (2, .int 0), (0, .ref h0)]) hx hb dX9_shown_64 hl (by decide) rfl (fun ls hl => ?_)
  refine lv_iload hx hb dX9_shown_66 (lv_at hl 2 rfl) ?_
  refine lv_if_ne (tgt := 82) hx hb dX9_shown_68 (by decide) (fun cz => absurd (by decide) cz) (fun _ => ?_)
  refine lv_aload_n hx hb dX9_shown_71 rfl (lv_at hl 6 rfl) ?_
  refine lv_iload_n hx hb dX9_shown_72 rfl (lv_at hl 5 rfl) ?_
  refine lv_iload_n hx hb dX9_shown_73 rfl (lv_at hl 3 rfl) ?_
  refine lv_iload hx hb dX9_shown_74 (lv_at hl 0 rfl) ?_
  have hM218 := k652_showsIt l hl9 dC dI z h0 h1 h2 h4 h5 h7 h8 h9 h10 h11 h12 h3 H214.size kc0 kc2
  obtain ⟨hF216, hC219⟩ := pc_M hM218 hP hD hK hS hX hT hA [0, 1, 2, 3, 4, 5, 6, 7, 8, 9, 10] [0, 1] rfl rfl rfl
  refine va_calli (va_runV (As := [.int 0, .int 49, .int 0]) (rest := []) ⟨hx, hb, hml, hown, hts⟩ hM218 (cwV 3 hts (gV q_429 q_430 q_431 q_60 q_428) rfl rfl rfl hV_X9_showsIt ⟨Nat.le_of_ble_eq_true rfl, Nat.le_of_ble_eq_true rfl⟩) ⟨pc_blind, va_recv hK hP (ci := 8) (q := (RX9, TX9, 6)) (q0 := 0) rfl rfl, fun U hU hW => ⟨rfl, hC219 U hU hW⟩⟩ rfl rfl hl.1 rfl (lv_room (Nat.le_of_ble_eq_true rfl)) dX9_shown_76 ⟨(Nat.le_of_ble_eq_true rfl), (Nat.le_of_ble_eq_true rfl)⟩) hS (fun q9 _ h9 => hF216 q9 h9) hF216 (fun r221 u220 t220 H220 L220 ht220 hvm220 hw220 hB220 hz220 hk220 hS => ?_)
  have hP := pq_keep hP hD [0, 1, 2, 3, 4, 5, 6, 7, 8, 9, 10] rfl hk220 hB220.1 ht220
  have hG : s.heap.size + 170 ≤ H220.size := va_gr (g := 149) (g1 := 21) hG (by rw [← ht220]; exact hB220.2)
  refine W.eq (g2 := F0 m 79 ls [.int 0]) (by rw [hw220]) ?_
  refine W.widen (k := 170) (n := 1832) (by decide) (by decide) ?_
  refine lv_if_eq (tgt := 86) hx hb dX9_shown_79 (by decide) (fun _ => ?_) (fun cz => absurd (by decide) cz)
  refine lv_iconst (v := 0) hx hb dX9_shown_86 (by decide) ?_
  refine lv_istore (lv' := [(4, .int 0), (6, .int 0), (5, .ref a197), (3, .int 49), (1, .int 0), (2, .int 0), (0, .ref h0)]) hx hb dX9_shown_87 hl (by decide) rfl (fun ls hl => ?_)
  refine lv_goto (tgt := 41) hx hb dX9_shown_89 (by decide) ?_
  refine lv_aload hx hb dX9_shown_41 (lv_at hl 2 rfl) ?_
  have hM224 := k632_hasNext l hl9 dC dI z a197 h3 h6 H220.size
  obtain ⟨hF222, hC225⟩ := pc_M hM224 hP hD hK hS hX hT hA [11, 12] [] rfl rfl rfl
  refine va_callFi (va_runF (As := []) (rest := []) (hK.1 1 (RJx35411, TJx35411, 4) rfl).2 ⟨hx, hb, hml, hown, hts⟩ hM224 (va_cwF 0 hts (gF q_261 q_262 q_263 q_246 q_260) rfl rfl rfl hT.2.2.2.2.2.2.1 hF_xIh ⟨Nat.le_of_ble_eq_true rfl, Nat.le_of_ble_eq_true rfl⟩) ⟨pc_blind, va_recv hK hP (ci := 1) (q := (RJx35411, TJx35411, 4)) (q0 := 11) rfl rfl, fun U hU hW => ⟨rfl, hC225 U hU hW⟩⟩ rfl rfl hl.1 rfl (lv_room (Nat.le_of_ble_eq_true rfl)) dX9_shown_43 ⟨(Nat.le_of_ble_eq_true rfl), (Nat.le_of_ble_eq_true rfl)⟩) hS (fun q9 _ h9 => hF222 q9 h9) hF222 (fun r227 u226 t226 H226 L226 ht226 hvm226 hw226 hB226 hz226 hk226 hS => ?_)
  have hP := pq_keep hP hD [11, 12] rfl hk226 hB226.1 ht226
  have hG : s.heap.size + 170 ≤ H226.size := Nat.le_trans hG hz226
  refine W.eq (g2 := F0 m 48 ls [.int 1]) (by rw [hw226]) ?_
  refine lv_if_eq (tgt := 92) hx hb dX9_shown_48 (by decide) (fun cz => absurd cz (by decide)) (fun _ => ?_)
  refine lv_aload hx hb dX9_shown_51 (lv_at hl 2 rfl) ?_
  have hM230 := k634_next l hl9 dC dI z a197 h3 h6 H226.size kc1
  obtain ⟨hF228, hC231⟩ := pc_M hM230 hP hD hK hS hX hT hA [11, 12, 13] [2] rfl rfl rfl
  refine va_callFr (va_runF (As := []) (rest := []) (hK.1 1 (RJx35411, TJx35411, 4) rfl).2 ⟨hx, hb, hml, hown, hts⟩ hM230 (va_cwF 0 hts (gF q_308 q_309 q_310 q_246 q_307) rfl rfl rfl hT.2.2.2.2.2.2.2.1 hF_xIn ⟨Nat.le_of_ble_eq_true rfl, Nat.le_of_ble_eq_true rfl⟩) ⟨pc_blind, va_recv hK hP (ci := 1) (q := (RJx35411, TJx35411, 4)) (q0 := 11) rfl rfl, fun U hU hW => ⟨rfl, hC231 U hU hW⟩⟩ rfl rfl hl.1 rfl (lv_room (Nat.le_of_ble_eq_true rfl)) dX9_shown_53 ⟨(Nat.le_of_ble_eq_true rfl), (Nat.le_of_ble_eq_true rfl)⟩) hS (fun q9 _ h9 => hF228 q9 h9) hF228 (fun u232 r233 t232 H232 L232 ht232 hvm232 hw232 hB232 hz232 hk232 hS => ?_)
  obtain ⟨hr232, hB232⟩ := hB232
  obtain ⟨hP, hD, hK⟩ := pq_jn (wz := [(h0, ce21 h1 h2 h3 h4), (h1, ce201 h5), (h2, ce3 z.1), (h4, ce226 h7), (h5, ce200 kc0 h8 h9 h10 h11 h12), (h7, ce200 kc2 (z.2.2.1 128) (z.2.2.1 129) (z.2.2.1 130) (z.2.2.1 131) (z.2.2.1 132)), (h8, ce49), (h9, ce49), (h10, ce49), (h11, ce49), (h12, ce49), (a197, ce310 h3), (h3, ce276 h6), (h6, ce275 kc1 (z.2.2.1 128) (z.2.2.1 128) (z.2.2.1 128) (z.2.2.1 128) (z.2.2.1 128) (z.2.2.1 128) (z.2.2.1 128))]) (tz := [(kc0, .object "java/lang/Object"), (kc2, .object "java/lang/Object"), (kc1, .object "java/lang/Object")]) hP hD hK [11, 12, 13] [0, 1] rfl hk232 hF228 hB232.1 ht232 hvm232 rfl rfl
  have hG : s.heap.size + 170 ≤ H232.size := Nat.le_trans hG hz232
  refine W.eq (g2 := F0 m 58 ls [.ref (z.2.2.1 128)]) (by rw [hr232]) ?_
  refine va_castE (nm := "java/lang/Integer") hx hb hown (hts _ q_320) (va_Orecv (hX.2.2.1.1.1 128 (by decide)) hS) dX9_shown_58 ?_
  have hM236 := k74_intValue l hl9 dC dI z H232.size
  obtain ⟨hF234, hC237⟩ := pc_M hM236 hP hD hK hS hX hT hA [] [] rfl rfl rfl
  refine va_calli (va_runV (As := []) (rest := []) ⟨hx, hb, hml, hown, hts⟩ hM236 (cwV 0 hts (gV q_323 q_324 q_325 q_297 q_322) rfl rfl rfl hV_J6_intValue_8abf5 ⟨Nat.le_of_ble_eq_true rfl, Nat.le_of_ble_eq_true rfl⟩) ⟨pc_blind, va_Orecv (hX.2.2.1.1.1 128 (by decide)) hS, fun U hU hW => ⟨rfl, hC237 U hU hW⟩⟩ rfl rfl hl.1 rfl (lv_room (Nat.le_of_ble_eq_true rfl)) dX9_shown_61 ⟨(Nat.le_of_ble_eq_true rfl), (Nat.le_of_ble_eq_true rfl)⟩) hS (fun q9 _ h9 => hF234 q9 h9) hF234 (fun r239 u238 t238 H238 L238 ht238 hvm238 hw238 hB238 hz238 hk238 hS => ?_)
  have hP := pq_keep hP hD [] rfl hk238 hB238.1 ht238
  have hG : s.heap.size + 170 ≤ H238.size := Nat.le_trans hG hz238
  refine W.eq (g2 := F0 m 64 ls [.int 0]) (by rw [hw238]) ?_
  refine lv_istore (lv' := [(6, .int 0), (4, .int 0), (5, .ref a197), (3, .int 49), (1, .int 0), (2, .int 0), (0, .ref h0)]) hx hb dX9_shown_64 hl (by decide) rfl (fun ls hl => ?_)
  refine lv_iload hx hb dX9_shown_66 (lv_at hl 1 rfl) ?_
  refine lv_if_ne (tgt := 82) hx hb dX9_shown_68 (by decide) (fun cz => absurd (by decide) cz) (fun _ => ?_)
  refine lv_aload_n hx hb dX9_shown_71 rfl (lv_at hl 6 rfl) ?_
  refine lv_iload_n hx hb dX9_shown_72 rfl (lv_at hl 5 rfl) ?_
  refine lv_iload_n hx hb dX9_shown_73 rfl (lv_at hl 3 rfl) ?_
  refine lv_iload hx hb dX9_shown_74 (lv_at hl 0 rfl) ?_
  have hM242 := k652_showsIt l hl9 dC dI z h0 h1 h2 h4 h5 h7 h8 h9 h10 h11 h12 h3 H238.size kc0 kc2
  obtain ⟨hF240, hC243⟩ := pc_M hM242 hP hD hK hS hX hT hA [0, 1, 2, 3, 4, 5, 6, 7, 8, 9, 10] [0, 1] rfl rfl rfl
  refine va_calli (va_runV (As := [.int 0, .int 49, .int 0]) (rest := []) ⟨hx, hb, hml, hown, hts⟩ hM242 (cwV 3 hts (gV q_429 q_430 q_431 q_60 q_428) rfl rfl rfl hV_X9_showsIt ⟨Nat.le_of_ble_eq_true rfl, Nat.le_of_ble_eq_true rfl⟩) ⟨pc_blind, va_recv hK hP (ci := 8) (q := (RX9, TX9, 6)) (q0 := 0) rfl rfl, fun U hU hW => ⟨rfl, hC243 U hU hW⟩⟩ rfl rfl hl.1 rfl (lv_room (Nat.le_of_ble_eq_true rfl)) dX9_shown_76 ⟨(Nat.le_of_ble_eq_true rfl), (Nat.le_of_ble_eq_true rfl)⟩) hS (fun q9 _ h9 => hF240 q9 h9) hF240 (fun r245 u244 t244 H244 L244 ht244 hvm244 hw244 hB244 hz244 hk244 hS => ?_)
  have hP := pq_keep hP hD [0, 1, 2, 3, 4, 5, 6, 7, 8, 9, 10] rfl hk244 hB244.1 ht244
  have hG : s.heap.size + 191 ≤ H244.size := va_gr (g := 170) (g1 := 21) hG (by rw [← ht244]; exact hB244.2)
  refine W.eq (g2 := F0 m 79 ls [.int 0]) (by rw [hw244]) ?_
  refine W.widen (k := 191) (n := 2060) (by decide) (by decide) ?_
  refine lv_if_eq (tgt := 86) hx hb dX9_shown_79 (by decide) (fun _ => ?_) (fun cz => absurd (by decide) cz)
  refine lv_iconst (v := 0) hx hb dX9_shown_86 (by decide) ?_
  refine lv_istore (lv' := [(4, .int 0), (6, .int 0), (5, .ref a197), (3, .int 49), (1, .int 0), (2, .int 0), (0, .ref h0)]) hx hb dX9_shown_87 hl (by decide) rfl (fun ls hl => ?_)
  refine lv_goto (tgt := 41) hx hb dX9_shown_89 (by decide) ?_
  refine lv_aload hx hb dX9_shown_41 (lv_at hl 2 rfl) ?_
  have hM248 := k635_hasNext l hl9 dC dI z a197 h3 h6 H244.size
  obtain ⟨hF246, hC249⟩ := pc_M hM248 hP hD hK hS hX hT hA [11, 12] [] rfl rfl rfl
  refine va_callFi (va_runF (As := []) (rest := []) (hK.1 1 (RJx35411, TJx35411, 4) rfl).2 ⟨hx, hb, hml, hown, hts⟩ hM248 (va_cwF 0 hts (gF q_261 q_262 q_263 q_246 q_260) rfl rfl rfl hT.2.2.2.2.2.2.1 hF_xIh ⟨Nat.le_of_ble_eq_true rfl, Nat.le_of_ble_eq_true rfl⟩) ⟨pc_blind, va_recv hK hP (ci := 1) (q := (RJx35411, TJx35411, 4)) (q0 := 11) rfl rfl, fun U hU hW => ⟨rfl, hC249 U hU hW⟩⟩ rfl rfl hl.1 rfl (lv_room (Nat.le_of_ble_eq_true rfl)) dX9_shown_43 ⟨(Nat.le_of_ble_eq_true rfl), (Nat.le_of_ble_eq_true rfl)⟩) hS (fun q9 _ h9 => hF246 q9 h9) hF246 (fun r251 u250 t250 H250 L250 ht250 hvm250 hw250 hB250 hz250 hk250 hS => ?_)
  have hP := pq_keep hP hD [11, 12] rfl hk250 hB250.1 ht250
  have hG : s.heap.size + 191 ≤ H250.size := Nat.le_trans hG hz250
  refine W.eq (g2 := F0 m 48 ls [.int 1]) (by rw [hw250]) ?_
  refine lv_if_eq (tgt := 92) hx hb dX9_shown_48 (by decide) (fun cz => absurd cz (by decide)) (fun _ => ?_)
  refine lv_aload hx hb dX9_shown_51 (lv_at hl 2 rfl) ?_
  have hM254 := k637_next l hl9 dC dI z a197 h3 h6 H250.size kc1
  obtain ⟨hF252, hC255⟩ := pc_M hM254 hP hD hK hS hX hT hA [11, 12, 13] [2] rfl rfl rfl
  refine va_callFr (va_runF (As := []) (rest := []) (hK.1 1 (RJx35411, TJx35411, 4) rfl).2 ⟨hx, hb, hml, hown, hts⟩ hM254 (va_cwF 0 hts (gF q_308 q_309 q_310 q_246 q_307) rfl rfl rfl hT.2.2.2.2.2.2.2.1 hF_xIn ⟨Nat.le_of_ble_eq_true rfl, Nat.le_of_ble_eq_true rfl⟩) ⟨pc_blind, va_recv hK hP (ci := 1) (q := (RJx35411, TJx35411, 4)) (q0 := 11) rfl rfl, fun U hU hW => ⟨rfl, hC255 U hU hW⟩⟩ rfl rfl hl.1 rfl (lv_room (Nat.le_of_ble_eq_true rfl)) dX9_shown_53 ⟨(Nat.le_of_ble_eq_true rfl), (Nat.le_of_ble_eq_true rfl)⟩) hS (fun q9 _ h9 => hF252 q9 h9) hF252 (fun u256 r257 t256 H256 L256 ht256 hvm256 hw256 hB256 hz256 hk256 hS => ?_)
  obtain ⟨hr256, hB256⟩ := hB256
  obtain ⟨hP, hD, hK⟩ := pq_jn (wz := [(h0, ce21 h1 h2 h3 h4), (h1, ce201 h5), (h2, ce3 z.1), (h4, ce226 h7), (h5, ce200 kc0 h8 h9 h10 h11 h12), (h7, ce200 kc2 (z.2.2.1 128) (z.2.2.1 129) (z.2.2.1 130) (z.2.2.1 131) (z.2.2.1 132)), (h8, ce49), (h9, ce49), (h10, ce49), (h11, ce49), (h12, ce49), (a197, ce312 h3), (h3, ce276 h6), (h6, ce275 kc1 (z.2.2.1 128) (z.2.2.1 128) (z.2.2.1 128) (z.2.2.1 128) (z.2.2.1 128) (z.2.2.1 128) (z.2.2.1 128))]) (tz := [(kc0, .object "java/lang/Object"), (kc2, .object "java/lang/Object"), (kc1, .object "java/lang/Object")]) hP hD hK [11, 12, 13] [0, 1] rfl hk256 hF252 hB256.1 ht256 hvm256 rfl rfl
  have hG : s.heap.size + 191 ≤ H256.size := Nat.le_trans hG hz256
  refine W.eq (g2 := F0 m 58 ls [.ref (z.2.2.1 128)]) (by rw [hr256]) ?_
  refine va_castE (nm := "java/lang/Integer") hx hb hown (hts _ q_320) (va_Orecv (hX.2.2.1.1.1 128 (by decide)) hS) dX9_shown_58 ?_
  have hM260 := k74_intValue l hl9 dC dI z H256.size
  obtain ⟨hF258, hC261⟩ := pc_M hM260 hP hD hK hS hX hT hA [] [] rfl rfl rfl
  refine va_calli (va_runV (As := []) (rest := []) ⟨hx, hb, hml, hown, hts⟩ hM260 (cwV 0 hts (gV q_323 q_324 q_325 q_297 q_322) rfl rfl rfl hV_J6_intValue_8abf5 ⟨Nat.le_of_ble_eq_true rfl, Nat.le_of_ble_eq_true rfl⟩) ⟨pc_blind, va_Orecv (hX.2.2.1.1.1 128 (by decide)) hS, fun U hU hW => ⟨rfl, hC261 U hU hW⟩⟩ rfl rfl hl.1 rfl (lv_room (Nat.le_of_ble_eq_true rfl)) dX9_shown_61 ⟨(Nat.le_of_ble_eq_true rfl), (Nat.le_of_ble_eq_true rfl)⟩) hS (fun q9 _ h9 => hF258 q9 h9) hF258 (fun r263 u262 t262 H262 L262 ht262 hvm262 hw262 hB262 hz262 hk262 hS => ?_)
  have hP := pq_keep hP hD [] rfl hk262 hB262.1 ht262
  have hG : s.heap.size + 191 ≤ H262.size := Nat.le_trans hG hz262
  refine W.eq (g2 := F0 m 64 ls [.int 0]) (by rw [hw262]) ?_
  refine lv_istore (lv' := [(6, .int 0), (4, .int 0), (5, .ref a197), (3, .int 49), (1, .int 0), (2, .int 0), (0, .ref h0)]) hx hb dX9_shown_64 hl (by decide) rfl (fun ls hl => ?_)
  refine lv_iload hx hb dX9_shown_66 (lv_at hl 1 rfl) ?_
  refine lv_if_ne (tgt := 82) hx hb dX9_shown_68 (by decide) (fun cz => absurd (by decide) cz) (fun _ => ?_)
  refine lv_aload_n hx hb dX9_shown_71 rfl (lv_at hl 6 rfl) ?_
  refine lv_iload_n hx hb dX9_shown_72 rfl (lv_at hl 5 rfl) ?_
  refine lv_iload_n hx hb dX9_shown_73 rfl (lv_at hl 3 rfl) ?_
  refine lv_iload hx hb dX9_shown_74 (lv_at hl 0 rfl) ?_
  have hM266 := k652_showsIt l hl9 dC dI z h0 h1 h2 h4 h5 h7 h8 h9 h10 h11 h12 h3 H262.size kc0 kc2
  obtain ⟨hF264, hC267⟩ := pc_M hM266 hP hD hK hS hX hT hA [0, 1, 2, 3, 4, 5, 6, 7, 8, 9, 10] [0, 1] rfl rfl rfl
  refine va_calli (va_runV (As := [.int 0, .int 49, .int 0]) (rest := []) ⟨hx, hb, hml, hown, hts⟩ hM266 (cwV 3 hts (gV q_429 q_430 q_431 q_60 q_428) rfl rfl rfl hV_X9_showsIt ⟨Nat.le_of_ble_eq_true rfl, Nat.le_of_ble_eq_true rfl⟩) ⟨pc_blind, va_recv hK hP (ci := 8) (q := (RX9, TX9, 6)) (q0 := 0) rfl rfl, fun U hU hW => ⟨rfl, hC267 U hU hW⟩⟩ rfl rfl hl.1 rfl (lv_room (Nat.le_of_ble_eq_true rfl)) dX9_shown_76 ⟨(Nat.le_of_ble_eq_true rfl), (Nat.le_of_ble_eq_true rfl)⟩) hS (fun q9 _ h9 => hF264 q9 h9) hF264 (fun r269 u268 t268 H268 L268 ht268 hvm268 hw268 hB268 hz268 hk268 hS => ?_)
  have hP := pq_keep hP hD [0, 1, 2, 3, 4, 5, 6, 7, 8, 9, 10] rfl hk268 hB268.1 ht268
  have hG : s.heap.size + 212 ≤ H268.size := va_gr (g := 191) (g1 := 21) hG (by rw [← ht268]; exact hB268.2)
  refine W.eq (g2 := F0 m 79 ls [.int 0]) (by rw [hw268]) ?_
  refine W.widen (k := 212) (n := 2288) (by decide) (by decide) ?_
  refine lv_if_eq (tgt := 86) hx hb dX9_shown_79 (by decide) (fun _ => ?_) (fun cz => absurd (by decide) cz)
  refine lv_iconst (v := 0) hx hb dX9_shown_86 (by decide) ?_
  refine lv_istore (lv' := [(4, .int 0), (6, .int 0), (5, .ref a197), (3, .int 49), (1, .int 0), (2, .int 0), (0, .ref h0)]) hx hb dX9_shown_87 hl (by decide) rfl (fun ls hl => ?_)
  refine lv_goto (tgt := 41) hx hb dX9_shown_89 (by decide) ?_
  refine lv_aload hx hb dX9_shown_41 (lv_at hl 2 rfl) ?_
  have hM272 := k638_hasNext l hl9 dC dI z a197 h3 h6 H268.size
  obtain ⟨hF270, hC273⟩ := pc_M hM272 hP hD hK hS hX hT hA [11, 12] [] rfl rfl rfl
  refine va_callFi (va_runF (As := []) (rest := []) (hK.1 1 (RJx35411, TJx35411, 4) rfl).2 ⟨hx, hb, hml, hown, hts⟩ hM272 (va_cwF 0 hts (gF q_261 q_262 q_263 q_246 q_260) rfl rfl rfl hT.2.2.2.2.2.2.1 hF_xIh ⟨Nat.le_of_ble_eq_true rfl, Nat.le_of_ble_eq_true rfl⟩) ⟨pc_blind, va_recv hK hP (ci := 1) (q := (RJx35411, TJx35411, 4)) (q0 := 11) rfl rfl, fun U hU hW => ⟨rfl, hC273 U hU hW⟩⟩ rfl rfl hl.1 rfl (lv_room (Nat.le_of_ble_eq_true rfl)) dX9_shown_43 ⟨(Nat.le_of_ble_eq_true rfl), (Nat.le_of_ble_eq_true rfl)⟩) hS (fun q9 _ h9 => hF270 q9 h9) hF270 (fun r275 u274 t274 H274 L274 ht274 hvm274 hw274 hB274 hz274 hk274 hS => ?_)
  have hP := pq_keep hP hD [11, 12] rfl hk274 hB274.1 ht274
  have hG : s.heap.size + 212 ≤ H274.size := Nat.le_trans hG hz274
  refine W.eq (g2 := F0 m 48 ls [.int 1]) (by rw [hw274]) ?_
  refine lv_if_eq (tgt := 92) hx hb dX9_shown_48 (by decide) (fun cz => absurd cz (by decide)) (fun _ => ?_)
  refine lv_aload hx hb dX9_shown_51 (lv_at hl 2 rfl) ?_
  have hM278 := k640_next l hl9 dC dI z a197 h3 h6 H274.size kc1
  obtain ⟨hF276, hC279⟩ := pc_M hM278 hP hD hK hS hX hT hA [11, 12, 13] [2] rfl rfl rfl
  refine va_callFr (va_runF (As := []) (rest := []) (hK.1 1 (RJx35411, TJx35411, 4) rfl).2 ⟨hx, hb, hml, hown, hts⟩ hM278 (va_cwF 0 hts (gF q_308 q_309 q_310 q_246 q_307) rfl rfl rfl hT.2.2.2.2.2.2.2.1 hF_xIn ⟨Nat.le_of_ble_eq_true rfl, Nat.le_of_ble_eq_true rfl⟩) ⟨pc_blind, va_recv hK hP (ci := 1) (q := (RJx35411, TJx35411, 4)) (q0 := 11) rfl rfl, fun U hU hW => ⟨rfl, hC279 U hU hW⟩⟩ rfl rfl hl.1 rfl (lv_room (Nat.le_of_ble_eq_true rfl)) dX9_shown_53 ⟨(Nat.le_of_ble_eq_true rfl), (Nat.le_of_ble_eq_true rfl)⟩) hS (fun q9 _ h9 => hF276 q9 h9) hF276 (fun u280 r281 t280 H280 L280 ht280 hvm280 hw280 hB280 hz280 hk280 hS => ?_)
  obtain ⟨hr280, hB280⟩ := hB280
  obtain ⟨hP, hD, hK⟩ := pq_jn (wz := [(h0, ce21 h1 h2 h3 h4), (h1, ce201 h5), (h2, ce3 z.1), (h4, ce226 h7), (h5, ce200 kc0 h8 h9 h10 h11 h12), (h7, ce200 kc2 (z.2.2.1 128) (z.2.2.1 129) (z.2.2.1 130) (z.2.2.1 131) (z.2.2.1 132)), (h8, ce49), (h9, ce49), (h10, ce49), (h11, ce49), (h12, ce49), (a197, ce314 h3), (h3, ce276 h6), (h6, ce275 kc1 (z.2.2.1 128) (z.2.2.1 128) (z.2.2.1 128) (z.2.2.1 128) (z.2.2.1 128) (z.2.2.1 128) (z.2.2.1 128))]) (tz := [(kc0, .object "java/lang/Object"), (kc2, .object "java/lang/Object"), (kc1, .object "java/lang/Object")]) hP hD hK [11, 12, 13] [0, 1] rfl hk280 hF276 hB280.1 ht280 hvm280 rfl rfl
  have hG : s.heap.size + 212 ≤ H280.size := Nat.le_trans hG hz280
  refine W.eq (g2 := F0 m 58 ls [.ref (z.2.2.1 128)]) (by rw [hr280]) ?_
  refine va_castE (nm := "java/lang/Integer") hx hb hown (hts _ q_320) (va_Orecv (hX.2.2.1.1.1 128 (by decide)) hS) dX9_shown_58 ?_
  have hM284 := k74_intValue l hl9 dC dI z H280.size
  obtain ⟨hF282, hC285⟩ := pc_M hM284 hP hD hK hS hX hT hA [] [] rfl rfl rfl
  refine va_calli (va_runV (As := []) (rest := []) ⟨hx, hb, hml, hown, hts⟩ hM284 (cwV 0 hts (gV q_323 q_324 q_325 q_297 q_322) rfl rfl rfl hV_J6_intValue_8abf5 ⟨Nat.le_of_ble_eq_true rfl, Nat.le_of_ble_eq_true rfl⟩) ⟨pc_blind, va_Orecv (hX.2.2.1.1.1 128 (by decide)) hS, fun U hU hW => ⟨rfl, hC285 U hU hW⟩⟩ rfl rfl hl.1 rfl (lv_room (Nat.le_of_ble_eq_true rfl)) dX9_shown_61 ⟨(Nat.le_of_ble_eq_true rfl), (Nat.le_of_ble_eq_true rfl)⟩) hS (fun q9 _ h9 => hF282 q9 h9) hF282 (fun r287 u286 t286 H286 L286 ht286 hvm286 hw286 hB286 hz286 hk286 hS => ?_)
  have hP := pq_keep hP hD [] rfl hk286 hB286.1 ht286
  have hG : s.heap.size + 212 ≤ H286.size := Nat.le_trans hG hz286
  refine W.eq (g2 := F0 m 64 ls [.int 0]) (by rw [hw286]) ?_
  refine lv_istore (lv' := [(6, .int 0), (4, .int 0), (5, .ref a197), (3, .int 49), (1, .int 0), (2, .int 0), (0, .ref h0)]) hx hb dX9_shown_64 hl (by decide) rfl (fun ls hl => ?_)
  refine lv_iload hx hb dX9_shown_66 (lv_at hl 1 rfl) ?_
  refine lv_if_ne (tgt := 82) hx hb dX9_shown_68 (by decide) (fun cz => absurd (by decide) cz) (fun _ => ?_)
  refine lv_aload_n hx hb dX9_shown_71 rfl (lv_at hl 6 rfl) ?_
  refine lv_iload_n hx hb dX9_shown_72 rfl (lv_at hl 5 rfl) ?_
  refine lv_iload_n hx hb dX9_shown_73 rfl (lv_at hl 3 rfl) ?_
  refine lv_iload hx hb dX9_shown_74 (lv_at hl 0 rfl) ?_
  have hM290 := k652_showsIt l hl9 dC dI z h0 h1 h2 h4 h5 h7 h8 h9 h10 h11 h12 h3 H286.size kc0 kc2
  obtain ⟨hF288, hC291⟩ := pc_M hM290 hP hD hK hS hX hT hA [0, 1, 2, 3, 4, 5, 6, 7, 8, 9, 10] [0, 1] rfl rfl rfl
  refine va_calli (va_runV (As := [.int 0, .int 49, .int 0]) (rest := []) ⟨hx, hb, hml, hown, hts⟩ hM290 (cwV 3 hts (gV q_429 q_430 q_431 q_60 q_428) rfl rfl rfl hV_X9_showsIt ⟨Nat.le_of_ble_eq_true rfl, Nat.le_of_ble_eq_true rfl⟩) ⟨pc_blind, va_recv hK hP (ci := 8) (q := (RX9, TX9, 6)) (q0 := 0) rfl rfl, fun U hU hW => ⟨rfl, hC291 U hU hW⟩⟩ rfl rfl hl.1 rfl (lv_room (Nat.le_of_ble_eq_true rfl)) dX9_shown_76 ⟨(Nat.le_of_ble_eq_true rfl), (Nat.le_of_ble_eq_true rfl)⟩) hS (fun q9 _ h9 => hF288 q9 h9) hF288 (fun r293 u292 t292 H292 L292 ht292 hvm292 hw292 hB292 hz292 hk292 hS => ?_)
  have hP := pq_keep hP hD [0, 1, 2, 3, 4, 5, 6, 7, 8, 9, 10] rfl hk292 hB292.1 ht292
  have hG : s.heap.size + 233 ≤ H292.size := va_gr (g := 212) (g1 := 21) hG (by rw [← ht292]; exact hB292.2)
  refine W.eq (g2 := F0 m 79 ls [.int 0]) (by rw [hw292]) ?_
  refine W.widen (k := 233) (n := 2516) (by decide) (by decide) ?_
  refine lv_if_eq (tgt := 86) hx hb dX9_shown_79 (by decide) (fun _ => ?_) (fun cz => absurd (by decide) cz)
  refine lv_iconst (v := 0) hx hb dX9_shown_86 (by decide) ?_
  refine lv_istore (lv' := [(4, .int 0), (6, .int 0), (5, .ref a197), (3, .int 49), (1, .int 0), (2, .int 0), (0, .ref h0)]) hx hb dX9_shown_87 hl (by decide) rfl (fun ls hl => ?_)
  refine lv_goto (tgt := 41) hx hb dX9_shown_89 (by decide) ?_
  refine lv_aload hx hb dX9_shown_41 (lv_at hl 2 rfl) ?_
  have hM296 := k641_hasNext l hl9 dC dI z a197 h3 h6 H292.size
  obtain ⟨hF294, hC297⟩ := pc_M hM296 hP hD hK hS hX hT hA [11, 12] [] rfl rfl rfl
  refine va_callFi (va_runF (As := []) (rest := []) (hK.1 1 (RJx35411, TJx35411, 4) rfl).2 ⟨hx, hb, hml, hown, hts⟩ hM296 (va_cwF 0 hts (gF q_261 q_262 q_263 q_246 q_260) rfl rfl rfl hT.2.2.2.2.2.2.1 hF_xIh ⟨Nat.le_of_ble_eq_true rfl, Nat.le_of_ble_eq_true rfl⟩) ⟨pc_blind, va_recv hK hP (ci := 1) (q := (RJx35411, TJx35411, 4)) (q0 := 11) rfl rfl, fun U hU hW => ⟨rfl, hC297 U hU hW⟩⟩ rfl rfl hl.1 rfl (lv_room (Nat.le_of_ble_eq_true rfl)) dX9_shown_43 ⟨(Nat.le_of_ble_eq_true rfl), (Nat.le_of_ble_eq_true rfl)⟩) hS (fun q9 _ h9 => hF294 q9 h9) hF294 (fun r299 u298 t298 H298 L298 ht298 hvm298 hw298 hB298 hz298 hk298 hS => ?_)
  have hP := pq_keep hP hD [11, 12] rfl hk298 hB298.1 ht298
  have hG : s.heap.size + 233 ≤ H298.size := Nat.le_trans hG hz298
  refine W.eq (g2 := F0 m 48 ls [.int 1]) (by rw [hw298]) ?_
  refine lv_if_eq (tgt := 92) hx hb dX9_shown_48 (by decide) (fun cz => absurd cz (by decide)) (fun _ => ?_)
  refine lv_aload hx hb dX9_shown_51 (lv_at hl 2 rfl) ?_
  have hM302 := k643_next l hl9 dC dI z a197 h3 h6 H298.size kc1
  obtain ⟨hF300, hC303⟩ := pc_M hM302 hP hD hK hS hX hT hA [11, 12, 13] [2] rfl rfl rfl
  refine va_callFr (va_runF (As := []) (rest := []) (hK.1 1 (RJx35411, TJx35411, 4) rfl).2 ⟨hx, hb, hml, hown, hts⟩ hM302 (va_cwF 0 hts (gF q_308 q_309 q_310 q_246 q_307) rfl rfl rfl hT.2.2.2.2.2.2.2.1 hF_xIn ⟨Nat.le_of_ble_eq_true rfl, Nat.le_of_ble_eq_true rfl⟩) ⟨pc_blind, va_recv hK hP (ci := 1) (q := (RJx35411, TJx35411, 4)) (q0 := 11) rfl rfl, fun U hU hW => ⟨rfl, hC303 U hU hW⟩⟩ rfl rfl hl.1 rfl (lv_room (Nat.le_of_ble_eq_true rfl)) dX9_shown_53 ⟨(Nat.le_of_ble_eq_true rfl), (Nat.le_of_ble_eq_true rfl)⟩) hS (fun q9 _ h9 => hF300 q9 h9) hF300 (fun u304 r305 t304 H304 L304 ht304 hvm304 hw304 hB304 hz304 hk304 hS => ?_)
  obtain ⟨hr304, hB304⟩ := hB304
  obtain ⟨hP, hD, hK⟩ := pq_jn (wz := [(h0, ce21 h1 h2 h3 h4), (h1, ce201 h5), (h2, ce3 z.1), (h4, ce226 h7), (h5, ce200 kc0 h8 h9 h10 h11 h12), (h7, ce200 kc2 (z.2.2.1 128) (z.2.2.1 129) (z.2.2.1 130) (z.2.2.1 131) (z.2.2.1 132)), (h8, ce49), (h9, ce49), (h10, ce49), (h11, ce49), (h12, ce49), (a197, ce316 h3), (h3, ce276 h6), (h6, ce275 kc1 (z.2.2.1 128) (z.2.2.1 128) (z.2.2.1 128) (z.2.2.1 128) (z.2.2.1 128) (z.2.2.1 128) (z.2.2.1 128))]) (tz := [(kc0, .object "java/lang/Object"), (kc2, .object "java/lang/Object"), (kc1, .object "java/lang/Object")]) hP hD hK [11, 12, 13] [0, 1] rfl hk304 hF300 hB304.1 ht304 hvm304 rfl rfl
  have hG : s.heap.size + 233 ≤ H304.size := Nat.le_trans hG hz304
  refine W.eq (g2 := F0 m 58 ls [.ref (z.2.2.1 128)]) (by rw [hr304]) ?_
  refine va_castE (nm := "java/lang/Integer") hx hb hown (hts _ q_320) (va_Orecv (hX.2.2.1.1.1 128 (by decide)) hS) dX9_shown_58 ?_
  have hM308 := k74_intValue l hl9 dC dI z H304.size
  obtain ⟨hF306, hC309⟩ := pc_M hM308 hP hD hK hS hX hT hA [] [] rfl rfl rfl
  refine va_calli (va_runV (As := []) (rest := []) ⟨hx, hb, hml, hown, hts⟩ hM308 (cwV 0 hts (gV q_323 q_324 q_325 q_297 q_322) rfl rfl rfl hV_J6_intValue_8abf5 ⟨Nat.le_of_ble_eq_true rfl, Nat.le_of_ble_eq_true rfl⟩) ⟨pc_blind, va_Orecv (hX.2.2.1.1.1 128 (by decide)) hS, fun U hU hW => ⟨rfl, hC309 U hU hW⟩⟩ rfl rfl hl.1 rfl (lv_room (Nat.le_of_ble_eq_true rfl)) dX9_shown_61 ⟨(Nat.le_of_ble_eq_true rfl), (Nat.le_of_ble_eq_true rfl)⟩) hS (fun q9 _ h9 => hF306 q9 h9) hF306 (fun r311 u310 t310 H310 L310 ht310 hvm310 hw310 hB310 hz310 hk310 hS => ?_)
  have hP := pq_keep hP hD [] rfl hk310 hB310.1 ht310
  have hG : s.heap.size + 233 ≤ H310.size := Nat.le_trans hG hz310
  refine W.eq (g2 := F0 m 64 ls [.int 0]) (by rw [hw310]) ?_
  refine lv_istore (lv' := [(6, .int 0), (4, .int 0), (5, .ref a197), (3, .int 49), (1, .int 0), (2, .int 0), (0, .ref h0)]) hx hb dX9_shown_64 hl (by decide) rfl (fun ls hl => ?_)
  refine lv_iload hx hb dX9_shown_66 (lv_at hl 1 rfl) ?_
  refine lv_if_ne (tgt := 82) hx hb dX9_shown_68 (by decide) (fun cz => absurd (by decide) cz) (fun _ => ?_)
  refine lv_aload_n hx hb dX9_shown_71 rfl (lv_at hl 6 rfl) ?_
  refine lv_iload_n hx hb dX9_shown_72 rfl (lv_at hl 5 rfl) ?_
  refine lv_iload_n hx hb dX9_shown_73 rfl (lv_at hl 3 rfl) ?_
  refine lv_iload hx hb dX9_shown_74 (lv_at hl 0 rfl) ?_
  have hM314 := k652_showsIt l hl9 dC dI z h0 h1 h2 h4 h5 h7 h8 h9 h10 h11 h12 h3 H310.size kc0 kc2
  obtain ⟨hF312, hC315⟩ := pc_M hM314 hP hD hK hS hX hT hA [0, 1, 2, 3, 4, 5, 6, 7, 8, 9, 10] [0, 1] rfl rfl rfl
  refine va_calli (va_runV (As := [.int 0, .int 49, .int 0]) (rest := []) ⟨hx, hb, hml, hown, hts⟩ hM314 (cwV 3 hts (gV q_429 q_430 q_431 q_60 q_428) rfl rfl rfl hV_X9_showsIt ⟨Nat.le_of_ble_eq_true rfl, Nat.le_of_ble_eq_true rfl⟩) ⟨pc_blind, va_recv hK hP (ci := 8) (q := (RX9, TX9, 6)) (q0 := 0) rfl rfl, fun U hU hW => ⟨rfl, hC315 U hU hW⟩⟩ rfl rfl hl.1 rfl (lv_room (Nat.le_of_ble_eq_true rfl)) dX9_shown_76 ⟨(Nat.le_of_ble_eq_true rfl), (Nat.le_of_ble_eq_true rfl)⟩) hS (fun q9 _ h9 => hF312 q9 h9) hF312 (fun r317 u316 t316 H316 L316 ht316 hvm316 hw316 hB316 hz316 hk316 hS => ?_)
  have hP := pq_keep hP hD [0, 1, 2, 3, 4, 5, 6, 7, 8, 9, 10] rfl hk316 hB316.1 ht316
  have hG : s.heap.size + 254 ≤ H316.size := va_gr (g := 233) (g1 := 21) hG (by rw [← ht316]; exact hB316.2)
  refine W.eq (g2 := F0 m 79 ls [.int 0]) (by rw [hw316]) ?_
  refine W.widen (k := 254) (n := 2744) (by decide) (by decide) ?_
  refine lv_if_eq (tgt := 86) hx hb dX9_shown_79 (by decide) (fun _ => ?_) (fun cz => absurd (by decide) cz)
  refine lv_iconst (v := 0) hx hb dX9_shown_86 (by decide) ?_
  refine lv_istore (lv' := [(4, .int 0), (6, .int 0), (5, .ref a197), (3, .int 49), (1, .int 0), (2, .int 0), (0, .ref h0)]) hx hb dX9_shown_87 hl (by decide) rfl (fun ls hl => ?_)
  refine lv_goto (tgt := 41) hx hb dX9_shown_89 (by decide) ?_
  refine lv_aload hx hb dX9_shown_41 (lv_at hl 2 rfl) ?_
  have hM320 := k644_hasNext l hl9 dC dI z a197 h3 h6 H316.size
  obtain ⟨hF318, hC321⟩ := pc_M hM320 hP hD hK hS hX hT hA [11, 12] [] rfl rfl rfl
  refine va_callFi (va_runF (As := []) (rest := []) (hK.1 1 (RJx35411, TJx35411, 4) rfl).2 ⟨hx, hb, hml, hown, hts⟩ hM320 (va_cwF 0 hts (gF q_261 q_262 q_263 q_246 q_260) rfl rfl rfl hT.2.2.2.2.2.2.1 hF_xIh ⟨Nat.le_of_ble_eq_true rfl, Nat.le_of_ble_eq_true rfl⟩) ⟨pc_blind, va_recv hK hP (ci := 1) (q := (RJx35411, TJx35411, 4)) (q0 := 11) rfl rfl, fun U hU hW => ⟨rfl, hC321 U hU hW⟩⟩ rfl rfl hl.1 rfl (lv_room (Nat.le_of_ble_eq_true rfl)) dX9_shown_43 ⟨(Nat.le_of_ble_eq_true rfl), (Nat.le_of_ble_eq_true rfl)⟩) hS (fun q9 _ h9 => hF318 q9 h9) hF318 (fun r323 u322 t322 H322 L322 ht322 hvm322 hw322 hB322 hz322 hk322 hS => ?_)
  have hP := pq_keep hP hD [11, 12] rfl hk322 hB322.1 ht322
  have hG : s.heap.size + 254 ≤ H322.size := Nat.le_trans hG hz322
  refine W.eq (g2 := F0 m 48 ls [.int 1]) (by rw [hw322]) ?_
  refine lv_if_eq (tgt := 92) hx hb dX9_shown_48 (by decide) (fun cz => absurd cz (by decide)) (fun _ => ?_)
  refine lv_aload hx hb dX9_shown_51 (lv_at hl 2 rfl) ?_
  have hM326 := k646_next l hl9 dC dI z a197 h3 h6 H322.size kc1
  obtain ⟨hF324, hC327⟩ := pc_M hM326 hP hD hK hS hX hT hA [11, 12, 13] [2] rfl rfl rfl
  refine va_callFr (va_runF (As := []) (rest := []) (hK.1 1 (RJx35411, TJx35411, 4) rfl).2 ⟨hx, hb, hml, hown, hts⟩ hM326 (va_cwF 0 hts (gF q_308 q_309 q_310 q_246 q_307) rfl rfl rfl hT.2.2.2.2.2.2.2.1 hF_xIn ⟨Nat.le_of_ble_eq_true rfl, Nat.le_of_ble_eq_true rfl⟩) ⟨pc_blind, va_recv hK hP (ci := 1) (q := (RJx35411, TJx35411, 4)) (q0 := 11) rfl rfl, fun U hU hW => ⟨rfl, hC327 U hU hW⟩⟩ rfl rfl hl.1 rfl (lv_room (Nat.le_of_ble_eq_true rfl)) dX9_shown_53 ⟨(Nat.le_of_ble_eq_true rfl), (Nat.le_of_ble_eq_true rfl)⟩) hS (fun q9 _ h9 => hF324 q9 h9) hF324 (fun u328 r329 t328 H328 L328 ht328 hvm328 hw328 hB328 hz328 hk328 hS => ?_)
  obtain ⟨hr328, hB328⟩ := hB328
  obtain ⟨hP, hD, hK⟩ := pq_jn (wz := [(h0, ce21 h1 h2 h3 h4), (h1, ce201 h5), (h2, ce3 z.1), (h4, ce226 h7), (h5, ce200 kc0 h8 h9 h10 h11 h12), (h7, ce200 kc2 (z.2.2.1 128) (z.2.2.1 129) (z.2.2.1 130) (z.2.2.1 131) (z.2.2.1 132)), (h8, ce49), (h9, ce49), (h10, ce49), (h11, ce49), (h12, ce49), (a197, ce318 h3), (h3, ce276 h6), (h6, ce275 kc1 (z.2.2.1 128) (z.2.2.1 128) (z.2.2.1 128) (z.2.2.1 128) (z.2.2.1 128) (z.2.2.1 128) (z.2.2.1 128))]) (tz := [(kc0, .object "java/lang/Object"), (kc2, .object "java/lang/Object"), (kc1, .object "java/lang/Object")]) hP hD hK [11, 12, 13] [0, 1] rfl hk328 hF324 hB328.1 ht328 hvm328 rfl rfl
  have hG : s.heap.size + 254 ≤ H328.size := Nat.le_trans hG hz328
  refine W.eq (g2 := F0 m 58 ls [.ref (z.2.2.1 128)]) (by rw [hr328]) ?_
  refine va_castE (nm := "java/lang/Integer") hx hb hown (hts _ q_320) (va_Orecv (hX.2.2.1.1.1 128 (by decide)) hS) dX9_shown_58 ?_
  have hM332 := k74_intValue l hl9 dC dI z H328.size
  obtain ⟨hF330, hC333⟩ := pc_M hM332 hP hD hK hS hX hT hA [] [] rfl rfl rfl
  refine va_calli (va_runV (As := []) (rest := []) ⟨hx, hb, hml, hown, hts⟩ hM332 (cwV 0 hts (gV q_323 q_324 q_325 q_297 q_322) rfl rfl rfl hV_J6_intValue_8abf5 ⟨Nat.le_of_ble_eq_true rfl, Nat.le_of_ble_eq_true rfl⟩) ⟨pc_blind, va_Orecv (hX.2.2.1.1.1 128 (by decide)) hS, fun U hU hW => ⟨rfl, hC333 U hU hW⟩⟩ rfl rfl hl.1 rfl (lv_room (Nat.le_of_ble_eq_true rfl)) dX9_shown_61 ⟨(Nat.le_of_ble_eq_true rfl), (Nat.le_of_ble_eq_true rfl)⟩) hS (fun q9 _ h9 => hF330 q9 h9) hF330 (fun r335 u334 t334 H334 L334 ht334 hvm334 hw334 hB334 hz334 hk334 hS => ?_)
  have hP := pq_keep hP hD [] rfl hk334 hB334.1 ht334
  have hG : s.heap.size + 254 ≤ H334.size := Nat.le_trans hG hz334
  refine W.eq (g2 := F0 m 64 ls [.int 0]) (by rw [hw334]) ?_
  refine lv_istore (lv' := [(6, .int 0), (4, .int 0), (5, .ref a197), (3, .int 49), (1, .int 0), (2, .int 0), (0, .ref h0)]) hx hb dX9_shown_64 hl (by decide) rfl (fun ls hl => ?_)
  refine lv_iload hx hb dX9_shown_66 (lv_at hl 1 rfl) ?_
  refine lv_if_ne (tgt := 82) hx hb dX9_shown_68 (by decide) (fun cz => absurd (by decide) cz) (fun _ => ?_)
  refine lv_aload_n hx hb dX9_shown_71 rfl (lv_at hl 6 rfl) ?_
  refine lv_iload_n hx hb dX9_shown_72 rfl (lv_at hl 5 rfl) ?_
  refine lv_iload_n hx hb dX9_shown_73 rfl (lv_at hl 3 rfl) ?_
  refine lv_iload hx hb dX9_shown_74 (lv_at hl 0 rfl) ?_
  have hM338 := k652_showsIt l hl9 dC dI z h0 h1 h2 h4 h5 h7 h8 h9 h10 h11 h12 h3 H334.size kc0 kc2
  obtain ⟨hF336, hC339⟩ := pc_M hM338 hP hD hK hS hX hT hA [0, 1, 2, 3, 4, 5, 6, 7, 8, 9, 10] [0, 1] rfl rfl rfl
  refine va_calli (va_runV (As := [.int 0, .int 49, .int 0]) (rest := []) ⟨hx, hb, hml, hown, hts⟩ hM338 (cwV 3 hts (gV q_429 q_430 q_431 q_60 q_428) rfl rfl rfl hV_X9_showsIt ⟨Nat.le_of_ble_eq_true rfl, Nat.le_of_ble_eq_true rfl⟩) ⟨pc_blind, va_recv hK hP (ci := 8) (q := (RX9, TX9, 6)) (q0 := 0) rfl rfl, fun U hU hW => ⟨rfl, hC339 U hU hW⟩⟩ rfl rfl hl.1 rfl (lv_room (Nat.le_of_ble_eq_true rfl)) dX9_shown_76 ⟨(Nat.le_of_ble_eq_true rfl), (Nat.le_of_ble_eq_true rfl)⟩) hS (fun q9 _ h9 => hF336 q9 h9) hF336 (fun r341 u340 t340 H340 L340 ht340 hvm340 hw340 hB340 hz340 hk340 hS => ?_)
  have hP := pq_keep hP hD [0, 1, 2, 3, 4, 5, 6, 7, 8, 9, 10] rfl hk340 hB340.1 ht340
  have hG : s.heap.size + 275 ≤ H340.size := va_gr (g := 254) (g1 := 21) hG (by rw [← ht340]; exact hB340.2)
  refine W.eq (g2 := F0 m 79 ls [.int 0]) (by rw [hw340]) ?_
  refine W.widen (k := 275) (n := 2972) (by decide) (by decide) ?_
  refine lv_if_eq (tgt := 86) hx hb dX9_shown_79 (by decide) (fun _ => ?_) (fun cz => absurd (by decide) cz)
  refine lv_iconst (v := 0) hx hb dX9_shown_86 (by decide) ?_
  refine lv_istore (lv' := [(4, .int 0), (6, .int 0), (5, .ref a197), (3, .int 49), (1, .int 0), (2, .int 0), (0, .ref h0)]) hx hb dX9_shown_87 hl (by decide) rfl (fun ls hl => ?_)
  refine lv_goto (tgt := 41) hx hb dX9_shown_89 (by decide) ?_
  refine lv_aload hx hb dX9_shown_41 (lv_at hl 2 rfl) ?_
  have hM344 := k647_hasNext l hl9 dC dI z a197 h3 h6 H340.size
  obtain ⟨hF342, hC345⟩ := pc_M hM344 hP hD hK hS hX hT hA [11, 12] [] rfl rfl rfl
  refine va_callFi (va_runF (As := []) (rest := []) (hK.1 1 (RJx35411, TJx35411, 4) rfl).2 ⟨hx, hb, hml, hown, hts⟩ hM344 (va_cwF 0 hts (gF q_261 q_262 q_263 q_246 q_260) rfl rfl rfl hT.2.2.2.2.2.2.1 hF_xIh ⟨Nat.le_of_ble_eq_true rfl, Nat.le_of_ble_eq_true rfl⟩) ⟨pc_blind, va_recv hK hP (ci := 1) (q := (RJx35411, TJx35411, 4)) (q0 := 11) rfl rfl, fun U hU hW => ⟨rfl, hC345 U hU hW⟩⟩ rfl rfl hl.1 rfl (lv_room (Nat.le_of_ble_eq_true rfl)) dX9_shown_43 ⟨(Nat.le_of_ble_eq_true rfl), (Nat.le_of_ble_eq_true rfl)⟩) hS (fun q9 _ h9 => hF342 q9 h9) hF342 (fun r347 u346 t346 H346 L346 ht346 hvm346 hw346 hB346 hz346 hk346 hS => ?_)
  have hP := pq_keep hP hD [11, 12] rfl hk346 hB346.1 ht346
  have hG : s.heap.size + 275 ≤ H346.size := Nat.le_trans hG hz346
  refine W.eq (g2 := F0 m 48 ls [.int 1]) (by rw [hw346]) ?_
  refine lv_if_eq (tgt := 92) hx hb dX9_shown_48 (by decide) (fun cz => absurd cz (by decide)) (fun _ => ?_)
  refine lv_aload hx hb dX9_shown_51 (lv_at hl 2 rfl) ?_
  have hM350 := k649_next l hl9 dC dI z a197 h3 h6 H346.size kc1
  obtain ⟨hF348, hC351⟩ := pc_M hM350 hP hD hK hS hX hT hA [11, 12, 13] [2] rfl rfl rfl
  refine va_callFr (va_runF (As := []) (rest := []) (hK.1 1 (RJx35411, TJx35411, 4) rfl).2 ⟨hx, hb, hml, hown, hts⟩ hM350 (va_cwF 0 hts (gF q_308 q_309 q_310 q_246 q_307) rfl rfl rfl hT.2.2.2.2.2.2.2.1 hF_xIn ⟨Nat.le_of_ble_eq_true rfl, Nat.le_of_ble_eq_true rfl⟩) ⟨pc_blind, va_recv hK hP (ci := 1) (q := (RJx35411, TJx35411, 4)) (q0 := 11) rfl rfl, fun U hU hW => ⟨rfl, hC351 U hU hW⟩⟩ rfl rfl hl.1 rfl (lv_room (Nat.le_of_ble_eq_true rfl)) dX9_shown_53 ⟨(Nat.le_of_ble_eq_true rfl), (Nat.le_of_ble_eq_true rfl)⟩) hS (fun q9 _ h9 => hF348 q9 h9) hF348 (fun u352 r353 t352 H352 L352 ht352 hvm352 hw352 hB352 hz352 hk352 hS => ?_)
  obtain ⟨hr352, hB352⟩ := hB352
  obtain ⟨hP, hD, hK⟩ := pq_jn (wz := [(h0, ce21 h1 h2 h3 h4), (h1, ce201 h5), (h2, ce3 z.1), (h4, ce226 h7), (h5, ce200 kc0 h8 h9 h10 h11 h12), (h7, ce200 kc2 (z.2.2.1 128) (z.2.2.1 129) (z.2.2.1 130) (z.2.2.1 131) (z.2.2.1 132)), (h8, ce49), (h9, ce49), (h10, ce49), (h11, ce49), (h12, ce49), (a197, ce320 h3), (h3, ce276 h6), (h6, ce275 kc1 (z.2.2.1 128) (z.2.2.1 128) (z.2.2.1 128) (z.2.2.1 128) (z.2.2.1 128) (z.2.2.1 128) (z.2.2.1 128))]) (tz := [(kc0, .object "java/lang/Object"), (kc2, .object "java/lang/Object"), (kc1, .object "java/lang/Object")]) hP hD hK [11, 12, 13] [0, 1] rfl hk352 hF348 hB352.1 ht352 hvm352 rfl rfl
  have hG : s.heap.size + 275 ≤ H352.size := Nat.le_trans hG hz352
  refine W.eq (g2 := F0 m 58 ls [.ref (z.2.2.1 128)]) (by rw [hr352]) ?_
  refine va_castE (nm := "java/lang/Integer") hx hb hown (hts _ q_320) (va_Orecv (hX.2.2.1.1.1 128 (by decide)) hS) dX9_shown_58 ?_
  have hM356 := k74_intValue l hl9 dC dI z H352.size
  obtain ⟨hF354, hC357⟩ := pc_M hM356 hP hD hK hS hX hT hA [] [] rfl rfl rfl
  refine va_calli (va_runV (As := []) (rest := []) ⟨hx, hb, hml, hown, hts⟩ hM356 (cwV 0 hts (gV q_323 q_324 q_325 q_297 q_322) rfl rfl rfl hV_J6_intValue_8abf5 ⟨Nat.le_of_ble_eq_true rfl, Nat.le_of_ble_eq_true rfl⟩) ⟨pc_blind, va_Orecv (hX.2.2.1.1.1 128 (by decide)) hS, fun U hU hW => ⟨rfl, hC357 U hU hW⟩⟩ rfl rfl hl.1 rfl (lv_room (Nat.le_of_ble_eq_true rfl)) dX9_shown_61 ⟨(Nat.le_of_ble_eq_true rfl), (Nat.le_of_ble_eq_true rfl)⟩) hS (fun q9 _ h9 => hF354 q9 h9) hF354 (fun r359 u358 t358 H358 L358 ht358 hvm358 hw358 hB358 hz358 hk358 hS => ?_)
  have hP := pq_keep hP hD [] rfl hk358 hB358.1 ht358
  have hG : s.heap.size + 275 ≤ H358.size := Nat.le_trans hG hz358
  refine W.eq (g2 := F0 m 64 ls [.int 0]) (by rw [hw358]) ?_
  refine lv_istore (lv' := [(6, .int 0), (4, .int 0), (5, .ref a197), (3, .int 49), (1, .int 0), (2, .int 0), (0, .ref h0)]) hx hb dX9_shown_64 hl (by decide) rfl (fun ls hl => ?_)
  refine lv_iload hx hb dX9_shown_66 (lv_at hl 1 rfl) ?_
  refine lv_if_ne (tgt := 82) hx hb dX9_shown_68 (by decide) (fun cz => absurd (by decide) cz) (fun _ => ?_)
  refine lv_aload_n hx hb dX9_shown_71 rfl (lv_at hl 6 rfl) ?_
  refine lv_iload_n hx hb dX9_shown_72 rfl (lv_at hl 5 rfl) ?_
  refine lv_iload_n hx hb dX9_shown_73 rfl (lv_at hl 3 rfl) ?_
  refine lv_iload hx hb dX9_shown_74 (lv_at hl 0 rfl) ?_
  have hM362 := k652_showsIt l hl9 dC dI z h0 h1 h2 h4 h5 h7 h8 h9 h10 h11 h12 h3 H358.size kc0 kc2
  obtain ⟨hF360, hC363⟩ := pc_M hM362 hP hD hK hS hX hT hA [0, 1, 2, 3, 4, 5, 6, 7, 8, 9, 10] [0, 1] rfl rfl rfl
  refine va_calli (va_runV (As := [.int 0, .int 49, .int 0]) (rest := []) ⟨hx, hb, hml, hown, hts⟩ hM362 (cwV 3 hts (gV q_429 q_430 q_431 q_60 q_428) rfl rfl rfl hV_X9_showsIt ⟨Nat.le_of_ble_eq_true rfl, Nat.le_of_ble_eq_true rfl⟩) ⟨pc_blind, va_recv hK hP (ci := 8) (q := (RX9, TX9, 6)) (q0 := 0) rfl rfl, fun U hU hW => ⟨rfl, hC363 U hU hW⟩⟩ rfl rfl hl.1 rfl (lv_room (Nat.le_of_ble_eq_true rfl)) dX9_shown_76 ⟨(Nat.le_of_ble_eq_true rfl), (Nat.le_of_ble_eq_true rfl)⟩) hS (fun q9 _ h9 => hF360 q9 h9) hF360 (fun r365 u364 t364 H364 L364 ht364 hvm364 hw364 hB364 hz364 hk364 hS => ?_)
  have hP := pq_keep hP hD [0, 1, 2, 3, 4, 5, 6, 7, 8, 9, 10] rfl hk364 hB364.1 ht364
  have hG : s.heap.size + 296 ≤ H364.size := va_gr (g := 275) (g1 := 21) hG (by rw [← ht364]; exact hB364.2)
  refine W.eq (g2 := F0 m 79 ls [.int 0]) (by rw [hw364]) ?_
  refine W.widen (k := 296) (n := 3200) (by decide) (by decide) ?_
  refine lv_if_eq (tgt := 86) hx hb dX9_shown_79 (by decide) (fun _ => ?_) (fun cz => absurd (by decide) cz)
  refine lv_iconst (v := 0) hx hb dX9_shown_86 (by decide) ?_
  refine lv_istore (lv' := [(4, .int 0), (6, .int 0), (5, .ref a197), (3, .int 49), (1, .int 0), (2, .int 0), (0, .ref h0)]) hx hb dX9_shown_87 hl (by decide) rfl (fun ls hl => ?_)
  refine lv_goto (tgt := 41) hx hb dX9_shown_89 (by decide) ?_
  refine lv_aload hx hb dX9_shown_41 (lv_at hl 2 rfl) ?_
  have hM368 := k650_hasNext l hl9 dC dI z a197 h3 h6 H364.size
  obtain ⟨hF366, hC369⟩ := pc_M hM368 hP hD hK hS hX hT hA [11, 12] [] rfl rfl rfl
  refine va_callFi (va_runF (As := []) (rest := []) (hK.1 1 (RJx35411, TJx35411, 4) rfl).2 ⟨hx, hb, hml, hown, hts⟩ hM368 (va_cwF 0 hts (gF q_261 q_262 q_263 q_246 q_260) rfl rfl rfl hT.2.2.2.2.2.2.1 hF_xIh ⟨Nat.le_of_ble_eq_true rfl, Nat.le_of_ble_eq_true rfl⟩) ⟨pc_blind, va_recv hK hP (ci := 1) (q := (RJx35411, TJx35411, 4)) (q0 := 11) rfl rfl, fun U hU hW => ⟨rfl, hC369 U hU hW⟩⟩ rfl rfl hl.1 rfl (lv_room (Nat.le_of_ble_eq_true rfl)) dX9_shown_43 ⟨(Nat.le_of_ble_eq_true rfl), (Nat.le_of_ble_eq_true rfl)⟩) hS (fun q9 _ h9 => hF366 q9 h9) hF366 (fun r371 u370 t370 H370 L370 ht370 hvm370 hw370 hB370 hz370 hk370 hS => ?_)
  have hP := pq_keep hP hD [11, 12] rfl hk370 hB370.1 ht370
  have hG : s.heap.size + 296 ≤ H370.size := Nat.le_trans hG hz370
  refine W.eq (g2 := F0 m 48 ls [.int 0]) (by rw [hw370]) ?_
  refine lv_if_eq (tgt := 92) hx hb dX9_shown_48 (by decide) (fun _ => ?_) (fun cz => absurd (by decide) cz)
  refine lv_iload_n hx hb dX9_shown_92 rfl (lv_at hl 4 rfl) ?_
  refine lv_iload hx hb dX9_shown_93 (lv_at hl 0 rfl) ?_
  refine lv_if_eq (tgt := 102) hx hb dX9_shown_95 (by decide) (fun _ => ?_) (fun cz => absurd (by decide) cz)
  refine lv_iconst (v := 0) hx hb dX9_shown_102 (by decide) ?_
  refine lv_iadd hx hb dX9_shown_103 ?_
  refine lv_topi (fun y372 ey372 => ?_)
  obtain rfl : y372 = 0 := ey372.trans (by decide)
  refine lv_istore_n (lv' := [(1, .int 0), (4, .int 0), (6, .int 0), (5, .ref a197), (3, .int 49), (2, .int 0), (0, .ref h0)]) hx hb dX9_shown_104 rfl hl (by decide) rfl (fun ls hl => ?_)
  refine lv_iload_n hx hb dX9_shown_105 rfl (lv_at hl 4 rfl) ?_
  refine lv_iconst (v := 1) hx hb dX9_shown_106 (by decide) ?_
  refine lv_iadd hx hb dX9_shown_107 ?_
  refine lv_topi (fun y373 ey373 => ?_)
  obtain rfl : y373 = 50 := ey373.trans (by decide)
  refine lv_i2c (v := 50) hx hb dX9_shown_108 (by decide) ?_
  refine lv_istore_n (lv' := [(3, .int 50), (1, .int 0), (4, .int 0), (6, .int 0), (5, .ref a197), (2, .int 0), (0, .ref h0)]) hx hb dX9_shown_109 rfl hl (by decide) rfl (fun ls hl => ?_)
  refine lv_goto (tgt := 23) hx hb dX9_shown_110 (by decide) ?_
  exact hend _ _ _ hS (hP.sub [0, 1, 2, 12, 3, 4, 13, 5, 6, 7, 8, 9, 10] rfl) (hD.sub [0, 1, 2, 12, 3, 4, 13, 5, 6, 7, 8, 9, 10] rfl rfl) (lv_sub hl [0, 1, 5, 6] rfl) hG

set_option maxHeartbeats 8000000 in
set_option maxRecDepth 100000 in
theorem k669_shown_g3 {p : Program} {l : Launch} {e : Env} {s : State} {m : MethodId} {args : Array Value} {below : List Frame} {meth : Method} {c : Code} {Q : State → Prop} {A : Nat → Prop} {H : Heap} {locs : List Loc} {ls : Array Slot} {dC : Nat → ClassId} {dI : Nat → Nat → Nat} {z : XZ} {h0 h1 h2 h3 h4 h5 h6 h7 h8 h9 h10 h11 h12 : Nat} {kc0 kc1 kc2 : ClassId} (hl9 : l.stackTraces = false) (hx : p.tables.exec = Jvm.exec) (hb : c.code = cX9_shown) (hml : c.maxLocals = 7) (hown : s.vm.findClass RX9 = some m.cls) (hts : ∀ w ∈ wsL_law, w.before args s = true) (hA : ∀ q : Nat, s.heap.size ≤ q → A q) (hX : XE z A s s.heap) (hT : XT s) (hS : va_S A s.heap H locs) (hP : va_P (dC, dI) xCl [(h0, ce21 h1 h2 h3 h4), (h1, ce201 h5), (h2, ce3 z.1), (h3, ce276 h6), (h4, ce226 h7), (h5, ce200 kc0 h8 h9 h10 h11 h12), (h6, ce275 kc1 (z.2.2.1 128) (z.2.2.1 128) (z.2.2.1 128) (z.2.2.1 128) (z.2.2.1 128) (z.2.2.1 128) (z.2.2.1 128)), (h7, ce200 kc2 (z.2.2.1 128) (z.2.2.1 129) (z.2.2.1 130) (z.2.2.1 131) (z.2.2.1 132)), (h8, ce49), (h9, ce49), (h10, ce49), (h11, ce49), (h12, ce49)] H) (hD : va_D A [(h0, ce21 h1 h2 h3 h4), (h1, ce201 h5), (h2, ce3 z.1), (h3, ce276 h6), (h4, ce226 h7), (h5, ce200 kc0 h8 h9 h10 h11 h12), (h6, ce275 kc1 (z.2.2.1 128) (z.2.2.1 128) (z.2.2.1 128) (z.2.2.1 128) (z.2.2.1 128) (z.2.2.1 128) (z.2.2.1 128)), (h7, ce200 kc2 (z.2.2.1 128) (z.2.2.1 129) (z.2.2.1 130) (z.2.2.1 131) (z.2.2.1 132)), (h8, ce49), (h9, ce49), (h10, ce49), (h11, ce49), (h12, ce49)]) (hK : va_K (dC, dI) xCl [(kc0, .object "java/lang/Object"), (kc1, .object "java/lang/Object"), (kc2, .object "java/lang/Object")] s) (hl : lv_has ls 7 [(3, .int 50), (1, .int 0), (2, .int 0), (0, .ref h0)]) (hG : s.heap.size + 296 ≤ H.size) (hend : ∀ (H' : Heap) (locs' : List Loc) (ls' : Array Slot), va_S A s.heap H' locs' → va_P (dC, dI) xCl [(h0, ce21 h1 h2 h3 h4), (h1, ce201 h5), (h2, ce3 z.1), (h3, ce276 h6), (h4, ce226 h7), (h5, ce200 kc0 h8 h9 h10 h11 h12), (h6, ce275 kc1 (z.2.2.1 128) (z.2.2.1 128) (z.2.2.1 128) (z.2.2.1 128) (z.2.2.1 128) (z.2.2.1 128) (z.2.2.1 128)), (h7, ce200 kc2 (z.2.2.1 128) (z.2.2.1 129) (z.2.2.1 130) (z.2.2.1 131) (z.2.2.1 132)), (h8, ce49), (h9, ce49), (h10, ce49), (h11, ce49), (h12, ce49)] H' → va_D A [(h0, ce21 h1 h2 h3 h4), (h1, ce201 h5), (h2, ce3 z.1), (h3, ce276 h6), (h4, ce226 h7), (h5, ce200 kc0 h8 h9 h10 h11 h12), (h6, ce275 kc1 (z.2.2.1 128) (z.2.2.1 128) (z.2.2.1 128) (z.2.2.1 128) (z.2.2.1 128) (z.2.2.1 128) (z.2.2.1 128)), (h7, ce200 kc2 (z.2.2.1 128) (z.2.2.1 129) (z.2.2.1 130) (z.2.2.1 131) (z.2.2.1 132)), (h8, ce49), (h9, ce49), (h10, ce49), (h11, ce49), (h12, ce49)] → lv_has ls' 7 [(3, .int 48), (2, .int 1), (1, .int 0), (0, .ref h0)] → s.heap.size + 296 ≤ H'.size → W p l e ({ frames := 5, cells := 1480, slots := 16000, locals := 121 } : Room) s m args below meth c H' locs' 296 3200 Q (F0 m 23 ls' [])) : W p l e ({ frames := 5, cells := 1480, slots := 16000, locals := 121 } : Room) s m args below meth c H locs 296 3200 Q (F0 m 23 ls []) := by
  refine lv_iload_n hx hb dX9_shown_23 rfl (lv_at hl 0 rfl) ?_
  refine lv_bipush (v := 49) hx hb dX9_shown_24 (by decide) ?_
  refine lv_icmp_gt (tgt := 113) hx hb dX9_shown_26 (by decide) (fun _ => ?_) (fun cz => absurd (by decide) cz)
  refine lv_iinc (v := 1) (lv' := [(2, .int 1), (3, .int 50), (1, .int 0), (0, .ref h0)]) hx hb dX9_shown_113 hl (k := 2) rfl (by decide) (by decide) rfl (fun ls hl => ?_)
  refine lv_goto (tgt := 9) hx hb dX9_shown_116 (by decide) ?_
  refine lv_iload_n hx hb dX9_shown_9 rfl (lv_at hl 0 rfl) ?_
  refine lv_aload_n hx hb dX9_shown_10 rfl (lv_at hl 3 rfl) ?_
  refine va_get (D := (dC, dI)) (ci := 8) (v := .ref h1) (C := RX9) (T := TX9) (N := 6) hx hb hts in_X9 hown hK hP 0 rfl rfl 1 (by decide) (hts _ q_64) (fun _ h9 => h9) rfl dX9_shown_11 ?_
  have hM376 := k20_size l hl9 dC dI z h1 h5 H.size 5 5
  obtain ⟨hF374, hC377⟩ := pc_M hM376 hP hD hK hS hX hT hA [1] [] rfl rfl rfl
  refine va_calli (va_runV (As := []) (rest := [.int 1]) ⟨hx, hb, hml, hown, hts⟩ hM376 (cwV 0 hts (gV q_272 q_77 q_78 q_12 q_75) rfl rfl rfl hV_Jx4a65c_size_8abf5 ⟨Nat.le_of_ble_eq_true rfl, Nat.le_of_ble_eq_true rfl⟩) ⟨pc_blind, va_recv hK hP (ci := 0) (q := (RJx4a65c, TJx4a65c, 3)) (q0 := 1) rfl rfl, fun U hU hW => ⟨rfl, hC377 U hU hW⟩⟩ rfl rfl hl.1 rfl (lv_room (Nat.le_of_ble_eq_true rfl)) dX9_shown_14 ⟨(Nat.le_of_ble_eq_true rfl), (Nat.le_of_ble_eq_true rfl)⟩) hS (fun q9 _ h9 => hF374 q9 h9) hF374 (fun r379 u378 t378 H378 L378 ht378 hvm378 hw378 hB378 hz378 hk378 hS => ?_)
  have hP := pq_keep hP hD [1] rfl hk378 hB378.1 ht378
  have hG : s.heap.size + 296 ≤ H378.size := Nat.le_trans hG hz378
  refine W.eq (g2 := F0 m 17 ls [.int 5, .int 1]) (by rw [hw378]) ?_
  refine lv_icmp_ge (tgt := 119) hx hb dX9_shown_17 (by decide) (fun cz => absurd cz (by decide)) (fun _ => ?_)
  refine lv_bipush (v := 48) hx hb dX9_shown_20 (by decide) ?_
  refine lv_istore_n (lv' := [(3, .int 48), (2, .int 1), (1, .int 0), (0, .ref h0)]) hx hb dX9_shown_22 rfl hl (by decide) rfl (fun ls hl => ?_)
  exact hend _ _ _ hS (hP.sub [0, 1, 2, 3, 4, 5, 6, 7, 8, 9, 10, 11, 12] rfl) (hD.sub [0, 1, 2, 3, 4, 5, 6, 7, 8, 9, 10, 11, 12] rfl rfl) (lv_sub hl [0, 1, 2, 3] rfl) hG

set_option maxHeartbeats 8000000 in
set_option maxRecDepth 100000 in
theorem k669_shown_g4 {p : Program} {l : Launch} {e : Env} {s : State} {m : MethodId} {args : Array Value} {below : List Frame} {meth : Method} {c : Code} {Q : State → Prop} {A : Nat → Prop} {H : Heap} {locs : List Loc} {ls : Array Slot} {dC : Nat → ClassId} {dI : Nat → Nat → Nat} {z : XZ} {h0 h1 h2 h3 h4 h5 h6 h7 h8 h9 h10 h11 h12 : Nat} {kc0 kc1 kc2 : ClassId} (hl9 : l.stackTraces = false) (hx : p.tables.exec = Jvm.exec) (hb : c.code = cX9_shown) (hml : c.maxLocals = 7) (hown : s.vm.findClass RX9 = some m.cls) (hts : ∀ w ∈ wsL_law, w.before args s = true) (hA : ∀ q : Nat, s.heap.size ≤ q → A q) (hX : XE z A s s.heap) (hT : XT s) (hS : va_S A s.heap H locs) (hP : va_P (dC, dI) xCl [(h0, ce21 h1 h2 h3 h4), (h1, ce201 h5), (h2, ce3 z.1), (h3, ce276 h6), (h4, ce226 h7), (h5, ce200 kc0 h8 h9 h10 h11 h12), (h6, ce275 kc1 (z.2.2.1 128) (z.2.2.1 128) (z.2.2.1 128) (z.2.2.1 128) (z.2.2.1 128) (z.2.2.1 128) (z.2.2.1 128)), (h7, ce200 kc2 (z.2.2.1 128) (z.2.2.1 129) (z.2.2.1 130) (z.2.2.1 131) (z.2.2.1 132)), (h8, ce49), (h9, ce49), (h10, ce49), (h11, ce49), (h12, ce49)] H) (hD : va_D A [(h0, ce21 h1 h2 h3 h4), (h1, ce201 h5), (h2, ce3 z.1), (h3, ce276 h6), (h4, ce226 h7), (h5, ce200 kc0 h8 h9 h10 h11 h12), (h6, ce275 kc1 (z.2.2.1 128) (z.2.2.1 128) (z.2.2.1 128) (z.2.2.1 128) (z.2.2.1 128) (z.2.2.1 128) (z.2.2.1 128)), (h7, ce200 kc2 (z.2.2.1 128) (z.2.2.1 129) (z.2.2.1 130) (z.2.2.1 131) (z.2.2.1 132)), (h8, ce49), (h9, ce49), (h10, ce49), (h11, ce49), (h12, ce49)]) (hK : va_K (dC, dI) xCl [(kc0, .object "java/lang/Object"), (kc1, .object "java/lang/Object"), (kc2, .object "java/lang/Object")] s) (hl : lv_has ls 7 [(3, .int 48), (2, .int 1), (1, .int 0), (0, .ref h0)]) (hG : s.heap.size + 296 ≤ H.size) (hend : ∀ (H' : Heap) (locs' : List Loc) (ls' : Array Slot), va_S A s.heap H' locs' → va_P (dC, dI) xCl [(h0, ce21 h1 h2 h3 h4), (h1, ce201 h5), (h2, ce3 z.1), (h3, ce276 h6), (h4, ce226 h7), (h5, ce200 kc0 h8 h9 h10 h11 h12), (h6, ce275 kc1 (z.2.2.1 128) (z.2.2.1 128) (z.2.2.1 128) (z.2.2.1 128) (z.2.2.1 128) (z.2.2.1 128) (z.2.2.1 128)), (h7, ce200 kc2 (z.2.2.1 128) (z.2.2.1 129) (z.2.2.1 130) (z.2.2.1 131) (z.2.2.1 132)), (h8, ce49), (h9, ce49), (h10, ce49), (h11, ce49), (h12, ce49)] H' → va_D A [(h0, ce21 h1 h2 h3 h4), (h1, ce201 h5), (h2, ce3 z.1), (h3, ce276 h6), (h4, ce226 h7), (h5, ce200 kc0 h8 h9 h10 h11 h12), (h6, ce275 kc1 (z.2.2.1 128) (z.2.2.1 128) (z.2.2.1 128) (z.2.2.1 128) (z.2.2.1 128) (z.2.2.1 128) (z.2.2.1 128)), (h7, ce200 kc2 (z.2.2.1 128) (z.2.2.1 129) (z.2.2.1 130) (z.2.2.1 131) (z.2.2.1 132)), (h8, ce49), (h9, ce49), (h10, ce49), (h11, ce49), (h12, ce49)] → lv_has ls' 7 [(3, .int 49), (1, .int 0), (2, .int 1), (0, .ref h0)] → s.heap.size + 444 ≤ H'.size → W p l e ({ frames := 5, cells := 1480, slots := 16000, locals := 121 } : Room) s m args below meth c H' locs' 444 4800 Q (F0 m 23 ls' [])) : W p l e ({ frames := 5, cells := 1480, slots := 16000, locals := 121 } : Room) s m args below meth c H locs 296 3200 Q (F0 m 23 ls []) := by
  refine lv_iload_n hx hb dX9_shown_23 rfl (lv_at hl 0 rfl) ?_
  refine lv_bipush (v := 49) hx hb dX9_shown_24 (by decide) ?_
  refine lv_icmp_gt (tgt := 113) hx hb dX9_shown_26 (by decide) (fun cz => absurd cz (by decide)) (fun _ => ?_)
  refine lv_iconst (v := 0) hx hb dX9_shown_29 (by decide) ?_
  refine lv_istore (lv' := [(4, .int 0), (3, .int 48), (2, .int 1), (1, .int 0), (0, .ref h0)]) hx hb dX9_shown_30 hl (by decide) rfl (fun ls hl => ?_)
  refine lv_aload_n hx hb dX9_shown_32 rfl (lv_at hl 4 rfl) ?_
  refine va_get (D := (dC, dI)) (ci := 8) (v := .ref h3) (C := RX9) (T := TX9) (N := 6) hx hb hts in_X9 hown hK hP 0 rfl rfl 3 (by decide) (hts _ q_66) (fun _ h9 => h9) rfl dX9_shown_33 ?_
  have hM382 := k619_iterator l hl9 dC dI z h3 h6 H.size
  obtain ⟨hF380, hC383⟩ := pc_M hM382 hP hD hK hS hX hT hA [3] [] rfl rfl rfl
  refine va_callr (va_runV (As := []) (rest := []) ⟨hx, hb, hml, hown, hts⟩ hM382 (cwV 0 hts (gV q_256 q_257 q_258 q_12 q_255) rfl rfl rfl hV_Jx4a65c_iterator_32c93 ⟨Nat.le_of_ble_eq_true rfl, Nat.le_of_ble_eq_true rfl⟩) ⟨pc_blind, va_recv hK hP (ci := 0) (q := (RJx4a65c, TJx4a65c, 3)) (q0 := 3) rfl rfl, fun U hU hW => ⟨rfl, hC383 U hU hW⟩⟩ rfl rfl hl.1 rfl (lv_room (Nat.le_of_ble_eq_true rfl)) dX9_shown_36 ⟨(Nat.le_of_ble_eq_true rfl), (Nat.le_of_ble_eq_true rfl)⟩) hS (fun q9 _ h9 => hF380 q9 h9) hF380 (fun u384 r385 t384 H384 L384 ht384 hvm384 hw384 hB384 hz384 hk384 hS => ?_)
  obtain ⟨a386, hr384, hB384⟩ := hB384
  obtain ⟨hP, hD, hK⟩ := pq_jn (wz := [(h0, ce21 h1 h2 h3 h4), (h1, ce201 h5), (h2, ce3 z.1), (h4, ce226 h7), (h5, ce200 kc0 h8 h9 h10 h11 h12), (h6, ce275 kc1 (z.2.2.1 128) (z.2.2.1 128) (z.2.2.1 128) (z.2.2.1 128) (z.2.2.1 128) (z.2.2.1 128) (z.2.2.1 128)), (h7, ce200 kc2 (z.2.2.1 128) (z.2.2.1 129) (z.2.2.1 130) (z.2.2.1 131) (z.2.2.1 132)), (h8, ce49), (h9, ce49), (h10, ce49), (h11, ce49), (h12, ce49), (h3, ce276 h6), (a386, ce292 h3)]) (tz := [(kc0, .object "java/lang/Object"), (kc1, .object "java/lang/Object"), (kc2, .object "java/lang/Object")]) hP hD hK [3] [0, 1, 2] rfl hk384 hF380 hB384.1 ht384 hvm384 rfl rfl
  have hG : s.heap.size + 297 ≤ H384.size := va_gr (g := 296) (g1 := 1) hG (by rw [← ht384]; exact hB384.2)
  refine W.eq (g2 := F0 m 39 ls [.ref a386]) (by rw [hr384]) ?_
  refine W.widen (k := 297) (n := 3204) (by decide) (by decide) ?_
  refine lv_astore (lv' := [(5, .ref a386), (4, .int 0), (3, .int 48), (2, .int 1), (1, .int 0), (0, .ref h0)]) hx hb dX9_shown_39 hl (by decide) rfl (fun ls hl => ?_)
  refine lv_aload hx hb dX9_shown_41 (lv_at hl 0 rfl) ?_
  have hM389 := k620_hasNext l hl9 dC dI z a386 h3 h6 H384.size
  obtain ⟨hF387, hC390⟩ := pc_M hM389 hP hD hK hS hX hT hA [13, 12] [] rfl rfl rfl
  refine va_callFi (va_runF (As := []) (rest := []) (hK.1 1 (RJx35411, TJx35411, 4) rfl).2 ⟨hx, hb, hml, hown, hts⟩ hM389 (va_cwF 0 hts (gF q_261 q_262 q_263 q_246 q_260) rfl rfl rfl hT.2.2.2.2.2.2.1 hF_xIh ⟨Nat.le_of_ble_eq_true rfl, Nat.le_of_ble_eq_true rfl⟩) ⟨pc_blind, va_recv hK hP (ci := 1) (q := (RJx35411, TJx35411, 4)) (q0 := 13) rfl rfl, fun U hU hW => ⟨rfl, hC390 U hU hW⟩⟩ rfl rfl hl.1 rfl (lv_room (Nat.le_of_ble_eq_true rfl)) dX9_shown_43 ⟨(Nat.le_of_ble_eq_true rfl), (Nat.le_of_ble_eq_true rfl)⟩) hS (fun q9 _ h9 => hF387 q9 h9) hF387 (fun r392 u391 t391 H391 L391 ht391 hvm391 hw391 hB391 hz391 hk391 hS => ?_)
  have hP := pq_keep hP hD [13, 12] rfl hk391 hB391.1 ht391
  have hG : s.heap.size + 297 ≤ H391.size := Nat.le_trans hG hz391
  refine W.eq (g2 := F0 m 48 ls [.int 1]) (by rw [hw391]) ?_
  refine lv_if_eq (tgt := 92) hx hb dX9_shown_48 (by decide) (fun cz => absurd cz (by decide)) (fun _ => ?_)
  refine lv_aload hx hb dX9_shown_51 (lv_at hl 0 rfl) ?_
  have hM395 := k622_next l hl9 dC dI z a386 h3 h6 H391.size kc1
  obtain ⟨hF393, hC396⟩ := pc_M hM395 hP hD hK hS hX hT hA [13, 12, 5] [1] rfl rfl rfl
  refine va_callFr (va_runF (As := []) (rest := []) (hK.1 1 (RJx35411, TJx35411, 4) rfl).2 ⟨hx, hb, hml, hown, hts⟩ hM395 (va_cwF 0 hts (gF q_308 q_309 q_310 q_246 q_307) rfl rfl rfl hT.2.2.2.2.2.2.2.1 hF_xIn ⟨Nat.le_of_ble_eq_true rfl, Nat.le_of_ble_eq_true rfl⟩) ⟨pc_blind, va_recv hK hP (ci := 1) (q := (RJx35411, TJx35411, 4)) (q0 := 13) rfl rfl, fun U hU hW => ⟨rfl, hC396 U hU hW⟩⟩ rfl rfl hl.1 rfl (lv_room (Nat.le_of_ble_eq_true rfl)) dX9_shown_53 ⟨(Nat.le_of_ble_eq_true rfl), (Nat.le_of_ble_eq_true rfl)⟩) hS (fun q9 _ h9 => hF393 q9 h9) hF393 (fun u397 r398 t397 H397 L397 ht397 hvm397 hw397 hB397 hz397 hk397 hS => ?_)
  obtain ⟨hr397, hB397⟩ := hB397
  obtain ⟨hP, hD, hK⟩ := pq_jn (wz := [(h0, ce21 h1 h2 h3 h4), (h1, ce201 h5), (h2, ce3 z.1), (h4, ce226 h7), (h5, ce200 kc0 h8 h9 h10 h11 h12), (h7, ce200 kc2 (z.2.2.1 128) (z.2.2.1 129) (z.2.2.1 130) (z.2.2.1 131) (z.2.2.1 132)), (h8, ce49), (h9, ce49), (h10, ce49), (h11, ce49), (h12, ce49), (a386, ce294 h3), (h3, ce276 h6), (h6, ce275 kc1 (z.2.2.1 128) (z.2.2.1 128) (z.2.2.1 128) (z.2.2.1 128) (z.2.2.1 128) (z.2.2.1 128) (z.2.2.1 128))]) (tz := [(kc0, .object "java/lang/Object"), (kc2, .object "java/lang/Object"), (kc1, .object "java/lang/Object")]) hP hD hK [13, 12, 5] [0, 2] rfl hk397 hF393 hB397.1 ht397 hvm397 rfl rfl
  have hG : s.heap.size + 297 ≤ H397.size := Nat.le_trans hG hz397
  refine W.eq (g2 := F0 m 58 ls [.ref (z.2.2.1 128)]) (by rw [hr397]) ?_
  refine va_castE (nm := "java/lang/Integer") hx hb hown (hts _ q_320) (va_Orecv (hX.2.2.1.1.1 128 (by decide)) hS) dX9_shown_58 ?_
  have hM401 := k74_intValue l hl9 dC dI z H397.size
  obtain ⟨hF399, hC402⟩ := pc_M hM401 hP hD hK hS hX hT hA [] [] rfl rfl rfl
  refine va_calli (va_runV (As := []) (rest := []) ⟨hx, hb, hml, hown, hts⟩ hM401 (cwV 0 hts (gV q_323 q_324 q_325 q_297 q_322) rfl rfl rfl hV_J6_intValue_8abf5 ⟨Nat.le_of_ble_eq_true rfl, Nat.le_of_ble_eq_true rfl⟩) ⟨pc_blind, va_Orecv (hX.2.2.1.1.1 128 (by decide)) hS, fun U hU hW => ⟨rfl, hC402 U hU hW⟩⟩ rfl rfl hl.1 rfl (lv_room (Nat.le_of_ble_eq_true rfl)) dX9_shown_61 ⟨(Nat.le_of_ble_eq_true rfl), (Nat.le_of_ble_eq_true rfl)⟩) hS (fun q9 _ h9 => hF399 q9 h9) hF399 (fun r404 u403 t403 H403 L403 ht403 hvm403 hw403 hB403 hz403 hk403 hS => ?_)
  have hP := pq_keep hP hD [] rfl hk403 hB403.1 ht403
  have hG : s.heap.size + 297 ≤ H403.size := Nat.le_trans hG hz403
  refine W.eq (g2 := F0 m 64 ls [.int 0]) (by rw [hw403]) ?_
  refine lv_istore (lv' := [(6, .int 0), (5, .ref a386), (4, .int 0), (3, .int 48), (2, .int 1), (1, .int 0), (0, .ref h0)]) hx hb dX9_shown_64 hl (by decide) rfl (fun ls hl => ?_)
  refine lv_iload hx hb dX9_shown_66 (lv_at hl 2 rfl) ?_
  refine lv_if_ne (tgt := 82) hx hb dX9_shown_68 (by decide) (fun cz => absurd (by decide) cz) (fun _ => ?_)
  refine lv_aload_n hx hb dX9_shown_71 rfl (lv_at hl 6 rfl) ?_
  refine lv_iload_n hx hb dX9_shown_72 rfl (lv_at hl 4 rfl) ?_
  refine lv_iload_n hx hb dX9_shown_73 rfl (lv_at hl 3 rfl) ?_
  refine lv_iload hx hb dX9_shown_74 (lv_at hl 0 rfl) ?_
  have hM407 := k654_showsIt l hl9 dC dI z h0 h1 h2 h4 h5 h7 h8 h9 h10 h11 h12 h3 H403.size kc0 kc2
  obtain ⟨hF405, hC408⟩ := pc_M hM407 hP hD hK hS hX hT hA [0, 1, 2, 3, 4, 5, 6, 7, 8, 9, 10] [0, 1] rfl rfl rfl
  refine va_calli (va_runV (As := [.int 1, .int 48, .int 0]) (rest := []) ⟨hx, hb, hml, hown, hts⟩ hM407 (cwV 3 hts (gV q_429 q_430 q_431 q_60 q_428) rfl rfl rfl hV_X9_showsIt ⟨Nat.le_of_ble_eq_true rfl, Nat.le_of_ble_eq_true rfl⟩) ⟨pc_blind, va_recv hK hP (ci := 8) (q := (RX9, TX9, 6)) (q0 := 0) rfl rfl, fun U hU hW => ⟨rfl, hC408 U hU hW⟩⟩ rfl rfl hl.1 rfl (lv_room (Nat.le_of_ble_eq_true rfl)) dX9_shown_76 ⟨(Nat.le_of_ble_eq_true rfl), (Nat.le_of_ble_eq_true rfl)⟩) hS (fun q9 _ h9 => hF405 q9 h9) hF405 (fun r410 u409 t409 H409 L409 ht409 hvm409 hw409 hB409 hz409 hk409 hS => ?_)
  have hP := pq_keep hP hD [0, 1, 2, 3, 4, 5, 6, 7, 8, 9, 10] rfl hk409 hB409.1 ht409
  have hG : s.heap.size + 318 ≤ H409.size := va_gr (g := 297) (g1 := 21) hG (by rw [← ht409]; exact hB409.2)
  refine W.eq (g2 := F0 m 79 ls [.int 0]) (by rw [hw409]) ?_
  refine W.widen (k := 318) (n := 3432) (by decide) (by decide) ?_
  refine lv_if_eq (tgt := 86) hx hb dX9_shown_79 (by decide) (fun _ => ?_) (fun cz => absurd (by decide) cz)
  refine lv_iconst (v := 0) hx hb dX9_shown_86 (by decide) ?_
  refine lv_istore (lv' := [(4, .int 0), (6, .int 0), (5, .ref a386), (3, .int 48), (2, .int 1), (1, .int 0), (0, .ref h0)]) hx hb dX9_shown_87 hl (by decide) rfl (fun ls hl => ?_)
  refine lv_goto (tgt := 41) hx hb dX9_shown_89 (by decide) ?_
  refine lv_aload hx hb dX9_shown_41 (lv_at hl 2 rfl) ?_
  have hM413 := k632_hasNext l hl9 dC dI z a386 h3 h6 H409.size
  obtain ⟨hF411, hC414⟩ := pc_M hM413 hP hD hK hS hX hT hA [11, 12] [] rfl rfl rfl
  refine va_callFi (va_runF (As := []) (rest := []) (hK.1 1 (RJx35411, TJx35411, 4) rfl).2 ⟨hx, hb, hml, hown, hts⟩ hM413 (va_cwF 0 hts (gF q_261 q_262 q_263 q_246 q_260) rfl rfl rfl hT.2.2.2.2.2.2.1 hF_xIh ⟨Nat.le_of_ble_eq_true rfl, Nat.le_of_ble_eq_true rfl⟩) ⟨pc_blind, va_recv hK hP (ci := 1) (q := (RJx35411, TJx35411, 4)) (q0 := 11) rfl rfl, fun U hU hW => ⟨rfl, hC414 U hU hW⟩⟩ rfl rfl hl.1 rfl (lv_room (Nat.le_of_ble_eq_true rfl)) dX9_shown_43 ⟨(Nat.le_of_ble_eq_true rfl), (Nat.le_of_ble_eq_true rfl)⟩) hS (fun q9 _ h9 => hF411 q9 h9) hF411 (fun r416 u415 t415 H415 L415 ht415 hvm415 hw415 hB415 hz415 hk415 hS => ?_)
  have hP := pq_keep hP hD [11, 12] rfl hk415 hB415.1 ht415
  have hG : s.heap.size + 318 ≤ H415.size := Nat.le_trans hG hz415
  refine W.eq (g2 := F0 m 48 ls [.int 1]) (by rw [hw415]) ?_
  refine lv_if_eq (tgt := 92) hx hb dX9_shown_48 (by decide) (fun cz => absurd cz (by decide)) (fun _ => ?_)
  refine lv_aload hx hb dX9_shown_51 (lv_at hl 2 rfl) ?_
  have hM419 := k634_next l hl9 dC dI z a386 h3 h6 H415.size kc1
  obtain ⟨hF417, hC420⟩ := pc_M hM419 hP hD hK hS hX hT hA [11, 12, 13] [2] rfl rfl rfl
  refine va_callFr (va_runF (As := []) (rest := []) (hK.1 1 (RJx35411, TJx35411, 4) rfl).2 ⟨hx, hb, hml, hown, hts⟩ hM419 (va_cwF 0 hts (gF q_308 q_309 q_310 q_246 q_307) rfl rfl rfl hT.2.2.2.2.2.2.2.1 hF_xIn ⟨Nat.le_of_ble_eq_true rfl, Nat.le_of_ble_eq_true rfl⟩) ⟨pc_blind, va_recv hK hP (ci := 1) (q := (RJx35411, TJx35411, 4)) (q0 := 11) rfl rfl, fun U hU hW => ⟨rfl, hC420 U hU hW⟩⟩ rfl rfl hl.1 rfl (lv_room (Nat.le_of_ble_eq_true rfl)) dX9_shown_53 ⟨(Nat.le_of_ble_eq_true rfl), (Nat.le_of_ble_eq_true rfl)⟩) hS (fun q9 _ h9 => hF417 q9 h9) hF417 (fun u421 r422 t421 H421 L421 ht421 hvm421 hw421 hB421 hz421 hk421 hS => ?_)
  obtain ⟨hr421, hB421⟩ := hB421
  obtain ⟨hP, hD, hK⟩ := pq_jn (wz := [(h0, ce21 h1 h2 h3 h4), (h1, ce201 h5), (h2, ce3 z.1), (h4, ce226 h7), (h5, ce200 kc0 h8 h9 h10 h11 h12), (h7, ce200 kc2 (z.2.2.1 128) (z.2.2.1 129) (z.2.2.1 130) (z.2.2.1 131) (z.2.2.1 132)), (h8, ce49), (h9, ce49), (h10, ce49), (h11, ce49), (h12, ce49), (a386, ce310 h3), (h3, ce276 h6), (h6, ce275 kc1 (z.2.2.1 128) (z.2.2.1 128) (z.2.2.1 128) (z.2.2.1 128) (z.2.2.1 128) (z.2.2.1 128) (z.2.2.1 128))]) (tz := [(kc0, .object "java/lang/Object"), (kc2, .object "java/lang/Object"), (kc1, .object "java/lang/Object")]) hP hD hK [11, 12, 13] [0, 1] rfl hk421 hF417 hB421.1 ht421 hvm421 rfl rfl
  have hG : s.heap.size + 318 ≤ H421.size := Nat.le_trans hG hz421
  refine W.eq (g2 := F0 m 58 ls [.ref (z.2.2.1 128)]) (by rw [hr421]) ?_
  refine va_castE (nm := "java/lang/Integer") hx hb hown (hts _ q_320) (va_Orecv (hX.2.2.1.1.1 128 (by decide)) hS) dX9_shown_58 ?_
  have hM425 := k74_intValue l hl9 dC dI z H421.size
  obtain ⟨hF423, hC426⟩ := pc_M hM425 hP hD hK hS hX hT hA [] [] rfl rfl rfl
  refine va_calli (va_runV (As := []) (rest := []) ⟨hx, hb, hml, hown, hts⟩ hM425 (cwV 0 hts (gV q_323 q_324 q_325 q_297 q_322) rfl rfl rfl hV_J6_intValue_8abf5 ⟨Nat.le_of_ble_eq_true rfl, Nat.le_of_ble_eq_true rfl⟩) ⟨pc_blind, va_Orecv (hX.2.2.1.1.1 128 (by decide)) hS, fun U hU hW => ⟨rfl, hC426 U hU hW⟩⟩ rfl rfl hl.1 rfl (lv_room (Nat.le_of_ble_eq_true rfl)) dX9_shown_61 ⟨(Nat.le_of_ble_eq_true rfl), (Nat.le_of_ble_eq_true rfl)⟩) hS (fun q9 _ h9 => hF423 q9 h9) hF423 (fun r428 u427 t427 H427 L427 ht427 hvm427 hw427 hB427 hz427 hk427 hS => ?_)
  have hP := pq_keep hP hD [] rfl hk427 hB427.1 ht427
  have hG : s.heap.size + 318 ≤ H427.size := Nat.le_trans hG hz427
  refine W.eq (g2 := F0 m 64 ls [.int 0]) (by rw [hw427]) ?_
  refine lv_istore (lv' := [(6, .int 0), (4, .int 0), (5, .ref a386), (3, .int 48), (2, .int 1), (1, .int 0), (0, .ref h0)]) hx hb dX9_shown_64 hl (by decide) rfl (fun ls hl => ?_)
  refine lv_iload hx hb dX9_shown_66 (lv_at hl 1 rfl) ?_
  refine lv_if_ne (tgt := 82) hx hb dX9_shown_68 (by decide) (fun cz => absurd (by decide) cz) (fun _ => ?_)
  refine lv_aload_n hx hb dX9_shown_71 rfl (lv_at hl 6 rfl) ?_
  refine lv_iload_n hx hb dX9_shown_72 rfl (lv_at hl 4 rfl) ?_
  refine lv_iload_n hx hb dX9_shown_73 rfl (lv_at hl 3 rfl) ?_
  refine lv_iload hx hb dX9_shown_74 (lv_at hl 0 rfl) ?_
  have hM431 := k654_showsIt l hl9 dC dI z h0 h1 h2 h4 h5 h7 h8 h9 h10 h11 h12 h3 H427.size kc0 kc2
  obtain ⟨hF429, hC432⟩ := pc_M hM431 hP hD hK hS hX hT hA [0, 1, 2, 3, 4, 5, 6, 7, 8, 9, 10] [0, 1] rfl rfl rfl
  refine va_calli (va_runV (As := [.int 1, .int 48, .int 0]) (rest := []) ⟨hx, hb, hml, hown, hts⟩ hM431 (cwV 3 hts (gV q_429 q_430 q_431 q_60 q_428) rfl rfl rfl hV_X9_showsIt ⟨Nat.le_of_ble_eq_true rfl, Nat.le_of_ble_eq_true rfl⟩) ⟨pc_blind, va_recv hK hP (ci := 8) (q := (RX9, TX9, 6)) (q0 := 0) rfl rfl, fun U hU hW => ⟨rfl, hC432 U hU hW⟩⟩ rfl rfl hl.1 rfl (lv_room (Nat.le_of_ble_eq_true rfl)) dX9_shown_76 ⟨(Nat.le_of_ble_eq_true rfl), (Nat.le_of_ble_eq_true rfl)⟩) hS (fun q9 _ h9 => hF429 q9 h9) hF429 (fun r434 u433 t433 H433 L433 ht433 hvm433 hw433 hB433 hz433 hk433 hS => ?_)
  have hP := pq_keep hP hD [0, 1, 2, 3, 4, 5, 6, 7, 8, 9, 10] rfl hk433 hB433.1 ht433
  have hG : s.heap.size + 339 ≤ H433.size := va_gr (g := 318) (g1 := 21) hG (by rw [← ht433]; exact hB433.2)
  refine W.eq (g2 := F0 m 79 ls [.int 0]) (by rw [hw433]) ?_
  refine W.widen (k := 339) (n := 3660) (by decide) (by decide) ?_
  refine lv_if_eq (tgt := 86) hx hb dX9_shown_79 (by decide) (fun _ => ?_) (fun cz => absurd (by decide) cz)
  refine lv_iconst (v := 0) hx hb dX9_shown_86 (by decide) ?_
  refine lv_istore (lv' := [(4, .int 0), (6, .int 0), (5, .ref a386), (3, .int 48), (2, .int 1), (1, .int 0), (0, .ref h0)]) hx hb dX9_shown_87 hl (by decide) rfl (fun ls hl => ?_)
  refine lv_goto (tgt := 41) hx hb dX9_shown_89 (by decide) ?_
  refine lv_aload hx hb dX9_shown_41 (lv_at hl 2 rfl) ?_
  have hM437 := k635_hasNext l hl9 dC dI z a386 h3 h6 H433.size
  obtain ⟨hF435, hC438⟩ := pc_M hM437 hP hD hK hS hX hT hA [11, 12] [] rfl rfl rfl
  refine va_callFi (va_runF (As := []) (rest := []) (hK.1 1 (RJx35411, TJx35411, 4) rfl).2 ⟨hx, hb, hml, hown, hts⟩ hM437 (va_cwF 0 hts (gF q_261 q_262 q_263 q_246 q_260) rfl rfl rfl hT.2.2.2.2.2.2.1 hF_xIh ⟨Nat.le_of_ble_eq_true rfl, Nat.le_of_ble_eq_true rfl⟩) ⟨pc_blind, va_recv hK hP (ci := 1) (q := (RJx35411, TJx35411, 4)) (q0 := 11) rfl rfl, fun U hU hW => ⟨rfl, hC438 U hU hW⟩⟩ rfl rfl hl.1 rfl (lv_room (Nat.le_of_ble_eq_true rfl)) dX9_shown_43 ⟨(Nat.le_of_ble_eq_true rfl), (Nat.le_of_ble_eq_true rfl)⟩) hS (fun q9 _ h9 => hF435 q9 h9) hF435 (fun r440 u439 t439 H439 L439 ht439 hvm439 hw439 hB439 hz439 hk439 hS => ?_)
  have hP := pq_keep hP hD [11, 12] rfl hk439 hB439.1 ht439
  have hG : s.heap.size + 339 ≤ H439.size := Nat.le_trans hG hz439
  refine W.eq (g2 := F0 m 48 ls [.int 1]) (by rw [hw439]) ?_
  refine lv_if_eq (tgt := 92) hx hb dX9_shown_48 (by decide) (fun cz => absurd cz (by decide)) (fun _ => ?_)
  refine lv_aload hx hb dX9_shown_51 (lv_at hl 2 rfl) ?_
  have hM443 := k637_next l hl9 dC dI z a386 h3 h6 H439.size kc1
  obtain ⟨hF441, hC444⟩ := pc_M hM443 hP hD hK hS hX hT hA [11, 12, 13] [2] rfl rfl rfl
  refine va_callFr (va_runF (As := []) (rest := []) (hK.1 1 (RJx35411, TJx35411, 4) rfl).2 ⟨hx, hb, hml, hown, hts⟩ hM443 (va_cwF 0 hts (gF q_308 q_309 q_310 q_246 q_307) rfl rfl rfl hT.2.2.2.2.2.2.2.1 hF_xIn ⟨Nat.le_of_ble_eq_true rfl, Nat.le_of_ble_eq_true rfl⟩) ⟨pc_blind, va_recv hK hP (ci := 1) (q := (RJx35411, TJx35411, 4)) (q0 := 11) rfl rfl, fun U hU hW => ⟨rfl, hC444 U hU hW⟩⟩ rfl rfl hl.1 rfl (lv_room (Nat.le_of_ble_eq_true rfl)) dX9_shown_53 ⟨(Nat.le_of_ble_eq_true rfl), (Nat.le_of_ble_eq_true rfl)⟩) hS (fun q9 _ h9 => hF441 q9 h9) hF441 (fun u445 r446 t445 H445 L445 ht445 hvm445 hw445 hB445 hz445 hk445 hS => ?_)
  obtain ⟨hr445, hB445⟩ := hB445
  obtain ⟨hP, hD, hK⟩ := pq_jn (wz := [(h0, ce21 h1 h2 h3 h4), (h1, ce201 h5), (h2, ce3 z.1), (h4, ce226 h7), (h5, ce200 kc0 h8 h9 h10 h11 h12), (h7, ce200 kc2 (z.2.2.1 128) (z.2.2.1 129) (z.2.2.1 130) (z.2.2.1 131) (z.2.2.1 132)), (h8, ce49), (h9, ce49), (h10, ce49), (h11, ce49), (h12, ce49), (a386, ce312 h3), (h3, ce276 h6), (h6, ce275 kc1 (z.2.2.1 128) (z.2.2.1 128) (z.2.2.1 128) (z.2.2.1 128) (z.2.2.1 128) (z.2.2.1 128) (z.2.2.1 128))]) (tz := [(kc0, .object "java/lang/Object"), (kc2, .object "java/lang/Object"), (kc1, .object "java/lang/Object")]) hP hD hK [11, 12, 13] [0, 1] rfl hk445 hF441 hB445.1 ht445 hvm445 rfl rfl
  have hG : s.heap.size + 339 ≤ H445.size := Nat.le_trans hG hz445
  refine W.eq (g2 := F0 m 58 ls [.ref (z.2.2.1 128)]) (by rw [hr445]) ?_
  refine va_castE (nm := "java/lang/Integer") hx hb hown (hts _ q_320) (va_Orecv (hX.2.2.1.1.1 128 (by decide)) hS) dX9_shown_58 ?_
  have hM449 := k74_intValue l hl9 dC dI z H445.size
  obtain ⟨hF447, hC450⟩ := pc_M hM449 hP hD hK hS hX hT hA [] [] rfl rfl rfl
  refine va_calli (va_runV (As := []) (rest := []) ⟨hx, hb, hml, hown, hts⟩ hM449 (cwV 0 hts (gV q_323 q_324 q_325 q_297 q_322) rfl rfl rfl hV_J6_intValue_8abf5 ⟨Nat.le_of_ble_eq_true rfl, Nat.le_of_ble_eq_true rfl⟩) ⟨pc_blind, va_Orecv (hX.2.2.1.1.1 128 (by decide)) hS, fun U hU hW => ⟨rfl, hC450 U hU hW⟩⟩ rfl rfl hl.1 rfl (lv_room (Nat.le_of_ble_eq_true rfl)) dX9_shown_61 ⟨(Nat.le_of_ble_eq_true rfl), (Nat.le_of_ble_eq_true rfl)⟩) hS (fun q9 _ h9 => hF447 q9 h9) hF447 (fun r452 u451 t451 H451 L451 ht451 hvm451 hw451 hB451 hz451 hk451 hS => ?_)
  have hP := pq_keep hP hD [] rfl hk451 hB451.1 ht451
  have hG : s.heap.size + 339 ≤ H451.size := Nat.le_trans hG hz451
  refine W.eq (g2 := F0 m 64 ls [.int 0]) (by rw [hw451]) ?_
  refine lv_istore (lv' := [(6, .int 0), (4, .int 0), (5, .ref a386), (3, .int 48), (2, .int 1), (1, .int 0), (0, .ref h0)]) hx hb dX9_shown_64 hl (by decide) rfl (fun ls hl => ?_)
  refine lv_iload hx hb dX9_shown_66 (lv_at hl 1 rfl) ?_
  refine lv_if_ne (tgt := 82) hx hb dX9_shown_68 (by decide) (fun cz => absurd (by decide) cz) (fun _ => ?_)
  refine lv_aload_n hx hb dX9_shown_71 rfl (lv_at hl 6 rfl) ?_
  refine lv_iload_n hx hb dX9_shown_72 rfl (lv_at hl 4 rfl) ?_
  refine lv_iload_n hx hb dX9_shown_73 rfl (lv_at hl 3 rfl) ?_
  refine lv_iload hx hb dX9_shown_74 (lv_at hl 0 rfl) ?_
  have hM455 := k654_showsIt l hl9 dC dI z h0 h1 h2 h4 h5 h7 h8 h9 h10 h11 h12 h3 H451.size kc0 kc2
  obtain ⟨hF453, hC456⟩ := pc_M hM455 hP hD hK hS hX hT hA [0, 1, 2, 3, 4, 5, 6, 7, 8, 9, 10] [0, 1] rfl rfl rfl
  refine va_calli (va_runV (As := [.int 1, .int 48, .int 0]) (rest := []) ⟨hx, hb, hml, hown, hts⟩ hM455 (cwV 3 hts (gV q_429 q_430 q_431 q_60 q_428) rfl rfl rfl hV_X9_showsIt ⟨Nat.le_of_ble_eq_true rfl, Nat.le_of_ble_eq_true rfl⟩) ⟨pc_blind, va_recv hK hP (ci := 8) (q := (RX9, TX9, 6)) (q0 := 0) rfl rfl, fun U hU hW => ⟨rfl, hC456 U hU hW⟩⟩ rfl rfl hl.1 rfl (lv_room (Nat.le_of_ble_eq_true rfl)) dX9_shown_76 ⟨(Nat.le_of_ble_eq_true rfl), (Nat.le_of_ble_eq_true rfl)⟩) hS (fun q9 _ h9 => hF453 q9 h9) hF453 (fun r458 u457 t457 H457 L457 ht457 hvm457 hw457 hB457 hz457 hk457 hS => ?_)
  have hP := pq_keep hP hD [0, 1, 2, 3, 4, 5, 6, 7, 8, 9, 10] rfl hk457 hB457.1 ht457
  have hG : s.heap.size + 360 ≤ H457.size := va_gr (g := 339) (g1 := 21) hG (by rw [← ht457]; exact hB457.2)
  refine W.eq (g2 := F0 m 79 ls [.int 0]) (by rw [hw457]) ?_
  refine W.widen (k := 360) (n := 3888) (by decide) (by decide) ?_
  refine lv_if_eq (tgt := 86) hx hb dX9_shown_79 (by decide) (fun _ => ?_) (fun cz => absurd (by decide) cz)
  refine lv_iconst (v := 0) hx hb dX9_shown_86 (by decide) ?_
  refine lv_istore (lv' := [(4, .int 0), (6, .int 0), (5, .ref a386), (3, .int 48), (2, .int 1), (1, .int 0), (0, .ref h0)]) hx hb dX9_shown_87 hl (by decide) rfl (fun ls hl => ?_)
  refine lv_goto (tgt := 41) hx hb dX9_shown_89 (by decide) ?_
  refine lv_aload hx hb dX9_shown_41 (lv_at hl 2 rfl) ?_
  have hM461 := k638_hasNext l hl9 dC dI z a386 h3 h6 H457.size
  obtain ⟨hF459, hC462⟩ := pc_M hM461 hP hD hK hS hX hT hA [11, 12] [] rfl rfl rfl
  refine va_callFi (va_runF (As := []) (rest := []) (hK.1 1 (RJx35411, TJx35411, 4) rfl).2 ⟨hx, hb, hml, hown, hts⟩ hM461 (va_cwF 0 hts (gF q_261 q_262 q_263 q_246 q_260) rfl rfl rfl hT.2.2.2.2.2.2.1 hF_xIh ⟨Nat.le_of_ble_eq_true rfl, Nat.le_of_ble_eq_true rfl⟩) ⟨pc_blind, va_recv hK hP (ci := 1) (q := (RJx35411, TJx35411, 4)) (q0 := 11) rfl rfl, fun U hU hW => ⟨rfl, hC462 U hU hW⟩⟩ rfl rfl hl.1 rfl (lv_room (Nat.le_of_ble_eq_true rfl)) dX9_shown_43 ⟨(Nat.le_of_ble_eq_true rfl), (Nat.le_of_ble_eq_true rfl)⟩) hS (fun q9 _ h9 => hF459 q9 h9) hF459 (fun r464 u463 t463 H463 L463 ht463 hvm463 hw463 hB463 hz463 hk463 hS => ?_)
  have hP := pq_keep hP hD [11, 12] rfl hk463 hB463.1 ht463
  have hG : s.heap.size + 360 ≤ H463.size := Nat.le_trans hG hz463
  refine W.eq (g2 := F0 m 48 ls [.int 1]) (by rw [hw463]) ?_
  refine lv_if_eq (tgt := 92) hx hb dX9_shown_48 (by decide) (fun cz => absurd cz (by decide)) (fun _ => ?_)
  refine lv_aload hx hb dX9_shown_51 (lv_at hl 2 rfl) ?_
  have hM467 := k640_next l hl9 dC dI z a386 h3 h6 H463.size kc1
  obtain ⟨hF465, hC468⟩ := pc_M hM467 hP hD hK hS hX hT hA [11, 12, 13] [2] rfl rfl rfl
  refine va_callFr (va_runF (As := []) (rest := []) (hK.1 1 (RJx35411, TJx35411, 4) rfl).2 ⟨hx, hb, hml, hown, hts⟩ hM467 (va_cwF 0 hts (gF q_308 q_309 q_310 q_246 q_307) rfl rfl rfl hT.2.2.2.2.2.2.2.1 hF_xIn ⟨Nat.le_of_ble_eq_true rfl, Nat.le_of_ble_eq_true rfl⟩) ⟨pc_blind, va_recv hK hP (ci := 1) (q := (RJx35411, TJx35411, 4)) (q0 := 11) rfl rfl, fun U hU hW => ⟨rfl, hC468 U hU hW⟩⟩ rfl rfl hl.1 rfl (lv_room (Nat.le_of_ble_eq_true rfl)) dX9_shown_53 ⟨(Nat.le_of_ble_eq_true rfl), (Nat.le_of_ble_eq_true rfl)⟩) hS (fun q9 _ h9 => hF465 q9 h9) hF465 (fun u469 r470 t469 H469 L469 ht469 hvm469 hw469 hB469 hz469 hk469 hS => ?_)
  obtain ⟨hr469, hB469⟩ := hB469
  obtain ⟨hP, hD, hK⟩ := pq_jn (wz := [(h0, ce21 h1 h2 h3 h4), (h1, ce201 h5), (h2, ce3 z.1), (h4, ce226 h7), (h5, ce200 kc0 h8 h9 h10 h11 h12), (h7, ce200 kc2 (z.2.2.1 128) (z.2.2.1 129) (z.2.2.1 130) (z.2.2.1 131) (z.2.2.1 132)), (h8, ce49), (h9, ce49), (h10, ce49), (h11, ce49), (h12, ce49), (a386, ce314 h3), (h3, ce276 h6), (h6, ce275 kc1 (z.2.2.1 128) (z.2.2.1 128) (z.2.2.1 128) (z.2.2.1 128) (z.2.2.1 128) (z.2.2.1 128) (z.2.2.1 128))]) (tz := [(kc0, .object "java/lang/Object"), (kc2, .object "java/lang/Object"), (kc1, .object "java/lang/Object")]) hP hD hK [11, 12, 13] [0, 1] rfl hk469 hF465 hB469.1 ht469 hvm469 rfl rfl
  have hG : s.heap.size + 360 ≤ H469.size := Nat.le_trans hG hz469
  refine W.eq (g2 := F0 m 58 ls [.ref (z.2.2.1 128)]) (by rw [hr469]) ?_
  refine va_castE (nm := "java/lang/Integer") hx hb hown (hts _ q_320) (va_Orecv (hX.2.2.1.1.1 128 (by decide)) hS) dX9_shown_58 ?_
  have hM473 := k74_intValue l hl9 dC dI z H469.size
  obtain ⟨hF471, hC474⟩ := pc_M hM473 hP hD hK hS hX hT hA [] [] rfl rfl rfl
  refine va_calli (va_runV (As := []) (rest := []) ⟨hx, hb, hml, hown, hts⟩ hM473 (cwV 0 hts (gV q_323 q_324 q_325 q_297 q_322) rfl rfl rfl hV_J6_intValue_8abf5 ⟨Nat.le_of_ble_eq_true rfl, Nat.le_of_ble_eq_true rfl⟩) ⟨pc_blind, va_Orecv (hX.2.2.1.1.1 128 (by decide)) hS, fun U hU hW => ⟨rfl, hC474 U hU hW⟩⟩ rfl rfl hl.1 rfl (lv_room (Nat.le_of_ble_eq_true rfl)) dX9_shown_61 ⟨(Nat.le_of_ble_eq_true rfl), (Nat.le_of_ble_eq_true rfl)⟩) hS (fun q9 _ h9 => hF471 q9 h9) hF471 (fun r476 u475 t475 H475 L475 ht475 hvm475 hw475 hB475 hz475 hk475 hS => ?_)
  have hP := pq_keep hP hD [] rfl hk475 hB475.1 ht475
  have hG : s.heap.size + 360 ≤ H475.size := Nat.le_trans hG hz475
  refine W.eq (g2 := F0 m 64 ls [.int 0]) (by rw [hw475]) ?_
  refine lv_istore (lv' := [(6, .int 0), (4, .int 0), (5, .ref a386), (3, .int 48), (2, .int 1), (1, .int 0), (0, .ref h0)]) hx hb dX9_shown_64 hl (by decide) rfl (fun ls hl => ?_)
  refine lv_iload hx hb dX9_shown_66 (lv_at hl 1 rfl) ?_
  refine lv_if_ne (tgt := 82) hx hb dX9_shown_68 (by decide) (fun cz => absurd (by decide) cz) (fun _ => ?_)
  refine lv_aload_n hx hb dX9_shown_71 rfl (lv_at hl 6 rfl) ?_
  refine lv_iload_n hx hb dX9_shown_72 rfl (lv_at hl 4 rfl) ?_
  refine lv_iload_n hx hb dX9_shown_73 rfl (lv_at hl 3 rfl) ?_
  refine lv_iload hx hb dX9_shown_74 (lv_at hl 0 rfl) ?_
  have hM479 := k654_showsIt l hl9 dC dI z h0 h1 h2 h4 h5 h7 h8 h9 h10 h11 h12 h3 H475.size kc0 kc2
  obtain ⟨hF477, hC480⟩ := pc_M hM479 hP hD hK hS hX hT hA [0, 1, 2, 3, 4, 5, 6, 7, 8, 9, 10] [0, 1] rfl rfl rfl
  refine va_calli (va_runV (As := [.int 1, .int 48, .int 0]) (rest := []) ⟨hx, hb, hml, hown, hts⟩ hM479 (cwV 3 hts (gV q_429 q_430 q_431 q_60 q_428) rfl rfl rfl hV_X9_showsIt ⟨Nat.le_of_ble_eq_true rfl, Nat.le_of_ble_eq_true rfl⟩) ⟨pc_blind, va_recv hK hP (ci := 8) (q := (RX9, TX9, 6)) (q0 := 0) rfl rfl, fun U hU hW => ⟨rfl, hC480 U hU hW⟩⟩ rfl rfl hl.1 rfl (lv_room (Nat.le_of_ble_eq_true rfl)) dX9_shown_76 ⟨(Nat.le_of_ble_eq_true rfl), (Nat.le_of_ble_eq_true rfl)⟩) hS (fun q9 _ h9 => hF477 q9 h9) hF477 (fun r482 u481 t481 H481 L481 ht481 hvm481 hw481 hB481 hz481 hk481 hS => ?_)
  have hP := pq_keep hP hD [0, 1, 2, 3, 4, 5, 6, 7, 8, 9, 10] rfl hk481 hB481.1 ht481
  have hG : s.heap.size + 381 ≤ H481.size := va_gr (g := 360) (g1 := 21) hG (by rw [← ht481]; exact hB481.2)
  refine W.eq (g2 := F0 m 79 ls [.int 0]) (by rw [hw481]) ?_
  refine W.widen (k := 381) (n := 4116) (by decide) (by decide) ?_
  refine lv_if_eq (tgt := 86) hx hb dX9_shown_79 (by decide) (fun _ => ?_) (fun cz => absurd (by decide) cz)
  refine lv_iconst (v := 0) hx hb dX9_shown_86 (by decide) ?_
  refine lv_istore (lv' := [(4, .int 0), (6, .int 0), (5, .ref a386), (3, .int 48), (2, .int 1), (1, .int 0), (0, .ref h0)]) hx hb dX9_shown_87 hl (by decide) rfl (fun ls hl => ?_)
  refine lv_goto (tgt := 41) hx hb dX9_shown_89 (by decide) ?_
  refine lv_aload hx hb dX9_shown_41 (lv_at hl 2 rfl) ?_
  have hM485 := k641_hasNext l hl9 dC dI z a386 h3 h6 H481.size
  obtain ⟨hF483, hC486⟩ := pc_M hM485 hP hD hK hS hX hT hA [11, 12] [] rfl rfl rfl
  refine va_callFi (va_runF (As := []) (rest := []) (hK.1 1 (RJx35411, TJx35411, 4) rfl).2 ⟨hx, hb, hml, hown, hts⟩ hM485 (va_cwF 0 hts (gF q_261 q_262 q_263 q_246 q_260) rfl rfl rfl hT.2.2.2.2.2.2.1 hF_xIh ⟨Nat.le_of_ble_eq_true rfl, Nat.le_of_ble_eq_true rfl⟩) ⟨pc_blind, va_recv hK hP (ci := 1) (q := (RJx35411, TJx35411, 4)) (q0 := 11) rfl rfl, fun U hU hW => ⟨rfl, hC486 U hU hW⟩⟩ rfl rfl hl.1 rfl (lv_room (Nat.le_of_ble_eq_true rfl)) dX9_shown_43 ⟨(Nat.le_of_ble_eq_true rfl), (Nat.le_of_ble_eq_true rfl)⟩) hS (fun q9 _ h9 => hF483 q9 h9) hF483 (fun r488 u487 t487 H487 L487 ht487 hvm487 hw487 hB487 hz487 hk487 hS => ?_)
  have hP := pq_keep hP hD [11, 12] rfl hk487 hB487.1 ht487
  have hG : s.heap.size + 381 ≤ H487.size := Nat.le_trans hG hz487
  refine W.eq (g2 := F0 m 48 ls [.int 1]) (by rw [hw487]) ?_
  refine lv_if_eq (tgt := 92) hx hb dX9_shown_48 (by decide) (fun cz => absurd cz (by decide)) (fun _ => ?_)
  refine lv_aload hx hb dX9_shown_51 (lv_at hl 2 rfl) ?_
  have hM491 := k643_next l hl9 dC dI z a386 h3 h6 H487.size kc1
  obtain ⟨hF489, hC492⟩ := pc_M hM491 hP hD hK hS hX hT hA [11, 12, 13] [2] rfl rfl rfl
  refine va_callFr (va_runF (As := []) (rest := []) (hK.1 1 (RJx35411, TJx35411, 4) rfl).2 ⟨hx, hb, hml, hown, hts⟩ hM491 (va_cwF 0 hts (gF q_308 q_309 q_310 q_246 q_307) rfl rfl rfl hT.2.2.2.2.2.2.2.1 hF_xIn ⟨Nat.le_of_ble_eq_true rfl, Nat.le_of_ble_eq_true rfl⟩) ⟨pc_blind, va_recv hK hP (ci := 1) (q := (RJx35411, TJx35411, 4)) (q0 := 11) rfl rfl, fun U hU hW => ⟨rfl, hC492 U hU hW⟩⟩ rfl rfl hl.1 rfl (lv_room (Nat.le_of_ble_eq_true rfl)) dX9_shown_53 ⟨(Nat.le_of_ble_eq_true rfl), (Nat.le_of_ble_eq_true rfl)⟩) hS (fun q9 _ h9 => hF489 q9 h9) hF489 (fun u493 r494 t493 H493 L493 ht493 hvm493 hw493 hB493 hz493 hk493 hS => ?_)
  obtain ⟨hr493, hB493⟩ := hB493
  obtain ⟨hP, hD, hK⟩ := pq_jn (wz := [(h0, ce21 h1 h2 h3 h4), (h1, ce201 h5), (h2, ce3 z.1), (h4, ce226 h7), (h5, ce200 kc0 h8 h9 h10 h11 h12), (h7, ce200 kc2 (z.2.2.1 128) (z.2.2.1 129) (z.2.2.1 130) (z.2.2.1 131) (z.2.2.1 132)), (h8, ce49), (h9, ce49), (h10, ce49), (h11, ce49), (h12, ce49), (a386, ce316 h3), (h3, ce276 h6), (h6, ce275 kc1 (z.2.2.1 128) (z.2.2.1 128) (z.2.2.1 128) (z.2.2.1 128) (z.2.2.1 128) (z.2.2.1 128) (z.2.2.1 128))]) (tz := [(kc0, .object "java/lang/Object"), (kc2, .object "java/lang/Object"), (kc1, .object "java/lang/Object")]) hP hD hK [11, 12, 13] [0, 1] rfl hk493 hF489 hB493.1 ht493 hvm493 rfl rfl
  have hG : s.heap.size + 381 ≤ H493.size := Nat.le_trans hG hz493
  refine W.eq (g2 := F0 m 58 ls [.ref (z.2.2.1 128)]) (by rw [hr493]) ?_
  refine va_castE (nm := "java/lang/Integer") hx hb hown (hts _ q_320) (va_Orecv (hX.2.2.1.1.1 128 (by decide)) hS) dX9_shown_58 ?_
  have hM497 := k74_intValue l hl9 dC dI z H493.size
  obtain ⟨hF495, hC498⟩ := pc_M hM497 hP hD hK hS hX hT hA [] [] rfl rfl rfl
  refine va_calli (va_runV (As := []) (rest := []) ⟨hx, hb, hml, hown, hts⟩ hM497 (cwV 0 hts (gV q_323 q_324 q_325 q_297 q_322) rfl rfl rfl hV_J6_intValue_8abf5 ⟨Nat.le_of_ble_eq_true rfl, Nat.le_of_ble_eq_true rfl⟩) ⟨pc_blind, va_Orecv (hX.2.2.1.1.1 128 (by decide)) hS, fun U hU hW => ⟨rfl, hC498 U hU hW⟩⟩ rfl rfl hl.1 rfl (lv_room (Nat.le_of_ble_eq_true rfl)) dX9_shown_61 ⟨(Nat.le_of_ble_eq_true rfl), (Nat.le_of_ble_eq_true rfl)⟩) hS (fun q9 _ h9 => hF495 q9 h9) hF495 (fun r500 u499 t499 H499 L499 ht499 hvm499 hw499 hB499 hz499 hk499 hS => ?_)
  have hP := pq_keep hP hD [] rfl hk499 hB499.1 ht499
  have hG : s.heap.size + 381 ≤ H499.size := Nat.le_trans hG hz499
  refine W.eq (g2 := F0 m 64 ls [.int 0]) (by rw [hw499]) ?_
  refine lv_istore (lv' := [(6, .int 0), (4, .int 0), (5, .ref a386), (3, .int 48), (2, .int 1), (1, .int 0), (0, .ref h0)]) hx hb dX9_shown_64 hl (by decide) rfl (fun ls hl => ?_)
  refine lv_iload hx hb dX9_shown_66 (lv_at hl 1 rfl) ?_
  refine lv_if_ne (tgt := 82) hx hb dX9_shown_68 (by decide) (fun cz => absurd (by decide) cz) (fun _ => ?_)
  refine lv_aload_n hx hb dX9_shown_71 rfl (lv_at hl 6 rfl) ?_
  refine lv_iload_n hx hb dX9_shown_72 rfl (lv_at hl 4 rfl) ?_
  refine lv_iload_n hx hb dX9_shown_73 rfl (lv_at hl 3 rfl) ?_
  refine lv_iload hx hb dX9_shown_74 (lv_at hl 0 rfl) ?_
  have hM503 := k654_showsIt l hl9 dC dI z h0 h1 h2 h4 h5 h7 h8 h9 h10 h11 h12 h3 H499.size kc0 kc2
  obtain ⟨hF501, hC504⟩ := pc_M hM503 hP hD hK hS hX hT hA [0, 1, 2, 3, 4, 5, 6, 7, 8, 9, 10] [0, 1] rfl rfl rfl
  refine va_calli (va_runV (As := [.int 1, .int 48, .int 0]) (rest := []) ⟨hx, hb, hml, hown, hts⟩ hM503 (cwV 3 hts (gV q_429 q_430 q_431 q_60 q_428) rfl rfl rfl hV_X9_showsIt ⟨Nat.le_of_ble_eq_true rfl, Nat.le_of_ble_eq_true rfl⟩) ⟨pc_blind, va_recv hK hP (ci := 8) (q := (RX9, TX9, 6)) (q0 := 0) rfl rfl, fun U hU hW => ⟨rfl, hC504 U hU hW⟩⟩ rfl rfl hl.1 rfl (lv_room (Nat.le_of_ble_eq_true rfl)) dX9_shown_76 ⟨(Nat.le_of_ble_eq_true rfl), (Nat.le_of_ble_eq_true rfl)⟩) hS (fun q9 _ h9 => hF501 q9 h9) hF501 (fun r506 u505 t505 H505 L505 ht505 hvm505 hw505 hB505 hz505 hk505 hS => ?_)
  have hP := pq_keep hP hD [0, 1, 2, 3, 4, 5, 6, 7, 8, 9, 10] rfl hk505 hB505.1 ht505
  have hG : s.heap.size + 402 ≤ H505.size := va_gr (g := 381) (g1 := 21) hG (by rw [← ht505]; exact hB505.2)
  refine W.eq (g2 := F0 m 79 ls [.int 0]) (by rw [hw505]) ?_
  refine W.widen (k := 402) (n := 4344) (by decide) (by decide) ?_
  refine lv_if_eq (tgt := 86) hx hb dX9_shown_79 (by decide) (fun _ => ?_) (fun cz => absurd (by decide) cz)
  refine lv_iconst (v := 0) hx hb dX9_shown_86 (by decide) ?_
  refine lv_istore (lv' := [(4, .int 0), (6, .int 0), (5, .ref a386), (3, .int 48), (2, .int 1), (1, .int 0), (0, .ref h0)]) hx hb dX9_shown_87 hl (by decide) rfl (fun ls hl => ?_)
  refine lv_goto (tgt := 41) hx hb dX9_shown_89 (by decide) ?_
  refine lv_aload hx hb dX9_shown_41 (lv_at hl 2 rfl) ?_
  have hM509 := k644_hasNext l hl9 dC dI z a386 h3 h6 H505.size
  obtain ⟨hF507, hC510⟩ := pc_M hM509 hP hD hK hS hX hT hA [11, 12] [] rfl rfl rfl
  refine va_callFi (va_runF (As := []) (rest := []) (hK.1 1 (RJx35411, TJx35411, 4) rfl).2 ⟨hx, hb, hml, hown, hts⟩ hM509 (va_cwF 0 hts (gF q_261 q_262 q_263 q_246 q_260) rfl rfl rfl hT.2.2.2.2.2.2.1 hF_xIh ⟨Nat.le_of_ble_eq_true rfl, Nat.le_of_ble_eq_true rfl⟩) ⟨pc_blind, va_recv hK hP (ci := 1) (q := (RJx35411, TJx35411, 4)) (q0 := 11) rfl rfl, fun U hU hW => ⟨rfl, hC510 U hU hW⟩⟩ rfl rfl hl.1 rfl (lv_room (Nat.le_of_ble_eq_true rfl)) dX9_shown_43 ⟨(Nat.le_of_ble_eq_true rfl), (Nat.le_of_ble_eq_true rfl)⟩) hS (fun q9 _ h9 => hF507 q9 h9) hF507 (fun r512 u511 t511 H511 L511 ht511 hvm511 hw511 hB511 hz511 hk511 hS => ?_)
  have hP := pq_keep hP hD [11, 12] rfl hk511 hB511.1 ht511
  have hG : s.heap.size + 402 ≤ H511.size := Nat.le_trans hG hz511
  refine W.eq (g2 := F0 m 48 ls [.int 1]) (by rw [hw511]) ?_
  refine lv_if_eq (tgt := 92) hx hb dX9_shown_48 (by decide) (fun cz => absurd cz (by decide)) (fun _ => ?_)
  refine lv_aload hx hb dX9_shown_51 (lv_at hl 2 rfl) ?_
  have hM515 := k646_next l hl9 dC dI z a386 h3 h6 H511.size kc1
  obtain ⟨hF513, hC516⟩ := pc_M hM515 hP hD hK hS hX hT hA [11, 12, 13] [2] rfl rfl rfl
  refine va_callFr (va_runF (As := []) (rest := []) (hK.1 1 (RJx35411, TJx35411, 4) rfl).2 ⟨hx, hb, hml, hown, hts⟩ hM515 (va_cwF 0 hts (gF q_308 q_309 q_310 q_246 q_307) rfl rfl rfl hT.2.2.2.2.2.2.2.1 hF_xIn ⟨Nat.le_of_ble_eq_true rfl, Nat.le_of_ble_eq_true rfl⟩) ⟨pc_blind, va_recv hK hP (ci := 1) (q := (RJx35411, TJx35411, 4)) (q0 := 11) rfl rfl, fun U hU hW => ⟨rfl, hC516 U hU hW⟩⟩ rfl rfl hl.1 rfl (lv_room (Nat.le_of_ble_eq_true rfl)) dX9_shown_53 ⟨(Nat.le_of_ble_eq_true rfl), (Nat.le_of_ble_eq_true rfl)⟩) hS (fun q9 _ h9 => hF513 q9 h9) hF513 (fun u517 r518 t517 H517 L517 ht517 hvm517 hw517 hB517 hz517 hk517 hS => ?_)
  obtain ⟨hr517, hB517⟩ := hB517
  obtain ⟨hP, hD, hK⟩ := pq_jn (wz := [(h0, ce21 h1 h2 h3 h4), (h1, ce201 h5), (h2, ce3 z.1), (h4, ce226 h7), (h5, ce200 kc0 h8 h9 h10 h11 h12), (h7, ce200 kc2 (z.2.2.1 128) (z.2.2.1 129) (z.2.2.1 130) (z.2.2.1 131) (z.2.2.1 132)), (h8, ce49), (h9, ce49), (h10, ce49), (h11, ce49), (h12, ce49), (a386, ce318 h3), (h3, ce276 h6), (h6, ce275 kc1 (z.2.2.1 128) (z.2.2.1 128) (z.2.2.1 128) (z.2.2.1 128) (z.2.2.1 128) (z.2.2.1 128) (z.2.2.1 128))]) (tz := [(kc0, .object "java/lang/Object"), (kc2, .object "java/lang/Object"), (kc1, .object "java/lang/Object")]) hP hD hK [11, 12, 13] [0, 1] rfl hk517 hF513 hB517.1 ht517 hvm517 rfl rfl
  have hG : s.heap.size + 402 ≤ H517.size := Nat.le_trans hG hz517
  refine W.eq (g2 := F0 m 58 ls [.ref (z.2.2.1 128)]) (by rw [hr517]) ?_
  refine va_castE (nm := "java/lang/Integer") hx hb hown (hts _ q_320) (va_Orecv (hX.2.2.1.1.1 128 (by decide)) hS) dX9_shown_58 ?_
  have hM521 := k74_intValue l hl9 dC dI z H517.size
  obtain ⟨hF519, hC522⟩ := pc_M hM521 hP hD hK hS hX hT hA [] [] rfl rfl rfl
  refine va_calli (va_runV (As := []) (rest := []) ⟨hx, hb, hml, hown, hts⟩ hM521 (cwV 0 hts (gV q_323 q_324 q_325 q_297 q_322) rfl rfl rfl hV_J6_intValue_8abf5 ⟨Nat.le_of_ble_eq_true rfl, Nat.le_of_ble_eq_true rfl⟩) ⟨pc_blind, va_Orecv (hX.2.2.1.1.1 128 (by decide)) hS, fun U hU hW => ⟨rfl, hC522 U hU hW⟩⟩ rfl rfl hl.1 rfl (lv_room (Nat.le_of_ble_eq_true rfl)) dX9_shown_61 ⟨(Nat.le_of_ble_eq_true rfl), (Nat.le_of_ble_eq_true rfl)⟩) hS (fun q9 _ h9 => hF519 q9 h9) hF519 (fun r524 u523 t523 H523 L523 ht523 hvm523 hw523 hB523 hz523 hk523 hS => ?_)
  have hP := pq_keep hP hD [] rfl hk523 hB523.1 ht523
  have hG : s.heap.size + 402 ≤ H523.size := Nat.le_trans hG hz523
  refine W.eq (g2 := F0 m 64 ls [.int 0]) (by rw [hw523]) ?_
  refine lv_istore (lv' := [(6, .int 0), (4, .int 0), (5, .ref a386), (3, .int 48), (2, .int 1), (1, .int 0), (0, .ref h0)]) hx hb dX9_shown_64 hl (by decide) rfl (fun ls hl => ?_)
  refine lv_iload hx hb dX9_shown_66 (lv_at hl 1 rfl) ?_
  refine lv_if_ne (tgt := 82) hx hb dX9_shown_68 (by decide) (fun cz => absurd (by decide) cz) (fun _ => ?_)
  refine lv_aload_n hx hb dX9_shown_71 rfl (lv_at hl 6 rfl) ?_
  refine lv_iload_n hx hb dX9_shown_72 rfl (lv_at hl 4 rfl) ?_
  refine lv_iload_n hx hb dX9_shown_73 rfl (lv_at hl 3 rfl) ?_
  refine lv_iload hx hb dX9_shown_74 (lv_at hl 0 rfl) ?_
  have hM527 := k654_showsIt l hl9 dC dI z h0 h1 h2 h4 h5 h7 h8 h9 h10 h11 h12 h3 H523.size kc0 kc2
  obtain ⟨hF525, hC528⟩ := pc_M hM527 hP hD hK hS hX hT hA [0, 1, 2, 3, 4, 5, 6, 7, 8, 9, 10] [0, 1] rfl rfl rfl
  refine va_calli (va_runV (As := [.int 1, .int 48, .int 0]) (rest := []) ⟨hx, hb, hml, hown, hts⟩ hM527 (cwV 3 hts (gV q_429 q_430 q_431 q_60 q_428) rfl rfl rfl hV_X9_showsIt ⟨Nat.le_of_ble_eq_true rfl, Nat.le_of_ble_eq_true rfl⟩) ⟨pc_blind, va_recv hK hP (ci := 8) (q := (RX9, TX9, 6)) (q0 := 0) rfl rfl, fun U hU hW => ⟨rfl, hC528 U hU hW⟩⟩ rfl rfl hl.1 rfl (lv_room (Nat.le_of_ble_eq_true rfl)) dX9_shown_76 ⟨(Nat.le_of_ble_eq_true rfl), (Nat.le_of_ble_eq_true rfl)⟩) hS (fun q9 _ h9 => hF525 q9 h9) hF525 (fun r530 u529 t529 H529 L529 ht529 hvm529 hw529 hB529 hz529 hk529 hS => ?_)
  have hP := pq_keep hP hD [0, 1, 2, 3, 4, 5, 6, 7, 8, 9, 10] rfl hk529 hB529.1 ht529
  have hG : s.heap.size + 423 ≤ H529.size := va_gr (g := 402) (g1 := 21) hG (by rw [← ht529]; exact hB529.2)
  refine W.eq (g2 := F0 m 79 ls [.int 0]) (by rw [hw529]) ?_
  refine W.widen (k := 423) (n := 4572) (by decide) (by decide) ?_
  refine lv_if_eq (tgt := 86) hx hb dX9_shown_79 (by decide) (fun _ => ?_) (fun cz => absurd (by decide) cz)
  refine lv_iconst (v := 0) hx hb dX9_shown_86 (by decide) ?_
  refine lv_istore (lv' := [(4, .int 0), (6, .int 0), (5, .ref a386), (3, .int 48), (2, .int 1), (1, .int 0), (0, .ref h0)]) hx hb dX9_shown_87 hl (by decide) rfl (fun ls hl => ?_)
  refine lv_goto (tgt := 41) hx hb dX9_shown_89 (by decide) ?_
  refine lv_aload hx hb dX9_shown_41 (lv_at hl 2 rfl) ?_
  have hM533 := k647_hasNext l hl9 dC dI z a386 h3 h6 H529.size
  obtain ⟨hF531, hC534⟩ := pc_M hM533 hP hD hK hS hX hT hA [11, 12] [] rfl rfl rfl
  refine va_callFi (va_runF (As := []) (rest := []) (hK.1 1 (RJx35411, TJx35411, 4) rfl).2 ⟨hx, hb, hml, hown, hts⟩ hM533 (va_cwF 0 hts (gF q_261 q_262 q_263 q_246 q_260) rfl rfl rfl hT.2.2.2.2.2.2.1 hF_xIh ⟨Nat.le_of_ble_eq_true rfl, Nat.le_of_ble_eq_true rfl⟩) ⟨pc_blind, va_recv hK hP (ci := 1) (q := (RJx35411, TJx35411, 4)) (q0 := 11) rfl rfl, fun U hU hW => ⟨rfl, hC534 U hU hW⟩⟩ rfl rfl hl.1 rfl (lv_room (Nat.le_of_ble_eq_true rfl)) dX9_shown_43 ⟨(Nat.le_of_ble_eq_true rfl), (Nat.le_of_ble_eq_true rfl)⟩) hS (fun q9 _ h9 => hF531 q9 h9) hF531 (fun r536 u535 t535 H535 L535 ht535 hvm535 hw535 hB535 hz535 hk535 hS => ?_)
  have hP := pq_keep hP hD [11, 12] rfl hk535 hB535.1 ht535
  have hG : s.heap.size + 423 ≤ H535.size := Nat.le_trans hG hz535
  refine W.eq (g2 := F0 m 48 ls [.int 1]) (by rw [hw535]) ?_
  refine lv_if_eq (tgt := 92) hx hb dX9_shown_48 (by decide) (fun cz => absurd cz (by decide)) (fun _ => ?_)
  refine lv_aload hx hb dX9_shown_51 (lv_at hl 2 rfl) ?_
  have hM539 := k649_next l hl9 dC dI z a386 h3 h6 H535.size kc1
  obtain ⟨hF537, hC540⟩ := pc_M hM539 hP hD hK hS hX hT hA [11, 12, 13] [2] rfl rfl rfl
  refine va_callFr (va_runF (As := []) (rest := []) (hK.1 1 (RJx35411, TJx35411, 4) rfl).2 ⟨hx, hb, hml, hown, hts⟩ hM539 (va_cwF 0 hts (gF q_308 q_309 q_310 q_246 q_307) rfl rfl rfl hT.2.2.2.2.2.2.2.1 hF_xIn ⟨Nat.le_of_ble_eq_true rfl, Nat.le_of_ble_eq_true rfl⟩) ⟨pc_blind, va_recv hK hP (ci := 1) (q := (RJx35411, TJx35411, 4)) (q0 := 11) rfl rfl, fun U hU hW => ⟨rfl, hC540 U hU hW⟩⟩ rfl rfl hl.1 rfl (lv_room (Nat.le_of_ble_eq_true rfl)) dX9_shown_53 ⟨(Nat.le_of_ble_eq_true rfl), (Nat.le_of_ble_eq_true rfl)⟩) hS (fun q9 _ h9 => hF537 q9 h9) hF537 (fun u541 r542 t541 H541 L541 ht541 hvm541 hw541 hB541 hz541 hk541 hS => ?_)
  obtain ⟨hr541, hB541⟩ := hB541
  obtain ⟨hP, hD, hK⟩ := pq_jn (wz := [(h0, ce21 h1 h2 h3 h4), (h1, ce201 h5), (h2, ce3 z.1), (h4, ce226 h7), (h5, ce200 kc0 h8 h9 h10 h11 h12), (h7, ce200 kc2 (z.2.2.1 128) (z.2.2.1 129) (z.2.2.1 130) (z.2.2.1 131) (z.2.2.1 132)), (h8, ce49), (h9, ce49), (h10, ce49), (h11, ce49), (h12, ce49), (a386, ce320 h3), (h3, ce276 h6), (h6, ce275 kc1 (z.2.2.1 128) (z.2.2.1 128) (z.2.2.1 128) (z.2.2.1 128) (z.2.2.1 128) (z.2.2.1 128) (z.2.2.1 128))]) (tz := [(kc0, .object "java/lang/Object"), (kc2, .object "java/lang/Object"), (kc1, .object "java/lang/Object")]) hP hD hK [11, 12, 13] [0, 1] rfl hk541 hF537 hB541.1 ht541 hvm541 rfl rfl
  have hG : s.heap.size + 423 ≤ H541.size := Nat.le_trans hG hz541
  refine W.eq (g2 := F0 m 58 ls [.ref (z.2.2.1 128)]) (by rw [hr541]) ?_
  refine va_castE (nm := "java/lang/Integer") hx hb hown (hts _ q_320) (va_Orecv (hX.2.2.1.1.1 128 (by decide)) hS) dX9_shown_58 ?_
  have hM545 := k74_intValue l hl9 dC dI z H541.size
  obtain ⟨hF543, hC546⟩ := pc_M hM545 hP hD hK hS hX hT hA [] [] rfl rfl rfl
  refine va_calli (va_runV (As := []) (rest := []) ⟨hx, hb, hml, hown, hts⟩ hM545 (cwV 0 hts (gV q_323 q_324 q_325 q_297 q_322) rfl rfl rfl hV_J6_intValue_8abf5 ⟨Nat.le_of_ble_eq_true rfl, Nat.le_of_ble_eq_true rfl⟩) ⟨pc_blind, va_Orecv (hX.2.2.1.1.1 128 (by decide)) hS, fun U hU hW => ⟨rfl, hC546 U hU hW⟩⟩ rfl rfl hl.1 rfl (lv_room (Nat.le_of_ble_eq_true rfl)) dX9_shown_61 ⟨(Nat.le_of_ble_eq_true rfl), (Nat.le_of_ble_eq_true rfl)⟩) hS (fun q9 _ h9 => hF543 q9 h9) hF543 (fun r548 u547 t547 H547 L547 ht547 hvm547 hw547 hB547 hz547 hk547 hS => ?_)
  have hP := pq_keep hP hD [] rfl hk547 hB547.1 ht547
  have hG : s.heap.size + 423 ≤ H547.size := Nat.le_trans hG hz547
  refine W.eq (g2 := F0 m 64 ls [.int 0]) (by rw [hw547]) ?_
  refine lv_istore (lv' := [(6, .int 0), (4, .int 0), (5, .ref a386), (3, .int 48), (2, .int 1), (1, .int 0), (0, .ref h0)]) hx hb dX9_shown_64 hl (by decide) rfl (fun ls hl => ?_)
  refine lv_iload hx hb dX9_shown_66 (lv_at hl 1 rfl) ?_
  refine lv_if_ne (tgt := 82) hx hb dX9_shown_68 (by decide) (fun cz => absurd (by decide) cz) (fun _ => ?_)
  refine lv_aload_n hx hb dX9_shown_71 rfl (lv_at hl 6 rfl) ?_
  refine lv_iload_n hx hb dX9_shown_72 rfl (lv_at hl 4 rfl) ?_
  refine lv_iload_n hx hb dX9_shown_73 rfl (lv_at hl 3 rfl) ?_
  refine lv_iload hx hb dX9_shown_74 (lv_at hl 0 rfl) ?_
  have hM551 := k654_showsIt l hl9 dC dI z h0 h1 h2 h4 h5 h7 h8 h9 h10 h11 h12 h3 H547.size kc0 kc2
  obtain ⟨hF549, hC552⟩ := pc_M hM551 hP hD hK hS hX hT hA [0, 1, 2, 3, 4, 5, 6, 7, 8, 9, 10] [0, 1] rfl rfl rfl
  refine va_calli (va_runV (As := [.int 1, .int 48, .int 0]) (rest := []) ⟨hx, hb, hml, hown, hts⟩ hM551 (cwV 3 hts (gV q_429 q_430 q_431 q_60 q_428) rfl rfl rfl hV_X9_showsIt ⟨Nat.le_of_ble_eq_true rfl, Nat.le_of_ble_eq_true rfl⟩) ⟨pc_blind, va_recv hK hP (ci := 8) (q := (RX9, TX9, 6)) (q0 := 0) rfl rfl, fun U hU hW => ⟨rfl, hC552 U hU hW⟩⟩ rfl rfl hl.1 rfl (lv_room (Nat.le_of_ble_eq_true rfl)) dX9_shown_76 ⟨(Nat.le_of_ble_eq_true rfl), (Nat.le_of_ble_eq_true rfl)⟩) hS (fun q9 _ h9 => hF549 q9 h9) hF549 (fun r554 u553 t553 H553 L553 ht553 hvm553 hw553 hB553 hz553 hk553 hS => ?_)
  have hP := pq_keep hP hD [0, 1, 2, 3, 4, 5, 6, 7, 8, 9, 10] rfl hk553 hB553.1 ht553
  have hG : s.heap.size + 444 ≤ H553.size := va_gr (g := 423) (g1 := 21) hG (by rw [← ht553]; exact hB553.2)
  refine W.eq (g2 := F0 m 79 ls [.int 0]) (by rw [hw553]) ?_
  refine W.widen (k := 444) (n := 4800) (by decide) (by decide) ?_
  refine lv_if_eq (tgt := 86) hx hb dX9_shown_79 (by decide) (fun _ => ?_) (fun cz => absurd (by decide) cz)
  refine lv_iconst (v := 0) hx hb dX9_shown_86 (by decide) ?_
  refine lv_istore (lv' := [(4, .int 0), (6, .int 0), (5, .ref a386), (3, .int 48), (2, .int 1), (1, .int 0), (0, .ref h0)]) hx hb dX9_shown_87 hl (by decide) rfl (fun ls hl => ?_)
  refine lv_goto (tgt := 41) hx hb dX9_shown_89 (by decide) ?_
  refine lv_aload hx hb dX9_shown_41 (lv_at hl 2 rfl) ?_
  have hM557 := k650_hasNext l hl9 dC dI z a386 h3 h6 H553.size
  obtain ⟨hF555, hC558⟩ := pc_M hM557 hP hD hK hS hX hT hA [11, 12] [] rfl rfl rfl
  refine va_callFi (va_runF (As := []) (rest := []) (hK.1 1 (RJx35411, TJx35411, 4) rfl).2 ⟨hx, hb, hml, hown, hts⟩ hM557 (va_cwF 0 hts (gF q_261 q_262 q_263 q_246 q_260) rfl rfl rfl hT.2.2.2.2.2.2.1 hF_xIh ⟨Nat.le_of_ble_eq_true rfl, Nat.le_of_ble_eq_true rfl⟩) ⟨pc_blind, va_recv hK hP (ci := 1) (q := (RJx35411, TJx35411, 4)) (q0 := 11) rfl rfl, fun U hU hW => ⟨rfl, hC558 U hU hW⟩⟩ rfl rfl hl.1 rfl (lv_room (Nat.le_of_ble_eq_true rfl)) dX9_shown_43 ⟨(Nat.le_of_ble_eq_true rfl), (Nat.le_of_ble_eq_true rfl)⟩) hS (fun q9 _ h9 => hF555 q9 h9) hF555 (fun r560 u559 t559 H559 L559 ht559 hvm559 hw559 hB559 hz559 hk559 hS => ?_)
  have hP := pq_keep hP hD [11, 12] rfl hk559 hB559.1 ht559
  have hG : s.heap.size + 444 ≤ H559.size := Nat.le_trans hG hz559
  refine W.eq (g2 := F0 m 48 ls [.int 0]) (by rw [hw559]) ?_
  refine lv_if_eq (tgt := 92) hx hb dX9_shown_48 (by decide) (fun _ => ?_) (fun cz => absurd (by decide) cz)
  refine lv_iload_n hx hb dX9_shown_92 rfl (lv_at hl 5 rfl) ?_
  refine lv_iload hx hb dX9_shown_93 (lv_at hl 0 rfl) ?_
  refine lv_if_eq (tgt := 102) hx hb dX9_shown_95 (by decide) (fun _ => ?_) (fun cz => absurd (by decide) cz)
  refine lv_iconst (v := 0) hx hb dX9_shown_102 (by decide) ?_
  refine lv_iadd hx hb dX9_shown_103 ?_
  refine lv_topi (fun y561 ey561 => ?_)
  obtain rfl : y561 = 0 := ey561.trans (by decide)
  refine lv_istore_n (lv' := [(1, .int 0), (4, .int 0), (6, .int 0), (5, .ref a386), (3, .int 48), (2, .int 1), (0, .ref h0)]) hx hb dX9_shown_104 rfl hl (by decide) rfl (fun ls hl => ?_)
  refine lv_iload_n hx hb dX9_shown_105 rfl (lv_at hl 4 rfl) ?_
  refine lv_iconst (v := 1) hx hb dX9_shown_106 (by decide) ?_
  refine lv_iadd hx hb dX9_shown_107 ?_
  refine lv_topi (fun y562 ey562 => ?_)
  obtain rfl : y562 = 49 := ey562.trans (by decide)
  refine lv_i2c (v := 49) hx hb dX9_shown_108 (by decide) ?_
  refine lv_istore_n (lv' := [(3, .int 49), (1, .int 0), (4, .int 0), (6, .int 0), (5, .ref a386), (2, .int 1), (0, .ref h0)]) hx hb dX9_shown_109 rfl hl (by decide) rfl (fun ls hl => ?_)
  refine lv_goto (tgt := 23) hx hb dX9_shown_110 (by decide) ?_
  exact hend _ _ _ hS (hP.sub [0, 1, 2, 12, 3, 4, 13, 5, 6, 7, 8, 9, 10] rfl) (hD.sub [0, 1, 2, 12, 3, 4, 13, 5, 6, 7, 8, 9, 10] rfl rfl) (lv_sub hl [0, 1, 5, 6] rfl) hG

set_option maxHeartbeats 8000000 in
set_option maxRecDepth 100000 in
theorem k669_shown_g5 {p : Program} {l : Launch} {e : Env} {s : State} {m : MethodId} {args : Array Value} {below : List Frame} {meth : Method} {c : Code} {Q : State → Prop} {A : Nat → Prop} {H : Heap} {locs : List Loc} {ls : Array Slot} {dC : Nat → ClassId} {dI : Nat → Nat → Nat} {z : XZ} {h0 h1 h2 h3 h4 h5 h6 h7 h8 h9 h10 h11 h12 : Nat} {kc0 kc1 kc2 : ClassId} (hl9 : l.stackTraces = false) (hx : p.tables.exec = Jvm.exec) (hb : c.code = cX9_shown) (hml : c.maxLocals = 7) (hown : s.vm.findClass RX9 = some m.cls) (hts : ∀ w ∈ wsL_law, w.before args s = true) (hA : ∀ q : Nat, s.heap.size ≤ q → A q) (hX : XE z A s s.heap) (hT : XT s) (hS : va_S A s.heap H locs) (hP : va_P (dC, dI) xCl [(h0, ce21 h1 h2 h3 h4), (h1, ce201 h5), (h2, ce3 z.1), (h3, ce276 h6), (h4, ce226 h7), (h5, ce200 kc0 h8 h9 h10 h11 h12), (h6, ce275 kc1 (z.2.2.1 128) (z.2.2.1 128) (z.2.2.1 128) (z.2.2.1 128) (z.2.2.1 128) (z.2.2.1 128) (z.2.2.1 128)), (h7, ce200 kc2 (z.2.2.1 128) (z.2.2.1 129) (z.2.2.1 130) (z.2.2.1 131) (z.2.2.1 132)), (h8, ce49), (h9, ce49), (h10, ce49), (h11, ce49), (h12, ce49)] H) (hD : va_D A [(h0, ce21 h1 h2 h3 h4), (h1, ce201 h5), (h2, ce3 z.1), (h3, ce276 h6), (h4, ce226 h7), (h5, ce200 kc0 h8 h9 h10 h11 h12), (h6, ce275 kc1 (z.2.2.1 128) (z.2.2.1 128) (z.2.2.1 128) (z.2.2.1 128) (z.2.2.1 128) (z.2.2.1 128) (z.2.2.1 128)), (h7, ce200 kc2 (z.2.2.1 128) (z.2.2.1 129) (z.2.2.1 130) (z.2.2.1 131) (z.2.2.1 132)), (h8, ce49), (h9, ce49), (h10, ce49), (h11, ce49), (h12, ce49)]) (hK : va_K (dC, dI) xCl [(kc0, .object "java/lang/Object"), (kc1, .object "java/lang/Object"), (kc2, .object "java/lang/Object")] s) (hl : lv_has ls 7 [(3, .int 49), (1, .int 0), (2, .int 1), (0, .ref h0)]) (hG : s.heap.size + 444 ≤ H.size) (hend : ∀ (H' : Heap) (locs' : List Loc) (ls' : Array Slot), va_S A s.heap H' locs' → va_P (dC, dI) xCl [(h0, ce21 h1 h2 h3 h4), (h1, ce201 h5), (h2, ce3 z.1), (h3, ce276 h6), (h4, ce226 h7), (h5, ce200 kc0 h8 h9 h10 h11 h12), (h6, ce275 kc1 (z.2.2.1 128) (z.2.2.1 128) (z.2.2.1 128) (z.2.2.1 128) (z.2.2.1 128) (z.2.2.1 128) (z.2.2.1 128)), (h7, ce200 kc2 (z.2.2.1 128) (z.2.2.1 129) (z.2.2.1 130) (z.2.2.1 131) (z.2.2.1 132)), (h8, ce49), (h9, ce49), (h10, ce49), (h11, ce49), (h12, ce49)] H' → va_D A [(h0, ce21 h1 h2 h3 h4), (h1, ce201 h5), (h2, ce3 z.1), (h3, ce276 h6), (h4, ce226 h7), (h5, ce200 kc0 h8 h9 h10 h11 h12), (h6, ce275 kc1 (z.2.2.1 128) (z.2.2.1 128) (z.2.2.1 128) (z.2.2.1 128) (z.2.2.1 128) (z.2.2.1 128) (z.2.2.1 128)), (h7, ce200 kc2 (z.2.2.1 128) (z.2.2.1 129) (z.2.2.1 130) (z.2.2.1 131) (z.2.2.1 132)), (h8, ce49), (h9, ce49), (h10, ce49), (h11, ce49), (h12, ce49)] → lv_has ls' 7 [(3, .int 50), (1, .int 0), (2, .int 1), (0, .ref h0)] → s.heap.size + 592 ≤ H'.size → W p l e ({ frames := 5, cells := 1480, slots := 16000, locals := 121 } : Room) s m args below meth c H' locs' 592 6400 Q (F0 m 23 ls' [])) : W p l e ({ frames := 5, cells := 1480, slots := 16000, locals := 121 } : Room) s m args below meth c H locs 444 4800 Q (F0 m 23 ls []) := by
  refine lv_iload_n hx hb dX9_shown_23 rfl (lv_at hl 0 rfl) ?_
  refine lv_bipush (v := 49) hx hb dX9_shown_24 (by decide) ?_
  refine lv_icmp_gt (tgt := 113) hx hb dX9_shown_26 (by decide) (fun cz => absurd cz (by decide)) (fun _ => ?_)
  refine lv_iconst (v := 0) hx hb dX9_shown_29 (by decide) ?_
  refine lv_istore (lv' := [(4, .int 0), (3, .int 49), (1, .int 0), (2, .int 1), (0, .ref h0)]) hx hb dX9_shown_30 hl (by decide) rfl (fun ls hl => ?_)
  refine lv_aload_n hx hb dX9_shown_32 rfl (lv_at hl 4 rfl) ?_
  refine va_get (D := (dC, dI)) (ci := 8) (v := .ref h3) (C := RX9) (T := TX9) (N := 6) hx hb hts in_X9 hown hK hP 0 rfl rfl 3 (by decide) (hts _ q_66) (fun _ h9 => h9) rfl dX9_shown_33 ?_
  have hM565 := k619_iterator l hl9 dC dI z h3 h6 H.size
  obtain ⟨hF563, hC566⟩ := pc_M hM565 hP hD hK hS hX hT hA [3] [] rfl rfl rfl
  refine va_callr (va_runV (As := []) (rest := []) ⟨hx, hb, hml, hown, hts⟩ hM565 (cwV 0 hts (gV q_256 q_257 q_258 q_12 q_255) rfl rfl rfl hV_Jx4a65c_iterator_32c93 ⟨Nat.le_of_ble_eq_true rfl, Nat.le_of_ble_eq_true rfl⟩) ⟨pc_blind, va_recv hK hP (ci := 0) (q := (RJx4a65c, TJx4a65c, 3)) (q0 := 3) rfl rfl, fun U hU hW => ⟨rfl, hC566 U hU hW⟩⟩ rfl rfl hl.1 rfl (lv_room (Nat.le_of_ble_eq_true rfl)) dX9_shown_36 ⟨(Nat.le_of_ble_eq_true rfl), (Nat.le_of_ble_eq_true rfl)⟩) hS (fun q9 _ h9 => hF563 q9 h9) hF563 (fun u567 r568 t567 H567 L567 ht567 hvm567 hw567 hB567 hz567 hk567 hS => ?_)
  obtain ⟨a569, hr567, hB567⟩ := hB567
  obtain ⟨hP, hD, hK⟩ := pq_jn (wz := [(h0, ce21 h1 h2 h3 h4), (h1, ce201 h5), (h2, ce3 z.1), (h4, ce226 h7), (h5, ce200 kc0 h8 h9 h10 h11 h12), (h6, ce275 kc1 (z.2.2.1 128) (z.2.2.1 128) (z.2.2.1 128) (z.2.2.1 128) (z.2.2.1 128) (z.2.2.1 128) (z.2.2.1 128)), (h7, ce200 kc2 (z.2.2.1 128) (z.2.2.1 129) (z.2.2.1 130) (z.2.2.1 131) (z.2.2.1 132)), (h8, ce49), (h9, ce49), (h10, ce49), (h11, ce49), (h12, ce49), (h3, ce276 h6), (a569, ce292 h3)]) (tz := [(kc0, .object "java/lang/Object"), (kc1, .object "java/lang/Object"), (kc2, .object "java/lang/Object")]) hP hD hK [3] [0, 1, 2] rfl hk567 hF563 hB567.1 ht567 hvm567 rfl rfl
  have hG : s.heap.size + 445 ≤ H567.size := va_gr (g := 444) (g1 := 1) hG (by rw [← ht567]; exact hB567.2)
  refine W.eq (g2 := F0 m 39 ls [.ref a569]) (by rw [hr567]) ?_
  refine W.widen (k := 445) (n := 4804) (by decide) (by decide) ?_
  refine lv_astore (lv' := [(5, .ref a569), (4, .int 0), (3, .int 49), (1, .int 0), (2, .int 1), (0, .ref h0)]) hx hb dX9_shown_39 hl (by decide) rfl (fun ls hl => ?_)
  refine lv_aload hx hb dX9_shown_41 (lv_at hl 0 rfl) ?_
  have hM572 := k620_hasNext l hl9 dC dI z a569 h3 h6 H567.size
  obtain ⟨hF570, hC573⟩ := pc_M hM572 hP hD hK hS hX hT hA [13, 12] [] rfl rfl rfl
  refine va_callFi (va_runF (As := []) (rest := []) (hK.1 1 (RJx35411, TJx35411, 4) rfl).2 ⟨hx, hb, hml, hown, hts⟩ hM572 (va_cwF 0 hts (gF q_261 q_262 q_263 q_246 q_260) rfl rfl rfl hT.2.2.2.2.2.2.1 hF_xIh ⟨Nat.le_of_ble_eq_true rfl, Nat.le_of_ble_eq_true rfl⟩) ⟨pc_blind, va_recv hK hP (ci := 1) (q := (RJx35411, TJx35411, 4)) (q0 := 13) rfl rfl, fun U hU hW => ⟨rfl, hC573 U hU hW⟩⟩ rfl rfl hl.1 rfl (lv_room (Nat.le_of_ble_eq_true rfl)) dX9_shown_43 ⟨(Nat.le_of_ble_eq_true rfl), (Nat.le_of_ble_eq_true rfl)⟩) hS (fun q9 _ h9 => hF570 q9 h9) hF570 (fun r575 u574 t574 H574 L574 ht574 hvm574 hw574 hB574 hz574 hk574 hS => ?_)
  have hP := pq_keep hP hD [13, 12] rfl hk574 hB574.1 ht574
  have hG : s.heap.size + 445 ≤ H574.size := Nat.le_trans hG hz574
  refine W.eq (g2 := F0 m 48 ls [.int 1]) (by rw [hw574]) ?_
  refine lv_if_eq (tgt := 92) hx hb dX9_shown_48 (by decide) (fun cz => absurd cz (by decide)) (fun _ => ?_)
  refine lv_aload hx hb dX9_shown_51 (lv_at hl 0 rfl) ?_
  have hM578 := k622_next l hl9 dC dI z a569 h3 h6 H574.size kc1
  obtain ⟨hF576, hC579⟩ := pc_M hM578 hP hD hK hS hX hT hA [13, 12, 5] [1] rfl rfl rfl
  refine va_callFr (va_runF (As := []) (rest := []) (hK.1 1 (RJx35411, TJx35411, 4) rfl).2 ⟨hx, hb, hml, hown, hts⟩ hM578 (va_cwF 0 hts (gF q_308 q_309 q_310 q_246 q_307) rfl rfl rfl hT.2.2.2.2.2.2.2.1 hF_xIn ⟨Nat.le_of_ble_eq_true rfl, Nat.le_of_ble_eq_true rfl⟩) ⟨pc_blind, va_recv hK hP (ci := 1) (q := (RJx35411, TJx35411, 4)) (q0 := 13) rfl rfl, fun U hU hW => ⟨rfl, hC579 U hU hW⟩⟩ rfl rfl hl.1 rfl (lv_room (Nat.le_of_ble_eq_true rfl)) dX9_shown_53 ⟨(Nat.le_of_ble_eq_true rfl), (Nat.le_of_ble_eq_true rfl)⟩) hS (fun q9 _ h9 => hF576 q9 h9) hF576 (fun u580 r581 t580 H580 L580 ht580 hvm580 hw580 hB580 hz580 hk580 hS => ?_)
  obtain ⟨hr580, hB580⟩ := hB580
  obtain ⟨hP, hD, hK⟩ := pq_jn (wz := [(h0, ce21 h1 h2 h3 h4), (h1, ce201 h5), (h2, ce3 z.1), (h4, ce226 h7), (h5, ce200 kc0 h8 h9 h10 h11 h12), (h7, ce200 kc2 (z.2.2.1 128) (z.2.2.1 129) (z.2.2.1 130) (z.2.2.1 131) (z.2.2.1 132)), (h8, ce49), (h9, ce49), (h10, ce49), (h11, ce49), (h12, ce49), (a569, ce294 h3), (h3, ce276 h6), (h6, ce275 kc1 (z.2.2.1 128) (z.2.2.1 128) (z.2.2.1 128) (z.2.2.1 128) (z.2.2.1 128) (z.2.2.1 128) (z.2.2.1 128))]) (tz := [(kc0, .object "java/lang/Object"), (kc2, .object "java/lang/Object"), (kc1, .object "java/lang/Object")]) hP hD hK [13, 12, 5] [0, 2] rfl hk580 hF576 hB580.1 ht580 hvm580 rfl rfl
  have hG : s.heap.size + 445 ≤ H580.size := Nat.le_trans hG hz580
  refine W.eq (g2 := F0 m 58 ls [.ref (z.2.2.1 128)]) (by rw [hr580]) ?_
  refine va_castE (nm := "java/lang/Integer") hx hb hown (hts _ q_320) (va_Orecv (hX.2.2.1.1.1 128 (by decide)) hS) dX9_shown_58 ?_
  have hM584 := k74_intValue l hl9 dC dI z H580.size
  obtain ⟨hF582, hC585⟩ := pc_M hM584 hP hD hK hS hX hT hA [] [] rfl rfl rfl
  refine va_calli (va_runV (As := []) (rest := []) ⟨hx, hb, hml, hown, hts⟩ hM584 (cwV 0 hts (gV q_323 q_324 q_325 q_297 q_322) rfl rfl rfl hV_J6_intValue_8abf5 ⟨Nat.le_of_ble_eq_true rfl, Nat.le_of_ble_eq_true rfl⟩) ⟨pc_blind, va_Orecv (hX.2.2.1.1.1 128 (by decide)) hS, fun U hU hW => ⟨rfl, hC585 U hU hW⟩⟩ rfl rfl hl.1 rfl (lv_room (Nat.le_of_ble_eq_true rfl)) dX9_shown_61 ⟨(Nat.le_of_ble_eq_true rfl), (Nat.le_of_ble_eq_true rfl)⟩) hS (fun q9 _ h9 => hF582 q9 h9) hF582 (fun r587 u586 t586 H586 L586 ht586 hvm586 hw586 hB586 hz586 hk586 hS => ?_)
  have hP := pq_keep hP hD [] rfl hk586 hB586.1 ht586
  have hG : s.heap.size + 445 ≤ H586.size := Nat.le_trans hG hz586
  refine W.eq (g2 := F0 m 64 ls [.int 0]) (by rw [hw586]) ?_
  refine lv_istore (lv' := [(6, .int 0), (5, .ref a569), (4, .int 0), (3, .int 49), (1, .int 0), (2, .int 1), (0, .ref h0)]) hx hb dX9_shown_64 hl (by decide) rfl (fun ls hl => ?_)
  refine lv_iload hx hb dX9_shown_66 (lv_at hl 2 rfl) ?_
  refine lv_if_ne (tgt := 82) hx hb dX9_shown_68 (by decide) (fun cz => absurd (by decide) cz) (fun _ => ?_)
  refine lv_aload_n hx hb dX9_shown_71 rfl (lv_at hl 6 rfl) ?_
  refine lv_iload_n hx hb dX9_shown_72 rfl (lv_at hl 5 rfl) ?_
  refine lv_iload_n hx hb dX9_shown_73 rfl (lv_at hl 3 rfl) ?_
  refine lv_iload hx hb dX9_shown_74 (lv_at hl 0 rfl) ?_
  have hM590 := k656_showsIt l hl9 dC dI z h0 h1 h2 h4 h5 h7 h8 h9 h10 h11 h12 h3 H586.size kc0 kc2
  obtain ⟨hF588, hC591⟩ := pc_M hM590 hP hD hK hS hX hT hA [0, 1, 2, 3, 4, 5, 6, 7, 8, 9, 10] [0, 1] rfl rfl rfl
  refine va_calli (va_runV (As := [.int 1, .int 49, .int 0]) (rest := []) ⟨hx, hb, hml, hown, hts⟩ hM590 (cwV 3 hts (gV q_429 q_430 q_431 q_60 q_428) rfl rfl rfl hV_X9_showsIt ⟨Nat.le_of_ble_eq_true rfl, Nat.le_of_ble_eq_true rfl⟩) ⟨pc_blind, va_recv hK hP (ci := 8) (q := (RX9, TX9, 6)) (q0 := 0) rfl rfl, fun U hU hW => ⟨rfl, hC591 U hU hW⟩⟩ rfl rfl hl.1 rfl (lv_room (Nat.le_of_ble_eq_true rfl)) dX9_shown_76 ⟨(Nat.le_of_ble_eq_true rfl), (Nat.le_of_ble_eq_true rfl)⟩) hS (fun q9 _ h9 => hF588 q9 h9) hF588 (fun r593 u592 t592 H592 L592 ht592 hvm592 hw592 hB592 hz592 hk592 hS => ?_)
  have hP := pq_keep hP hD [0, 1, 2, 3, 4, 5, 6, 7, 8, 9, 10] rfl hk592 hB592.1 ht592
  have hG : s.heap.size + 466 ≤ H592.size := va_gr (g := 445) (g1 := 21) hG (by rw [← ht592]; exact hB592.2)
  refine W.eq (g2 := F0 m 79 ls [.int 0]) (by rw [hw592]) ?_
  refine W.widen (k := 466) (n := 5032) (by decide) (by decide) ?_
  refine lv_if_eq (tgt := 86) hx hb dX9_shown_79 (by decide) (fun _ => ?_) (fun cz => absurd (by decide) cz)
  refine lv_iconst (v := 0) hx hb dX9_shown_86 (by decide) ?_
  refine lv_istore (lv' := [(4, .int 0), (6, .int 0), (5, .ref a569), (3, .int 49), (1, .int 0), (2, .int 1), (0, .ref h0)]) hx hb dX9_shown_87 hl (by decide) rfl (fun ls hl => ?_)
  refine lv_goto (tgt := 41) hx hb dX9_shown_89 (by decide) ?_
  refine lv_aload hx hb dX9_shown_41 (lv_at hl 2 rfl) ?_
  have hM596 := k632_hasNext l hl9 dC dI z a569 h3 h6 H592.size
  obtain ⟨hF594, hC597⟩ := pc_M hM596 hP hD hK hS hX hT hA [11, 12] [] rfl rfl rfl
  refine va_callFi (va_runF (As := []) (rest := []) (hK.1 1 (RJx35411, TJx35411, 4) rfl).2 ⟨hx, hb, hml, hown, hts⟩ hM596 (va_cwF 0 hts (gF q_261 q_262 q_263 q_246 q_260) rfl rfl rfl hT.2.2.2.2.2.2.1 hF_xIh ⟨Nat.le_of_ble_eq_true rfl, Nat.le_of_ble_eq_true rfl⟩) ⟨pc_blind, va_recv hK hP (ci := 1) (q := (RJx35411, TJx35411, 4)) (q0 := 11) rfl rfl, fun U hU hW => ⟨rfl, hC597 U hU hW⟩⟩ rfl rfl hl.1 rfl (lv_room (Nat.le_of_ble_eq_true rfl)) dX9_shown_43 ⟨(Nat.le_of_ble_eq_true rfl), (Nat.le_of_ble_eq_true rfl)⟩) hS (fun q9 _ h9 => hF594 q9 h9) hF594 (fun r599 u598 t598 H598 L598 ht598 hvm598 hw598 hB598 hz598 hk598 hS => ?_)
  have hP := pq_keep hP hD [11, 12] rfl hk598 hB598.1 ht598
  have hG : s.heap.size + 466 ≤ H598.size := Nat.le_trans hG hz598
  refine W.eq (g2 := F0 m 48 ls [.int 1]) (by rw [hw598]) ?_
  refine lv_if_eq (tgt := 92) hx hb dX9_shown_48 (by decide) (fun cz => absurd cz (by decide)) (fun _ => ?_)
  refine lv_aload hx hb dX9_shown_51 (lv_at hl 2 rfl) ?_
  have hM602 := k634_next l hl9 dC dI z a569 h3 h6 H598.size kc1
  obtain ⟨hF600, hC603⟩ := pc_M hM602 hP hD hK hS hX hT hA [11, 12, 13] [2] rfl rfl rfl
  refine va_callFr (va_runF (As := []) (rest := []) (hK.1 1 (RJx35411, TJx35411, 4) rfl).2 ⟨hx, hb, hml, hown, hts⟩ hM602 (va_cwF 0 hts (gF q_308 q_309 q_310 q_246 q_307) rfl rfl rfl hT.2.2.2.2.2.2.2.1 hF_xIn ⟨Nat.le_of_ble_eq_true rfl, Nat.le_of_ble_eq_true rfl⟩) ⟨pc_blind, va_recv hK hP (ci := 1) (q := (RJx35411, TJx35411, 4)) (q0 := 11) rfl rfl, fun U hU hW => ⟨rfl, hC603 U hU hW⟩⟩ rfl rfl hl.1 rfl (lv_room (Nat.le_of_ble_eq_true rfl)) dX9_shown_53 ⟨(Nat.le_of_ble_eq_true rfl), (Nat.le_of_ble_eq_true rfl)⟩) hS (fun q9 _ h9 => hF600 q9 h9) hF600 (fun u604 r605 t604 H604 L604 ht604 hvm604 hw604 hB604 hz604 hk604 hS => ?_)
  obtain ⟨hr604, hB604⟩ := hB604
  obtain ⟨hP, hD, hK⟩ := pq_jn (wz := [(h0, ce21 h1 h2 h3 h4), (h1, ce201 h5), (h2, ce3 z.1), (h4, ce226 h7), (h5, ce200 kc0 h8 h9 h10 h11 h12), (h7, ce200 kc2 (z.2.2.1 128) (z.2.2.1 129) (z.2.2.1 130) (z.2.2.1 131) (z.2.2.1 132)), (h8, ce49), (h9, ce49), (h10, ce49), (h11, ce49), (h12, ce49), (a569, ce310 h3), (h3, ce276 h6), (h6, ce275 kc1 (z.2.2.1 128) (z.2.2.1 128) (z.2.2.1 128) (z.2.2.1 128) (z.2.2.1 128) (z.2.2.1 128) (z.2.2.1 128))]) (tz := [(kc0, .object "java/lang/Object"), (kc2, .object "java/lang/Object"), (kc1, .object "java/lang/Object")]) hP hD hK [11, 12, 13] [0, 1] rfl hk604 hF600 hB604.1 ht604 hvm604 rfl rfl
  have hG : s.heap.size + 466 ≤ H604.size := Nat.le_trans hG hz604
  refine W.eq (g2 := F0 m 58 ls [.ref (z.2.2.1 128)]) (by rw [hr604]) ?_
  refine va_castE (nm := "java/lang/Integer") hx hb hown (hts _ q_320) (va_Orecv (hX.2.2.1.1.1 128 (by decide)) hS) dX9_shown_58 ?_
  have hM608 := k74_intValue l hl9 dC dI z H604.size
  obtain ⟨hF606, hC609⟩ := pc_M hM608 hP hD hK hS hX hT hA [] [] rfl rfl rfl
  refine va_calli (va_runV (As := []) (rest := []) ⟨hx, hb, hml, hown, hts⟩ hM608 (cwV 0 hts (gV q_323 q_324 q_325 q_297 q_322) rfl rfl rfl hV_J6_intValue_8abf5 ⟨Nat.le_of_ble_eq_true rfl, Nat.le_of_ble_eq_true rfl⟩) ⟨pc_blind, va_Orecv (hX.2.2.1.1.1 128 (by decide)) hS, fun U hU hW => ⟨rfl, hC609 U hU hW⟩⟩ rfl rfl hl.1 rfl (lv_room (Nat.le_of_ble_eq_true rfl)) dX9_shown_61 ⟨(Nat.le_of_ble_eq_true rfl), (Nat.le_of_ble_eq_true rfl)⟩) hS (fun q9 _ h9 => hF606 q9 h9) hF606 (fun r611 u610 t610 H610 L610 ht610 hvm610 hw610 hB610 hz610 hk610 hS => ?_)
  have hP := pq_keep hP hD [] rfl hk610 hB610.1 ht610
  have hG : s.heap.size + 466 ≤ H610.size := Nat.le_trans hG hz610
  refine W.eq (g2 := F0 m 64 ls [.int 0]) (by rw [hw610]) ?_
  refine lv_istore (lv' := [(6, .int 0), (4, .int 0), (5, .ref a569), (3, .int 49), (1, .int 0), (2, .int 1), (0, .ref h0)]) hx hb dX9_shown_64 hl (by decide) rfl (fun ls hl => ?_)
  refine lv_iload hx hb dX9_shown_66 (lv_at hl 1 rfl) ?_
  refine lv_if_ne (tgt := 82) hx hb dX9_shown_68 (by decide) (fun cz => absurd (by decide) cz) (fun _ => ?_)
  refine lv_aload_n hx hb dX9_shown_71 rfl (lv_at hl 6 rfl) ?_
  refine lv_iload_n hx hb dX9_shown_72 rfl (lv_at hl 5 rfl) ?_
  refine lv_iload_n hx hb dX9_shown_73 rfl (lv_at hl 3 rfl) ?_
  refine lv_iload hx hb dX9_shown_74 (lv_at hl 0 rfl) ?_
  have hM614 := k656_showsIt l hl9 dC dI z h0 h1 h2 h4 h5 h7 h8 h9 h10 h11 h12 h3 H610.size kc0 kc2
  obtain ⟨hF612, hC615⟩ := pc_M hM614 hP hD hK hS hX hT hA [0, 1, 2, 3, 4, 5, 6, 7, 8, 9, 10] [0, 1] rfl rfl rfl
  refine va_calli (va_runV (As := [.int 1, .int 49, .int 0]) (rest := []) ⟨hx, hb, hml, hown, hts⟩ hM614 (cwV 3 hts (gV q_429 q_430 q_431 q_60 q_428) rfl rfl rfl hV_X9_showsIt ⟨Nat.le_of_ble_eq_true rfl, Nat.le_of_ble_eq_true rfl⟩) ⟨pc_blind, va_recv hK hP (ci := 8) (q := (RX9, TX9, 6)) (q0 := 0) rfl rfl, fun U hU hW => ⟨rfl, hC615 U hU hW⟩⟩ rfl rfl hl.1 rfl (lv_room (Nat.le_of_ble_eq_true rfl)) dX9_shown_76 ⟨(Nat.le_of_ble_eq_true rfl), (Nat.le_of_ble_eq_true rfl)⟩) hS (fun q9 _ h9 => hF612 q9 h9) hF612 (fun r617 u616 t616 H616 L616 ht616 hvm616 hw616 hB616 hz616 hk616 hS => ?_)
  have hP := pq_keep hP hD [0, 1, 2, 3, 4, 5, 6, 7, 8, 9, 10] rfl hk616 hB616.1 ht616
  have hG : s.heap.size + 487 ≤ H616.size := va_gr (g := 466) (g1 := 21) hG (by rw [← ht616]; exact hB616.2)
  refine W.eq (g2 := F0 m 79 ls [.int 0]) (by rw [hw616]) ?_
  refine W.widen (k := 487) (n := 5260) (by decide) (by decide) ?_
  refine lv_if_eq (tgt := 86) hx hb dX9_shown_79 (by decide) (fun _ => ?_) (fun cz => absurd (by decide) cz)
  refine lv_iconst (v := 0) hx hb dX9_shown_86 (by decide) ?_
  refine lv_istore (lv' := [(4, .int 0), (6, .int 0), (5, .ref a569), (3, .int 49), (1, .int 0), (2, .int 1), (0, .ref h0)]) hx hb dX9_shown_87 hl (by decide) rfl (fun ls hl => ?_)
  refine lv_goto (tgt := 41) hx hb dX9_shown_89 (by decide) ?_
  refine lv_aload hx hb dX9_shown_41 (lv_at hl 2 rfl) ?_
  have hM620 := k635_hasNext l hl9 dC dI z a569 h3 h6 H616.size
  obtain ⟨hF618, hC621⟩ := pc_M hM620 hP hD hK hS hX hT hA [11, 12] [] rfl rfl rfl
  refine va_callFi (va_runF (As := []) (rest := []) (hK.1 1 (RJx35411, TJx35411, 4) rfl).2 ⟨hx, hb, hml, hown, hts⟩ hM620 (va_cwF 0 hts (gF q_261 q_262 q_263 q_246 q_260) rfl rfl rfl hT.2.2.2.2.2.2.1 hF_xIh ⟨Nat.le_of_ble_eq_true rfl, Nat.le_of_ble_eq_true rfl⟩) ⟨pc_blind, va_recv hK hP (ci := 1) (q := (RJx35411, TJx35411, 4)) (q0 := 11) rfl rfl, fun U hU hW => ⟨rfl, hC621 U hU hW⟩⟩ rfl rfl hl.1 rfl (lv_room (Nat.le_of_ble_eq_true rfl)) dX9_shown_43 ⟨(Nat.le_of_ble_eq_true rfl), (Nat.le_of_ble_eq_true rfl)⟩) hS (fun q9 _ h9 => hF618 q9 h9) hF618 (fun r623 u622 t622 H622 L622 ht622 hvm622 hw622 hB622 hz622 hk622 hS => ?_)
  have hP := pq_keep hP hD [11, 12] rfl hk622 hB622.1 ht622
  have hG : s.heap.size + 487 ≤ H622.size := Nat.le_trans hG hz622
  refine W.eq (g2 := F0 m 48 ls [.int 1]) (by rw [hw622]) ?_
  refine lv_if_eq (tgt := 92) hx hb dX9_shown_48 (by decide) (fun cz => absurd cz (by decide)) (fun _ => ?_)
  refine lv_aload hx hb dX9_shown_51 (lv_at hl 2 rfl) ?_
  have hM626 := k637_next l hl9 dC dI z a569 h3 h6 H622.size kc1
  obtain ⟨hF624, hC627⟩ := pc_M hM626 hP hD hK hS hX hT hA [11, 12, 13] [2] rfl rfl rfl
  refine va_callFr (va_runF (As := []) (rest := []) (hK.1 1 (RJx35411, TJx35411, 4) rfl).2 ⟨hx, hb, hml, hown, hts⟩ hM626 (va_cwF 0 hts (gF q_308 q_309 q_310 q_246 q_307) rfl rfl rfl hT.2.2.2.2.2.2.2.1 hF_xIn ⟨Nat.le_of_ble_eq_true rfl, Nat.le_of_ble_eq_true rfl⟩) ⟨pc_blind, va_recv hK hP (ci := 1) (q := (RJx35411, TJx35411, 4)) (q0 := 11) rfl rfl, fun U hU hW => ⟨rfl, hC627 U hU hW⟩⟩ rfl rfl hl.1 rfl (lv_room (Nat.le_of_ble_eq_true rfl)) dX9_shown_53 ⟨(Nat.le_of_ble_eq_true rfl), (Nat.le_of_ble_eq_true rfl)⟩) hS (fun q9 _ h9 => hF624 q9 h9) hF624 (fun u628 r629 t628 H628 L628 ht628 hvm628 hw628 hB628 hz628 hk628 hS => ?_)
  obtain ⟨hr628, hB628⟩ := hB628
  obtain ⟨hP, hD, hK⟩ := pq_jn (wz := [(h0, ce21 h1 h2 h3 h4), (h1, ce201 h5), (h2, ce3 z.1), (h4, ce226 h7), (h5, ce200 kc0 h8 h9 h10 h11 h12), (h7, ce200 kc2 (z.2.2.1 128) (z.2.2.1 129) (z.2.2.1 130) (z.2.2.1 131) (z.2.2.1 132)), (h8, ce49), (h9, ce49), (h10, ce49), (h11, ce49), (h12, ce49), (a569, ce312 h3), (h3, ce276 h6), (h6, ce275 kc1 (z.2.2.1 128) (z.2.2.1 128) (z.2.2.1 128) (z.2.2.1 128) (z.2.2.1 128) (z.2.2.1 128) (z.2.2.1 128))]) (tz := [(kc0, .object "java/lang/Object"), (kc2, .object "java/lang/Object"), (kc1, .object "java/lang/Object")]) hP hD hK [11, 12, 13] [0, 1] rfl hk628 hF624 hB628.1 ht628 hvm628 rfl rfl
  have hG : s.heap.size + 487 ≤ H628.size := Nat.le_trans hG hz628
  refine W.eq (g2 := F0 m 58 ls [.ref (z.2.2.1 128)]) (by rw [hr628]) ?_
  refine va_castE (nm := "java/lang/Integer") hx hb hown (hts _ q_320) (va_Orecv (hX.2.2.1.1.1 128 (by decide)) hS) dX9_shown_58 ?_
  have hM632 := k74_intValue l hl9 dC dI z H628.size
  obtain ⟨hF630, hC633⟩ := pc_M hM632 hP hD hK hS hX hT hA [] [] rfl rfl rfl
  refine va_calli (va_runV (As := []) (rest := []) ⟨hx, hb, hml, hown, hts⟩ hM632 (cwV 0 hts (gV q_323 q_324 q_325 q_297 q_322) rfl rfl rfl hV_J6_intValue_8abf5 ⟨Nat.le_of_ble_eq_true rfl, Nat.le_of_ble_eq_true rfl⟩) ⟨pc_blind, va_Orecv (hX.2.2.1.1.1 128 (by decide)) hS, fun U hU hW => ⟨rfl, hC633 U hU hW⟩⟩ rfl rfl hl.1 rfl (lv_room (Nat.le_of_ble_eq_true rfl)) dX9_shown_61 ⟨(Nat.le_of_ble_eq_true rfl), (Nat.le_of_ble_eq_true rfl)⟩) hS (fun q9 _ h9 => hF630 q9 h9) hF630 (fun r635 u634 t634 H634 L634 ht634 hvm634 hw634 hB634 hz634 hk634 hS => ?_)
  have hP := pq_keep hP hD [] rfl hk634 hB634.1 ht634
  have hG : s.heap.size + 487 ≤ H634.size := Nat.le_trans hG hz634
  refine W.eq (g2 := F0 m 64 ls [.int 0]) (by rw [hw634]) ?_
  refine lv_istore (lv' := [(6, .int 0), (4, .int 0), (5, .ref a569), (3, .int 49), (1, .int 0), (2, .int 1), (0, .ref h0)]) hx hb dX9_shown_64 hl (by decide) rfl (fun ls hl => ?_)
  refine lv_iload hx hb dX9_shown_66 (lv_at hl 1 rfl) ?_
  refine lv_if_ne (tgt := 82) hx hb dX9_shown_68 (by decide) (fun cz => absurd (by decide) cz) (fun _ => ?_)
  refine lv_aload_n hx hb dX9_shown_71 rfl (lv_at hl 6 rfl) ?_
  refine lv_iload_n hx hb dX9_shown_72 rfl (lv_at hl 5 rfl) ?_
  refine lv_iload_n hx hb dX9_shown_73 rfl (lv_at hl 3 rfl) ?_
  refine lv_iload hx hb dX9_shown_74 (lv_at hl 0 rfl) ?_
  have hM638 := k656_showsIt l hl9 dC dI z h0 h1 h2 h4 h5 h7 h8 h9 h10 h11 h12 h3 H634.size kc0 kc2
  obtain ⟨hF636, hC639⟩ := pc_M hM638 hP hD hK hS hX hT hA [0, 1, 2, 3, 4, 5, 6, 7, 8, 9, 10] [0, 1] rfl rfl rfl
  refine va_calli (va_runV (As := [.int 1, .int 49, .int 0]) (rest := []) ⟨hx, hb, hml, hown, hts⟩ hM638 (cwV 3 hts (gV q_429 q_430 q_431 q_60 q_428) rfl rfl rfl hV_X9_showsIt ⟨Nat.le_of_ble_eq_true rfl, Nat.le_of_ble_eq_true rfl⟩) ⟨pc_blind, va_recv hK hP (ci := 8) (q := (RX9, TX9, 6)) (q0 := 0) rfl rfl, fun U hU hW => ⟨rfl, hC639 U hU hW⟩⟩ rfl rfl hl.1 rfl (lv_room (Nat.le_of_ble_eq_true rfl)) dX9_shown_76 ⟨(Nat.le_of_ble_eq_true rfl), (Nat.le_of_ble_eq_true rfl)⟩) hS (fun q9 _ h9 => hF636 q9 h9) hF636 (fun r641 u640 t640 H640 L640 ht640 hvm640 hw640 hB640 hz640 hk640 hS => ?_)
  have hP := pq_keep hP hD [0, 1, 2, 3, 4, 5, 6, 7, 8, 9, 10] rfl hk640 hB640.1 ht640
  have hG : s.heap.size + 508 ≤ H640.size := va_gr (g := 487) (g1 := 21) hG (by rw [← ht640]; exact hB640.2)
  refine W.eq (g2 := F0 m 79 ls [.int 0]) (by rw [hw640]) ?_
  refine W.widen (k := 508) (n := 5488) (by decide) (by decide) ?_
  refine lv_if_eq (tgt := 86) hx hb dX9_shown_79 (by decide) (fun _ => ?_) (fun cz => absurd (by decide) cz)
  refine lv_iconst (v := 0) hx hb dX9_shown_86 (by decide) ?_
  refine lv_istore (lv' := [(4, .int 0), (6, .int 0), (5, .ref a569), (3, .int 49), (1, .int 0), (2, .int 1), (0, .ref h0)]) hx hb dX9_shown_87 hl (by decide) rfl (fun ls hl => ?_)
  refine lv_goto (tgt := 41) hx hb dX9_shown_89 (by decide) ?_
  refine lv_aload hx hb dX9_shown_41 (lv_at hl 2 rfl) ?_
  have hM644 := k638_hasNext l hl9 dC dI z a569 h3 h6 H640.size
  obtain ⟨hF642, hC645⟩ := pc_M hM644 hP hD hK hS hX hT hA [11, 12] [] rfl rfl rfl
  refine va_callFi (va_runF (As := []) (rest := []) (hK.1 1 (RJx35411, TJx35411, 4) rfl).2 ⟨hx, hb, hml, hown, hts⟩ hM644 (va_cwF 0 hts (gF q_261 q_262 q_263 q_246 q_260) rfl rfl rfl hT.2.2.2.2.2.2.1 hF_xIh ⟨Nat.le_of_ble_eq_true rfl, Nat.le_of_ble_eq_true rfl⟩) ⟨pc_blind, va_recv hK hP (ci := 1) (q := (RJx35411, TJx35411, 4)) (q0 := 11) rfl rfl, fun U hU hW => ⟨rfl, hC645 U hU hW⟩⟩ rfl rfl hl.1 rfl (lv_room (Nat.le_of_ble_eq_true rfl)) dX9_shown_43 ⟨(Nat.le_of_ble_eq_true rfl), (Nat.le_of_ble_eq_true rfl)⟩) hS (fun q9 _ h9 => hF642 q9 h9) hF642 (fun r647 u646 t646 H646 L646 ht646 hvm646 hw646 hB646 hz646 hk646 hS => ?_)
  have hP := pq_keep hP hD [11, 12] rfl hk646 hB646.1 ht646
  have hG : s.heap.size + 508 ≤ H646.size := Nat.le_trans hG hz646
  refine W.eq (g2 := F0 m 48 ls [.int 1]) (by rw [hw646]) ?_
  refine lv_if_eq (tgt := 92) hx hb dX9_shown_48 (by decide) (fun cz => absurd cz (by decide)) (fun _ => ?_)
  refine lv_aload hx hb dX9_shown_51 (lv_at hl 2 rfl) ?_
  have hM650 := k640_next l hl9 dC dI z a569 h3 h6 H646.size kc1
  obtain ⟨hF648, hC651⟩ := pc_M hM650 hP hD hK hS hX hT hA [11, 12, 13] [2] rfl rfl rfl
  refine va_callFr (va_runF (As := []) (rest := []) (hK.1 1 (RJx35411, TJx35411, 4) rfl).2 ⟨hx, hb, hml, hown, hts⟩ hM650 (va_cwF 0 hts (gF q_308 q_309 q_310 q_246 q_307) rfl rfl rfl hT.2.2.2.2.2.2.2.1 hF_xIn ⟨Nat.le_of_ble_eq_true rfl, Nat.le_of_ble_eq_true rfl⟩) ⟨pc_blind, va_recv hK hP (ci := 1) (q := (RJx35411, TJx35411, 4)) (q0 := 11) rfl rfl, fun U hU hW => ⟨rfl, hC651 U hU hW⟩⟩ rfl rfl hl.1 rfl (lv_room (Nat.le_of_ble_eq_true rfl)) dX9_shown_53 ⟨(Nat.le_of_ble_eq_true rfl), (Nat.le_of_ble_eq_true rfl)⟩) hS (fun q9 _ h9 => hF648 q9 h9) hF648 (fun u652 r653 t652 H652 L652 ht652 hvm652 hw652 hB652 hz652 hk652 hS => ?_)
  obtain ⟨hr652, hB652⟩ := hB652
  obtain ⟨hP, hD, hK⟩ := pq_jn (wz := [(h0, ce21 h1 h2 h3 h4), (h1, ce201 h5), (h2, ce3 z.1), (h4, ce226 h7), (h5, ce200 kc0 h8 h9 h10 h11 h12), (h7, ce200 kc2 (z.2.2.1 128) (z.2.2.1 129) (z.2.2.1 130) (z.2.2.1 131) (z.2.2.1 132)), (h8, ce49), (h9, ce49), (h10, ce49), (h11, ce49), (h12, ce49), (a569, ce314 h3), (h3, ce276 h6), (h6, ce275 kc1 (z.2.2.1 128) (z.2.2.1 128) (z.2.2.1 128) (z.2.2.1 128) (z.2.2.1 128) (z.2.2.1 128) (z.2.2.1 128))]) (tz := [(kc0, .object "java/lang/Object"), (kc2, .object "java/lang/Object"), (kc1, .object "java/lang/Object")]) hP hD hK [11, 12, 13] [0, 1] rfl hk652 hF648 hB652.1 ht652 hvm652 rfl rfl
  have hG : s.heap.size + 508 ≤ H652.size := Nat.le_trans hG hz652
  refine W.eq (g2 := F0 m 58 ls [.ref (z.2.2.1 128)]) (by rw [hr652]) ?_
  refine va_castE (nm := "java/lang/Integer") hx hb hown (hts _ q_320) (va_Orecv (hX.2.2.1.1.1 128 (by decide)) hS) dX9_shown_58 ?_
  have hM656 := k74_intValue l hl9 dC dI z H652.size
  obtain ⟨hF654, hC657⟩ := pc_M hM656 hP hD hK hS hX hT hA [] [] rfl rfl rfl
  refine va_calli (va_runV (As := []) (rest := []) ⟨hx, hb, hml, hown, hts⟩ hM656 (cwV 0 hts (gV q_323 q_324 q_325 q_297 q_322) rfl rfl rfl hV_J6_intValue_8abf5 ⟨Nat.le_of_ble_eq_true rfl, Nat.le_of_ble_eq_true rfl⟩) ⟨pc_blind, va_Orecv (hX.2.2.1.1.1 128 (by decide)) hS, fun U hU hW => ⟨rfl, hC657 U hU hW⟩⟩ rfl rfl hl.1 rfl (lv_room (Nat.le_of_ble_eq_true rfl)) dX9_shown_61 ⟨(Nat.le_of_ble_eq_true rfl), (Nat.le_of_ble_eq_true rfl)⟩) hS (fun q9 _ h9 => hF654 q9 h9) hF654 (fun r659 u658 t658 H658 L658 ht658 hvm658 hw658 hB658 hz658 hk658 hS => ?_)
  have hP := pq_keep hP hD [] rfl hk658 hB658.1 ht658
  have hG : s.heap.size + 508 ≤ H658.size := Nat.le_trans hG hz658
  refine W.eq (g2 := F0 m 64 ls [.int 0]) (by rw [hw658]) ?_
  refine lv_istore (lv' := [(6, .int 0), (4, .int 0), (5, .ref a569), (3, .int 49), (1, .int 0), (2, .int 1), (0, .ref h0)]) hx hb dX9_shown_64 hl (by decide) rfl (fun ls hl => ?_)
  refine lv_iload hx hb dX9_shown_66 (lv_at hl 1 rfl) ?_
  refine lv_if_ne (tgt := 82) hx hb dX9_shown_68 (by decide) (fun cz => absurd (by decide) cz) (fun _ => ?_)
  refine lv_aload_n hx hb dX9_shown_71 rfl (lv_at hl 6 rfl) ?_
  refine lv_iload_n hx hb dX9_shown_72 rfl (lv_at hl 5 rfl) ?_
  refine lv_iload_n hx hb dX9_shown_73 rfl (lv_at hl 3 rfl) ?_
  refine lv_iload hx hb dX9_shown_74 (lv_at hl 0 rfl) ?_
  have hM662 := k656_showsIt l hl9 dC dI z h0 h1 h2 h4 h5 h7 h8 h9 h10 h11 h12 h3 H658.size kc0 kc2
  obtain ⟨hF660, hC663⟩ := pc_M hM662 hP hD hK hS hX hT hA [0, 1, 2, 3, 4, 5, 6, 7, 8, 9, 10] [0, 1] rfl rfl rfl
  refine va_calli (va_runV (As := [.int 1, .int 49, .int 0]) (rest := []) ⟨hx, hb, hml, hown, hts⟩ hM662 (cwV 3 hts (gV q_429 q_430 q_431 q_60 q_428) rfl rfl rfl hV_X9_showsIt ⟨Nat.le_of_ble_eq_true rfl, Nat.le_of_ble_eq_true rfl⟩) ⟨pc_blind, va_recv hK hP (ci := 8) (q := (RX9, TX9, 6)) (q0 := 0) rfl rfl, fun U hU hW => ⟨rfl, hC663 U hU hW⟩⟩ rfl rfl hl.1 rfl (lv_room (Nat.le_of_ble_eq_true rfl)) dX9_shown_76 ⟨(Nat.le_of_ble_eq_true rfl), (Nat.le_of_ble_eq_true rfl)⟩) hS (fun q9 _ h9 => hF660 q9 h9) hF660 (fun r665 u664 t664 H664 L664 ht664 hvm664 hw664 hB664 hz664 hk664 hS => ?_)
  have hP := pq_keep hP hD [0, 1, 2, 3, 4, 5, 6, 7, 8, 9, 10] rfl hk664 hB664.1 ht664
  have hG : s.heap.size + 529 ≤ H664.size := va_gr (g := 508) (g1 := 21) hG (by rw [← ht664]; exact hB664.2)
  refine W.eq (g2 := F0 m 79 ls [.int 0]) (by rw [hw664]) ?_
  refine W.widen (k := 529) (n := 5716) (by decide) (by decide) ?_
  refine lv_if_eq (tgt := 86) hx hb dX9_shown_79 (by decide) (fun _ => ?_) (fun cz => absurd (by decide) cz)
  refine lv_iconst (v := 0) hx hb dX9_shown_86 (by decide) ?_
  refine lv_istore (lv' := [(4, .int 0), (6, .int 0), (5, .ref a569), (3, .int 49), (1, .int 0), (2, .int 1), (0, .ref h0)]) hx hb dX9_shown_87 hl (by decide) rfl (fun ls hl => ?_)
  refine lv_goto (tgt := 41) hx hb dX9_shown_89 (by decide) ?_
  refine lv_aload hx hb dX9_shown_41 (lv_at hl 2 rfl) ?_
  have hM668 := k641_hasNext l hl9 dC dI z a569 h3 h6 H664.size
  obtain ⟨hF666, hC669⟩ := pc_M hM668 hP hD hK hS hX hT hA [11, 12] [] rfl rfl rfl
  refine va_callFi (va_runF (As := []) (rest := []) (hK.1 1 (RJx35411, TJx35411, 4) rfl).2 ⟨hx, hb, hml, hown, hts⟩ hM668 (va_cwF 0 hts (gF q_261 q_262 q_263 q_246 q_260) rfl rfl rfl hT.2.2.2.2.2.2.1 hF_xIh ⟨Nat.le_of_ble_eq_true rfl, Nat.le_of_ble_eq_true rfl⟩) ⟨pc_blind, va_recv hK hP (ci := 1) (q := (RJx35411, TJx35411, 4)) (q0 := 11) rfl rfl, fun U hU hW => ⟨rfl, hC669 U hU hW⟩⟩ rfl rfl hl.1 rfl (lv_room (Nat.le_of_ble_eq_true rfl)) dX9_shown_43 ⟨(Nat.le_of_ble_eq_true rfl), (Nat.le_of_ble_eq_true rfl)⟩) hS (fun q9 _ h9 => hF666 q9 h9) hF666 (fun r671 u670 t670 H670 L670 ht670 hvm670 hw670 hB670 hz670 hk670 hS => ?_)
  have hP := pq_keep hP hD [11, 12] rfl hk670 hB670.1 ht670
  have hG : s.heap.size + 529 ≤ H670.size := Nat.le_trans hG hz670
  refine W.eq (g2 := F0 m 48 ls [.int 1]) (by rw [hw670]) ?_
  refine lv_if_eq (tgt := 92) hx hb dX9_shown_48 (by decide) (fun cz => absurd cz (by decide)) (fun _ => ?_)
  refine lv_aload hx hb dX9_shown_51 (lv_at hl 2 rfl) ?_
  have hM674 := k643_next l hl9 dC dI z a569 h3 h6 H670.size kc1
  obtain ⟨hF672, hC675⟩ := pc_M hM674 hP hD hK hS hX hT hA [11, 12, 13] [2] rfl rfl rfl
  refine va_callFr (va_runF (As := []) (rest := []) (hK.1 1 (RJx35411, TJx35411, 4) rfl).2 ⟨hx, hb, hml, hown, hts⟩ hM674 (va_cwF 0 hts (gF q_308 q_309 q_310 q_246 q_307) rfl rfl rfl hT.2.2.2.2.2.2.2.1 hF_xIn ⟨Nat.le_of_ble_eq_true rfl, Nat.le_of_ble_eq_true rfl⟩) ⟨pc_blind, va_recv hK hP (ci := 1) (q := (RJx35411, TJx35411, 4)) (q0 := 11) rfl rfl, fun U hU hW => ⟨rfl, hC675 U hU hW⟩⟩ rfl rfl hl.1 rfl (lv_room (Nat.le_of_ble_eq_true rfl)) dX9_shown_53 ⟨(Nat.le_of_ble_eq_true rfl), (Nat.le_of_ble_eq_true rfl)⟩) hS (fun q9 _ h9 => hF672 q9 h9) hF672 (fun u676 r677 t676 H676 L676 ht676 hvm676 hw676 hB676 hz676 hk676 hS => ?_)
  obtain ⟨hr676, hB676⟩ := hB676
  obtain ⟨hP, hD, hK⟩ := pq_jn (wz := [(h0, ce21 h1 h2 h3 h4), (h1, ce201 h5), (h2, ce3 z.1), (h4, ce226 h7), (h5, ce200 kc0 h8 h9 h10 h11 h12), (h7, ce200 kc2 (z.2.2.1 128) (z.2.2.1 129) (z.2.2.1 130) (z.2.2.1 131) (z.2.2.1 132)), (h8, ce49), (h9, ce49), (h10, ce49), (h11, ce49), (h12, ce49), (a569, ce316 h3), (h3, ce276 h6), (h6, ce275 kc1 (z.2.2.1 128) (z.2.2.1 128) (z.2.2.1 128) (z.2.2.1 128) (z.2.2.1 128) (z.2.2.1 128) (z.2.2.1 128))]) (tz := [(kc0, .object "java/lang/Object"), (kc2, .object "java/lang/Object"), (kc1, .object "java/lang/Object")]) hP hD hK [11, 12, 13] [0, 1] rfl hk676 hF672 hB676.1 ht676 hvm676 rfl rfl
  have hG : s.heap.size + 529 ≤ H676.size := Nat.le_trans hG hz676
  refine W.eq (g2 := F0 m 58 ls [.ref (z.2.2.1 128)]) (by rw [hr676]) ?_
  refine va_castE (nm := "java/lang/Integer") hx hb hown (hts _ q_320) (va_Orecv (hX.2.2.1.1.1 128 (by decide)) hS) dX9_shown_58 ?_
  have hM680 := k74_intValue l hl9 dC dI z H676.size
  obtain ⟨hF678, hC681⟩ := pc_M hM680 hP hD hK hS hX hT hA [] [] rfl rfl rfl
  refine va_calli (va_runV (As := []) (rest := []) ⟨hx, hb, hml, hown, hts⟩ hM680 (cwV 0 hts (gV q_323 q_324 q_325 q_297 q_322) rfl rfl rfl hV_J6_intValue_8abf5 ⟨Nat.le_of_ble_eq_true rfl, Nat.le_of_ble_eq_true rfl⟩) ⟨pc_blind, va_Orecv (hX.2.2.1.1.1 128 (by decide)) hS, fun U hU hW => ⟨rfl, hC681 U hU hW⟩⟩ rfl rfl hl.1 rfl (lv_room (Nat.le_of_ble_eq_true rfl)) dX9_shown_61 ⟨(Nat.le_of_ble_eq_true rfl), (Nat.le_of_ble_eq_true rfl)⟩) hS (fun q9 _ h9 => hF678 q9 h9) hF678 (fun r683 u682 t682 H682 L682 ht682 hvm682 hw682 hB682 hz682 hk682 hS => ?_)
  have hP := pq_keep hP hD [] rfl hk682 hB682.1 ht682
  have hG : s.heap.size + 529 ≤ H682.size := Nat.le_trans hG hz682
  refine W.eq (g2 := F0 m 64 ls [.int 0]) (by rw [hw682]) ?_
  refine lv_istore (lv' := [(6, .int 0), (4, .int 0), (5, .ref a569), (3, .int 49), (1, .int 0), (2, .int 1), (0, .ref h0)]) hx hb dX9_shown_64 hl (by decide) rfl (fun ls hl => ?_)
  refine lv_iload hx hb dX9_shown_66 (lv_at hl 1 rfl) ?_
  refine lv_if_ne (tgt := 82) hx hb dX9_shown_68 (by decide) (fun cz => absurd (by decide) cz) (fun _ => ?_)
  refine lv_aload_n hx hb dX9_shown_71 rfl (lv_at hl 6 rfl) ?_
  refine lv_iload_n hx hb dX9_shown_72 rfl (lv_at hl 5 rfl) ?_
  refine lv_iload_n hx hb dX9_shown_73 rfl (lv_at hl 3 rfl) ?_
  refine lv_iload hx hb dX9_shown_74 (lv_at hl 0 rfl) ?_
  have hM686 := k656_showsIt l hl9 dC dI z h0 h1 h2 h4 h5 h7 h8 h9 h10 h11 h12 h3 H682.size kc0 kc2
  obtain ⟨hF684, hC687⟩ := pc_M hM686 hP hD hK hS hX hT hA [0, 1, 2, 3, 4, 5, 6, 7, 8, 9, 10] [0, 1] rfl rfl rfl
  refine va_calli (va_runV (As := [.int 1, .int 49, .int 0]) (rest := []) ⟨hx, hb, hml, hown, hts⟩ hM686 (cwV 3 hts (gV q_429 q_430 q_431 q_60 q_428) rfl rfl rfl hV_X9_showsIt ⟨Nat.le_of_ble_eq_true rfl, Nat.le_of_ble_eq_true rfl⟩) ⟨pc_blind, va_recv hK hP (ci := 8) (q := (RX9, TX9, 6)) (q0 := 0) rfl rfl, fun U hU hW => ⟨rfl, hC687 U hU hW⟩⟩ rfl rfl hl.1 rfl (lv_room (Nat.le_of_ble_eq_true rfl)) dX9_shown_76 ⟨(Nat.le_of_ble_eq_true rfl), (Nat.le_of_ble_eq_true rfl)⟩) hS (fun q9 _ h9 => hF684 q9 h9) hF684 (fun r689 u688 t688 H688 L688 ht688 hvm688 hw688 hB688 hz688 hk688 hS => ?_)
  have hP := pq_keep hP hD [0, 1, 2, 3, 4, 5, 6, 7, 8, 9, 10] rfl hk688 hB688.1 ht688
  have hG : s.heap.size + 550 ≤ H688.size := va_gr (g := 529) (g1 := 21) hG (by rw [← ht688]; exact hB688.2)
  refine W.eq (g2 := F0 m 79 ls [.int 0]) (by rw [hw688]) ?_
  refine W.widen (k := 550) (n := 5944) (by decide) (by decide) ?_
  refine lv_if_eq (tgt := 86) hx hb dX9_shown_79 (by decide) (fun _ => ?_) (fun cz => absurd (by decide) cz)
  refine lv_iconst (v := 0) hx hb dX9_shown_86 (by decide) ?_
  refine lv_istore (lv' := [(4, .int 0), (6, .int 0), (5, .ref a569), (3, .int 49), (1, .int 0), (2, .int 1), (0, .ref h0)]) hx hb dX9_shown_87 hl (by decide) rfl (fun ls hl => ?_)
  refine lv_goto (tgt := 41) hx hb dX9_shown_89 (by decide) ?_
  refine lv_aload hx hb dX9_shown_41 (lv_at hl 2 rfl) ?_
  have hM692 := k644_hasNext l hl9 dC dI z a569 h3 h6 H688.size
  obtain ⟨hF690, hC693⟩ := pc_M hM692 hP hD hK hS hX hT hA [11, 12] [] rfl rfl rfl
  refine va_callFi (va_runF (As := []) (rest := []) (hK.1 1 (RJx35411, TJx35411, 4) rfl).2 ⟨hx, hb, hml, hown, hts⟩ hM692 (va_cwF 0 hts (gF q_261 q_262 q_263 q_246 q_260) rfl rfl rfl hT.2.2.2.2.2.2.1 hF_xIh ⟨Nat.le_of_ble_eq_true rfl, Nat.le_of_ble_eq_true rfl⟩) ⟨pc_blind, va_recv hK hP (ci := 1) (q := (RJx35411, TJx35411, 4)) (q0 := 11) rfl rfl, fun U hU hW => ⟨rfl, hC693 U hU hW⟩⟩ rfl rfl hl.1 rfl (lv_room (Nat.le_of_ble_eq_true rfl)) dX9_shown_43 ⟨(Nat.le_of_ble_eq_true rfl), (Nat.le_of_ble_eq_true rfl)⟩) hS (fun q9 _ h9 => hF690 q9 h9) hF690 (fun r695 u694 t694 H694 L694 ht694 hvm694 hw694 hB694 hz694 hk694 hS => ?_)
  have hP := pq_keep hP hD [11, 12] rfl hk694 hB694.1 ht694
  have hG : s.heap.size + 550 ≤ H694.size := Nat.le_trans hG hz694
  refine W.eq (g2 := F0 m 48 ls [.int 1]) (by rw [hw694]) ?_
  refine lv_if_eq (tgt := 92) hx hb dX9_shown_48 (by decide) (fun cz => absurd cz (by decide)) (fun _ => ?_)
  refine lv_aload hx hb dX9_shown_51 (lv_at hl 2 rfl) ?_
  have hM698 := k646_next l hl9 dC dI z a569 h3 h6 H694.size kc1
  obtain ⟨hF696, hC699⟩ := pc_M hM698 hP hD hK hS hX hT hA [11, 12, 13] [2] rfl rfl rfl
  refine va_callFr (va_runF (As := []) (rest := []) (hK.1 1 (RJx35411, TJx35411, 4) rfl).2 ⟨hx, hb, hml, hown, hts⟩ hM698 (va_cwF 0 hts (gF q_308 q_309 q_310 q_246 q_307) rfl rfl rfl hT.2.2.2.2.2.2.2.1 hF_xIn ⟨Nat.le_of_ble_eq_true rfl, Nat.le_of_ble_eq_true rfl⟩) ⟨pc_blind, va_recv hK hP (ci := 1) (q := (RJx35411, TJx35411, 4)) (q0 := 11) rfl rfl, fun U hU hW => ⟨rfl, hC699 U hU hW⟩⟩ rfl rfl hl.1 rfl (lv_room (Nat.le_of_ble_eq_true rfl)) dX9_shown_53 ⟨(Nat.le_of_ble_eq_true rfl), (Nat.le_of_ble_eq_true rfl)⟩) hS (fun q9 _ h9 => hF696 q9 h9) hF696 (fun u700 r701 t700 H700 L700 ht700 hvm700 hw700 hB700 hz700 hk700 hS => ?_)
  obtain ⟨hr700, hB700⟩ := hB700
  obtain ⟨hP, hD, hK⟩ := pq_jn (wz := [(h0, ce21 h1 h2 h3 h4), (h1, ce201 h5), (h2, ce3 z.1), (h4, ce226 h7), (h5, ce200 kc0 h8 h9 h10 h11 h12), (h7, ce200 kc2 (z.2.2.1 128) (z.2.2.1 129) (z.2.2.1 130) (z.2.2.1 131) (z.2.2.1 132)), (h8, ce49), (h9, ce49), (h10, ce49), (h11, ce49), (h12, ce49), (a569, ce318 h3), (h3, ce276 h6), (h6, ce275 kc1 (z.2.2.1 128) (z.2.2.1 128) (z.2.2.1 128) (z.2.2.1 128) (z.2.2.1 128) (z.2.2.1 128) (z.2.2.1 128))]) (tz := [(kc0, .object "java/lang/Object"), (kc2, .object "java/lang/Object"), (kc1, .object "java/lang/Object")]) hP hD hK [11, 12, 13] [0, 1] rfl hk700 hF696 hB700.1 ht700 hvm700 rfl rfl
  have hG : s.heap.size + 550 ≤ H700.size := Nat.le_trans hG hz700
  refine W.eq (g2 := F0 m 58 ls [.ref (z.2.2.1 128)]) (by rw [hr700]) ?_
  refine va_castE (nm := "java/lang/Integer") hx hb hown (hts _ q_320) (va_Orecv (hX.2.2.1.1.1 128 (by decide)) hS) dX9_shown_58 ?_
  have hM704 := k74_intValue l hl9 dC dI z H700.size
  obtain ⟨hF702, hC705⟩ := pc_M hM704 hP hD hK hS hX hT hA [] [] rfl rfl rfl
  refine va_calli (va_runV (As := []) (rest := []) ⟨hx, hb, hml, hown, hts⟩ hM704 (cwV 0 hts (gV q_323 q_324 q_325 q_297 q_322) rfl rfl rfl hV_J6_intValue_8abf5 ⟨Nat.le_of_ble_eq_true rfl, Nat.le_of_ble_eq_true rfl⟩) ⟨pc_blind, va_Orecv (hX.2.2.1.1.1 128 (by decide)) hS, fun U hU hW => ⟨rfl, hC705 U hU hW⟩⟩ rfl rfl hl.1 rfl (lv_room (Nat.le_of_ble_eq_true rfl)) dX9_shown_61 ⟨(Nat.le_of_ble_eq_true rfl), (Nat.le_of_ble_eq_true rfl)⟩) hS (fun q9 _ h9 => hF702 q9 h9) hF702 (fun r707 u706 t706 H706 L706 ht706 hvm706 hw706 hB706 hz706 hk706 hS => ?_)
  have hP := pq_keep hP hD [] rfl hk706 hB706.1 ht706
  have hG : s.heap.size + 550 ≤ H706.size := Nat.le_trans hG hz706
  refine W.eq (g2 := F0 m 64 ls [.int 0]) (by rw [hw706]) ?_
  refine lv_istore (lv' := [(6, .int 0), (4, .int 0), (5, .ref a569), (3, .int 49), (1, .int 0), (2, .int 1), (0, .ref h0)]) hx hb dX9_shown_64 hl (by decide) rfl (fun ls hl => ?_)
  refine lv_iload hx hb dX9_shown_66 (lv_at hl 1 rfl) ?_
  refine lv_if_ne (tgt := 82) hx hb dX9_shown_68 (by decide) (fun cz => absurd (by decide) cz) (fun _ => ?_)
  refine lv_aload_n hx hb dX9_shown_71 rfl (lv_at hl 6 rfl) ?_
  refine lv_iload_n hx hb dX9_shown_72 rfl (lv_at hl 5 rfl) ?_
  refine lv_iload_n hx hb dX9_shown_73 rfl (lv_at hl 3 rfl) ?_
  refine lv_iload hx hb dX9_shown_74 (lv_at hl 0 rfl) ?_
  have hM710 := k656_showsIt l hl9 dC dI z h0 h1 h2 h4 h5 h7 h8 h9 h10 h11 h12 h3 H706.size kc0 kc2
  obtain ⟨hF708, hC711⟩ := pc_M hM710 hP hD hK hS hX hT hA [0, 1, 2, 3, 4, 5, 6, 7, 8, 9, 10] [0, 1] rfl rfl rfl
  refine va_calli (va_runV (As := [.int 1, .int 49, .int 0]) (rest := []) ⟨hx, hb, hml, hown, hts⟩ hM710 (cwV 3 hts (gV q_429 q_430 q_431 q_60 q_428) rfl rfl rfl hV_X9_showsIt ⟨Nat.le_of_ble_eq_true rfl, Nat.le_of_ble_eq_true rfl⟩) ⟨pc_blind, va_recv hK hP (ci := 8) (q := (RX9, TX9, 6)) (q0 := 0) rfl rfl, fun U hU hW => ⟨rfl, hC711 U hU hW⟩⟩ rfl rfl hl.1 rfl (lv_room (Nat.le_of_ble_eq_true rfl)) dX9_shown_76 ⟨(Nat.le_of_ble_eq_true rfl), (Nat.le_of_ble_eq_true rfl)⟩) hS (fun q9 _ h9 => hF708 q9 h9) hF708 (fun r713 u712 t712 H712 L712 ht712 hvm712 hw712 hB712 hz712 hk712 hS => ?_)
  have hP := pq_keep hP hD [0, 1, 2, 3, 4, 5, 6, 7, 8, 9, 10] rfl hk712 hB712.1 ht712
  have hG : s.heap.size + 571 ≤ H712.size := va_gr (g := 550) (g1 := 21) hG (by rw [← ht712]; exact hB712.2)
  refine W.eq (g2 := F0 m 79 ls [.int 0]) (by rw [hw712]) ?_
  refine W.widen (k := 571) (n := 6172) (by decide) (by decide) ?_
  refine lv_if_eq (tgt := 86) hx hb dX9_shown_79 (by decide) (fun _ => ?_) (fun cz => absurd (by decide) cz)
  refine lv_iconst (v := 0) hx hb dX9_shown_86 (by decide) ?_
  refine lv_istore (lv' := [(4, .int 0), (6, .int 0), (5, .ref a569), (3, .int 49), (1, .int 0), (2, .int 1), (0, .ref h0)]) hx hb dX9_shown_87 hl (by decide) rfl (fun ls hl => ?_)
  refine lv_goto (tgt := 41) hx hb dX9_shown_89 (by decide) ?_
  refine lv_aload hx hb dX9_shown_41 (lv_at hl 2 rfl) ?_
  have hM716 := k647_hasNext l hl9 dC dI z a569 h3 h6 H712.size
  obtain ⟨hF714, hC717⟩ := pc_M hM716 hP hD hK hS hX hT hA [11, 12] [] rfl rfl rfl
  refine va_callFi (va_runF (As := []) (rest := []) (hK.1 1 (RJx35411, TJx35411, 4) rfl).2 ⟨hx, hb, hml, hown, hts⟩ hM716 (va_cwF 0 hts (gF q_261 q_262 q_263 q_246 q_260) rfl rfl rfl hT.2.2.2.2.2.2.1 hF_xIh ⟨Nat.le_of_ble_eq_true rfl, Nat.le_of_ble_eq_true rfl⟩) ⟨pc_blind, va_recv hK hP (ci := 1) (q := (RJx35411, TJx35411, 4)) (q0 := 11) rfl rfl, fun U hU hW => ⟨rfl, hC717 U hU hW⟩⟩ rfl rfl hl.1 rfl (lv_room (Nat.le_of_ble_eq_true rfl)) dX9_shown_43 ⟨(Nat.le_of_ble_eq_true rfl), (Nat.le_of_ble_eq_true rfl)⟩) hS (fun q9 _ h9 => hF714 q9 h9) hF714 (fun r719 u718 t718 H718 L718 ht718 hvm718 hw718 hB718 hz718 hk718 hS => ?_)
  have hP := pq_keep hP hD [11, 12] rfl hk718 hB718.1 ht718
  have hG : s.heap.size + 571 ≤ H718.size := Nat.le_trans hG hz718
  refine W.eq (g2 := F0 m 48 ls [.int 1]) (by rw [hw718]) ?_
  refine lv_if_eq (tgt := 92) hx hb dX9_shown_48 (by decide) (fun cz => absurd cz (by decide)) (fun _ => ?_)
  refine lv_aload hx hb dX9_shown_51 (lv_at hl 2 rfl) ?_
  have hM722 := k649_next l hl9 dC dI z a569 h3 h6 H718.size kc1
  obtain ⟨hF720, hC723⟩ := pc_M hM722 hP hD hK hS hX hT hA [11, 12, 13] [2] rfl rfl rfl
  refine va_callFr (va_runF (As := []) (rest := []) (hK.1 1 (RJx35411, TJx35411, 4) rfl).2 ⟨hx, hb, hml, hown, hts⟩ hM722 (va_cwF 0 hts (gF q_308 q_309 q_310 q_246 q_307) rfl rfl rfl hT.2.2.2.2.2.2.2.1 hF_xIn ⟨Nat.le_of_ble_eq_true rfl, Nat.le_of_ble_eq_true rfl⟩) ⟨pc_blind, va_recv hK hP (ci := 1) (q := (RJx35411, TJx35411, 4)) (q0 := 11) rfl rfl, fun U hU hW => ⟨rfl, hC723 U hU hW⟩⟩ rfl rfl hl.1 rfl (lv_room (Nat.le_of_ble_eq_true rfl)) dX9_shown_53 ⟨(Nat.le_of_ble_eq_true rfl), (Nat.le_of_ble_eq_true rfl)⟩) hS (fun q9 _ h9 => hF720 q9 h9) hF720 (fun u724 r725 t724 H724 L724 ht724 hvm724 hw724 hB724 hz724 hk724 hS => ?_)
  obtain ⟨hr724, hB724⟩ := hB724
  obtain ⟨hP, hD, hK⟩ := pq_jn (wz := [(h0, ce21 h1 h2 h3 h4), (h1, ce201 h5), (h2, ce3 z.1), (h4, ce226 h7), (h5, ce200 kc0 h8 h9 h10 h11 h12), (h7, ce200 kc2 (z.2.2.1 128) (z.2.2.1 129) (z.2.2.1 130) (z.2.2.1 131) (z.2.2.1 132)), (h8, ce49), (h9, ce49), (h10, ce49), (h11, ce49), (h12, ce49), (a569, ce320 h3), (h3, ce276 h6), (h6, ce275 kc1 (z.2.2.1 128) (z.2.2.1 128) (z.2.2.1 128) (z.2.2.1 128) (z.2.2.1 128) (z.2.2.1 128) (z.2.2.1 128))]) (tz := [(kc0, .object "java/lang/Object"), (kc2, .object "java/lang/Object"), (kc1, .object "java/lang/Object")]) hP hD hK [11, 12, 13] [0, 1] rfl hk724 hF720 hB724.1 ht724 hvm724 rfl rfl
  have hG : s.heap.size + 571 ≤ H724.size := Nat.le_trans hG hz724
  refine W.eq (g2 := F0 m 58 ls [.ref (z.2.2.1 128)]) (by rw [hr724]) ?_
  refine va_castE (nm := "java/lang/Integer") hx hb hown (hts _ q_320) (va_Orecv (hX.2.2.1.1.1 128 (by decide)) hS) dX9_shown_58 ?_
  have hM728 := k74_intValue l hl9 dC dI z H724.size
  obtain ⟨hF726, hC729⟩ := pc_M hM728 hP hD hK hS hX hT hA [] [] rfl rfl rfl
  refine va_calli (va_runV (As := []) (rest := []) ⟨hx, hb, hml, hown, hts⟩ hM728 (cwV 0 hts (gV q_323 q_324 q_325 q_297 q_322) rfl rfl rfl hV_J6_intValue_8abf5 ⟨Nat.le_of_ble_eq_true rfl, Nat.le_of_ble_eq_true rfl⟩) ⟨pc_blind, va_Orecv (hX.2.2.1.1.1 128 (by decide)) hS, fun U hU hW => ⟨rfl, hC729 U hU hW⟩⟩ rfl rfl hl.1 rfl (lv_room (Nat.le_of_ble_eq_true rfl)) dX9_shown_61 ⟨(Nat.le_of_ble_eq_true rfl), (Nat.le_of_ble_eq_true rfl)⟩) hS (fun q9 _ h9 => hF726 q9 h9) hF726 (fun r731 u730 t730 H730 L730 ht730 hvm730 hw730 hB730 hz730 hk730 hS => ?_)
  have hP := pq_keep hP hD [] rfl hk730 hB730.1 ht730
  have hG : s.heap.size + 571 ≤ H730.size := Nat.le_trans hG hz730
  refine W.eq (g2 := F0 m 64 ls [.int 0]) (by rw [hw730]) ?_
  refine lv_istore (lv' := [(6, .int 0), (4, .int 0), (5, .ref a569), (3, .int 49), (1, .int 0), (2, .int 1), (0, .ref h0)]) hx hb dX9_shown_64 hl (by decide) rfl (fun ls hl => ?_)
  refine lv_iload hx hb dX9_shown_66 (lv_at hl 1 rfl) ?_
  refine lv_if_ne (tgt := 82) hx hb dX9_shown_68 (by decide) (fun cz => absurd (by decide) cz) (fun _ => ?_)
  refine lv_aload_n hx hb dX9_shown_71 rfl (lv_at hl 6 rfl) ?_
  refine lv_iload_n hx hb dX9_shown_72 rfl (lv_at hl 5 rfl) ?_
  refine lv_iload_n hx hb dX9_shown_73 rfl (lv_at hl 3 rfl) ?_
  refine lv_iload hx hb dX9_shown_74 (lv_at hl 0 rfl) ?_
  have hM734 := k656_showsIt l hl9 dC dI z h0 h1 h2 h4 h5 h7 h8 h9 h10 h11 h12 h3 H730.size kc0 kc2
  obtain ⟨hF732, hC735⟩ := pc_M hM734 hP hD hK hS hX hT hA [0, 1, 2, 3, 4, 5, 6, 7, 8, 9, 10] [0, 1] rfl rfl rfl
  refine va_calli (va_runV (As := [.int 1, .int 49, .int 0]) (rest := []) ⟨hx, hb, hml, hown, hts⟩ hM734 (cwV 3 hts (gV q_429 q_430 q_431 q_60 q_428) rfl rfl rfl hV_X9_showsIt ⟨Nat.le_of_ble_eq_true rfl, Nat.le_of_ble_eq_true rfl⟩) ⟨pc_blind, va_recv hK hP (ci := 8) (q := (RX9, TX9, 6)) (q0 := 0) rfl rfl, fun U hU hW => ⟨rfl, hC735 U hU hW⟩⟩ rfl rfl hl.1 rfl (lv_room (Nat.le_of_ble_eq_true rfl)) dX9_shown_76 ⟨(Nat.le_of_ble_eq_true rfl), (Nat.le_of_ble_eq_true rfl)⟩) hS (fun q9 _ h9 => hF732 q9 h9) hF732 (fun r737 u736 t736 H736 L736 ht736 hvm736 hw736 hB736 hz736 hk736 hS => ?_)
  have hP := pq_keep hP hD [0, 1, 2, 3, 4, 5, 6, 7, 8, 9, 10] rfl hk736 hB736.1 ht736
  have hG : s.heap.size + 592 ≤ H736.size := va_gr (g := 571) (g1 := 21) hG (by rw [← ht736]; exact hB736.2)
  refine W.eq (g2 := F0 m 79 ls [.int 0]) (by rw [hw736]) ?_
  refine W.widen (k := 592) (n := 6400) (by decide) (by decide) ?_
  refine lv_if_eq (tgt := 86) hx hb dX9_shown_79 (by decide) (fun _ => ?_) (fun cz => absurd (by decide) cz)
  refine lv_iconst (v := 0) hx hb dX9_shown_86 (by decide) ?_
  refine lv_istore (lv' := [(4, .int 0), (6, .int 0), (5, .ref a569), (3, .int 49), (1, .int 0), (2, .int 1), (0, .ref h0)]) hx hb dX9_shown_87 hl (by decide) rfl (fun ls hl => ?_)
  refine lv_goto (tgt := 41) hx hb dX9_shown_89 (by decide) ?_
  refine lv_aload hx hb dX9_shown_41 (lv_at hl 2 rfl) ?_
  have hM740 := k650_hasNext l hl9 dC dI z a569 h3 h6 H736.size
  obtain ⟨hF738, hC741⟩ := pc_M hM740 hP hD hK hS hX hT hA [11, 12] [] rfl rfl rfl
  refine va_callFi (va_runF (As := []) (rest := []) (hK.1 1 (RJx35411, TJx35411, 4) rfl).2 ⟨hx, hb, hml, hown, hts⟩ hM740 (va_cwF 0 hts (gF q_261 q_262 q_263 q_246 q_260) rfl rfl rfl hT.2.2.2.2.2.2.1 hF_xIh ⟨Nat.le_of_ble_eq_true rfl, Nat.le_of_ble_eq_true rfl⟩) ⟨pc_blind, va_recv hK hP (ci := 1) (q := (RJx35411, TJx35411, 4)) (q0 := 11) rfl rfl, fun U hU hW => ⟨rfl, hC741 U hU hW⟩⟩ rfl rfl hl.1 rfl (lv_room (Nat.le_of_ble_eq_true rfl)) dX9_shown_43 ⟨(Nat.le_of_ble_eq_true rfl), (Nat.le_of_ble_eq_true rfl)⟩) hS (fun q9 _ h9 => hF738 q9 h9) hF738 (fun r743 u742 t742 H742 L742 ht742 hvm742 hw742 hB742 hz742 hk742 hS => ?_)
  have hP := pq_keep hP hD [11, 12] rfl hk742 hB742.1 ht742
  have hG : s.heap.size + 592 ≤ H742.size := Nat.le_trans hG hz742
  refine W.eq (g2 := F0 m 48 ls [.int 0]) (by rw [hw742]) ?_
  refine lv_if_eq (tgt := 92) hx hb dX9_shown_48 (by decide) (fun _ => ?_) (fun cz => absurd (by decide) cz)
  refine lv_iload_n hx hb dX9_shown_92 rfl (lv_at hl 4 rfl) ?_
  refine lv_iload hx hb dX9_shown_93 (lv_at hl 0 rfl) ?_
  refine lv_if_eq (tgt := 102) hx hb dX9_shown_95 (by decide) (fun _ => ?_) (fun cz => absurd (by decide) cz)
  refine lv_iconst (v := 0) hx hb dX9_shown_102 (by decide) ?_
  refine lv_iadd hx hb dX9_shown_103 ?_
  refine lv_topi (fun y744 ey744 => ?_)
  obtain rfl : y744 = 0 := ey744.trans (by decide)
  refine lv_istore_n (lv' := [(1, .int 0), (4, .int 0), (6, .int 0), (5, .ref a569), (3, .int 49), (2, .int 1), (0, .ref h0)]) hx hb dX9_shown_104 rfl hl (by decide) rfl (fun ls hl => ?_)
  refine lv_iload_n hx hb dX9_shown_105 rfl (lv_at hl 4 rfl) ?_
  refine lv_iconst (v := 1) hx hb dX9_shown_106 (by decide) ?_
  refine lv_iadd hx hb dX9_shown_107 ?_
  refine lv_topi (fun y745 ey745 => ?_)
  obtain rfl : y745 = 50 := ey745.trans (by decide)
  refine lv_i2c (v := 50) hx hb dX9_shown_108 (by decide) ?_
  refine lv_istore_n (lv' := [(3, .int 50), (1, .int 0), (4, .int 0), (6, .int 0), (5, .ref a569), (2, .int 1), (0, .ref h0)]) hx hb dX9_shown_109 rfl hl (by decide) rfl (fun ls hl => ?_)
  refine lv_goto (tgt := 23) hx hb dX9_shown_110 (by decide) ?_
  exact hend _ _ _ hS (hP.sub [0, 1, 2, 12, 3, 4, 13, 5, 6, 7, 8, 9, 10] rfl) (hD.sub [0, 1, 2, 12, 3, 4, 13, 5, 6, 7, 8, 9, 10] rfl rfl) (lv_sub hl [0, 1, 5, 6] rfl) hG

set_option maxHeartbeats 8000000 in
set_option maxRecDepth 100000 in
theorem k669_shown_g6 {p : Program} {l : Launch} {e : Env} {s : State} {m : MethodId} {args : Array Value} {below : List Frame} {meth : Method} {c : Code} {Q : State → Prop} {A : Nat → Prop} {H : Heap} {locs : List Loc} {ls : Array Slot} {dC : Nat → ClassId} {dI : Nat → Nat → Nat} {z : XZ} {h0 h1 h2 h3 h4 h5 h6 h7 h8 h9 h10 h11 h12 : Nat} {kc0 kc1 kc2 : ClassId} (hl9 : l.stackTraces = false) (hx : p.tables.exec = Jvm.exec) (hb : c.code = cX9_shown) (hml : c.maxLocals = 7) (hown : s.vm.findClass RX9 = some m.cls) (hts : ∀ w ∈ wsL_law, w.before args s = true) (hA : ∀ q : Nat, s.heap.size ≤ q → A q) (hX : XE z A s s.heap) (hT : XT s) (hS : va_S A s.heap H locs) (hP : va_P (dC, dI) xCl [(h0, ce21 h1 h2 h3 h4), (h1, ce201 h5), (h2, ce3 z.1), (h3, ce276 h6), (h4, ce226 h7), (h5, ce200 kc0 h8 h9 h10 h11 h12), (h6, ce275 kc1 (z.2.2.1 128) (z.2.2.1 128) (z.2.2.1 128) (z.2.2.1 128) (z.2.2.1 128) (z.2.2.1 128) (z.2.2.1 128)), (h7, ce200 kc2 (z.2.2.1 128) (z.2.2.1 129) (z.2.2.1 130) (z.2.2.1 131) (z.2.2.1 132)), (h8, ce49), (h9, ce49), (h10, ce49), (h11, ce49), (h12, ce49)] H) (hD : va_D A [(h0, ce21 h1 h2 h3 h4), (h1, ce201 h5), (h2, ce3 z.1), (h3, ce276 h6), (h4, ce226 h7), (h5, ce200 kc0 h8 h9 h10 h11 h12), (h6, ce275 kc1 (z.2.2.1 128) (z.2.2.1 128) (z.2.2.1 128) (z.2.2.1 128) (z.2.2.1 128) (z.2.2.1 128) (z.2.2.1 128)), (h7, ce200 kc2 (z.2.2.1 128) (z.2.2.1 129) (z.2.2.1 130) (z.2.2.1 131) (z.2.2.1 132)), (h8, ce49), (h9, ce49), (h10, ce49), (h11, ce49), (h12, ce49)]) (hK : va_K (dC, dI) xCl [(kc0, .object "java/lang/Object"), (kc1, .object "java/lang/Object"), (kc2, .object "java/lang/Object")] s) (hl : lv_has ls 7 [(3, .int 50), (1, .int 0), (2, .int 1), (0, .ref h0)]) (hG : s.heap.size + 592 ≤ H.size) (hend : ∀ (H' : Heap) (locs' : List Loc) (ls' : Array Slot), va_S A s.heap H' locs' → va_P (dC, dI) xCl [(h0, ce21 h1 h2 h3 h4), (h1, ce201 h5), (h2, ce3 z.1), (h3, ce276 h6), (h4, ce226 h7), (h5, ce200 kc0 h8 h9 h10 h11 h12), (h6, ce275 kc1 (z.2.2.1 128) (z.2.2.1 128) (z.2.2.1 128) (z.2.2.1 128) (z.2.2.1 128) (z.2.2.1 128) (z.2.2.1 128)), (h7, ce200 kc2 (z.2.2.1 128) (z.2.2.1 129) (z.2.2.1 130) (z.2.2.1 131) (z.2.2.1 132)), (h8, ce49), (h9, ce49), (h10, ce49), (h11, ce49), (h12, ce49)] H' → va_D A [(h0, ce21 h1 h2 h3 h4), (h1, ce201 h5), (h2, ce3 z.1), (h3, ce276 h6), (h4, ce226 h7), (h5, ce200 kc0 h8 h9 h10 h11 h12), (h6, ce275 kc1 (z.2.2.1 128) (z.2.2.1 128) (z.2.2.1 128) (z.2.2.1 128) (z.2.2.1 128) (z.2.2.1 128) (z.2.2.1 128)), (h7, ce200 kc2 (z.2.2.1 128) (z.2.2.1 129) (z.2.2.1 130) (z.2.2.1 131) (z.2.2.1 132)), (h8, ce49), (h9, ce49), (h10, ce49), (h11, ce49), (h12, ce49)] → lv_has ls' 7 [(3, .int 48), (2, .int 2), (1, .int 0), (0, .ref h0)] → s.heap.size + 592 ≤ H'.size → W p l e ({ frames := 5, cells := 1480, slots := 16000, locals := 121 } : Room) s m args below meth c H' locs' 592 6400 Q (F0 m 23 ls' [])) : W p l e ({ frames := 5, cells := 1480, slots := 16000, locals := 121 } : Room) s m args below meth c H locs 592 6400 Q (F0 m 23 ls []) := by
  refine lv_iload_n hx hb dX9_shown_23 rfl (lv_at hl 0 rfl) ?_
  refine lv_bipush (v := 49) hx hb dX9_shown_24 (by decide) ?_
  refine lv_icmp_gt (tgt := 113) hx hb dX9_shown_26 (by decide) (fun _ => ?_) (fun cz => absurd (by decide) cz)
  refine lv_iinc (v := 2) (lv' := [(2, .int 2), (3, .int 50), (1, .int 0), (0, .ref h0)]) hx hb dX9_shown_113 hl (k := 2) rfl (by decide) (by decide) rfl (fun ls hl => ?_)
  refine lv_goto (tgt := 9) hx hb dX9_shown_116 (by decide) ?_
  refine lv_iload_n hx hb dX9_shown_9 rfl (lv_at hl 0 rfl) ?_
  refine lv_aload_n hx hb dX9_shown_10 rfl (lv_at hl 3 rfl) ?_
  refine va_get (D := (dC, dI)) (ci := 8) (v := .ref h1) (C := RX9) (T := TX9) (N := 6) hx hb hts in_X9 hown hK hP 0 rfl rfl 1 (by decide) (hts _ q_64) (fun _ h9 => h9) rfl dX9_shown_11 ?_
  have hM748 := k20_size l hl9 dC dI z h1 h5 H.size 5 5
  obtain ⟨hF746, hC749⟩ := pc_M hM748 hP hD hK hS hX hT hA [1] [] rfl rfl rfl
  refine va_calli (va_runV (As := []) (rest := [.int 2]) ⟨hx, hb, hml, hown, hts⟩ hM748 (cwV 0 hts (gV q_272 q_77 q_78 q_12 q_75) rfl rfl rfl hV_Jx4a65c_size_8abf5 ⟨Nat.le_of_ble_eq_true rfl, Nat.le_of_ble_eq_true rfl⟩) ⟨pc_blind, va_recv hK hP (ci := 0) (q := (RJx4a65c, TJx4a65c, 3)) (q0 := 1) rfl rfl, fun U hU hW => ⟨rfl, hC749 U hU hW⟩⟩ rfl rfl hl.1 rfl (lv_room (Nat.le_of_ble_eq_true rfl)) dX9_shown_14 ⟨(Nat.le_of_ble_eq_true rfl), (Nat.le_of_ble_eq_true rfl)⟩) hS (fun q9 _ h9 => hF746 q9 h9) hF746 (fun r751 u750 t750 H750 L750 ht750 hvm750 hw750 hB750 hz750 hk750 hS => ?_)
  have hP := pq_keep hP hD [1] rfl hk750 hB750.1 ht750
  have hG : s.heap.size + 592 ≤ H750.size := Nat.le_trans hG hz750
  refine W.eq (g2 := F0 m 17 ls [.int 5, .int 2]) (by rw [hw750]) ?_
  refine lv_icmp_ge (tgt := 119) hx hb dX9_shown_17 (by decide) (fun cz => absurd cz (by decide)) (fun _ => ?_)
  refine lv_bipush (v := 48) hx hb dX9_shown_20 (by decide) ?_
  refine lv_istore_n (lv' := [(3, .int 48), (2, .int 2), (1, .int 0), (0, .ref h0)]) hx hb dX9_shown_22 rfl hl (by decide) rfl (fun ls hl => ?_)
  exact hend _ _ _ hS (hP.sub [0, 1, 2, 3, 4, 5, 6, 7, 8, 9, 10, 11, 12] rfl) (hD.sub [0, 1, 2, 3, 4, 5, 6, 7, 8, 9, 10, 11, 12] rfl rfl) (lv_sub hl [0, 1, 2, 3] rfl) hG
