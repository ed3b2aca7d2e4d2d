set_option maxHeartbeats 8000000 in
set_option maxRecDepth 100000 in
theorem k669_shown_g2 {p : Program} {l : Launch} {e : Env} {s : State} {m : MethodId} {args : Array Value} {below : List Frame} {meth : Method} {c : Code} {Q : State → Prop} {A : Nat → Prop} {H : Heap} {locs : List Loc} {ls : Array Slot} {dC : Nat → ClassId} {dI : Nat → Nat → Nat} {z : XZ} {h0 h1 h2 h3 h4 h5 h6 h7 h8 h9 h10 h11 h12 : Nat} {kc0 kc1 kc2 : ClassId} (hl9 : l.stackTraces = false) (hx : p.tables.exec = Jvm.exec) (hb : c.code = cX9_shown) (hml : c.maxLocals = 7) (hown : s.vm.findClass RX9 = some m.cls) (hts : ∀ w ∈ wsL_law, w.before args s = true) (hA : ∀ q : Nat, s.heap.size ≤ q → A q) (hX : XE z A s s.heap) (hT : XT s) (hS : va_S A s.heap H locs) (hP : va_P (dC, dI) xCl [(h0, ce21 h1 h2 h3 h4), (h1, ce201 h5), (h2, ce3 z.1), (h3, ce276 h6), (h4, ce226 h7), (h5, ce200 kc0 h8 h9 h10 h11 h12), (h6, ce275 kc1 (z.2.2.1 128) (z.2.2.1 128) (z.2.2.1 128) (z.2.2.1 128) (z.2.2.1 128) (z.2.2.1 128) (z.2.2.1 128)), (h7, ce200 kc2 (z.2.2.1 128) (z.2.2.1 129) (z.2.2.1 130) (z.2.2.1 131) (z.2.2.1 132)), (h8, ce49), (h9, ce49), (h10, ce49), (h11, ce49), (h12, ce49)] H) (hD : va_D A [(h0, ce21 h1 h2 h3 h4), (h1, ce201 h5), (h2, ce3 z.1), (h3, ce276 h6), (h4, ce226 h7), (h5, ce200 kc0 h8 h9 h10 h11 h12), (h6, ce275 kc1 (z.2.2.1 128) (z.2.2.1 128) (z.2.2.1 128) (z.2.2.1 128) (z.2.2.1 128) (z.2.2.1 128) (z.2.2.1 128)), (h7, ce200 kc2 (z.2.2.1 128) (z.2.2.1 129) (z.2.2.1 130) (z.2.2.1 131) (z.2.2.1 132)), (h8, ce49), (h9, ce49), (h10, ce49), (h11, ce49), (h12, ce49)]) (hK : va_K (dC, dI) xCl [(kc0, .object "java/lang/Object"), (kc1, .object "java/lang/Object"), (kc2, .object "java/lang/Object")] s) (hl : lv_has ls 7 [(3, .int 49), (1, .int 0), (2, .int 0), (0, .ref h0)]) (hG : s.heap.size + 148 ≤ H.size) (hend : ∀ (H' : Heap) (locs' : List Loc) (ls' : Array Slot), va_S A s.heap H' locs' → va_P (dC, dI) xCl [(h0, ce21 h1 h2 h3 h4), (h1, ce201 h5), (h2, ce3 z.1), (h3, ce276 h6), (h4, ce226 h7), (h5, ce200 kc0 h8 h9 h10 h11 h12), (h6, ce275 kc1 (z.2.2.1 128) (z.2.2.1 128) (z.2.2.1 128) (z.2.2.1 128) (z.2.2.1 128) (z.2.2.1 128) (z.2.2.1 128)), (h7, ce200 kc2 (z.2.2.1 128) (z.2.2.1 129) (z.2.2.1 130) (z.2.2.1 131) (z.2.2.1 132)), (h8, ce49), (h9, ce49), (h10, ce49), (h11, ce49), (h12, ce49)] H' → va_D A [(h0, ce21 h1 h2 h3 h4), (h1, ce201 h5), (h2, ce3 z.1), (h3, ce276 h6), (h4, ce226 h7), (h5, ce200 kc0 h8 h9 h10 h11 h12), (h6, ce275 kc1 (z.2.2.1 128) (z.2.2.1 128) (z.2.2.1 128) (z.2.2.1 128) (z.2.2.1 128) (z.2.2.1 128) (z.2.2.1 128)), (h7, ce200 kc2 (z.2.2.1 128) (z.2.2.1 129) (z.2.2.1 130) (z.2.2.1 131) (z.2.2.1 132)), (h8, ce49), (h9, ce49), (h10, ce49), (h11, ce49), (h12, ce49)] → lv_has ls' 7 [(3, .int 50), (1, .int 0), (2, .int 0), (0, .ref h0)] → s.heap.size + 296 ≤ H'.size → W p l e ({ frames := 5, cells := 1480, slots := 16000, locals := 121 } : Room) s m args below meth c H' locs' 296 3200 Q (F0 m 23 ls' [])) : W p l e ({ frames := 5, cells := 1480, slots := 16000, locals := 121 } : Room) s m args below meth c H locs 148 1600 Q (F0 m 23 ls []) := by
  refine lv_iload_n hx hb dX9_shown_23 rfl (lv_at hl 0 rfl) ?_
  refine lv_bipush (v := 49) hx hb dX9_shown_24 (by decide) ?_
  refine lv_icmp_gt (tgt := 113) hx hb dX9_shown_26 (by decide) (fun cz => absurd cz (by decide)) (fun _ => ?_)
  refine lv_iconst (v := 0) hx hb dX9_shown_29 (by decide) ?_
  refine lv_istore (lv' := [(4, .int 0), (3, .int 49), (1, .int 0), (2, .int 0), (0, .ref h0)]) hx hb dX9_shown_30 hl (by decide) rfl (fun ls hl => ?_)
  refine lv_aload_n hx hb dX9_shown_32 rfl (lv_at hl 4 rfl) ?_
  refine va_get (D := (dC, dI)) (ci := 8) (v := .ref h3) (C := RX9) (T := TX9) (N := 6) hx hb hts in_X9 hown hK hP 0 rfl rfl 3 (by decide) (hts _ q_66) (fun _ h9 => h9) rfl dX9_shown_33 ?_
  have hM193 := k619_iterator l hl9 dC dI z h3 h6 H.size
  obtain ⟨hF191, hC194⟩ := pc_M hM193 hP hD hK hS hX hT hA [3] [] rfl rfl rfl
  refine va_callr (va_runV (As := []) (rest := []) ⟨hx, hb, hml, hown, hts⟩ hM193 (cwV 0 hts (gV q_256 q_257 q_258 q_12 q_255) rfl rfl rfl hV_Jx4a65c_iterator_32c93 ⟨Nat.le_of_ble_eq_true rfl, Nat.le_of_ble_eq_true rfl⟩) ⟨pc_blind, va_recv hK hP (ci := 0) (q0 := 3) rfl rfl, fun U hU hW => ⟨rfl, hC194 U hU hW⟩⟩ rfl rfl hl.1 rfl (lv_room (Nat.le_of_ble_eq_true rfl)) dX9_shown_36 ⟨(Nat.le_of_ble_eq_true rfl), (Nat.le_of_ble_eq_true rfl)⟩) hS (fun q9 _ h9 => hF191 q9 h9) hF191 (fun u195 r196 t195 H195 L195 ht195 hvm195 hw195 hB195 hz195 hk195 hS => ?_)
  obtain ⟨a197, hr195, hB195⟩ := hB195
  obtain ⟨hP, hD, hK⟩ := pq_jn (wz := [(h0, ce21 h1 h2 h3 h4), (h1, ce201 h5), (h2, ce3 z.1), (h4, ce226 h7), (h5, ce200 kc0 h8 h9 h10 h11 h12), (h6, ce275 kc1 (z.2.2.1 128) (z.2.2.1 128) (z.2.2.1 128) (z.2.2.1 128) (z.2.2.1 128) (z.2.2.1 128) (z.2.2.1 128)), (h7, ce200 kc2 (z.2.2.1 128) (z.2.2.1 129) (z.2.2.1 130) (z.2.2.1 131) (z.2.2.1 132)), (h8, ce49), (h9, ce49), (h10, ce49), (h11, ce49), (h12, ce49), (h3, ce276 h6), (a197, ce292 h3)]) (tz := [(kc0, .object "java/lang/Object"), (kc1, .object "java/lang/Object"), (kc2, .object "java/lang/Object")]) hP hD hK [3] [0, 1, 2] rfl hk195 hF191 hB195.1 ht195 hvm195 rfl rfl
  have hG : s.heap.size + 149 ≤ H195.size := va_gr (g := 148) (g1 := 1) hG (by rw [← ht195]; exact hB195.2)
  refine W.eq (g2 := F0 m 39 ls [.ref a197]) (by rw [hr195]) ?_
  refine W.widen (k := 149) (n := 1604) (by decide) (by decide) ?_
  refine lv_astore (lv' := [(5, .ref a197), (4, .int 0), (3, .int 49), (1, .int 0), (2, .int 0), (0, .ref h0)]) hx hb dX9_shown_39 hl (by decide) rfl (fun ls hl => ?_)
  refine lv_aload hx hb dX9_shown_41 (lv_at hl 0 rfl) ?_
  have hM200 := k620_hasNext l hl9 dC dI z a197 h3 h6 H195.size
  obtain ⟨hF198, hC201⟩ := pc_M hM200 hP hD hK hS hX hT hA [13, 12] [] rfl rfl rfl
  refine va_callFi (va_runF (As := []) (rest := []) (hK.1 1 _ rfl).2 ⟨hx, hb, hml, hown, hts⟩ hM200 (va_cwF 0 hts (gF q_261 q_262 q_263 q_246 q_260) rfl rfl rfl hT.2.2.2.2.2.2.1 hF_xIh ⟨Nat.le_of_ble_eq_true rfl, Nat.le_of_ble_eq_true rfl⟩) ⟨pc_blind, va_recv hK hP (ci := 1) (q0 := 13) rfl rfl, fun U hU hW => ⟨rfl, hC201 U hU hW⟩⟩ rfl rfl hl.1 rfl (lv_room (Nat.le_of_ble_eq_true rfl)) dX9_shown_43 ⟨(Nat.le_of_ble_eq_true rfl), (Nat.le_of_ble_eq_true rfl)⟩) hS (fun q9 _ h9 => hF198 q9 h9) hF198 (fun r203 u202 t202 H202 L202 ht202 hvm202 hw202 hB202 hz202 hk202 hS => ?_)
  have hP := pq_keep hP hD [13, 12] rfl hk202 hB202.1 ht202
  have hG : s.heap.size + 149 ≤ H202.size := Nat.le_trans hG hz202
  refine W.eq (g2 := F0 m 48 ls [.int 1]) (by rw [hw202]) ?_
  refine lv_if_eq (tgt := 92) hx hb dX9_shown_48 (by decide) (fun cz => absurd cz (by decide)) (fun _ => ?_)
  refine lv_aload hx hb dX9_shown_51 (lv_at hl 0 rfl) ?_
  have hM206 := k622_next l hl9 dC dI z a197 h3 h6 H202.size kc1
  obtain ⟨hF204, hC207⟩ := pc_M hM206 hP hD hK hS hX hT hA [13, 12, 5] [1] rfl rfl rfl
  refine va_callFr (va_runF (As := []) (rest := []) (hK.1 1 _ rfl).2 ⟨hx, hb, hml, hown, hts⟩ hM206 (va_cwF 0 hts (gF q_308 q_309 q_310 q_246 q_307) rfl rfl rfl hT.2.2.2.2.2.2.2.1 hF_xIn ⟨Nat.le_of_ble_eq_true rfl, Nat.le_of_ble_eq_true rfl⟩) ⟨pc_blind, va_recv hK hP (ci := 1) (q0 := 13) rfl rfl, fun U hU hW => ⟨rfl, hC207 U hU hW⟩⟩ rfl rfl hl.1 rfl (lv_room (Nat.le_of_ble_eq_true rfl)) dX9_shown_53 ⟨(Nat.le_of_ble_eq_true rfl), (Nat.le_of_ble_eq_true rfl)⟩) hS (fun q9 _ h9 => hF204 q9 h9) hF204 (fun u208 r209 t208 H208 L208 ht208 hvm208 hw208 hB208 hz208 hk208 hS => ?_)
  obtain ⟨hr208, hB208⟩ := hB208
  obtain ⟨hP, hD, hK⟩ := pq_jn (wz := [(h0, ce21 h1 h2 h3 h4), (h1, ce201 h5), (h2, ce3 z.1), (h4, ce226 h7), (h5, ce200 kc0 h8 h9 h10 h11 h12), (h7, ce200 kc2 (z.2.2.1 128) (z.2.2.1 129) (z.2.2.1 130) (z.2.2.1 131) (z.2.2.1 132)), (h8, ce49), (h9, ce49), (h10, ce49), (h11, ce49), (h12, ce49), (a197, ce294 h3), (h3, ce276 h6), (h6, ce275 kc1 (z.2.2.1 128) (z.2.2.1 128) (z.2.2.1 128) (z.2.2.1 128) (z.2.2.1 128) (z.2.2.1 128) (z.2.2.1 128))]) (tz := [(kc0, .object "java/lang/Object"), (kc2, .object "java/lang/Object"), (kc1, .object "java/lang/Object")]) hP hD hK [13, 12, 5] [0, 2] rfl hk208 hF204 hB208.1 ht208 hvm208 rfl rfl
  have hG : s.heap.size + 149 ≤ H208.size := Nat.le_trans hG hz208
  refine W.eq (g2 := F0 m 58 ls [.ref (z.2.2.1 128)]) (by rw [hr208]) ?_
  refine va_castE (nm := "java/lang/Integer") hx hb hown (hts _ q_320) (va_Orecv (hX.2.2.1.1.1 128 (by decide)) hS) dX9_shown_58 ?_
  have hM212 := k74_intValue l hl9 dC dI z H208.size
  obtain ⟨hF210, hC213⟩ := pc_M hM212 hP hD hK hS hX hT hA [] [] rfl rfl rfl
  refine va_calli (va_runV (As := []) (rest := []) ⟨hx, hb, hml, hown, hts⟩ hM212 (cwV 0 hts (gV q_323 q_324 q_325 q_297 q_322) rfl rfl rfl hV_J6_intValue_8abf5 ⟨Nat.le_of_ble_eq_true rfl, Nat.le_of_ble_eq_true rfl⟩) ⟨pc_blind, va_Orecv (hX.2.2.1.1.1 128 (by decide)) hS, fun U hU hW => ⟨rfl, hC213 U hU hW⟩⟩ rfl rfl hl.1 rfl (lv_room (Nat.le_of_ble_eq_true rfl)) dX9_shown_61 ⟨(Nat.le_of_ble_eq_true rfl), (Nat.le_of_ble_eq_true rfl)⟩) hS (fun q9 _ h9 => hF210 q9 h9) hF210 (fun r215 u214 t214 H214 L214 ht214 hvm214 hw214 hB214 hz214 hk214 hS => ?_)
  have hP := pq_keep hP hD [] rfl hk214 hB214.1 ht214
  have hG : s.heap.size + 149 ≤ H214.size := Nat.le_trans hG hz214
  refine W.eq (g2 := F0 m 64 ls [.int 0]) (by rw [hw214]) ?_
  refine lv_istore (lv' := [(6, .int 0), (5, .ref a197), (4, .int 0), (3, .int 49), (1, .int 0), (2, .int 0), (0, .ref h0)]) hx hb dX9_shown_64 hl (by decide) rfl (fun ls hl => ?_)
  refine lv_iload hx hb dX9_shown_66 (lv_at hl 2 rfl) ?_
  refine lv_if_ne (tgt := 82) hx hb dX9_shown_68 (by decide) (fun cz => absurd (by decide) cz) (fun _ => ?_)
  refine lv_aload_n hx hb dX9_shown_71 rfl (lv_at hl 6 rfl) ?_
  refine lv_iload_n hx hb dX9_shown_72 rfl (lv_at hl 5 rfl) ?_
  refine lv_iload_n hx hb dX9_shown_73 rfl (lv_at hl 3 rfl) ?_
  refine lv_iload hx hb dX9_shown_74 (lv_at hl 0 rfl) ?_
  have hM218 := k652_showsIt l hl9 dC dI z h0 h1 h2 h4 h5 h7 h8 h9 h10 h11 h12 h3 H214.size kc0 kc2
  obtain ⟨hF216, hC219⟩ := pc_M hM218 hP hD hK hS hX hT hA [0, 1, 2, 3, 4, 5, 6, 7, 8, 9, 10] [0, 1] rfl rfl rfl
  refine va_calli (va_runV (As := [.int 0, .int 49, .int 0]) (rest := []) ⟨hx, hb, hml, hown, hts⟩ hM218 (cwV 3 hts (gV q_429 q_430 q_431 q_60 q_428) rfl rfl rfl hV_X9_showsIt ⟨Nat.le_of_ble_eq_true rfl, Nat.le_of_ble_eq_true rfl⟩) ⟨pc_blind, va_recv hK hP (ci := 8) (q0 := 0) rfl rfl, fun U hU hW => ⟨rfl, hC219 U hU hW⟩⟩ rfl rfl hl.1 rfl (lv_room (Nat.le_of_ble_eq_true rfl)) dX9_shown_76 ⟨(Nat.le_of_ble_eq_true rfl), (Nat.le_of_ble_eq_true rfl)⟩) hS (fun q9 _ h9 => hF216 q9 h9) hF216 (fun r221 u220 t220 H220 L220 ht220 hvm220 hw220 hB220 hz220 hk220 hS => ?_)
  have hP := pq_keep hP hD [0, 1, 2, 3, 4, 5, 6, 7, 8, 9, 10] rfl hk220 hB220.1 ht220
  have hG : s.heap.size + 170 ≤ H220.size := va_gr (g := 149) (g1 := 21) hG (by rw [← ht220]; exact hB220.2)
  refine W.eq (g2 := F0 m 79 ls [.int 0]) (by rw [hw220]) ?_
  refine W.widen (k := 170) (n := 1832) (by decide) (by decide) ?_
  refine lv_if_eq (tgt := 86) hx hb dX9_shown_79 (by decide) (fun _ => ?_) (fun cz => absurd (by decide) cz)
  refine lv_iconst (v := 0) hx hb dX9_shown_86 (by decide) ?_
  refine lv_istore (lv' := [(4, .int 0), (6, .int 0), (5, .ref a197), (3, .int 49), (1, .int 0), (2, .int 0), (0, .ref h0)]) hx hb dX9_shown_87 hl (by decide) rfl (fun ls hl => ?_)
  refine lv_goto (tgt := 41) hx hb dX9_shown_89 (by decide) ?_
  refine lv_aload hx hb dX9_shown_41 (lv_at hl 2 rfl) ?_
  have hM224 := k632_hasNext l hl9 dC dI z a197 h3 h6 H220.size
  obtain ⟨hF222, hC225⟩ := pc_M hM224 hP hD hK hS hX hT hA [11, 12] [] rfl rfl rfl
  refine va_callFi (va_runF (As := []) (rest := []) (hK.1 1 _ rfl).2 ⟨hx, hb, hml, hown, hts⟩ hM224 (va_cwF 0 hts (gF q_261 q_262 q_263 q_246 q_260) rfl rfl rfl hT.2.2.2.2.2.2.1 hF_xIh ⟨Nat.le_of_ble_eq_true rfl, Nat.le_of_ble_eq_true rfl⟩) ⟨pc_blind, va_recv hK hP (ci := 1) (q0 := 11) rfl rfl, fun U hU hW => ⟨rfl, hC225 U hU hW⟩⟩ rfl rfl hl.1 rfl (lv_room (Nat.le_of_ble_eq_true rfl)) dX9_shown_43 ⟨(Nat.le_of_ble_eq_true rfl), (Nat.le_of_ble_eq_true rfl)⟩) hS (fun q9 _ h9 => hF222 q9 h9) hF222 (fun r227 u226 t226 H226 L226 ht226 hvm226 hw226 hB226 hz226 hk226 hS => ?_)
  have hP := pq_keep hP hD [11, 12] rfl hk226 hB226.1 ht226
  have hG : s.heap.size + 170 ≤ H226.size := Nat.le_trans hG hz226
  refine W.eq (g2 := F0 m 48 ls [.int 1]) (by rw [hw226]) ?_
  refine lv_if_eq (tgt := 92) hx hb dX9_shown_48 (by decide) (fun cz => absurd cz (by decide)) (fun _ => ?_)
  refine lv_aload hx hb dX9_shown_51 (lv_at hl 2 rfl) ?_
  have hM230 := k634_next l hl9 dC dI z a197 h3 h6 H226.size kc1
  obtain ⟨hF228, hC231⟩ := pc_M hM230 hP hD hK hS hX hT hA [11, 12, 13] [2] rfl rfl rfl
  refine va_callFr (va_runF (As := []) (rest := []) (hK.1 1 _ rfl).2 ⟨hx, hb, hml, hown, hts⟩ hM230 (va_cwF 0 hts (gF q_308 q_309 q_310 q_246 q_307) rfl rfl rfl hT.2.2.2.2.2.2.2.1 hF_xIn ⟨Nat.le_of_ble_eq_true rfl, Nat.le_of_ble_eq_true rfl⟩) ⟨pc_blind, va_recv hK hP (ci := 1) (q0 := 11) rfl rfl, fun U hU hW => ⟨rfl, hC231 U hU hW⟩⟩ rfl rfl hl.1 rfl (lv_room (Nat.le_of_ble_eq_true rfl)) dX9_shown_53 ⟨(Nat.le_of_ble_eq_true rfl), (Nat.le_of_ble_eq_true rfl)⟩) hS (fun q9 _ h9 => hF228 q9 h9) hF228 (fun u232 r233 t232 H232 L232 ht232 hvm232 hw232 hB232 hz232 hk232 hS => ?_)
  obtain ⟨hr232, hB232⟩ := hB232
  obtain ⟨hP, hD, hK⟩ := pq_jn (wz := [(h0, ce21 h1 h2 h3 h4), (h1, ce201 h5), (h2, ce3 z.1), (h4, ce226 h7), (h5, ce200 kc0 h8 h9 h10 h11 h12), (h7, ce200 kc2 (z.2.2.1 128) (z.2.2.1 129) (z.2.2.1 130) (z.2.2.1 131) (z.2.2.1 132)), (h8, ce49), (h9, ce49), (h10, ce49), (h11, ce49), (h12, ce49), (a197, ce310 h3), (h3, ce276 h6), (h6, ce275 kc1 (z.2.2.1 128) (z.2.2.1 128) (z.2.2.1 128) (z.2.2.1 128) (z.2.2.1 128) (z.2.2.1 128) (z.2.2.1 128))]) (tz := [(kc0, .object "java/lang/Object"), (kc2, .object "java/lang/Object"), (kc1, .object "java/lang/Object")]) hP hD hK [11, 12, 13] [0, 1] rfl hk232 hF228 hB232.1 ht232 hvm232 rfl rfl
  have hG : s.heap.size + 170 ≤ H232.size := Nat.le_trans hG hz232
  refine W.eq (g2 := F0 m 58 ls [.ref (z.2.2.1 128)]) (by rw [hr232]) ?_
  refine va_castE (nm := "java/lang/Integer") hx hb hown (hts _ q_320) (va_Orecv (hX.2.2.1.1.1 128 (by decide)) hS) dX9_shown_58 ?_
  have hM236 := k74_intValue l hl9 dC dI z H232.size
  obtain ⟨hF234, hC237⟩ := pc_M hM236 hP hD hK hS hX hT hA [] [] rfl rfl rfl
  refine va_calli (va_runV (As := []) (rest := []) ⟨hx, hb, hml, hown, hts⟩ hM236 (cwV 0 hts (gV q_323 q_324 q_325 q_297 q_322) rfl rfl rfl hV_J6_intValue_8abf5 ⟨Nat.le_of_ble_eq_true rfl, Nat.le_of_ble_eq_true rfl⟩) ⟨pc_blind, va_Orecv (hX.2.2.1.1.1 128 (by decide)) hS, fun U hU hW => ⟨rfl, hC237 U hU hW⟩⟩ rfl rfl hl.1 rfl (lv_room (Nat.le_of_ble_eq_true rfl)) dX9_shown_61 ⟨(Nat.le_of_ble_eq_true rfl), (Nat.le_of_ble_eq_true rfl)⟩) hS (fun q9 _ h9 => hF234 q9 h9) hF234 (fun r239 u238 t238 H238 L238 ht238 hvm238 hw238 hB238 hz238 hk238 hS => ?_)
  have hP := pq_keep hP hD [] rfl hk238 hB238.1 ht238
  have hG : s.heap.size + 170 ≤ H238.size := Nat.le_trans hG hz238
  refine W.eq (g2 := F0 m 64 ls [.int 0]) (by rw [hw238]) ?_
  refine lv_istore (lv' := [(6, .int 0), (4, .int 0), (5, .ref a197), (3, .int 49), (1, .int 0), (2, .int 0), (0, .ref h0)]) hx hb dX9_shown_64 hl (by decide) rfl (fun ls hl => ?_)
  refine lv_iload hx hb dX9_shown_66 (lv_at hl 1 rfl) ?_
  refine lv_if_ne (tgt := 82) hx hb dX9_shown_68 (by decide) (fun cz => absurd (by decide) cz) (fun _ => ?_)
  refine lv_aload_n hx hb dX9_shown_71 rfl (lv_at hl 6 rfl) ?_
  refine lv_iload_n hx hb dX9_shown_72 rfl (lv_at hl 5 rfl) ?_
  refine lv_iload_n hx hb dX9_shown_73 rfl (lv_at hl 3 rfl) ?_
  refine lv_iload hx hb dX9_shown_74 (lv_at hl 0 rfl) ?_
  have hM242 := k652_showsIt l hl9 dC dI z h0 h1 h2 h4 h5 h7 h8 h9 h10 h11 h12 h3 H238.size kc0 kc2
  obtain ⟨hF240, hC243⟩ := pc_M hM242 hP hD hK hS hX hT hA [0, 1, 2, 3, 4, 5, 6, 7, 8, 9, 10] [0, 1] rfl rfl rfl
  refine va_calli (va_runV (As := [.int 0, .int 49, .int 0]) (rest := []) ⟨hx, hb, hml, hown, hts⟩ hM242 (cwV 3 hts (gV q_429 q_430 q_431 q_60 q_428) rfl rfl rfl hV_X9_showsIt ⟨Nat.le_of_ble_eq_true rfl, Nat.le_of_ble_eq_true rfl⟩) ⟨pc_blind, va_recv hK hP (ci := 8) (q0 := 0) rfl rfl, fun U hU hW => ⟨rfl, hC243 U hU hW⟩⟩ rfl rfl hl.1 rfl (lv_room (Nat.le_of_ble_eq_true rfl)) dX9_shown_76 ⟨(Nat.le_of_ble_eq_true rfl), (Nat.le_of_ble_eq_true rfl)⟩) hS (fun q9 _ h9 => hF240 q9 h9) hF240 (fun r245 u244 t244 H244 L244 ht244 hvm244 hw244 hB244 hz244 hk244 hS => ?_)
  have hP := pq_keep hP hD [0, 1, 2, 3, 4, 5, 6, 7, 8, 9, 10] rfl hk244 hB244.1 ht244
  have hG : s.heap.size + 191 ≤ H244.size := va_gr (g := 170) (g1 := 21) hG (by rw [← ht244]; exact hB244.2)
  refine W.eq (g2 := F0 m 79 ls [.int 0]) (by rw [hw244]) ?_
  refine W.widen (k := 191) (n := 2060) (by decide) (by decide) ?_
  refine lv_if_eq (tgt := 86) hx hb dX9_shown_79 (by decide) (fun _ => ?_) (fun cz => absurd (by decide) cz)
  refine lv_iconst (v := 0) hx hb dX9_shown_86 (by decide) ?_
  refine lv_istore (lv' := [(4, .int 0), (6, .int 0), (5, .ref a197), (3, .int 49), (1, .int 0), (2, .int 0), (0, .ref h0)]) hx hb dX9_shown_87 hl (by decide) rfl (fun ls hl => ?_)
  refine lv_goto (tgt := 41) hx hb dX9_shown_89 (by decide) ?_
  refine lv_aload hx hb dX9_shown_41 (lv_at hl 2 rfl) ?_
  have hM248 := k635_hasNext l hl9 dC dI z a197 h3 h6 H244.size
  obtain ⟨hF246, hC249⟩ := pc_M hM248 hP hD hK hS hX hT hA [11, 12] [] rfl rfl rfl
  refine va_callFi (va_runF (As := []) (rest := []) (hK.1 1 _ rfl).2 ⟨hx, hb, hml, hown, hts⟩ hM248 (va_cwF 0 hts (gF q_261 q_262 q_263 q_246 q_260) rfl rfl rfl hT.2.2.2.2.2.2.1 hF_xIh ⟨Nat.le_of_ble_eq_true rfl, Nat.le_of_ble_eq_true rfl⟩) ⟨pc_blind, va_recv hK hP (ci := 1) (q0 := 11) rfl rfl, fun U hU hW => ⟨rfl, hC249 U hU hW⟩⟩ rfl rfl hl.1 rfl (lv_room (Nat.le_of_ble_eq_true rfl)) dX9_shown_43 ⟨(Nat.le_of_ble_eq_true rfl), (Nat.le_of_ble_eq_true rfl)⟩) hS (fun q9 _ h9 => hF246 q9 h9) hF246 (fun r251 u250 t250 H250 L250 ht250 hvm250 hw250 hB250 hz250 hk250 hS => ?_)
  have hP := pq_keep hP hD [11, 12] rfl hk250 hB250.1 ht250
  have hG : s.heap.size + 191 ≤ H250.size := Nat.le_trans hG hz250
  refine W.eq (g2 := F0 m 48 ls [.int 1]) (by rw [hw250]) ?_
  refine lv_if_eq (tgt := 92) hx hb dX9_shown_48 (by decide) (fun cz => absurd cz (by decide)) (fun _ => ?_)
  refine lv_aload hx hb dX9_shown_51 (lv_at hl 2 rfl) ?_
  have hM254 := k637_next l hl9 dC dI z a197 h3 h6 H250.size kc1
  obtain ⟨hF252, hC255⟩ := pc_M hM254 hP hD hK hS hX hT hA [11, 12, 13] [2] rfl rfl rfl
  refine va_callFr (va_runF (As := []) (rest := []) (hK.1 1 _ rfl).2 ⟨hx, hb, hml, hown, hts⟩ hM254 (va_cwF 0 hts (gF q_308 q_309 q_310 q_246 q_307) rfl rfl rfl hT.2.2.2.2.2.2.2.1 hF_xIn ⟨Nat.le_of_ble_eq_true rfl, Nat.le_of_ble_eq_true rfl⟩) ⟨pc_blind, va_recv hK hP (ci := 1) (q0 := 11) rfl rfl, fun U hU hW => ⟨rfl, hC255 U hU hW⟩⟩ rfl rfl hl.1 rfl (lv_room (Nat.le_of_ble_eq_true rfl)) dX9_shown_53 ⟨(Nat.le_of_ble_eq_true rfl), (Nat.le_of_ble_eq_true rfl)⟩) hS (fun q9 _ h9 => hF252 q9 h9) hF252 (fun u256 r257 t256 H256 L256 ht256 hvm256 hw256 hB256 hz256 hk256 hS => ?_)
  obtain ⟨hr256, hB256⟩ := hB256
  obtain ⟨hP, hD, hK⟩ := pq_jn (wz := [(h0, ce21 h1 h2 h3 h4), (h1, ce201 h5), (h2, ce3 z.1), (h4, ce226 h7), (h5, ce200 kc0 h8 h9 h10 h11 h12), (h7, ce200 kc2 (z.2.2.1 128) (z.2.2.1 129) (z.2.2.1 130) (z.2.2.1 131) (z.2.2.1 132)), (h8, ce49), (h9, ce49), (h10, ce49), (h11, ce49), (h12, ce49), (a197, ce312 h3), (h3, ce276 h6), (h6, ce275 kc1 (z.2.2.1 128) (z.2.2.1 128) (z.2.2.1 128) (z.2.2.1 128) (z.2.2.1 128) (z.2.2.1 128) (z.2.2.1 128))]) (tz := [(kc0, .object "java/lang/Object"), (kc2, .object "java/lang/Object"), (kc1, .object "java/lang/Object")]) hP hD hK [11, 12, 13] [0, 1] rfl hk256 hF252 hB256.1 ht256 hvm256 rfl rfl
  have hG : s.heap.size + 191 ≤ H256.size := Nat.le_trans hG hz256
  refine W.eq (g2 := F0 m 58 ls [.ref (z.2.2.1 128)]) (by rw [hr256]) ?_
  refine va_castE (nm := "java/lang/Integer") hx hb hown (hts _ q_320) (va_Orecv (hX.2.2.1.1.1 128 (by decide)) hS) dX9_shown_58 ?_
  have hM260 := k74_intValue l hl9 dC dI z H256.size
  obtain ⟨hF258, hC261⟩ := pc_M hM260 hP hD hK hS hX hT hA [] [] rfl rfl rfl
  refine va_calli (va_runV (As := []) (rest := []) ⟨hx, hb, hml, hown, hts⟩ hM260 (cwV 0 hts (gV q_323 q_324 q_325 q_297 q_322) rfl rfl rfl hV_J6_intValue_8abf5 ⟨Nat.le_of_ble_eq_true rfl, Nat.le_of_ble_eq_true rfl⟩) ⟨pc_blind, va_Orecv (hX.2.2.1.1.1 128 (by decide)) hS, fun U hU hW => ⟨rfl, hC261 U hU hW⟩⟩ rfl rfl hl.1 rfl (lv_room (Nat.le_of_ble_eq_true rfl)) dX9_shown_61 ⟨(Nat.le_of_ble_eq_true rfl), (Nat.le_of_ble_eq_true rfl)⟩) hS (fun q9 _ h9 => hF258 q9 h9) hF258 (fun r263 u262 t262 H262 L262 ht262 hvm262 hw262 hB262 hz262 hk262 hS => ?_)
  have hP := pq_keep hP hD [] rfl hk262 hB262.1 ht262
  have hG : s.heap.size + 191 ≤ H262.size := Nat.le_trans hG hz262
  refine W.eq (g2 := F0 m 64 ls [.int 0]) (by rw [hw262]) ?_
  refine lv_istore (lv' := [(6, .int 0), (4, .int 0), (5, .ref a197), (3, .int 49), (1, .int 0), (2, .int 0), (0, .ref h0)]) hx hb dX9_shown_64 hl (by decide) rfl (fun ls hl => ?_)
  refine lv_iload hx hb dX9_shown_66 (lv_at hl 1 rfl) ?_
  refine lv_if_ne (tgt := 82) hx hb dX9_shown_68 (by decide) (fun cz => absurd (by decide) cz) (fun _ => ?_)
  refine lv_aload_n hx hb dX9_shown_71 rfl (lv_at hl 6 rfl) ?_
  refine lv_iload_n hx hb dX9_shown_72 rfl (lv_at hl 5 rfl) ?_
  refine lv_iload_n hx hb dX9_shown_73 rfl (lv_at hl 3 rfl) ?_
  refine lv_iload hx hb dX9_shown_74 (lv_at hl 0 rfl) ?_
  have hM266 := k652_showsIt l hl9 dC dI z h0 h1 h2 h4 h5 h7 h8 h9 h10 h11 h12 h3 H262.size kc0 kc2
  obtain ⟨hF264, hC267⟩ := pc_M hM266 hP hD hK hS hX hT hA [0, 1, 2, 3, 4, 5, 6, 7, 8, 9, 10] [0, 1] rfl rfl rfl
  refine va_calli (va_runV (As := [.int 0, .int 49, .int 0]) (rest := []) ⟨hx, hb, hml, hown, hts⟩ hM266 (cwV 3 hts (gV q_429 q_430 q_431 q_60 q_428) rfl rfl rfl hV_X9_showsIt ⟨Nat.le_of_ble_eq_true rfl, Nat.le_of_ble_eq_true rfl⟩) ⟨pc_blind, va_recv hK hP (ci := 8) (q0 := 0) rfl rfl, fun U hU hW => ⟨rfl, hC267 U hU hW⟩⟩ rfl rfl hl.1 rfl (lv_room (Nat.le_of_ble_eq_true rfl)) dX9_shown_76 ⟨(Nat.le_of_ble_eq_true rfl), (Nat.le_of_ble_eq_true rfl)⟩) hS (fun q9 _ h9 => hF264 q9 h9) hF264 (fun r269 u268 t268 H268 L268 ht268 hvm268 hw268 hB268 hz268 hk268 hS => ?_)
  have hP := pq_keep hP hD [0, 1, 2, 3, 4, 5, 6, 7, 8, 9, 10] rfl hk268 hB268.1 ht268
  have hG : s.heap.size + 212 ≤ H268.size := va_gr (g := 191) (g1 := 21) hG (by rw [← ht268]; exact hB268.2)
  refine W.eq (g2 := F0 m 79 ls [.int 0]) (by rw [hw268]) ?_
  refine W.widen (k := 212) (n := 2288) (by decide) (by decide) ?_
  refine lv_if_eq (tgt := 86) hx hb dX9_shown_79 (by decide) (fun _ => ?_) (fun cz => absurd (by decide) cz)
  refine lv_iconst (v := 0) hx hb dX9_shown_86 (by decide) ?_
  refine lv_istore (lv' := [(4, .int 0), (6, .int 0), (5, .ref a197), (3, .int 49), (1, .int 0), (2, .int 0), (0, .ref h0)]) hx hb dX9_shown_87 hl (by decide) rfl (fun ls hl => ?_)
  refine lv_goto (tgt := 41) hx hb dX9_shown_89 (by decide) ?_
  refine lv_aload hx hb dX9_shown_41 (lv_at hl 2 rfl) ?_
  have hM272 := k638_hasNext l hl9 dC dI z a197 h3 h6 H268.size
  obtain ⟨hF270, hC273⟩ := pc_M hM272 hP hD hK hS hX hT hA [11, 12] [] rfl rfl rfl
  refine va_callFi (va_runF (As := []) (rest := []) (hK.1 1 _ rfl).2 ⟨hx, hb, hml, hown, hts⟩ hM272 (va_cwF 0 hts (gF q_261 q_262 q_263 q_246 q_260) rfl rfl rfl hT.2.2.2.2.2.2.1 hF_xIh ⟨Nat.le_of_ble_eq_true rfl, Nat.le_of_ble_eq_true rfl⟩) ⟨pc_blind, va_recv hK hP (ci := 1) (q0 := 11) rfl rfl, fun U hU hW => ⟨rfl, hC273 U hU hW⟩⟩ rfl rfl hl.1 rfl (lv_room (Nat.le_of_ble_eq_true rfl)) dX9_shown_43 ⟨(Nat.le_of_ble_eq_true rfl), (Nat.le_of_ble_eq_true rfl)⟩) hS (fun q9 _ h9 => hF270 q9 h9) hF270 (fun r275 u274 t274 H274 L274 ht274 hvm274 hw274 hB274 hz274 hk274 hS => ?_)
  have hP := pq_keep hP hD [11, 12] rfl hk274 hB274.1 ht274
  have hG : s.heap.size + 212 ≤ H274.size := Nat.le_trans hG hz274
  refine W.eq (g2 := F0 m 48 ls [.int 1]) (by rw [hw274]) ?_
  refine lv_if_eq (tgt := 92) hx hb dX9_shown_48 (by decide) (fun cz => absurd cz (by decide)) (fun _ => ?_)
  refine lv_aload hx hb dX9_shown_51 (lv_at hl 2 rfl) ?_
  have hM278 := k640_next l hl9 dC dI z a197 h3 h6 H274.size kc1
  obtain ⟨hF276, hC279⟩ := pc_M hM278 hP hD hK hS hX hT hA [11, 12, 13] [2] rfl rfl rfl
  refine va_callFr (va_runF (As := []) (rest := []) (hK.1 1 _ rfl).2 ⟨hx, hb, hml, hown, hts⟩ hM278 (va_cwF 0 hts (gF q_308 q_309 q_310 q_246 q_307) rfl rfl rfl hT.2.2.2.2.2.2.2.1 hF_xIn ⟨Nat.le_of_ble_eq_true rfl, Nat.le_of_ble_eq_true rfl⟩) ⟨pc_blind, va_recv hK hP (ci := 1) (q0 := 11) rfl rfl, fun U hU hW => ⟨rfl, hC279 U hU hW⟩⟩ rfl rfl hl.1 rfl (lv_room (Nat.le_of_ble_eq_true rfl)) dX9_shown_53 ⟨(Nat.le_of_ble_eq_true rfl), (Nat.le_of_ble_eq_true rfl)⟩) hS (fun q9 _ h9 => hF276 q9 h9) hF276 (fun u280 r281 t280 H280 L280 ht280 hvm280 hw280 hB280 hz280 hk280 hS => ?_)
  obtain ⟨hr280, hB280⟩ := hB280
  obtain ⟨hP, hD, hK⟩ := pq_jn (wz := [(h0, ce21 h1 h2 h3 h4), (h1, ce201 h5), (h2, ce3 z.1), (h4, ce226 h7), (h5, ce200 kc0 h8 h9 h10 h11 h12), (h7, ce200 kc2 (z.2.2.1 128) (z.2.2.1 129) (z.2.2.1 130) (z.2.2.1 131) (z.2.2.1 132)), (h8, ce49), (h9, ce49), (h10, ce49), (h11, ce49), (h12, ce49), (a197, ce314 h3), (h3, ce276 h6), (h6, ce275 kc1 (z.2.2.1 128) (z.2.2.1 128) (z.2.2.1 128) (z.2.2.1 128) (z.2.2.1 128) (z.2.2.1 128) (z.2.2.1 128))]) (tz := [(kc0, .object "java/lang/Object"), (kc2, .object "java/lang/Object"), (kc1, .object "java/lang/Object")]) hP hD hK [11, 12, 13] [0, 1] rfl hk280 hF276 hB280.1 ht280 hvm280 rfl rfl
  have hG : s.heap.size + 212 ≤ H280.size := Nat.le_trans hG hz280
  refine W.eq (g2 := F0 m 58 ls [.ref (z.2.2.1 128)]) (by rw [hr280]) ?_
  refine va_castE (nm := "java/lang/Integer") hx hb hown (hts _ q_320) (va_Orecv (hX.2.2.1.1.1 128 (by decide)) hS) dX9_shown_58 ?_
  have hM284 := k74_intValue l hl9 dC dI z H280.size
  obtain ⟨hF282, hC285⟩ := pc_M hM284 hP hD hK hS hX hT hA [] [] rfl rfl rfl
  refine va_calli (va_runV (As := []) (rest := []) ⟨hx, hb, hml, hown, hts⟩ hM284 (cwV 0 hts (gV q_323 q_324 q_325 q_297 q_322) rfl rfl rfl hV_J6_intValue_8abf5 ⟨Nat.le_of_ble_eq_true rfl, Nat.le_of_ble_eq_true rfl⟩) ⟨pc_blind, va_Orecv (hX.2.2.1.1.1 128 (by decide)) hS, fun U hU hW => ⟨rfl, hC285 U hU hW⟩⟩ rfl rfl hl.1 rfl (lv_room (Nat.le_of_ble_eq_true rfl)) dX9_shown_61 ⟨(Nat.le_of_ble_eq_true rfl), (Nat.le_of_ble_eq_true rfl)⟩) hS (fun q9 _ h9 => hF282 q9 h9) hF282 (fun r287 u286 t286 H286 L286 ht286 hvm286 hw286 hB286 hz286 hk286 hS => ?_)
  have hP := pq_keep hP hD [] rfl hk286 hB286.1 ht286
  have hG : s.heap.size + 212 ≤ H286.size := Nat.le_trans hG hz286
  refine W.eq (g2 := F0 m 64 ls [.int 0]) (by rw [hw286]) ?_
  refine lv_istore (lv' := [(6, .int 0), (4, .int 0), (5, .ref a197), (3, .int 49), (1, .int 0), (2, .int 0), (0, .ref h0)]) hx hb dX9_shown_64 hl (by decide) rfl (fun ls hl => ?_)
  refine lv_iload hx hb dX9_shown_66 (lv_at hl 1 rfl) ?_
  refine lv_if_ne (tgt := 82) hx hb dX9_shown_68 (by decide) (fun cz => absurd (by decide) cz) (fun _ => ?_)
  refine lv_aload_n hx hb dX9_shown_71 rfl (lv_at hl 6 rfl) ?_
  refine lv_iload_n hx hb dX9_shown_72 rfl (lv_at hl 5 rfl) ?_
  refine lv_iload_n hx hb dX9_shown_73 rfl (lv_at hl 3 rfl) ?_
  refine lv_iload hx hb dX9_shown_74 (lv_at hl 0 rfl) ?_
  have hM290 := k652_showsIt l hl9 dC dI z h0 h1 h2 h4 h5 h7 h8 h9 h10 h11 h12 h3 H286.size kc0 kc2
  obtain ⟨hF288, hC291⟩ := pc_M hM290 hP hD hK hS hX hT hA [0, 1, 2, 3, 4, 5, 6, 7, 8, 9, 10] [0, 1] rfl rfl rfl
  refine va_calli (va_runV (As := [.int 0, .int 49, .int 0]) (rest := []) ⟨hx, hb, hml, hown, hts⟩ hM290 (cwV 3 hts (gV q_429 q_430 q_431 q_60 q_428) rfl rfl rfl hV_X9_showsIt ⟨Nat.le_of_ble_eq_true rfl, Nat.le_of_ble_eq_true rfl⟩) ⟨pc_blind, va_recv hK hP (ci := 8) (q0 := 0) rfl rfl, fun U hU hW => ⟨rfl, hC291 U hU hW⟩⟩ rfl rfl hl.1 rfl (lv_room (Nat.le_of_ble_eq_true rfl)) dX9_shown_76 ⟨(Nat.le_of_ble_eq_true rfl), (Nat.le_of_ble_eq_true rfl)⟩) hS (fun q9 _ h9 => hF288 q9 h9) hF288 (fun r293 u292 t292 H292 L292 ht292 hvm292 hw292 hB292 hz292 hk292 hS => ?_)
  have hP := pq_keep hP hD [0, 1, 2, 3, 4, 5, 6, 7, 8, 9, 10] rfl hk292 hB292.1 ht292
  have hG : s.heap.size + 233 ≤ H292.size := va_gr (g := 212) (g1 := 21) hG (by rw [← ht292]; exact hB292.2)
  refine W.eq (g2 := F0 m 79 ls [.int 0]) (by rw [hw292]) ?_
  refine W.widen (k := 233) (n := 2516) (by decide) (by decide) ?_
  refine lv_if_eq (tgt := 86) hx hb dX9_shown_79 (by decide) (fun _ => ?_) (fun cz => absurd (by decide) cz)
  refine lv_iconst (v := 0) hx hb dX9_shown_86 (by decide) ?_
  refine lv_istore (lv' := [(4, .int 0), (6, .int 0), (5, .ref a197), (3, .int 49), (1, .int 0), (2, .int 0), (0, .ref h0)]) hx hb dX9_shown_87 hl (by decide) rfl (fun ls hl => ?_)
  refine lv_goto (tgt := 41) hx hb dX9_shown_89 (by decide) ?_
  refine lv_aload hx hb dX9_shown_41 (lv_at hl 2 rfl) ?_
  have hM296 := k641_hasNext l hl9 dC dI z a197 h3 h6 H292.size
  obtain ⟨hF294, hC297⟩ := pc_M hM296 hP hD hK hS hX hT hA [11, 12] [] rfl rfl rfl
  refine va_callFi (va_runF (As := []) (rest := []) (hK.1 1 _ rfl).2 ⟨hx, hb, hml, hown, hts⟩ hM296 (va_cwF 0 hts (gF q_261 q_262 q_263 q_246 q_260) rfl rfl rfl hT.2.2.2.2.2.2.1 hF_xIh ⟨Nat.le_of_ble_eq_true rfl, Nat.le_of_ble_eq_true rfl⟩) ⟨pc_blind, va_recv hK hP (ci := 1) (q0 := 11) rfl rfl, fun U hU hW => ⟨rfl, hC297 U hU hW⟩⟩ rfl rfl hl.1 rfl (lv_room (Nat.le_of_ble_eq_true rfl)) dX9_shown_43 ⟨(Nat.le_of_ble_eq_true rfl), (Nat.le_of_ble_eq_true rfl)⟩) hS (fun q9 _ h9 => hF294 q9 h9) hF294 (fun r299 u298 t298 H298 L298 ht298 hvm298 hw298 hB298 hz298 hk298 hS => ?_)
  have hP := pq_keep hP hD [11, 12] rfl hk298 hB298.1 ht298
  have hG : s.heap.size + 233 ≤ H298.size := Nat.le_trans hG hz298
  refine W.eq (g2 := F0 m 48 ls [.int 1]) (by rw [hw298]) ?_
  refine lv_if_eq (tgt := 92) hx hb dX9_shown_48 (by decide) (fun cz => absurd cz (by decide)) (fun _ => ?_)
  refine lv_aload hx hb dX9_shown_51 (lv_at hl 2 rfl) ?_
  have hM302 := k643_next l hl9 dC dI z a197 h3 h6 H298.size kc1
  obtain ⟨hF300, hC303⟩ := pc_M hM302 hP hD hK hS hX hT hA [11, 12, 13] [2] rfl rfl rfl
  refine va_callFr (va_runF (As := []) (rest := []) (hK.1 1 _ rfl).2 ⟨hx, hb, hml, hown, hts⟩ hM302 (va_cwF 0 hts (gF q_308 q_309 q_310 q_246 q_307) rfl rfl rfl hT.2.2.2.2.2.2.2.1 hF_xIn ⟨Nat.le_of_ble_eq_true rfl, Nat.le_of_ble_eq_true rfl⟩) ⟨pc_blind, va_recv hK hP (ci := 1) (q0 := 11) rfl rfl, fun U hU hW => ⟨rfl, hC303 U hU hW⟩⟩ rfl rfl hl.1 rfl (lv_room (Nat.le_of_ble_eq_true rfl)) dX9_shown_53 ⟨(Nat.le_of_ble_eq_true rfl), (Nat.le_of_ble_eq_true rfl)⟩) hS (fun q9 _ h9 => hF300 q9 h9) hF300 (fun u304 r305 t304 H304 L304 ht304 hvm304 hw304 hB304 hz304 hk304 hS => ?_)
  obtain ⟨hr304, hB304⟩ := hB304
  obtain ⟨hP, hD, hK⟩ := pq_jn (wz := [(h0, ce21 h1 h2 h3 h4), (h1, ce201 h5), (h2, ce3 z.1), (h4, ce226 h7), (h5, ce200 kc0 h8 h9 h10 h11 h12), (h7, ce200 kc2 (z.2.2.1 128) (z.2.2.1 129) (z.2.2.1 130) (z.2.2.1 131) (z.2.2.1 132)), (h8, ce49), (h9, ce49), (h10, ce49), (h11, ce49), (h12, ce49), (a197, ce316 h3), (h3, ce276 h6), (h6, ce275 kc1 (z.2.2.1 128) (z.2.2.1 128) (z.2.2.1 128) (z.2.2.1 128) (z.2.2.1 128) (z.2.2.1 128) (z.2.2.1 128))]) (tz := [(kc0, .object "java/lang/Object"), (kc2, .object "java/lang/Object"), (kc1, .object "java/lang/Object")]) hP hD hK [11, 12, 13] [0, 1] rfl hk304 hF300 hB304.1 ht304 hvm304 rfl rfl
  have hG : s.heap.size + 233 ≤ H304.size := Nat.le_trans hG hz304
  refine W.eq (g2 := F0 m 58 ls [.ref (z.2.2.1 128)]) (by rw [hr304]) ?_
  refine va_castE (nm := "java/lang/Integer") hx hb hown (hts _ q_320) (va_Orecv (hX.2.2.1.1.1 128 (by decide)) hS) dX9_shown_58 ?_
  have hM308 := k74_intValue l hl9 dC dI z H304.size
  obtain ⟨hF306, hC309⟩ := pc_M hM308 hP hD hK hS hX hT hA [] [] rfl rfl rfl
  refine va_calli (va_runV (As := []) (rest := []) ⟨hx, hb, hml, hown, hts⟩ hM308 (cwV 0 hts (gV q_323 q_324 q_325 q_297 q_322) rfl rfl rfl hV_J6_intValue_8abf5 ⟨Nat.le_of_ble_eq_true rfl, Nat.le_of_ble_eq_true rfl⟩) ⟨pc_blind, va_Orecv (hX.2.2.1.1.1 128 (by decide)) hS, fun U hU hW => ⟨rfl, hC309 U hU hW⟩⟩ rfl rfl hl.1 rfl (lv_room (Nat.le_of_ble_eq_true rfl)) dX9_shown_61 ⟨(Nat.le_of_ble_eq_true rfl), (Nat.le_of_ble_eq_true rfl)⟩) hS (fun q9 _ h9 => hF306 q9 h9) hF306 (fun r311 u310 t310 H310 L310 ht310 hvm310 hw310 hB310 hz310 hk310 hS => ?_)
  have hP := pq_keep hP hD [] rfl hk310 hB310.1 ht310
  have hG : s.heap.size + 233 ≤ H310.size := Nat.le_trans hG hz310
  refine W.eq (g2 := F0 m 64 ls [.int 0]) (by rw [hw310]) ?_
  refine lv_istore (lv' := [(6, .int 0), (4, .int 0), (5, .ref a197), (3, .int 49), (1, .int 0), (2, .int 0), (0, .ref h0)]) hx hb dX9_shown_64 hl (by decide) rfl (fun ls hl => ?_)
  refine lv_iload hx hb dX9_shown_66 (lv_at hl 1 rfl) ?_
  refine lv_if_ne (tgt := 82) hx hb dX9_shown_68 (by decide) (fun cz => absurd (by decide) cz) (fun _ => ?_)
  refine lv_aload_n hx hb dX9_shown_71 rfl (lv_at hl 6 rfl) ?_
  refine lv_iload_n hx hb dX9_shown_72 rfl (lv_at hl 5 rfl) ?_
  refine lv_iload_n hx hb dX9_shown_73 rfl (lv_at hl 3 rfl) ?_
  refine lv_iload hx hb dX9_shown_74 (lv_at hl 0 rfl) ?_
  have hM314 := k652_showsIt l hl9 dC dI z h0 h1 h2 h4 h5 h7 h8 h9 h10 h11 h12 h3 H310.size kc0 kc2
  obtain ⟨hF312, hC315⟩ := pc_M hM314 hP hD hK hS hX hT hA [0, 1, 2, 3, 4, 5, 6, 7, 8, 9, 10] [0, 1] rfl rfl rfl
  refine va_calli (va_runV (As := [.int 0, .int 49, .int 0]) (rest := []) ⟨hx, hb, hml, hown, hts⟩ hM314 (cwV 3 hts (gV q_429 q_430 q_431 q_60 q_428) rfl rfl rfl hV_X9_showsIt ⟨Nat.le_of_ble_eq_true rfl, Nat.le_of_ble_eq_true rfl⟩) ⟨pc_blind, va_recv hK hP (ci := 8) (q0 := 0) rfl rfl, fun U hU hW => ⟨rfl, hC315 U hU hW⟩⟩ rfl rfl hl.1 rfl (lv_room (Nat.le_of_ble_eq_true rfl)) dX9_shown_76 ⟨(Nat.le_of_ble_eq_true rfl), (Nat.le_of_ble_eq_true rfl)⟩) hS (fun q9 _ h9 => hF312 q9 h9) hF312 (fun r317 u316 t316 H316 L316 ht316 hvm316 hw316 hB316 hz316 hk316 hS => ?_)
  have hP := pq_keep hP hD [0, 1, 2, 3, 4, 5, 6, 7, 8, 9, 10] rfl hk316 hB316.1 ht316
  have hG : s.heap.size + 254 ≤ H316.size := va_gr (g := 233) (g1 := 21) hG (by rw [← ht316]; exact hB316.2)
  refine W.eq (g2 := F0 m 79 ls [.int 0]) (by rw [hw316]) ?_
  refine W.widen (k := 254) (n := 2744) (by decide) (by decide) ?_
  refine lv_if_eq (tgt := 86) hx hb dX9_shown_79 (by decide) (fun _ => ?_) (fun cz => absurd (by decide) cz)
  refine lv_iconst (v := 0) hx hb dX9_shown_86 (by decide) ?_
  refine lv_istore (lv' := [(4, .int 0), (6, .int 0), (5, .ref a197), (3, .int 49), (1, .int 0), (2, .int 0), (0, .ref h0)]) hx hb dX9_shown_87 hl (by decide) rfl (fun ls hl => ?_)
  refine lv_goto (tgt := 41) hx hb dX9_shown_89 (by decide) ?_
  refine lv_aload hx hb dX9_shown_41 (lv_at hl 2 rfl) ?_
  have hM320 := k644_hasNext l hl9 dC dI z a197 h3 h6 H316.size
  obtain ⟨hF318, hC321⟩ := pc_M hM320 hP hD hK hS hX hT hA [11, 12] [] rfl rfl rfl
  refine va_callFi (va_runF (As := []) (rest := []) (hK.1 1 _ rfl).2 ⟨hx, hb, hml, hown, hts⟩ hM320 (va_cwF 0 hts (gF q_261 q_262 q_263 q_246 q_260) rfl rfl rfl hT.2.2.2.2.2.2.1 hF_xIh ⟨Nat.le_of_ble_eq_true rfl, Nat.le_of_ble_eq_true rfl⟩) ⟨pc_blind, va_recv hK hP (ci := 1) (q0 := 11) rfl rfl, fun U hU hW => ⟨rfl, hC321 U hU hW⟩⟩ rfl rfl hl.1 rfl (lv_room (Nat.le_of_ble_eq_true rfl)) dX9_shown_43 ⟨(Nat.le_of_ble_eq_true rfl), (Nat.le_of_ble_eq_true rfl)⟩) hS (fun q9 _ h9 => hF318 q9 h9) hF318 (fun r323 u322 t322 H322 L322 ht322 hvm322 hw322 hB322 hz322 hk322 hS => ?_)
  have hP := pq_keep hP hD [11, 12] rfl hk322 hB322.1 ht322
  have hG : s.heap.size + 254 ≤ H322.size := Nat.le_trans hG hz322
  refine W.eq (g2 := F0 m 48 ls [.int 1]) (by rw [hw322]) ?_
  refine lv_if_eq (tgt := 92) hx hb dX9_shown_48 (by decide) (fun cz => absurd cz (by decide)) (fun _ => ?_)
  refine lv_aload hx hb dX9_shown_51 (lv_at hl 2 rfl) ?_
  have hM326 := k646_next l hl9 dC dI z a197 h3 h6 H322.size kc1
  obtain ⟨hF324, hC327⟩ := pc_M hM326 hP hD hK hS hX hT hA [11, 12, 13] [2] rfl rfl rfl
  refine va_callFr (va_runF (As := []) (rest := []) (hK.1 1 _ rfl).2 ⟨hx, hb, hml, hown, hts⟩ hM326 (va_cwF 0 hts (gF q_308 q_309 q_310 q_246 q_307) rfl rfl rfl hT.2.2.2.2.2.2.2.1 hF_xIn ⟨Nat.le_of_ble_eq_true rfl, Nat.le_of_ble_eq_true rfl⟩) ⟨pc_blind, va_recv hK hP (ci := 1) (q0 := 11) rfl rfl, fun U hU hW => ⟨rfl, hC327 U hU hW⟩⟩ rfl rfl hl.1 rfl (lv_room (Nat.le_of_ble_eq_true rfl)) dX9_shown_53 ⟨(Nat.le_of_ble_eq_true rfl), (Nat.le_of_ble_eq_true rfl)⟩) hS (fun q9 _ h9 => hF324 q9 h9) hF324 (fun u328 r329 t328 H328 L328 ht328 hvm328 hw328 hB328 hz328 hk328 hS => ?_)
  obtain ⟨hr328, hB328⟩ := hB328
  obtain ⟨hP, hD, hK⟩ := pq_jn (wz := [(h0, ce21 h1 h2 h3 h4), (h1, ce201 h5), (h2, ce3 z.1), (h4, ce226 h7), (h5, ce200 kc0 h8 h9 h10 h11 h12), (h7, ce200 kc2 (z.2.2.1 128) (z.2.2.1 129) (z.2.2.1 130) (z.2.2.1 131) (z.2.2.1 132)), (h8, ce49), (h9, ce49), (h10, ce49), (h11, ce49), (h12, ce49), (a197, ce318 h3), (h3, ce276 h6), (h6, ce275 kc1 (z.2.2.1 128) (z.2.2.1 128) (z.2.2.1 128) (z.2.2.1 128) (z.2.2.1 128) (z.2.2.1 128) (z.2.2.1 128))]) (tz := [(kc0, .object "java/lang/Object"), (kc2, .object "java/lang/Object"), (kc1, .object "java/lang/Object")]) hP hD hK [11, 12, 13] [0, 1] rfl hk328 hF324 hB328.1 ht328 hvm328 rfl rfl
  have hG : s.heap.size + 254 ≤ H328.size := Nat.le_trans hG hz328
  refine W.eq (g2 := F0 m 58 ls [.ref (z.2.2.1 128)]) (by rw [hr328]) ?_
  refine va_castE (nm := "java/lang/Integer") hx hb hown (hts _ q_320) (va_Orecv (hX.2.2.1.1.1 128 (by decide)) hS) dX9_shown_58 ?_
  have hM332 := k74_intValue l hl9 dC dI z H328.size
  obtain ⟨hF330, hC333⟩ := pc_M hM332 hP hD hK hS hX hT hA [] [] rfl rfl rfl
  refine va_calli (va_runV (As := []) (rest := []) ⟨hx, hb, hml, hown, hts⟩ hM332 (cwV 0 hts (gV q_323 q_324 q_325 q_297 q_322) rfl rfl rfl hV_J6_intValue_8abf5 ⟨Nat.le_of_ble_eq_true rfl, Nat.le_of_ble_eq_true rfl⟩) ⟨pc_blind, va_Orecv (hX.2.2.1.1.1 128 (by decide)) hS, fun U hU hW => ⟨rfl, hC333 U hU hW⟩⟩ rfl rfl hl.1 rfl (lv_room (Nat.le_of_ble_eq_true rfl)) dX9_shown_61 ⟨(Nat.le_of_ble_eq_true rfl), (Nat.le_of_ble_eq_true rfl)⟩) hS (fun q9 _ h9 => hF330 q9 h9) hF330 (fun r335 u334 t334 H334 L334 ht334 hvm334 hw334 hB334 hz334 hk334 hS => ?_)
  have hP := pq_keep hP hD [] rfl hk334 hB334.1 ht334
  have hG : s.heap.size + 254 ≤ H334.size := Nat.le_trans hG hz334
  refine W.eq (g2 := F0 m 64 ls [.int 0]) (by rw [hw334]) ?_
  refine lv_istore (lv' := [(6, .int 0), (4, .int 0), (5, .ref a197), (3, .int 49), (1, .int 0), (2, .int 0), (0, .ref h0)]) hx hb dX9_shown_64 hl (by decide) rfl (fun ls hl => ?_)
  refine lv_iload hx hb dX9_shown_66 (lv_at hl 1 rfl) ?_
  refine lv_if_ne (tgt := 82) hx hb dX9_shown_68 (by decide) (fun cz => absurd (by decide) cz) (fun _ => ?_)
  refine lv_aload_n hx hb dX9_shown_71 rfl (lv_at hl 6 rfl) ?_
  refine lv_iload_n hx hb dX9_shown_72 rfl (lv_at hl 5 rfl) ?_
  refine lv_iload_n hx hb dX9_shown_73 rfl (lv_at hl 3 rfl) ?_
  refine lv_iload hx hb dX9_shown_74 (lv_at hl 0 rfl) ?_
  have hM338 := k652_showsIt l hl9 dC dI z h0 h1 h2 h4 h5 h7 h8 h9 h10 h11 h12 h3 H334.size kc0 kc2
  obtain ⟨hF336, hC339⟩ := pc_M hM338 hP hD hK hS hX hT hA [0, 1, 2, 3, 4, 5, 6, 7, 8, 9, 10] [0, 1] rfl rfl rfl
  refine va_calli (va_runV (As := [.int 0, .int 49, .int 0]) (rest := []) ⟨hx, hb, hml, hown, hts⟩ hM338 (cwV 3 hts (gV q_429 q_430 q_431 q_60 q_428) rfl rfl rfl hV_X9_showsIt ⟨Nat.le_of_ble_eq_true rfl, Nat.le_of_ble_eq_true rfl⟩) ⟨pc_blind, va_recv hK hP (ci := 8) (q0 := 0) rfl rfl, fun U hU hW => ⟨rfl, hC339 U hU hW⟩⟩ rfl rfl hl.1 rfl (lv_room (Nat.le_of_ble_eq_true rfl)) dX9_shown_76 ⟨(Nat.le_of_ble_eq_true rfl), (Nat.le_of_ble_eq_true rfl)⟩) hS (fun q9 _ h9 => hF336 q9 h9) hF336 (fun r341 u340 t340 H340 L340 ht340 hvm340 hw340 hB340 hz340 hk340 hS => ?_)
  have hP := pq_keep hP hD [0, 1, 2, 3, 4, 5, 6, 7, 8, 9, 10] rfl hk340 hB340.1 ht340
  have hG : s.heap.size + 275 ≤ H340.size := va_gr (g := 254) (g1 := 21) hG (by rw [← ht340]; exact hB340.2)
  refine W.eq (g2 := F0 m 79 ls [.int 0]) (by rw [hw340]) ?_
  refine W.widen (k := 275) (n := 2972) (by decide) (by decide) ?_
  refine lv_if_eq (tgt := 86) hx hb dX9_shown_79 (by decide) (fun _ => ?_) (fun cz => absurd (by decide) cz)
  refine lv_iconst (v := 0) hx hb dX9_shown_86 (by decide) ?_
  refine lv_istore (lv' := [(4, .int 0), (6, .int 0), (5, .ref a197), (3, .int 49), (1, .int 0), (2, .int 0), (0, .ref h0)]) hx hb dX9_shown_87 hl (by decide) rfl (fun ls hl => ?_)
  refine lv_goto (tgt := 41) hx hb dX9_shown_89 (by decide) ?_
  refine lv_aload hx hb dX9_shown_41 (lv_at hl 2 rfl) ?_
  have hM344 := k647_hasNext l hl9 dC dI z a197 h3 h6 H340.size
  obtain ⟨hF342, hC345⟩ := pc_M hM344 hP hD hK hS hX hT hA [11, 12] [] rfl rfl rfl
  refine va_callFi (va_runF (As := []) (rest := []) (hK.1 1 _ rfl).2 ⟨hx, hb, hml, hown, hts⟩ hM344 (va_cwF 0 hts (gF q_261 q_262 q_263 q_246 q_260) rfl rfl rfl hT.2.2.2.2.2.2.1 hF_xIh ⟨Nat.le_of_ble_eq_true rfl, Nat.le_of_ble_eq_true rfl⟩) ⟨pc_blind, va_recv hK hP (ci := 1) (q0 := 11) rfl rfl, fun U hU hW => ⟨rfl, hC345 U hU hW⟩⟩ rfl rfl hl.1 rfl (lv_room (Nat.le_of_ble_eq_true rfl)) dX9_shown_43 ⟨(Nat.le_of_ble_eq_true rfl), (Nat.le_of_ble_eq_true rfl)⟩) hS (fun q9 _ h9 => hF342 q9 h9) hF342 (fun r347 u346 t346 H346 L346 ht346 hvm346 hw346 hB346 hz346 hk346 hS => ?_)
  have hP := pq_keep hP hD [11, 12] rfl hk346 hB346.1 ht346
  have hG : s.heap.size + 275 ≤ H346.size := Nat.le_trans hG hz346
  refine W.eq (g2 := F0 m 48 ls [.int 1]) (by rw [hw346]) ?_
  refine lv_if_eq (tgt := 92) hx hb dX9_shown_48 (by decide) (fun cz => absurd cz (by decide)) (fun _ => ?_)
  refine lv_aload hx hb dX9_shown_51 (lv_at hl 2 rfl) ?_
  have hM350 := k649_next l hl9 dC dI z a197 h3 h6 H346.size kc1
  obtain ⟨hF348, hC351⟩ := pc_M hM350 hP hD hK hS hX hT hA [11, 12, 13] [2] rfl rfl rfl
  refine va_callFr (va_runF (As := []) (rest := []) (hK.1 1 _ rfl).2 ⟨hx, hb, hml, hown, hts⟩ hM350 (va_cwF 0 hts (gF q_308 q_309 q_310 q_246 q_307) rfl rfl rfl hT.2.2.2.2.2.2.2.1 hF_xIn ⟨Nat.le_of_ble_eq_true rfl, Nat.le_of_ble_eq_true rfl⟩) ⟨pc_blind, va_recv hK hP (ci := 1) (q0 := 11) rfl rfl, fun U hU hW => ⟨rfl, hC351 U hU hW⟩⟩ rfl rfl hl.1 rfl (lv_room (Nat.le_of_ble_eq_true rfl)) dX9_shown_53 ⟨(Nat.le_of_ble_eq_true rfl), (Nat.le_of_ble_eq_true rfl)⟩) hS (fun q9 _ h9 => hF348 q9 h9) hF348 (fun u352 r353 t352 H352 L352 ht352 hvm352 hw352 hB352 hz352 hk352 hS => ?_)
  obtain ⟨hr352, hB352⟩ := hB352
  obtain ⟨hP, hD, hK⟩ := pq_jn (wz := [(h0, ce21 h1 h2 h3 h4), (h1, ce201 h5), (h2, ce3 z.1), (h4, ce226 h7), (h5, ce200 kc0 h8 h9 h10 h11 h12), (h7, ce200 kc2 (z.2.2.1 128) (z.2.2.1 129) (z.2.2.1 130) (z.2.2.1 131) (z.2.2.1 132)), (h8, ce49), (h9, ce49), (h10, ce49), (h11, ce49), (h12, ce49), (a197, ce320 h3), (h3, ce276 h6), (h6, ce275 kc1 (z.2.2.1 128) (z.2.2.1 128) (z.2.2.1 128) (z.2.2.1 128) (z.2.2.1 128) (z.2.2.1 128) (z.2.2.1 128))]) (tz := [(kc0, .object "java/lang/Object"), (kc2, .object "java/lang/Object"), (kc1, .object "java/lang/Object")]) hP hD hK [11, 12, 13] [0, 1] rfl hk352 hF348 hB352.1 ht352 hvm352 rfl rfl
  have hG : s.heap.size + 275 ≤ H352.size := Nat.le_trans hG hz352
  refine W.eq (g2 := F0 m 58 ls [.ref (z.2.2.1 128)]) (by rw [hr352]) ?_
  refine va_castE (nm := "java/lang/Integer") hx hb hown (hts _ q_320) (va_Orecv (hX.2.2.1.1.1 128 (by decide)) hS) dX9_shown_58 ?_
  have hM356 := k74_intValue l hl9 dC dI z H352.size
  obtain ⟨hF354, hC357⟩ := pc_M hM356 hP hD hK hS hX hT hA [] [] rfl rfl rfl
  refine va_calli (va_runV (As := []) (rest := []) ⟨hx, hb, hml, hown, hts⟩ hM356 (cwV 0 hts (gV q_323 q_324 q_325 q_297 q_322) rfl rfl rfl hV_J6_intValue_8abf5 ⟨Nat.le_of_ble_eq_true rfl, Nat.le_of_ble_eq_true rfl⟩) ⟨pc_blind, va_Orecv (hX.2.2.1.1.1 128 (by decide)) hS, fun U hU hW => ⟨rfl, hC357 U hU hW⟩⟩ rfl rfl hl.1 rfl (lv_room (Nat.le_of_ble_eq_true rfl)) dX9_shown_61 ⟨(Nat.le_of_ble_eq_true rfl), (Nat.le_of_ble_eq_true rfl)⟩) hS (fun q9 _ h9 => hF354 q9 h9) hF354 (fun r359 u358 t358 H358 L358 ht358 hvm358 hw358 hB358 hz358 hk358 hS => ?_)
  have hP := pq_keep hP hD [] rfl hk358 hB358.1 ht358
  have hG : s.heap.size + 275 ≤ H358.size := Nat.le_trans hG hz358
  refine W.eq (g2 := F0 m 64 ls [.int 0]) (by rw [hw358]) ?_
  refine lv_istore (lv' := [(6, .int 0), (4, .int 0), (5, .ref a197), (3, .int 49), (1, .int 0), (2, .int 0), (0, .ref h0)]) hx hb dX9_shown_64 hl (by decide) rfl (fun ls hl => ?_)
  refine lv_iload hx hb dX9_shown_66 (lv_at hl 1 rfl) ?_
  refine lv_if_ne (tgt := 82) hx hb dX9_shown_68 (by decide) (fun cz => absurd (by decide) cz) (fun _ => ?_)
  refine lv_aload_n hx hb dX9_shown_71 rfl (lv_at hl 6 rfl) ?_
  refine lv_iload_n hx hb dX9_shown_72 rfl (lv_at hl 5 rfl) ?_
  refine lv_iload_n hx hb dX9_shown_73 rfl (lv_at hl 3 rfl) ?_
  refine lv_iload hx hb dX9_shown_74 (lv_at hl 0 rfl) ?_
  have hM362 := k652_showsIt l hl9 dC dI z h0 h1 h2 h4 h5 h7 h8 h9 h10 h11 h12 h3 H358.size kc0 kc2
  obtain ⟨hF360, hC363⟩ := pc_M hM362 hP hD hK hS hX hT hA [0, 1, 2, 3, 4, 5, 6, 7, 8, 9, 10] [0, 1] rfl rfl rfl
  refine va_calli (va_runV (As := [.int 0, .int 49, .int 0]) (rest := []) ⟨hx, hb, hml, hown, hts⟩ hM362 (cwV 3 hts (gV q_429 q_430 q_431 q_60 q_428) rfl rfl rfl hV_X9_showsIt ⟨Nat.le_of_ble_eq_true rfl, Nat.le_of_ble_eq_true rfl⟩) ⟨pc_blind, va_recv hK hP (ci := 8) (q0 := 0) rfl rfl, fun U hU hW => ⟨rfl, hC363 U hU hW⟩⟩ rfl rfl hl.1 rfl (lv_room (Nat.le_of_ble_eq_true rfl)) dX9_shown_76 ⟨(Nat.le_of_ble_eq_true rfl), (Nat.le_of_ble_eq_true rfl)⟩) hS (fun q9 _ h9 => hF360 q9 h9) hF360 (fun r365 u364 t364 H364 L364 ht364 hvm364 hw364 hB364 hz364 hk364 hS => ?_)
  have hP := pq_keep hP hD [0, 1, 2, 3, 4, 5, 6, 7, 8, 9, 10] rfl hk364 hB364.1 ht364
  have hG : s.heap.size + 296 ≤ H364.size := va_gr (g := 275) (g1 := 21) hG (by rw [← ht364]; exact hB364.2)
  refine W.eq (g2 := F0 m 79 ls [.int 0]) (by rw [hw364]) ?_
  refine W.widen (k := 296) (n := 3200) (by decide) (by decide) ?_
  refine lv_if_eq (tgt := 86) hx hb dX9_shown_79 (by decide) (fun _ => ?_) (fun cz => absurd (by decide) cz)
  refine lv_iconst (v := 0) hx hb dX9_shown_86 (by decide) ?_
  refine lv_istore (lv' := [(4, .int 0), (6, .int 0), (5, .ref a197), (3, .int 49), (1, .int 0), (2, .int 0), (0, .ref h0)]) hx hb dX9_shown_87 hl (by decide) rfl (fun ls hl => ?_)
  refine lv_goto (tgt := 41) hx hb dX9_shown_89 (by decide) ?_
  refine lv_aload hx hb dX9_shown_41 (lv_at hl 2 rfl) ?_
  have hM368 := k650_hasNext l hl9 dC dI z a197 h3 h6 H364.size
  obtain ⟨hF366, hC369⟩ := pc_M hM368 hP hD hK hS hX hT hA [11, 12] [] rfl rfl rfl
  refine va_callFi (va_runF (As := []) (rest := []) (hK.1 1 _ rfl).2 ⟨hx, hb, hml, hown, hts⟩ hM368 (va_cwF 0 hts (gF q_261 q_262 q_263 q_246 q_260) rfl rfl rfl hT.2.2.2.2.2.2.1 hF_xIh ⟨Nat.le_of_ble_eq_true rfl, Nat.le_of_ble_eq_true rfl⟩) ⟨pc_blind, va_recv hK hP (ci := 1) (q0 := 11) rfl rfl, fun U hU hW => ⟨rfl, hC369 U hU hW⟩⟩ rfl rfl hl.1 rfl (lv_room (Nat.le_of_ble_eq_true rfl)) dX9_shown_43 ⟨(Nat.le_of_ble_eq_true rfl), (Nat.le_of_ble_eq_true rfl)⟩) hS (fun q9 _ h9 => hF366 q9 h9) hF366 (fun r371 u370 t370 H370 L370 ht370 hvm370 hw370 hB370 hz370 hk370 hS => ?_)
  have hP := pq_keep hP hD [11, 12] rfl hk370 hB370.1 ht370
  have hG : s.heap.size + 296 ≤ H370.size := Nat.le_trans hG hz370
  refine W.eq (g2 := F0 m 48 ls [.int 0]) (by rw [hw370]) ?_
  refine lv_if_eq (tgt := 92) hx hb dX9_shown_48 (by decide) (fun _ => ?_) (fun cz => absurd (by decide) cz)
  refine lv_iload_n hx hb dX9_shown_92 rfl (lv_at hl 4 rfl) ?_
  refine lv_iload hx hb dX9_shown_93 (lv_at hl 0 rfl) ?_
  refine lv_if_eq (tgt := 102) hx hb dX9_shown_95 (by decide) (fun _ => ?_) (fun cz => absurd (by decide) cz)
  refine lv_iconst (v := 0) hx hb dX9_shown_102 (by decide) ?_
  refine lv_iadd hx hb dX9_shown_103 ?_
  refine lv_topi (fun y372 ey372 => ?_)
  obtain rfl : y372 = 0 := ey372.trans (by decide)
  refine lv_istore_n (lv' := [(1, .int 0), (4, .int 0), (6, .int 0), (5, .ref a197), (3, .int 49), (2, .int 0), (0, .ref h0)]) hx hb dX9_shown_104 rfl hl (by decide) rfl (fun ls hl => ?_)
  refine lv_iload_n hx hb dX9_shown_105 rfl (lv_at hl 4 rfl) ?_
  refine lv_iconst (v := 1) hx hb dX9_shown_106 (by decide) ?_
  refine lv_iadd hx hb dX9_shown_107 ?_
  refine lv_topi (fun y373 ey373 => ?_)
  obtain rfl : y373 = 50 := ey373.trans (by decide)
  refine lv_i2c (v := 50) hx hb dX9_shown_108 (by decide) ?_
  refine lv_istore_n (lv' := [(3, .int 50), (1, .int 0), (4, .int 0), (6, .int 0), (5, .ref a197), (2, .int 0), (0, .ref h0)]) hx hb dX9_shown_109 rfl hl (by decide) rfl (fun ls hl => ?_)
  refine lv_goto (tgt := 23) hx hb dX9_shown_110 (by decide) ?_
  exact hend _ _ _ hS (hP.sub [0, 1, 2, 12, 3, 4, 13, 5, 6, 7, 8, 9, 10] rfl) (hD.sub [0, 1, 2, 12, 3, 4, 13, 5, 6, 7, 8, 9, 10] rfl rfl) (lv_sub hl [0, 1, 5, 6] rfl) hG

set_option maxHeartbeats 8000000 in
set_option maxRecDepth 100000 in
theorem k669_shown_g3 {p : Program} {l : Launch} {e : Env} {s : State} {m : MethodId} {args : Array Value} {below : List Frame} {meth : Method} {c : Code} {Q : State → Prop} {A : Nat → Prop} {H : Heap} {locs : List Loc} {ls : Array Slot} {dC : Nat → ClassId} {dI : Nat → Nat → Nat} {z : XZ} {h0 h1 h2 h3 h4 h5 h6 h7 h8 h9 h10 h11 h12 : Nat} {kc0 kc1 kc2 : ClassId} (hl9 : l.stackTraces = false) (hx : p.tables.exec = Jvm.exec) (hb : c.code = cX9_shown) (hml : c.maxLocals = 7) (hown : s.vm.findClass RX9 = some m.cls) (hts : ∀ w ∈ wsL_law, w.before args s = true) (hA : ∀ q : Nat, s.heap.size ≤ q → A q) (hX : XE z A s s.heap) (hT : XT s) (hS : va_S A s.heap H locs) (hP : va_P (dC, dI) xCl [(h0, ce21 h1 h2 h3 h4), (h1, ce201 h5), (h2, ce3 z.1), (h3, ce276 h6), (h4, ce226 h7), (h5, ce200 kc0 h8 h9 h10 h11 h12), (h6, ce275 kc1 (z.2.2.1 128) (z.2.2.1 128) (z.2.2.1 128) (z.2.2.1 128) (z.2.2.1 128) (z.2.2.1 128) (z.2.2.1 128)), (h7, ce200 kc2 (z.2.2.1 128) (z.2.2.1 129) (z.2.2.1 130) (z.2.2.1 131) (z.2.2.1 132)), (h8, ce49), (h9, ce49), (h10, ce49), (h11, ce49), (h12, ce49)] H) (hD : va_D A [(h0, ce21 h1 h2 h3 h4), (h1, ce201 h5), (h2, ce3 z.1), (h3, ce276 h6), (h4, ce226 h7), (h5, ce200 kc0 h8 h9 h10 h11 h12), (h6, ce275 kc1 (z.2.2.1 128) (z.2.2.1 128) (z.2.2.1 128) (z.2.2.1 128) (z.2.2.1 128) (z.2.2.1 128) (z.2.2.1 128)), (h7, ce200 kc2 (z.2.2.1 128) (z.2.2.1 129) (z.2.2.1 130) (z.2.2.1 131) (z.2.2.1 132)), (h8, ce49), (h9, ce49), (h10, ce49), (h11, ce49), (h12, ce49)]) (hK : va_K (dC, dI) xCl [(kc0, .object "java/lang/Object"), (kc1, .object "java/lang/Object"), (kc2, .object "java/lang/Object")] s) (hl : lv_has ls 7 [(3, .int 50), (1, .int 0), (2, .int 0), (0, .ref h0)]) (hG : s.heap.size + 296 ≤ H.size) (hend : ∀ (H' : Heap) (locs' : List Loc) (ls' : Array Slot), va_S A s.heap H' locs' → va_P (dC, dI) xCl [(h0, ce21 h1 h2 h3 h4), (h1, ce201 h5), (h2, ce3 z.1), (h3, ce276 h6), (h4, ce226 h7), (h5, ce200 kc0 h8 h9 h10 h11 h12), (h6, ce275 kc1 (z.2.2.1 128) (z.2.2.1 128) (z.2.2.1 128) (z.2.2.1 128) (z.2.2.1 128) (z.2.2.1 128) (z.2.2.1 128)), (h7, ce200 kc2 (z.2.2.1 128) (z.2.2.1 129) (z.2.2.1 130) (z.2.2.1 131) (z.2.2.1 132)), (h8, ce49), (h9, ce49), (h10, ce49), (h11, ce49), (h12, ce49)] H' → va_D A [(h0, ce21 h1 h2 h3 h4), (h1, ce201 h5), (h2, ce3 z.1), (h3, ce276 h6), (h4, ce226 h7), (h5, ce200 kc0 h8 h9 h10 h11 h12), (h6, ce275 kc1 (z.2.2.1 128) (z.2.2.1 128) (z.2.2.1 128) (z.2.2.1 128) (z.2.2.1 128) (z.2.2.1 128) (z.2.2.1 128)), (h7, ce200 kc2 (z.2.2.1 128) (z.2.2.1 129) (z.2.2.1 130) (z.2.2.1 131) (z.2.2.1 132)), (h8, ce49), (h9, ce49), (h10, ce49), (h11, ce49), (h12, ce49)] → lv_has ls' 7 [(3, .int 48), (2, .int 1), (1, .int 0), (0, .ref h0)] → s.heap.size + 296 ≤ H'.size → W p l e ({ frames := 5, cells := 1480, slots := 16000, locals := 121 } : Room) s m args below meth c H' locs' 296 3200 Q (F0 m 23 ls' [])) : W p l e ({ frames := 5, cells := 1480, slots := 16000, locals := 121 } : Room) s m args below meth c H locs 296 3200 Q (F0 m 23 ls []) := by
  refine lv_iload_n hx hb dX9_shown_23 rfl (lv_at hl 0 rfl) ?_
  refine lv_bipush (v := 49) hx hb dX9_shown_24 (by decide) ?_
  refine lv_icmp_gt (tgt := 113) hx hb dX9_shown_26 (by decide) (fun _ => ?_) (fun cz => absurd (by decide) cz)
  refine lv_iinc (v := 1) (lv' := [(2, .int 1), (3, .int 50), (1, .int 0), (0, .ref h0)]) hx hb dX9_shown_113 hl (k := 2) rfl (by decide) (by decide) rfl (fun ls hl => ?_)
  refine lv_goto (tgt := 9) hx hb dX9_shown_116 (by decide) ?_
  refine lv_iload_n hx hb dX9_shown_9 rfl (lv_at hl 0 rfl) ?_
  refine lv_aload_n hx hb dX9_shown_10 rfl (lv_at hl 3 rfl) ?_
  refine va_get (D := (dC, dI)) (ci := 8) (v := .ref h1) (C := RX9) (T := TX9) (N := 6) hx hb hts in_X9 hown hK hP 0 rfl rfl 1 (by decide) (hts _ q_64) (fun _ h9 => h9) rfl dX9_shown_11 ?_
  have hM376 := k20_size l hl9 dC dI z h1 h5 H.size 5 5
  obtain ⟨hF374, hC377⟩ := pc_M hM376 hP hD hK hS hX hT hA [1] [] rfl rfl rfl
  refine va_calli (va_runV (As := []) (rest := [.int 1]) ⟨hx, hb, hml, hown, hts⟩ hM376 (cwV 0 hts (gV q_272 q_77 q_78 q_12 q_75) rfl rfl rfl hV_Jx4a65c_size_8abf5 ⟨Nat.le_of_ble_eq_true rfl, Nat.le_of_ble_eq_true rfl⟩) ⟨pc_blind, va_recv hK hP (ci := 0) (q0 := 1) rfl rfl, fun U hU hW => ⟨rfl, hC377 U hU hW⟩⟩ rfl rfl hl.1 rfl (lv_room (Nat.le_of_ble_eq_true rfl)) dX9_shown_14 ⟨(Nat.le_of_ble_eq_true rfl), (Nat.le_of_ble_eq_true rfl)⟩) hS (fun q9 _ h9 => hF374 q9 h9) hF374 (fun r379 u378 t378 H378 L378 ht378 hvm378 hw378 hB378 hz378 hk378 hS => ?_)
  have hP := pq_keep hP hD [1] rfl hk378 hB378.1 ht378
  have hG : s.heap.size + 296 ≤ H378.size := Nat.le_trans hG hz378
  refine W.eq (g2 := F0 m 17 ls [.int 5, .int 1]) (by rw [hw378]) ?_
  refine lv_icmp_ge (tgt := 119) hx hb dX9_shown_17 (by decide) (fun cz => absurd cz (by decide)) (fun _ => ?_)
  refine lv_bipush (v := 48) hx hb dX9_shown_20 (by decide) ?_
  refine lv_istore_n (lv' := [(3, .int 48), (2, .int 1), (1, .int 0), (0, .ref h0)]) hx hb dX9_shown_22 rfl hl (by decide) rfl (fun ls hl => ?_)
  exact hend _ _ _ hS (hP.sub [0, 1, 2, 3, 4, 5, 6, 7, 8, 9, 10, 11, 12] rfl) (hD.sub [0, 1, 2, 3, 4, 5, 6, 7, 8, 9, 10, 11, 12] rfl rfl) (lv_sub hl [0, 1, 2, 3] rfl) hG

set_option maxHeartbeats 8000000 in
set_option maxRecDepth 100000 in
theorem k669_shown_g4 {p : Program} {l : Launch} {e : Env} {s : State} {m : MethodId} {args : Array Value} {below : List Frame} {meth : Method} {c : Code} {Q : State → Prop} {A : Nat → Prop} {H : Heap} {locs : List Loc} {ls : Array Slot} {dC : Nat → ClassId} {dI : Nat → Nat → Nat} {z : XZ} {h0 h1 h2 h3 h4 h5 h6 h7 h8 h9 h10 h11 h12 : Nat} {kc0 kc1 kc2 : ClassId} (hl9 : l.stackTraces = false) (hx : p.tables.exec = Jvm.exec) (hb : c.code = cX9_shown) (hml : c.maxLocals = 7) (hown : s.vm.findClass RX9 = some m.cls) (hts : ∀ w ∈ wsL_law, w.before args s = true) (hA : ∀ q : Nat, s.heap.size ≤ q → A q) (hX : XE z A s s.heap) (hT : XT s) (hS : va_S A s.heap H locs) (hP : va_P (dC, dI) xCl [(h0, ce21 h1 h2 h3 h4), (h1, ce201 h5), (h2, ce3 z.1), (h3, ce276 h6), (h4, ce226 h7), (h5, ce200 kc0 h8 h9 h10 h11 h12), (h6, ce275 kc1 (z.2.2.1 128) (z.2.2.1 128) (z.2.2.1 128) (z.2.2.1 128) (z.2.2.1 128) (z.2.2.1 128) (z.2.2.1 128)), (h7, ce200 kc2 (z.2.2.1 128) (z.2.2.1 129) (z.2.2.1 130) (z.2.2.1 131) (z.2.2.1 132)), (h8, ce49), (h9, ce49), (h10, ce49), (h11, ce49), (h12, ce49)] H) (hD : va_D A [(h0, ce21 h1 h2 h3 h4), (h1, ce201 h5), (h2, ce3 z.1), (h3, ce276 h6), (h4, ce226 h7), (h5, ce200 kc0 h8 h9 h10 h11 h12), (h6, ce275 kc1 (z.2.2.1 128) (z.2.2.1 128) (z.2.2.1 128) (z.2.2.1 128) (z.2.2.1 128) (z.2.2.1 128) (z.2.2.1 128)), (h7, ce200 kc2 (z.2.2.1 128) (z.2.2.1 129) (z.2.2.1 130) (z.2.2.1 131) (z.2.2.1 132)), (h8, ce49), (h9, ce49), (h10, ce49), (h11, ce49), (h12, ce49)]) (hK : va_K (dC, dI) xCl [(kc0, .object "java/lang/Object"), (kc1, .object "java/lang/Object"), (kc2, .object "java/lang/Object")] s) (hl : lv_has ls 7 [(3, .int 48), (2, .int 1), (1, .int 0), (0, .ref h0)]) (hG : s.heap.size + 296 ≤ H.size) (hend : ∀ (H' : Heap) (locs' : List Loc) (ls' : Array Slot), va_S A s.heap H' locs' → va_P (dC, dI) xCl [(h0, ce21 h1 h2 h3 h4), (h1, ce201 h5), (h2, ce3 z.1), (h3, ce276 h6), (h4, ce226 h7), (h5, ce200 kc0 h8 h9 h10 h11 h12), (h6, ce275 kc1 (z.2.2.1 128) (z.2.2.1 128) (z.2.2.1 128) (z.2.2.1 128) (z.2.2.1 128) (z.2.2.1 128) (z.2.2.1 128)), (h7, ce200 kc2 (z.2.2.1 128) (z.2.2.1 129) (z.2.2.1 130) (z.2.2.1 131) (z.2.2.1 132)), (h8, ce49), (h9, ce49), (h10, ce49), (h11, ce49), (h12, ce49)] H' → va_D A [(h0, ce21 h1 h2 h3 h4), (h1, ce201 h5), (h2, ce3 z.1), (h3, ce276 h6), (h4, ce226 h7), (h5, ce200 kc0 h8 h9 h10 h11 h12), (h6, ce275 kc1 (z.2.2.1 128) (z.2.2.1 128) (z.2.2.1 128) (z.2.2.1 128) (z.2.2.1 128) (z.2.2.1 128) (z.2.2.1 128)), (h7, ce200 kc2 (z.2.2.1 128) (z.2.2.1 129) (z.2.2.1 130) (z.2.2.1 131) (z.2.2.1 132)), (h8, ce49), (h9, ce49), (h10, ce49), (h11, ce49), (h12, ce49)] → lv_has ls' 7 [(3, .int 49), (1, .int 0), (2, .int 1), (0, .ref h0)] → s.heap.size + 444 ≤ H'.size → W p l e ({ frames := 5, cells := 1480, slots := 16000, locals := 121 } : Room) s m args below meth c H' locs' 444 4800 Q (F0 m 23 ls' [])) : W p l e ({ frames := 5, cells := 1480, slots := 16000, locals := 121 } : Room) s m args below meth c H locs 296 3200 Q (F0 m 23 ls []) := by
  refine lv_iload_n hx hb dX9_shown_23 rfl (lv_at hl 0 rfl) ?_
  refine lv_bipush (v := 49) hx hb dX9_shown_24 (by decide) ?_
  refine lv_icmp_gt (tgt := 113) hx hb dX9_shown_26 (by decide) (fun cz => absurd cz (by decide)) (fun _ => ?_)
  refine lv_iconst (v := 0) hx hb dX9_shown_29 (by decide) ?_
  refine lv_istore (lv' := [(4, .int 0), (3, .int 48), (2, .int 1), (1, .int 0), (0, .ref h0)]) hx hb dX9_shown_30 hl (by decide) rfl (fun ls hl => ?_)
  refine lv_aload_n hx hb dX9_shown_32 rfl (lv_at hl 4 rfl) ?_
  refine va_get (D := (dC, dI)) (ci := 8) (v := .ref h3) (C := RX9) (T := TX9) (N := 6) hx hb hts in_X9 hown hK hP 0 rfl rfl 3 (by decide) (hts _ q_66) (fun _ h9 => h9) rfl dX9_shown_33 ?_
  have hM382 := k619_iterator l hl9 dC dI z h3 h6 H.size
  obtain ⟨hF380, hC383⟩ := pc_M hM382 hP hD hK hS hX hT hA [3] [] rfl rfl rfl
  refine va_callr (va_runV (As := []) (rest := []) ⟨hx, hb, hml, hown, hts⟩ hM382 (cwV 0 hts (gV q_256 q_257 q_258 q_12 q_255) rfl rfl rfl hV_Jx4a65c_iterator_32c93 ⟨Nat.le_of_ble_eq_true rfl, Nat.le_of_ble_eq_true rfl⟩) ⟨pc_blind, va_recv hK hP (ci := 0) (q0 := 3) rfl rfl, fun U hU hW => ⟨rfl, hC383 U hU hW⟩⟩ rfl rfl hl.1 rfl (lv_room (Nat.le_of_ble_eq_true rfl)) dX9_shown_36 ⟨(Nat.le_of_ble_eq_true rfl), (Nat.le_of_ble_eq_true rfl)⟩) hS (fun q9 _ h9 => hF380 q9 h9) hF380 (fun u384 r385 t384 H384 L384 ht384 hvm384 hw384 hB384 hz384 hk384 hS => ?_)
  obtain ⟨a386, hr384, hB384⟩ := hB384
  obtain ⟨hP, hD, hK⟩ := pq_jn (wz := [(h0, ce21 h1 h2 h3 h4), (h1, ce201 h5), (h2, ce3 z.1), (h4, ce226 h7), (h5, ce200 kc0 h8 h9 h10 h11 h12), (h6, ce275 kc1 (z.2.2.1 128) (z.2.2.1 128) (z.2.2.1 128) (z.2.2.1 128) (z.2.2.1 128) (z.2.2.1 128) (z.2.2.1 128)), (h7, ce200 kc2 (z.2.2.1 128) (z.2.2.1 129) (z.2.2.1 130) (z.2.2.1 131) (z.2.2.1 132)), (h8, ce49), (h9, ce49), (h10, ce49), (h11, ce49), (h12, ce49), (h3, ce276 h6), (a386, ce292 h3)]) (tz := [(kc0, .object "java/lang/Object"), (kc1, .object "java/lang/Object"), (kc2, .object "java/lang/Object")]) hP hD hK [3] [0, 1, 2] rfl hk384 hF380 hB384.1 ht384 hvm384 rfl rfl
  have hG : s.heap.size + 297 ≤ H384.size := va_gr (g := 296) (g1 := 1) hG (by rw [← ht384]; exact hB384.2)
  refine W.eq (g2 := F0 m 39 ls [.ref a386]) (by rw [hr384]) ?_
  refine W.widen (k := 297) (n := 3204) (by decide) (by decide) ?_
  refine lv_astore (lv' := [(5, .ref a386), (4, .int 0), (3, .int 48), (2, .int 1), (1, .int 0), (0, .ref h0)]) hx hb dX9_shown_39 hl (by decide) rfl (fun ls hl => ?_)
  refine lv_aload hx hb dX9_shown_41 (lv_at hl 0 rfl) ?_
  have hM389 := k620_hasNext l hl9 dC dI z a386 h3 h6 H384.size
  obtain ⟨hF387, hC390⟩ := pc_M hM389 hP hD hK hS hX hT hA [13, 12] [] rfl rfl rfl
  refine va_callFi (va_runF (As := []) (rest := []) (hK.1 1 _ rfl).2 ⟨hx, hb, hml, hown, hts⟩ hM389 (va_cwF 0 hts (gF q_261 q_262 q_263 q_246 q_260) rfl rfl rfl hT.2.2.2.2.2.2.1 hF_xIh ⟨Nat.le_of_ble_eq_true rfl, Nat.le_of_ble_eq_true rfl⟩) ⟨pc_blind, va_recv hK hP (ci := 1) (q0 := 13) rfl rfl, fun U hU hW => ⟨rfl, hC390 U hU hW⟩⟩ rfl rfl hl.1 rfl (lv_room (Nat.le_of_ble_eq_true rfl)) dX9_shown_43 ⟨(Nat.le_of_ble_eq_true rfl), (Nat.le_of_ble_eq_true rfl)⟩) hS (fun q9 _ h9 => hF387 q9 h9) hF387 (fun r392 u391 t391 H391 L391 ht391 hvm391 hw391 hB391 hz391 hk391 hS => ?_)
  have hP := pq_keep hP hD [13, 12] rfl hk391 hB391.1 ht391
  have hG : s.heap.size + 297 ≤ H391.size := Nat.le_trans hG hz391
  refine W.eq (g2 := F0 m 48 ls [.int 1]) (by rw [hw391]) ?_
  refine lv_if_eq (tgt := 92) hx hb dX9_shown_48 (by decide) (fun cz => absurd cz (by decide)) (fun _ => ?_)
  refine lv_aload hx hb dX9_shown_51 (lv_at hl 0 rfl) ?_
  have hM395 := k622_next l hl9 dC dI z a386 h3 h6 H391.size kc1
  obtain ⟨hF393, hC396⟩ := pc_M hM395 hP hD hK hS hX hT hA [13, 12, 5] [1] rfl rfl rfl
  refine va_callFr (va_runF (As := []) (rest := []) (hK.1 1 _ rfl).2 ⟨hx, hb, hml, hown, hts⟩ hM395 (va_cwF 0 hts (gF q_308 q_309 q_310 q_246 q_307) rfl rfl rfl hT.2.2.2.2.2.2.2.1 hF_xIn ⟨Nat.le_of_ble_eq_true rfl, Nat.le_of_ble_eq_true rfl⟩) ⟨pc_blind, va_recv hK hP (ci := 1) (q0 := 13) rfl rfl, fun U hU hW => ⟨rfl, hC396 U hU hW⟩⟩ rfl rfl hl.1 rfl (lv_room (Nat.le_of_ble_eq_true rfl)) dX9_shown_53 ⟨(Nat.le_of_ble_eq_true rfl), (Nat.le_of_ble_eq_true rfl)⟩) hS (fun q9 _ h9 => hF393 q9 h9) hF393 (fun u397 r398 t397 H397 L397 ht397 hvm397 hw397 hB397 hz397 hk397 hS => ?_)
  obtain ⟨hr397, hB397⟩ := hB397
  obtain ⟨hP, hD, hK⟩ := pq_jn (wz := [(h0, ce21 h1 h2 h3 h4), (h1, ce201 h5), (h2, ce3 z.1), (h4, ce226 h7), (h5, ce200 kc0 h8 h9 h10 h11 h12), (h7, ce200 kc2 (z.2.2.1 128) (z.2.2.1 129) (z.2.2.1 130) (z.2.2.1 131) (z.2.2.1 132)), (h8, ce49), (h9, ce49), (h10, ce49), (h11, ce49), (h12, ce49), (a386, ce294 h3), (h3, ce276 h6), (h6, ce275 kc1 (z.2.2.1 128) (z.2.2.1 128) (z.2.2.1 128) (z.2.2.1 128) (z.2.2.1 128) (z.2.2.1 128) (z.2.2.1 128))]) (tz := [(kc0, .object "java/lang/Object"), (kc2, .object "java/lang/Object"), (kc1, .object "java/lang/Object")]) hP hD hK [13, 12, 5] [0, 2] rfl hk397 hF393 hB397.1 ht397 hvm397 rfl rfl
  have hG : s.heap.size + 297 ≤ H397.size := Nat.le_trans hG hz397
  refine W.eq (g2 := F0 m 58 ls [.ref (z.2.2.1 128)]) (by rw [hr397]) ?_
  refine va_castE (nm := "java/lang/Integer") hx hb hown (hts _ q_320) (va_Orecv (hX.2.2.1.1.1 128 (by decide)) hS) dX9_shown_58 ?_
  have hM401 := k74_intValue l hl9 dC dI z H397.size
  obtain ⟨hF399, hC402⟩ := pc_M hM401 hP hD hK hS hX hT hA [] [] rfl rfl rfl
  refine va_calli (va_runV (As := []) (rest := []) ⟨hx, hb, hml, hown, hts⟩ hM401 (cwV 0 hts (gV q_323 q_324 q_325 q_297 q_322) rfl rfl rfl hV_J6_intValue_8abf5 ⟨Nat.le_of_ble_eq_true rfl, Nat.le_of_ble_eq_true rfl⟩) ⟨pc_blind, va_Orecv (hX.2.2.1.1.1 128 (by decide)) hS, fun U hU hW => ⟨rfl, hC402 U hU hW⟩⟩ rfl rfl hl.1 rfl (lv_room (Nat.le_of_ble_eq_true rfl)) dX9_shown_61 ⟨(Nat.le_of_ble_eq_true rfl), (Nat.le_of_ble_eq_true rfl)⟩) hS (fun q9 _ h9 => hF399 q9 h9) hF399 (fun r404 u403 t403 H403 L403 ht403 hvm403 hw403 hB403 hz403 hk403 hS => ?_)
  have hP := pq_keep hP hD [] rfl hk403 hB403.1 ht403
  have hG : s.heap.size + 297 ≤ H403.size := Nat.le_trans hG hz403
  refine W.eq (g2 := F0 m 64 ls [.int 0]) (by rw [hw403]) ?_
  refine lv_istore (lv' := [(6, .int 0), (5, .ref a386), (4, .int 0), (3, .int 48), (2, .int 1), (1, .int 0), (0, .ref h0)]) hx hb dX9_shown_64 hl (by decide) rfl (fun ls hl => ?_)
  refine lv_iload hx hb dX9_shown_66 (lv_at hl 2 rfl) ?_
  refine lv_if_ne (tgt := 82) hx hb dX9_shown_68 (by decide) (fun cz => absurd (by decide) cz) (fun _ => ?_)
  refine lv_aload_n hx hb dX9_shown_71 rfl (lv_at hl 6 rfl) ?_
  refine lv_iload_n hx hb dX9_shown_72 rfl (lv_at hl 4 rfl) ?_
  refine lv_iload_n hx hb dX9_shown_73 rfl (lv_at hl 3 rfl) ?_
  refine lv_iload hx hb dX9_shown_74 (lv_at hl 0 rfl) ?_
  have hM407 := k654_showsIt l hl9 dC dI z h0 h1 h2 h4 h5 h7 h8 h9 h10 h11 h12 h3 H403.size kc0 kc2
  obtain ⟨hF405, hC408⟩ := pc_M hM407 hP hD hK hS hX hT hA [0, 1, 2, 3, 4, 5, 6, 7, 8, 9, 10] [0, 1] rfl rfl rfl
  refine va_calli (va_runV (As := [.int 1, .int 48, .int 0]) (rest := []) ⟨hx, hb, hml, hown, hts⟩ hM407 (cwV 3 hts (gV q_429 q_430 q_431 q_60 q_428) rfl rfl rfl hV_X9_showsIt ⟨Nat.le_of_ble_eq_true rfl, Nat.le_of_ble_eq_true rfl⟩) ⟨pc_blind, va_recv hK hP (ci := 8) (q0 := 0) rfl rfl, fun U hU hW => ⟨rfl, hC408 U hU hW⟩⟩ rfl rfl hl.1 rfl (lv_room (Nat.le_of_ble_eq_true rfl)) dX9_shown_76 ⟨(Nat.le_of_ble_eq_true rfl), (Nat.le_of_ble_eq_true rfl)⟩) hS (fun q9 _ h9 => hF405 q9 h9) hF405 (fun r410 u409 t409 H409 L409 ht409 hvm409 hw409 hB409 hz409 hk409 hS => ?_)
  have hP := pq_keep hP hD [0, 1, 2, 3, 4, 5, 6, 7, 8, 9, 10] rfl hk409 hB409.1 ht409
  have hG : s.heap.size + 318 ≤ H409.size := va_gr (g := 297) (g1 := 21) hG (by rw [← ht409]; exact hB409.2)
  refine W.eq (g2 := F0 m 79 ls [.int 0]) (by rw [hw409]) ?_
  refine W.widen (k := 318) (n := 3432) (by decide) (by decide) ?_
  refine lv_if_eq (tgt := 86) hx hb dX9_shown_79 (by decide) (fun _ => ?_) (fun cz => absurd (by decide) cz)
  refine lv_iconst (v := 0) hx hb dX9_shown_86 (by decide) ?_
  refine lv_istore (lv' := [(4, .int 0), (6, .int 0), (5, .ref a386), (3, .int 48), (2, .int 1), (1, .int 0), (0, .ref h0)]) hx hb dX9_shown_87 hl (by decide) rfl (fun ls hl => ?_)
  refine lv_goto (tgt := 41) hx hb dX9_shown_89 (by decide) ?_
  refine lv_aload hx hb dX9_shown_41 (lv_at hl 2 rfl) ?_
  have hM413 := k632_hasNext l hl9 dC dI z a386 h3 h6 H409.size
  obtain ⟨hF411, hC414⟩ := pc_M hM413 hP hD hK hS hX hT hA [11, 12] [] rfl rfl rfl
  refine va_callFi (va_runF (As := []) (rest := []) (hK.1 1 _ rfl).2 ⟨hx, hb, hml, hown, hts⟩ hM413 (va_cwF 0 hts (gF q_261 q_262 q_263 q_246 q_260) rfl rfl rfl hT.2.2.2.2.2.2.1 hF_xIh ⟨Nat.le_of_ble_eq_true rfl, Nat.le_of_ble_eq_true rfl⟩) ⟨pc_blind, va_recv hK hP (ci := 1) (q0 := 11) rfl rfl, fun U hU hW => ⟨rfl, hC414 U hU hW⟩⟩ rfl rfl hl.1 rfl (lv_room (Nat.le_of_ble_eq_true rfl)) dX9_shown_43 ⟨(Nat.le_of_ble_eq_true rfl), (Nat.le_of_ble_eq_true rfl)⟩) hS (fun q9 _ h9 => hF411 q9 h9) hF411 (fun r416 u415 t415 H415 L415 ht415 hvm415 hw415 hB415 hz415 hk415 hS => ?_)
  have hP := pq_keep hP hD [11, 12] rfl hk415 hB415.1 ht415
  have hG : s.heap.size + 318 ≤ H415.size := Nat.le_trans hG hz415
  refine W.eq (g2 := F0 m 48 ls [.int 1]) (by rw [hw415]) ?_
  refine lv_if_eq (tgt := 92) hx hb dX9_shown_48 (by decide) (fun cz => absurd cz (by decide)) (fun _ => ?_)
  refine lv_aload hx hb dX9_shown_51 (lv_at hl 2 rfl) ?_
  have hM419 := k634_next l hl9 dC dI z a386 h3 h6 H415.size kc1
  obtain ⟨hF417, hC420⟩ := pc_M hM419 hP hD hK hS hX hT hA [11, 12, 13] [2] rfl rfl rfl
  refine va_callFr (va_runF (As := []) (rest := []) (hK.1 1 _ rfl).2 ⟨hx, hb, hml, hown, hts⟩ hM419 (va_cwF 0 hts (gF q_308 q_309 q_310 q_246 q_307) rfl rfl rfl hT.2.2.2.2.2.2.2.1 hF_xIn ⟨Nat.le_of_ble_eq_true rfl, Nat.le_of_ble_eq_true rfl⟩) ⟨pc_blind, va_recv hK hP (ci := 1) (q0 := 11) rfl rfl, fun U hU hW => ⟨rfl, hC420 U hU hW⟩⟩ rfl rfl hl.1 rfl (lv_room (Nat.le_of_ble_eq_true rfl)) dX9_shown_53 ⟨(Nat.le_of_ble_eq_true rfl), (Nat.le_of_ble_eq_true rfl)⟩) hS (fun q9 _ h9 => hF417 q9 h9) hF417 (fun u421 r422 t421 H421 L421 ht421 hvm421 hw421 hB421 hz421 hk421 hS => ?_)
  obtain ⟨hr421, hB421⟩ := hB421
  obtain ⟨hP, hD, hK⟩ := pq_jn (wz := [(h0, ce21 h1 h2 h3 h4), (h1, ce201 h5), (h2, ce3 z.1), (h4, ce226 h7), (h5, ce200 kc0 h8 h9 h10 h11 h12), (h7, ce200 kc2 (z.2.2.1 128) (z.2.2.1 129) (z.2.2.1 130) (z.2.2.1 131) (z.2.2.1 132)), (h8, ce49), (h9, ce49), (h10, ce49), (h11, ce49), (h12, ce49), (a386, ce310 h3), (h3, ce276 h6), (h6, ce275 kc1 (z.2.2.1 128) (z.2.2.1 128) (z.2.2.1 128) (z.2.2.1 128) (z.2.2.1 128) (z.2.2.1 128) (z.2.2.1 128))]) (tz := [(kc0, .object "java/lang/Object"), (kc2, .object "java/lang/Object"), (kc1, .object "java/lang/Object")]) hP hD hK [11, 12, 13] [0, 1] rfl hk421 hF417 hB421.1 ht421 hvm421 rfl rfl
  have hG : s.heap.size + 318 ≤ H421.size := Nat.le_trans hG hz421
  refine W.eq (g2 := F0 m 58 ls [.ref (z.2.2.1 128)]) (by rw [hr421]) ?_
  refine va_castE (nm := "java/lang/Integer") hx hb hown (hts _ q_320) (va_Orecv (hX.2.2.1.1.1 128 (by decide)) hS) dX9_shown_58 ?_
  have hM425 := k74_intValue l hl9 dC dI z H421.size
  obtain ⟨hF423, hC426⟩ := pc_M hM425 hP hD hK hS hX hT hA [] [] rfl rfl rfl
  refine va_calli (va_runV (As := []) (rest := []) ⟨hx, hb, hml, hown, hts⟩ hM425 (cwV 0 hts (gV q_323 q_324 q_325 q_297 q_322) rfl rfl rfl hV_J6_intValue_8abf5 ⟨Nat.le_of_ble_eq_true rfl, Nat.le_of_ble_eq_true rfl⟩) ⟨pc_blind, va_Orecv (hX.2.2.1.1.1 128 (by decide)) hS, fun U hU hW => ⟨rfl, hC426 U hU hW⟩⟩ rfl rfl hl.1 rfl (lv_room (Nat.le_of_ble_eq_true rfl)) dX9_shown_61 ⟨(Nat.le_of_ble_eq_true rfl), (Nat.le_of_ble_eq_true rfl)⟩) hS (fun q9 _ h9 => hF423 q9 h9) hF423 (fun r428 u427 t427 H427 L427 ht427 hvm427 hw427 hB427 hz427 hk427 hS => ?_)
  have hP := pq_keep hP hD [] rfl hk427 hB427.1 ht427
  have hG : s.heap.size + 318 ≤ H427.size := Nat.le_trans hG hz427
  refine W.eq (g2 := F0 m 64 ls [.int 0]) (by rw [hw427]) ?_
  refine lv_istore (lv' := [(6, .int 0), (4, .int 0), (5, .ref a386), (3, .int 48), (2, .int 1), (1, .int 0), (0, .ref h0)]) hx hb dX9_shown_64 hl (by decide) rfl (fun ls hl => ?_)
  refine lv_iload hx hb dX9_shown_66 (lv_at hl 1 rfl) ?_
  refine lv_if_ne (tgt := 82) hx hb dX9_shown_68 (by decide) (fun cz => absurd (by decide) cz) (fun _ => ?_)
  refine lv_aload_n hx hb dX9_shown_71 rfl (lv_at hl 6 rfl) ?_
  refine lv_iload_n hx hb dX9_shown_72 rfl (lv_at hl 4 rfl) ?_
  refine lv_iload_n hx hb dX9_shown_73 rfl (lv_at hl 3 rfl) ?_
  refine lv_iload hx hb dX9_shown_74 (lv_at hl 0 rfl) ?_
  have hM431 := k654_showsIt l hl9 dC dI z h0 h1 h2 h4 h5 h7 h8 h9 h10 h11 h12 h3 H427.size kc0 kc2
  obtain ⟨hF429, hC432⟩ := pc_M hM431 hP hD hK hS hX hT hA [0, 1, 2, 3, 4, 5, 6, 7, 8, 9, 10] [0, 1] rfl rfl rfl
  refine va_calli (va_runV (As := [.int 1, .int 48, .int 0]) (rest := []) ⟨hx, hb, hml, hown, hts⟩ hM431 (cwV 3 hts (gV q_429 q_430 q_431 q_60 q_428) rfl rfl rfl hV_X9_showsIt ⟨Nat.le_of_ble_eq_true rfl, Nat.le_of_ble_eq_true rfl⟩) ⟨pc_blind, va_recv hK hP (ci := 8) (q0 := 0) rfl rfl, fun U hU hW => ⟨rfl, hC432 U hU hW⟩⟩ rfl rfl hl.1 rfl (lv_room (Nat.le_of_ble_eq_true rfl)) dX9_shown_76 ⟨(Nat.le_of_ble_eq_true rfl), (Nat.le_of_ble_eq_true rfl)⟩) hS (fun q9 _ h9 => hF429 q9 h9) hF429 (fun r434 u433 t433 H433 L433 ht433 hvm433 hw433 hB433 hz433 hk433 hS => ?_)
  have hP := pq_keep hP hD [0, 1, 2, 3, 4, 5, 6, 7, 8, 9, 10] rfl hk433 hB433.1 ht433
  have hG : s.heap.size + 339 ≤ H433.size := va_gr (g := 318) (g1 := 21) hG (by rw [← ht433]; exact hB433.2)
  refine W.eq (g2 := F0 m 79 ls [.int 0]) (by rw [hw433]) ?_
  refine W.widen (k := 339) (n := 3660) (by decide) (by decide) ?_
  refine lv_if_eq (tgt := 86) hx hb dX9_shown_79 (by decide) (fun _ => ?_) (fun cz => absurd (by decide) cz)
  refine lv_iconst (v := 0) hx hb dX9_shown_86 (by decide) ?_
  refine lv_istore (lv' := [(4, .int 0), (6, .int 0), (5, .ref a386), (3, .int 48), (2, .int 1), (1, .int 0), (0, .ref h0)]) hx hb dX9_shown_87 hl (by decide) rfl (fun ls hl => ?_)
  refine lv_goto (tgt := 41) hx hb dX9_shown_89 (by decide) ?_
  refine lv_aload hx hb dX9_shown_41 (lv_at hl 2 rfl) ?_
  have hM437 := k635_hasNext l hl9 dC dI z a386 h3 h6 H433.size
  obtain ⟨hF435, hC438⟩ := pc_M hM437 hP hD hK hS hX hT hA [11, 12] [] rfl rfl rfl
  refine va_callFi (va_runF (As := []) (rest := []) (hK.1 1 _ rfl).2 ⟨hx, hb, hml, hown, hts⟩ hM437 (va_cwF 0 hts (gF q_261 q_262 q_263 q_246 q_260) rfl rfl rfl hT.2.2.2.2.2.2.1 hF_xIh ⟨Nat.le_of_ble_eq_true rfl, Nat.le_of_ble_eq_true rfl⟩) ⟨pc_blind, va_recv hK hP (ci := 1) (q0 := 11) rfl rfl, fun U hU hW => ⟨rfl, hC438 U hU hW⟩⟩ rfl rfl hl.1 rfl (lv_room (Nat.le_of_ble_eq_true rfl)) dX9_shown_43 ⟨(Nat.le_of_ble_eq_true rfl), (Nat.le_of_ble_eq_true rfl)⟩) hS (fun q9 _ h9 => hF435 q9 h9) hF435 (fun r440 u439 t439 H439 L439 ht439 hvm439 hw439 hB439 hz439 hk439 hS => ?_)
  have hP := pq_keep hP hD [11, 12] rfl hk439 hB439.1 ht439
  have hG : s.heap.size + 339 ≤ H439.size := Nat.le_trans hG hz439
  refine W.eq (g2 := F0 m 48 ls [.int 1]) (by rw [hw439]) ?_
  refine lv_if_eq (tgt := 92) hx hb dX9_shown_48 (by decide) (fun cz => absurd cz (by decide)) (fun _ => ?_)
  refine lv_aload hx hb dX9_shown_51 (lv_at hl 2 rfl) ?_
  have hM443 := k637_next l hl9 dC dI z a386 h3 h6 H439.size kc1
  obtain ⟨hF441, hC444⟩ := pc_M hM443 hP hD hK hS hX hT hA [11, 12, 13] [2] rfl rfl rfl
  refine va_callFr (va_runF (As := []) (rest := []) (hK.1 1 _ rfl).2 ⟨hx, hb, hml, hown, hts⟩ hM443 (va_cwF 0 hts (gF q_308 q_309 q_310 q_246 q_307) rfl rfl rfl hT.2.2.2.2.2.2.2.1 hF_xIn ⟨Nat.le_of_ble_eq_true rfl, Nat.le_of_ble_eq_true rfl⟩) ⟨pc_blind, va_recv hK hP (ci := 1) (q0 := 11) rfl rfl, fun U hU hW => ⟨rfl, hC444 U hU hW⟩⟩ rfl rfl hl.1 rfl (lv_room (Nat.le_of_ble_eq_true rfl)) dX9_shown_53 ⟨(Nat.le_of_ble_eq_true rfl), (Nat.le_of_ble_eq_true rfl)⟩) hS (fun q9 _ h9 => hF441 q9 h9) hF441 (fun u445 r446 t445 H445 L445 ht445 hvm445 hw445 hB445 hz445 hk445 hS => ?_)
  obtain ⟨hr445, hB445⟩ := hB445
  obtain ⟨hP, hD, hK⟩ := pq_jn (wz := [(h0, ce21 h1 h2 h3 h4), (h1, ce201 h5), (h2, ce3 z.1), (h4, ce226 h7), (h5, ce200 kc0 h8 h9 h10 h11 h12), (h7, ce200 kc2 (z.2.2.1 128) (z.2.2.1 129) (z.2.2.1 130) (z.2.2.1 131) (z.2.2.1 132)), (h8, ce49), (h9, ce49), (h10, ce49), (h11, ce49), (h12, ce49), (a386, ce312 h3), (h3, ce276 h6), (h6, ce275 kc1 (z.2.2.1 128) (z.2.2.1 128) (z.2.2.1 128) (z.2.2.1 128) (z.2.2.1 128) (z.2.2.1 128) (z.2.2.1 128))]) (tz := [(kc0, .object "java/lang/Object"), (kc2, .object "java/lang/Object"), (kc1, .object "java/lang/Object")]) hP hD hK [11, 12, 13] [0, 1] rfl hk445 hF441 hB445.1 ht445 hvm445 rfl rfl
  have hG : s.heap.size + 339 ≤ H445.size := Nat.le_trans hG hz445
  refine W.eq (g2 := F0 m 58 ls [.ref (z.2.2.1 128)]) (by rw [hr445]) ?_
  refine va_castE (nm := "java/lang/Integer") hx hb hown (hts _ q_320) (va_Orecv (hX.2.2.1.1.1 128 (by decide)) hS) dX9_shown_58 ?_
  have hM449 := k74_intValue l hl9 dC dI z H445.size
  obtain ⟨hF447, hC450⟩ := pc_M hM449 hP hD hK hS hX hT hA [] [] rfl rfl rfl
  refine va_calli (va_runV (As := []) (rest := []) ⟨hx, hb, hml, hown, hts⟩ hM449 (cwV 0 hts (gV q_323 q_324 q_325 q_297 q_322) rfl rfl rfl hV_J6_intValue_8abf5 ⟨Nat.le_of_ble_eq_true rfl, Nat.le_of_ble_eq_true rfl⟩) ⟨pc_blind, va_Orecv (hX.2.2.1.1.1 128 (by decide)) hS, fun U hU hW => ⟨rfl, hC450 U hU hW⟩⟩ rfl rfl hl.1 rfl (lv_room (Nat.le_of_ble_eq_true rfl)) dX9_shown_61 ⟨(Nat.le_of_ble_eq_true rfl), (Nat.le_of_ble_eq_true rfl)⟩) hS (fun q9 _ h9 => hF447 q9 h9) hF447 (fun r452 u451 t451 H451 L451 ht451 hvm451 hw451 hB451 hz451 hk451 hS => ?_)
  have hP := pq_keep hP hD [] rfl hk451 hB451.1 ht451
  have hG : s.heap.size + 339 ≤ H451.size := Nat.le_trans hG hz451
  refine W.eq (g2 := F0 m 64 ls [.int 0]) (by rw [hw451]) ?_
  refine lv_istore (lv' := [(6, .int 0), (4, .int 0), (5, .ref a386), (3, .int 48), (2, .int 1), (1, .int 0), (0, .ref h0)]) hx hb dX9_shown_64 hl (by decide) rfl (fun ls hl => ?_)
  refine lv_iload hx hb dX9_shown_66 (lv_at hl 1 rfl) ?_
  refine lv_if_ne (tgt := 82) hx hb dX9_shown_68 (by decide) (fun cz => absurd (by decide) cz) (fun _ => ?_)
  refine lv_aload_n hx hb dX9_shown_71 rfl (lv_at hl 6 rfl) ?_
  refine lv_iload_n hx hb dX9_shown_72 rfl (lv_at hl 4 rfl) ?_
  refine lv_iload_n hx hb dX9_shown_73 rfl (lv_at hl 3 rfl) ?_
  refine lv_iload hx hb dX9_shown_74 (lv_at hl 0 rfl) ?_
  have hM455 := k654_showsIt l hl9 dC dI z h0 h1 h2 h4 h5 h7 h8 h9 h10 h11 h12 h3 H451.size kc0 kc2
  obtain ⟨hF453, hC456⟩ := pc_M hM455 hP hD hK hS hX hT hA [0, 1, 2, 3, 4, 5, 6, 7, 8, 9, 10] [0, 1] rfl rfl rfl
  refine va_calli (va_runV (As := [.int 1, .int 48, .int 0]) (rest := []) ⟨hx, hb, hml, hown, hts⟩ hM455 (cwV 3 hts (gV q_429 q_430 q_431 q_60 q_428) rfl rfl rfl hV_X9_showsIt ⟨Nat.le_of_ble_eq_true rfl, Nat.le_of_ble_eq_true rfl⟩) ⟨pc_blind, va_recv hK hP (ci := 8) (q0 := 0) rfl rfl, fun U hU hW => ⟨rfl, hC456 U hU hW⟩⟩ rfl rfl hl.1 rfl (lv_room (Nat.le_of_ble_eq_true rfl)) dX9_shown_76 ⟨(Nat.le_of_ble_eq_true rfl), (Nat.le_of_ble_eq_true rfl)⟩) hS (fun q9 _ h9 => hF453 q9 h9) hF453 (fun r458 u457 t457 H457 L457 ht457 hvm457 hw457 hB457 hz457 hk457 hS => ?_)
  have hP := pq_keep hP hD [0, 1, 2, 3, 4, 5, 6, 7, 8, 9, 10] rfl hk457 hB457.1 ht457
  have hG : s.heap.size + 360 ≤ H457.size := va_gr (g := 339) (g1 := 21) hG (by rw [← ht457]; exact hB457.2)
  refine W.eq (g2 := F0 m 79 ls [.int 0]) (by rw [hw457]) ?_
  refine W.widen (k := 360) (n := 3888) (by decide) (by decide) ?_
  refine lv_if_eq (tgt := 86) hx hb dX9_shown_79 (by decide) (fun _ => ?_) (fun cz => absurd (by decide) cz)
  refine lv_iconst (v := 0) hx hb dX9_shown_86 (by decide) ?_
  refine lv_istore (lv' := [(4, .int 0), (6, .int 0), (5, .ref a386), (3, .int 48), (2, .int 1), (1, .int 0), (0, .ref h0)]) hx hb dX9_shown_87 hl (by decide) rfl (fun ls hl => ?_)
  refine lv_goto (tgt := 41) hx hb dX9_shown_89 (by decide) ?_
  refine lv_aload hx hb dX9_shown_41 (lv_at hl 2 rfl) ?_
  have hM461 := k638_hasNext l hl9 dC dI z a386 h3 h6 H457.size
  obtain ⟨hF459, hC462⟩ := pc_M hM461 hP hD hK hS hX hT hA [11, 12] [] rfl rfl rfl
  refine va_callFi (va_runF (As := []) (rest := []) (hK.1 1 _ rfl).2 ⟨hx, hb, hml, hown, hts⟩ hM461 (va_cwF 0 hts (gF q_261 q_262 q_263 q_246 q_260) rfl rfl rfl hT.2.2.2.2.2.2.1 hF_xIh ⟨Nat.le_of_ble_eq_true rfl, Nat.le_of_ble_eq_true rfl⟩) ⟨pc_blind, va_recv hK hP (ci := 1) (q0 := 11) rfl rfl, fun U hU hW => ⟨rfl, hC462 U hU hW⟩⟩ rfl rfl hl.1 rfl (lv_room (Nat.le_of_ble_eq_true rfl)) dX9_shown_43 ⟨(Nat.le_of_ble_eq_true rfl), (Nat.le_of_ble_eq_true rfl)⟩) hS (fun q9 _ h9 => hF459 q9 h9) hF459 (fun r464 u463 t463 H463 L463 ht463 hvm463 hw463 hB463 hz463 hk463 hS => ?_)
  have hP := pq_keep hP hD [11, 12] rfl hk463 hB463.1 ht463
  have hG : s.heap.size + 360 ≤ H463.size := Nat.le_trans hG hz463
  refine W.eq (g2 := F0 m 48 ls [.int 1]) (by rw [hw463]) ?_
  refine lv_if_eq (tgt := 92) hx hb dX9_shown_48 (by decide) (fun cz => absurd cz (by decide)) (fun _ => ?_)
  refine lv_aload hx hb dX9_shown_51 (lv_at hl 2 rfl) ?_
  have hM467 := k640_next l hl9 dC dI z a386 h3 h6 H463.size kc1
  obtain ⟨hF465, hC468⟩ := pc_M hM467 hP hD hK hS hX hT hA [11, 12, 13] [2] rfl rfl rfl
  refine va_callFr (va_runF (As := []) (rest := []) (hK.1 1 _ rfl).2 ⟨hx, hb, hml, hown, hts⟩ hM467 (va_cwF 0 hts (gF q_308 q_309 q_310 q_246 q_307) rfl rfl rfl hT.2.2.2.2.2.2.2.1 hF_xIn ⟨Nat.le_of_ble_eq_true rfl, Nat.le_of_ble_eq_true rfl⟩) ⟨pc_blind, va_recv hK hP (ci := 1) (q0 := 11) rfl rfl, fun U hU hW => ⟨rfl, hC468 U hU hW⟩⟩ rfl rfl hl.1 rfl (lv_room (Nat.le_of_ble_eq_true rfl)) dX9_shown_53 ⟨(Nat.le_of_ble_eq_true rfl), (Nat.le_of_ble_eq_true rfl)⟩) hS (fun q9 _ h9 => hF465 q9 h9) hF465 (fun u469 r470 t469 H469 L469 ht469 hvm469 hw469 hB469 hz469 hk469 hS => ?_)
  obtain ⟨hr469, hB469⟩ := hB469
  obtain ⟨hP, hD, hK⟩ := pq_jn (wz := [(h0, ce21 h1 h2 h3 h4), (h1, ce201 h5), (h2, ce3 z.1), (h4, ce226 h7), (h5, ce200 kc0 h8 h9 h10 h11 h12), (h7, ce200 kc2 (z.2.2.1 128) (z.2.2.1 129) (z.2.2.1 130) (z.2.2.1 131) (z.2.2.1 132)), (h8, ce49), (h9, ce49), (h10, ce49), (h11, ce49), (h12, ce49), (a386, ce314 h3), (h3, ce276 h6), (h6, ce275 kc1 (z.2.2.1 128) (z.2.2.1 128) (z.2.2.1 128) (z.2.2.1 128) (z.2.2.1 128) (z.2.2.1 128) (z.2.2.1 128))]) (tz := [(kc0, .object "java/lang/Object"), (kc2, .object "java/lang/Object"), (kc1, .object "java/lang/Object")]) hP hD hK [11, 12, 13] [0, 1] rfl hk469 hF465 hB469.1 ht469 hvm469 rfl rfl
  have hG : s.heap.size + 360 ≤ H469.size := Nat.le_trans hG hz469
  refine W.eq (g2 := F0 m 58 ls [.ref (z.2.2.1 128)]) (by rw [hr469]) ?_
  refine va_castE (nm := "java/lang/Integer") hx hb hown (hts _ q_320) (va_Orecv (hX.2.2.1.1.1 128 (by decide)) hS) dX9_shown_58 ?_
  have hM473 := k74_intValue l hl9 dC dI z H469.size
  obtain ⟨hF471, hC474⟩ := pc_M hM473 hP hD hK hS hX hT hA [] [] rfl rfl rfl
  refine va_calli (va_runV (As := []) (rest := []) ⟨hx, hb, hml, hown, hts⟩ hM473 (cwV 0 hts (gV q_323 q_324 q_325 q_297 q_322) rfl rfl rfl hV_J6_intValue_8abf5 ⟨Nat.le_of_ble_eq_true rfl, Nat.le_of_ble_eq_true rfl⟩) ⟨pc_blind, va_Orecv (hX.2.2.1.1.1 128 (by decide)) hS, fun U hU hW => ⟨rfl, hC474 U hU hW⟩⟩ rfl rfl hl.1 rfl (lv_room (Nat.le_of_ble_eq_true rfl)) dX9_shown_61 ⟨(Nat.le_of_ble_eq_true rfl), (Nat.le_of_ble_eq_true rfl)⟩) hS (fun q9 _ h9 => hF471 q9 h9) hF471 (fun r476 u475 t475 H475 L475 ht475 hvm475 hw475 hB475 hz475 hk475 hS => ?_)
  have hP := pq_keep hP hD [] rfl hk475 hB475.1 ht475
  have hG : s.heap.size + 360 ≤ H475.size := Nat.le_trans hG hz475
  refine W.eq (g2 := F0 m 64 ls [.int 0]) (by rw [hw475]) ?_
  refine lv_istore (lv' := [(6, .int 0), (4, .int 0), (5, .ref a386), (3, .int 48), (2, .int 1), (1, .int 0), (0, .ref h0)]) hx hb dX9_shown_64 hl (by decide) rfl (fun ls hl => ?_)
  refine lv_iload hx hb dX9_shown_66 (lv_at hl 1 rfl) ?_
  refine lv_if_ne (tgt := 82) hx hb dX9_shown_68 (by decide) (fun cz => absurd (by decide) cz) (fun _ => ?_)
  refine lv_aload_n hx hb dX9_shown_71 rfl (lv_at hl 6 rfl) ?_
  refine lv_iload_n hx hb dX9_shown_72 rfl (lv_at hl 4 rfl) ?_
  refine lv_iload_n hx hb dX9_shown_73 rfl (lv_at hl 3 rfl) ?_
  refine lv_iload hx hb dX9_shown_74 (lv_at hl 0 rfl) ?_
  have hM479 := k654_showsIt l hl9 dC dI z h0 h1 h2 h4 h5 h7 h8 h9 h10 h11 h12 h3 H475.size kc0 kc2
  obtain ⟨hF477, hC480⟩ := pc_M hM479 hP hD hK hS hX hT hA [0, 1, 2, 3, 4, 5, 6, 7, 8, 9, 10] [0, 1] rfl rfl rfl
  refine va_calli (va_runV (As := [.int 1, .int 48, .int 0]) (rest := []) ⟨hx, hb, hml, hown, hts⟩ hM479 (cwV 3 hts (gV q_429 q_430 q_431 q_60 q_428) rfl rfl rfl hV_X9_showsIt ⟨Nat.le_of_ble_eq_true rfl, Nat.le_of_ble_eq_true rfl⟩) ⟨pc_blind, va_recv hK hP (ci := 8) (q0 := 0) rfl rfl, fun U hU hW => ⟨rfl, hC480 U hU hW⟩⟩ rfl rfl hl.1 rfl (lv_room (Nat.le_of_ble_eq_true rfl)) dX9_shown_76 ⟨(Nat.le_of_ble_eq_true rfl), (Nat.le_of_ble_eq_true rfl)⟩) hS (fun q9 _ h9 => hF477 q9 h9) hF477 (fun r482 u481 t481 H481 L481 ht481 hvm481 hw481 hB481 hz481 hk481 hS => ?_)
  have hP := pq_keep hP hD [0, 1, 2, 3, 4, 5, 6, 7, 8, 9, 10] rfl hk481 hB481.1 ht481
  have hG : s.heap.size + 381 ≤ H481.size := va_gr (g := 360) (g1 := 21) hG (by rw [← ht481]; exact hB481.2)
  refine W.eq (g2 := F0 m 79 ls [.int 0]) (by rw [hw481]) ?_
  refine W.widen (k := 381) (n := 4116) (by decide) (by decide) ?_
  refine lv_if_eq (tgt := 86) hx hb dX9_shown_79 (by decide) (fun _ => ?_) (fun cz => absurd (by decide) cz)
  refine lv_iconst (v := 0) hx hb dX9_shown_86 (by decide) ?_
  refine lv_istore (lv' := [(4, .int 0), (6, .int 0), (5, .ref a386), (3, .int 48), (2, .int 1), (1, .int 0), (0, .ref h0)]) hx hb dX9_shown_87 hl (by decide) rfl (fun ls hl => ?_)
  refine lv_goto (tgt := 41) hx hb dX9_shown_89 (by decide) ?_
  refine lv_aload hx hb dX9_shown_41 (lv_at hl 2 rfl) ?_
  have hM485 := k641_hasNext l hl9 dC dI z a386 h3 h6 H481.size
  obtain ⟨hF483, hC486⟩ := pc_M hM485 hP hD hK hS hX hT hA [11, 12] [] rfl rfl rfl
  refine va_callFi (va_runF (As := []) (rest := []) (hK.1 1 _ rfl).2 ⟨hx, hb, hml, hown, hts⟩ hM485 (va_cwF 0 hts (gF q_261 q_262 q_263 q_246 q_260) rfl rfl rfl hT.2.2.2.2.2.2.1 hF_xIh ⟨Nat.le_of_ble_eq_true rfl, Nat.le_of_ble_eq_true rfl⟩) ⟨pc_blind, va_recv hK hP (ci := 1) (q0 := 11) rfl rfl, fun U hU hW => ⟨rfl, hC486 U hU hW⟩⟩ rfl rfl hl.1 rfl (lv_room (Nat.le_of_ble_eq_true rfl)) dX9_shown_43 ⟨(Nat.le_of_ble_eq_true rfl), (Nat.le_of_ble_eq_true rfl)⟩) hS (fun q9 _ h9 => hF483 q9 h9) hF483 (fun r488 u487 t487 H487 L487 ht487 hvm487 hw487 hB487 hz487 hk487 hS => ?_)
  have hP := pq_keep hP hD [11, 12] rfl hk487 hB487.1 ht487
  have hG : s.heap.size + 381 ≤ H487.size := Nat.le_trans hG hz487
  refine W.eq (g2 := F0 m 48 ls [.int 1]) (by rw [hw487]) ?_
  refine lv_if_eq (tgt := 92) hx hb dX9_shown_48 (by decide) (fun cz => absurd cz (by decide)) (fun _ => ?_)
  refine lv_aload hx hb dX9_shown_51 (lv_at hl 2 rfl) ?_
  have hM491 := k643_next l hl9 dC dI z a386 h3 h6 H487.size kc1
  obtain ⟨hF489, hC492⟩ := pc_M hM491 hP hD hK hS hX hT hA [11, 12, 13] [2] rfl rfl rfl
  refine va_callFr (va_runF (As := []) (rest := []) (hK.1 1 _ rfl).2 ⟨hx, hb, hml, hown, hts⟩ hM491 (va_cwF 0 hts (gF q_308 q_309 q_310 q_246 q_307) rfl rfl rfl hT.2.2.2.2.2.2.2.1 hF_xIn ⟨Nat.le_of_ble_eq_true rfl, Nat.le_of_ble_eq_true rfl⟩) ⟨pc_blind, va_recv hK hP (ci := 1) (q0 := 11) rfl rfl, fun U hU hW => ⟨rfl, hC492 U hU hW⟩⟩ rfl rfl hl.1 rfl (lv_room (Nat.le_of_ble_eq_true rfl)) dX9_shown_53 ⟨(Nat.le_of_ble_eq_true rfl), (Nat.le_of_ble_eq_true rfl)⟩) hS (fun q9 _ h9 => hF489 q9 h9) hF489 (fun u493 r494 t493 H493 L493 ht493 hvm493 hw493 hB493 hz493 hk493 hS => ?_)
  obtain ⟨hr493, hB493⟩ := hB493
  obtain ⟨hP, hD, hK⟩ := pq_jn (wz := [(h0, ce21 h1 h2 h3 h4), (h1, ce201 h5), (h2, ce3 z.1), (h4, ce226 h7), (h5, ce200 kc0 h8 h9 h10 h11 h12), (h7, ce200 kc2 (z.2.2.1 128) (z.2.2.1 129) (z.2.2.1 130) (z.2.2.1 131) (z.2.2.1 132)), (h8, ce49), (h9, ce49), (h10, ce49), (h11, ce49), (h12, ce49), (a386, ce316 h3), (h3, ce276 h6), (h6, ce275 kc1 (z.2.2.1 128) (z.2.2.1 128) (z.2.2.1 128) (z.2.2.1 128) (z.2.2.1 128) (z.2.2.1 128) (z.2.2.1 128))]) (tz := [(kc0, .object "java/lang/Object"), (kc2, .object "java/lang/Object"), (kc1, .object "java/lang/Object")]) hP hD hK [11, 12, 13] [0, 1] rfl hk493 hF489 hB493.1 ht493 hvm493 rfl rfl
  have hG : s.heap.size + 381 ≤ H493.size := Nat.le_trans hG hz493
  refine W.eq (g2 := F0 m 58 ls [.ref (z.2.2.1 128)]) (by rw [hr493]) ?_
  refine va_castE (nm := "java/lang/Integer") hx hb hown (hts _ q_320) (va_Orecv (hX.2.2.1.1.1 128 (by decide)) hS) dX9_shown_58 ?_
  have hM497 := k74_intValue l hl9 dC dI z H493.size
  obtain ⟨hF495, hC498⟩ := pc_M hM497 hP hD hK hS hX hT hA [] [] rfl rfl rfl
  refine va_calli (va_runV (As := []) (rest := []) ⟨hx, hb, hml, hown, hts⟩ hM497 (cwV 0 hts (gV q_323 q_324 q_325 q_297 q_322) rfl rfl rfl hV_J6_intValue_8abf5 ⟨Nat.le_of_ble_eq_true rfl, Nat.le_of_ble_eq_true rfl⟩) ⟨pc_blind, va_Orecv (hX.2.2.1.1.1 128 (by decide)) hS, fun U hU hW => ⟨rfl, hC498 U hU hW⟩⟩ rfl rfl hl.1 rfl (lv_room (Nat.le_of_ble_eq_true rfl)) dX9_shown_61 ⟨(Nat.le_of_ble_eq_true rfl), (Nat.le_of_ble_eq_true rfl)⟩) hS (fun q9 _ h9 => hF495 q9 h9) hF495 (fun r500 u499 t499 H499 L499 ht499 hvm499 hw499 hB499 hz499 hk499 hS => ?_)
  have hP := pq_keep hP hD [] rfl hk499 hB499.1 ht499
  have hG : s.heap.size + 381 ≤ H499.size := Nat.le_trans hG hz499
  refine W.eq (g2 := F0 m 64 ls [.int 0]) (by rw [hw499]) ?_
  refine lv_istore (lv' := [(6, .int 0), (4, .int 0), (5, .ref a386), (3, .int 48), (2, .int 1), (1, .int 0), (0, .ref h0)]) hx hb dX9_shown_64 hl (by decide) rfl (fun ls hl => ?_)
  refine lv_iload hx hb dX9_shown_66 (lv_at hl 1 rfl) ?_
  refine lv_if_ne (tgt := 82) hx hb dX9_shown_68 (by decide) (fun cz => absurd (by decide) cz) (fun _ => ?_)
  refine lv_aload_n hx hb dX9_shown_71 rfl (lv_at hl 6 rfl) ?_
  refine lv_iload_n hx hb dX9_shown_72 rfl (lv_at hl 4 rfl) ?_
  refine lv_iload_n hx hb dX9_shown_73 rfl (lv_at hl 3 rfl) ?_
  refine lv_iload hx hb dX9_shown_74 (lv_at hl 0 rfl) ?_
  have hM503 := k654_showsIt l hl9 dC dI z h0 h1 h2 h4 h5 h7 h8 h9 h10 h11 h12 h3 H499.size kc0 kc2
  obtain ⟨hF501, hC504⟩ := pc_M hM503 hP hD hK hS hX hT hA [0, 1, 2, 3, 4, 5, 6, 7, 8, 9, 10] [0, 1] rfl rfl rfl
  refine va_calli (va_runV (As := [.int 1, .int 48, .int 0]) (rest := []) ⟨hx, hb, hml, hown, hts⟩ hM503 (cwV 3 hts (gV q_429 q_430 q_431 q_60 q_428) rfl rfl rfl hV_X9_showsIt ⟨Nat.le_of_ble_eq_true rfl, Nat.le_of_ble_eq_true rfl⟩) ⟨pc_blind, va_recv hK hP (ci := 8) (q0 := 0) rfl rfl, fun U hU hW => ⟨rfl, hC504 U hU hW⟩⟩ rfl rfl hl.1 rfl (lv_room (Nat.le_of_ble_eq_true rfl)) dX9_shown_76 ⟨(Nat.le_of_ble_eq_true rfl), (Nat.le_of_ble_eq_true rfl)⟩) hS (fun q9 _ h9 => hF501 q9 h9) hF501 (fun r506 u505 t505 H505 L505 ht505 hvm505 hw505 hB505 hz505 hk505 hS => ?_)
  have hP := pq_keep hP hD [0, 1, 2, 3, 4, 5, 6, 7, 8, 9, 10] rfl hk505 hB505.1 ht505
  have hG : s.heap.size + 402 ≤ H505.size := va_gr (g := 381) (g1 := 21) hG (by rw [← ht505]; exact hB505.2)
  refine W.eq (g2 := F0 m 79 ls [.int 0]) (by rw [hw505]) ?_
  refine W.widen (k := 402) (n := 4344) (by decide) (by decide) ?_
  refine lv_if_eq (tgt := 86) hx hb dX9_shown_79 (by decide) (fun _ => ?_) (fun cz => absurd (by decide) cz)
  refine lv_iconst (v := 0) hx hb dX9_shown_86 (by decide) ?_
  refine lv_istore (lv' := [(4, .int 0), (6, .int 0), (5, .ref a386), (3, .int 48), (2, .int 1), (1, .int 0), (0, .ref h0)]) hx hb dX9_shown_87 hl (by decide) rfl (fun ls hl => ?_)
  refine lv_goto (tgt := 41) hx hb dX9_shown_89 (by decide) ?_
  refine lv_aload hx hb dX9_shown_41 (lv_at hl 2 rfl) ?_
  have hM509 := k644_hasNext l hl9 dC dI z a386 h3 h6 H505.size
  obtain ⟨hF507, hC510⟩ := pc_M hM509 hP hD hK hS hX hT hA [11, 12] [] rfl rfl rfl
  refine va_callFi (va_runF (As := []) (rest := []) (hK.1 1 _ rfl).2 ⟨hx, hb, hml, hown, hts⟩ hM509 (va_cwF 0 hts (gF q_261 q_262 q_263 q_246 q_260) rfl rfl rfl hT.2.2.2.2.2.2.1 hF_xIh ⟨Nat.le_of_ble_eq_true rfl, Nat.le_of_ble_eq_true rfl⟩) ⟨pc_blind, va_recv hK hP (ci := 1) (q0 := 11) rfl rfl, fun U hU hW => ⟨rfl, hC510 U hU hW⟩⟩ rfl rfl hl.1 rfl (lv_room (Nat.le_of_ble_eq_true rfl)) dX9_shown_43 ⟨(Nat.le_of_ble_eq_true rfl), (Nat.le_of_ble_eq_true rfl)⟩) hS (fun q9 _ h9 => hF507 q9 h9) hF507 (fun r512 u511 t511 H511 L511 ht511 hvm511 hw511 hB511 hz511 hk511 hS => ?_)
  have hP := pq_keep hP hD [11, 12] rfl hk511 hB511.1 ht511
  have hG : s.heap.size + 402 ≤ H511.size := Nat.le_trans hG hz511
  refine W.eq (g2 := F0 m 48 ls [.int 1]) (by rw [hw511]) ?_
  refine lv_if_eq (tgt := 92) hx hb dX9_shown_48 (by decide) (fun cz => absurd cz (by decide)) (fun _ => ?_)
  refine lv_aload hx hb dX9_shown_51 (lv_at hl 2 rfl) ?_
  have hM515 := k646_next l hl9 dC dI z a386 h3 h6 H511.size kc1
  obtain ⟨hF513, hC516⟩ := pc_M hM515 hP hD hK hS hX hT hA [11, 12, 13] [2] rfl rfl rfl
  refine va_callFr (va_runF (As := []) (rest := []) (hK.1 1 _ rfl).2 ⟨hx, hb, hml, hown, hts⟩ hM515 (va_cwF 0 hts (gF q_308 q_309 q_310 q_246 q_307) rfl rfl rfl hT.2.2.2.2.2.2.2.1 hF_xIn ⟨Nat.le_of_ble_eq_true rfl, Nat.le_of_ble_eq_true rfl⟩) ⟨pc_blind, va_recv hK hP (ci := 1) (q0 := 11) rfl rfl, fun U hU hW => ⟨rfl, hC516 U hU hW⟩⟩ rfl rfl hl.1 rfl (lv_room (Nat.le_of_ble_eq_true rfl)) dX9_shown_53 ⟨(Nat.le_of_ble_eq_true rfl), (Nat.le_of_ble_eq_true rfl)⟩) hS (fun q9 _ h9 => hF513 q9 h9) hF513 (fun u517 r518 t517 H517 L517 ht517 hvm517 hw517 hB517 hz517 hk517 hS => ?_)
  obtain ⟨hr517, hB517⟩ := hB517
  obtain ⟨hP, hD, hK⟩ := pq_jn (wz := [(h0, ce21 h1 h2 h3 h4), (h1, ce201 h5), (h2, ce3 z.1), (h4, ce226 h7), (h5, ce200 kc0 h8 h9 h10 h11 h12), (h7, ce200 kc2 (z.2.2.1 128) (z.2.2.1 129) (z.2.2.1 130) (z.2.2.1 131) (z.2.2.1 132)), (h8, ce49), (h9, ce49), (h10, ce49), (h11, ce49), (h12, ce49), (a386, ce318 h3), (h3, ce276 h6), (h6, ce275 kc1 (z.2.2.1 128) (z.2.2.1 128) (z.2.2.1 128) (z.2.2.1 128) (z.2.2.1 128) (z.2.2.1 128) (z.2.2.1 128))]) (tz := [(kc0, .object "java/lang/Object"), (kc2, .object "java/lang/Object"), (kc1, .object "java/lang/Object")]) hP hD hK [11, 12, 13] [0, 1] rfl hk517 hF513 hB517.1 ht517 hvm517 rfl rfl
  have hG : s.heap.size + 402 ≤ H517.size := Nat.le_trans hG hz517
  refine W.eq (g2 := F0 m 58 ls [.ref (z.2.2.1 128)]) (by rw [hr517]) ?_
  refine va_castE (nm := "java/lang/Integer") hx hb hown (hts _ q_320) (va_Orecv (hX.2.2.1.1.1 128 (by decide)) hS) dX9_shown_58 ?_
  have hM521 := k74_intValue l hl9 dC dI z H517.size
  obtain ⟨hF519, hC522⟩ := pc_M hM521 hP hD hK hS hX hT hA [] [] rfl rfl rfl
  refine va_calli (va_runV (As := []) (rest := []) ⟨hx, hb, hml, hown, hts⟩ hM521 (cwV 0 hts (gV q_323 q_324 q_325 q_297 q_322) rfl rfl rfl hV_J6_intValue_8abf5 ⟨Nat.le_of_ble_eq_true rfl, Nat.le_of_ble_eq_true rfl⟩) ⟨pc_blind, va_Orecv (hX.2.2.1.1.1 128 (by decide)) hS, fun U hU hW => ⟨rfl, hC522 U hU hW⟩⟩ rfl rfl hl.1 rfl (lv_room (Nat.le_of_ble_eq_true rfl)) dX9_shown_61 ⟨(Nat.le_of_ble_eq_true rfl), (Nat.le_of_ble_eq_true rfl)⟩) hS (fun q9 _ h9 => hF519 q9 h9) hF519 (fun r524 u523 t523 H523 L523 ht523 hvm523 hw523 hB523 hz523 hk523 hS => ?_)
  have hP := pq_keep hP hD [] rfl hk523 hB523.1 ht523
  have hG : s.heap.size + 402 ≤ H523.size := Nat.le_trans hG hz523
  refine W.eq (g2 := F0 m 64 ls [.int 0]) (by rw [hw523]) ?_
  refine lv_istore (lv' := [(6, .int 0), (4, .int 0), (5, .ref a386), (3, .int 48), (2, .int 1), (1, .int 0), (0, .ref h0)]) hx hb dX9_shown_64 hl (by decide) rfl (fun ls hl => ?_)
  refine lv_iload hx hb dX9_shown_66 (lv_at hl 1 rfl) ?_
  refine lv_if_ne (tgt := 82) hx hb dX9_shown_68 (by decide) (fun cz => absurd (by decide) cz) (fun _ => ?_)
  refine lv_aload_n hx hb dX9_shown_71 rfl (lv_at hl 6 rfl) ?_
  refine lv_iload_n hx hb dX9_shown_72 rfl (lv_at hl 4 rfl) ?_
  refine lv_iload_n hx hb dX9_shown_73 rfl (lv_at hl 3 rfl) ?_
  refine lv_iload hx hb dX9_shown_74 (lv_at hl 0 rfl) ?_
  have hM527 := k654_showsIt l hl9 dC dI z h0 h1 h2 h4 h5 h7 h8 h9 h10 h11 h12 h3 H523.size kc0 kc2
  obtain ⟨hF525, hC528⟩ := pc_M hM527 hP hD hK hS hX hT hA [0, 1, 2, 3, 4, 5, 6, 7, 8, 9, 10] [0, 1] rfl rfl rfl
  refine va_calli (va_runV (As := [.int 1, .int 48, .int 0]) (rest := []) ⟨hx, hb, hml, hown, hts⟩ hM527 (cwV 3 hts (gV q_429 q_430 q_431 q_60 q_428) rfl rfl rfl hV_X9_showsIt ⟨Nat.le_of_ble_eq_true rfl, Nat.le_of_ble_eq_true rfl⟩) ⟨pc_blind, va_recv hK hP (ci := 8) (q0 := 0) rfl rfl, fun U hU hW => ⟨rfl, hC528 U hU hW⟩⟩ rfl rfl hl.1 rfl (lv_room (Nat.le_of_ble_eq_true rfl)) dX9_shown_76 ⟨(Nat.le_of_ble_eq_true rfl), (Nat.le_of_ble_eq_true rfl)⟩) hS (fun q9 _ h9 => hF525 q9 h9) hF525 (fun r530 u529 t529 H529 L529 ht529 hvm529 hw529 hB529 hz529 hk529 hS => ?_)
  have hP := pq_keep hP hD [0, 1, 2, 3, 4, 5, 6, 7, 8, 9, 10] rfl hk529 hB529.1 ht529
  have hG : s.heap.size + 423 ≤ H529.size := va_gr (g := 402) (g1 := 21) hG (by rw [← ht529]; exact hB529.2)
  refine W.eq (g2 := F0 m 79 ls [.int 0]) (by rw [hw529]) ?_
  refine W.widen (k := 423) (n := 4572) (by decide) (by decide) ?_
  refine lv_if_eq (tgt := 86) hx hb dX9_shown_79 (by decide) (fun _ => ?_) (fun cz => absurd (by decide) cz)
  refine lv_iconst (v := 0) hx hb dX9_shown_86 (by decide) ?_
  refine lv_istore (lv' := [(4, .int 0), (6, .int 0), (5, .ref a386), (3, .int 48), (2, .int 1), (1, .int 0), (0, .ref h0)]) hx hb dX9_shown_87 hl (by decide) rfl (fun ls hl => ?_)
  refine lv_goto (tgt := 41) hx hb dX9_shown_89 (by decide) ?_
  refine lv_aload hx hb dX9_shown_41 (lv_at hl 2 rfl) ?_
  have hM533 := k647_hasNext l hl9 dC dI z a386 h3 h6 H529.size
  obtain ⟨hF531, hC534⟩ := pc_M hM533 hP hD hK hS hX hT hA [11, 12] [] rfl rfl rfl
  refine va_callFi (va_runF (As := []) (rest := []) (hK.1 1 _ rfl).2 ⟨hx, hb, hml, hown, hts⟩ hM533 (va_cwF 0 hts (gF q_261 q_262 q_263 q_246 q_260) rfl rfl rfl hT.2.2.2.2.2.2.1 hF_xIh ⟨Nat.le_of_ble_eq_true rfl, Nat.le_of_ble_eq_true rfl⟩) ⟨pc_blind, va_recv hK hP (ci := 1) (q0 := 11) rfl rfl, fun U hU hW => ⟨rfl, hC534 U hU hW⟩⟩ rfl rfl hl.1 rfl (lv_room (Nat.le_of_ble_eq_true rfl)) dX9_shown_43 ⟨(Nat.le_of_ble_eq_true rfl), (Nat.le_of_ble_eq_true rfl)⟩) hS (fun q9 _ h9 => hF531 q9 h9) hF531 (fun r536 u535 t535 H535 L535 ht535 hvm535 hw535 hB535 hz535 hk535 hS => ?_)
  have hP := pq_keep hP hD [11, 12] rfl hk535 hB535.1 ht535
  have hG : s.heap.size + 423 ≤ H535.size := Nat.le_trans hG hz535
  refine W.eq (g2 := F0 m 48 ls [.int 1]) (by rw [hw535]) ?_
  refine lv_if_eq (tgt := 92) hx hb dX9_shown_48 (by decide) (fun cz => absurd cz (by decide)) (fun _ => ?_)
  refine lv_aload hx hb dX9_shown_51 (lv_at hl 2 rfl) ?_
  have hM539 := k649_next l hl9 dC dI z a386 h3 h6 H535.size kc1
  obtain ⟨hF537, hC540⟩ := pc_M hM539 hP hD hK hS hX hT hA [11, 12, 13] [2] rfl rfl rfl
  refine va_callFr (va_runF (As := []) (rest := []) (hK.1 1 _ rfl).2 ⟨hx, hb, hml, hown, hts⟩ hM539 (va_cwF 0 hts (gF q_308 q_309 q_310 q_246 q_307) rfl rfl rfl hT.2.2.2.2.2.2.2.1 hF_xIn ⟨Nat.le_of_ble_eq_true rfl, Nat.le_of_ble_eq_true rfl⟩) ⟨pc_blind, va_recv hK hP (ci := 1) (q0 := 11) rfl rfl, fun U hU hW => ⟨rfl, hC540 U hU hW⟩⟩ rfl rfl hl.1 rfl (lv_room (Nat.le_of_ble_eq_true rfl)) dX9_shown_53 ⟨(Nat.le_of_ble_eq_true rfl), (Nat.le_of_ble_eq_true rfl)⟩) hS (fun q9 _ h9 => hF537 q9 h9) hF537 (fun u541 r542 t541 H541 L541 ht541 hvm541 hw541 hB541 hz541 hk541 hS => ?_)
  obtain ⟨hr541, hB541⟩ := hB541
  obtain ⟨hP, hD, hK⟩ := pq_jn (wz := [(h0, ce21 h1 h2 h3 h4), (h1, ce201 h5), (h2, ce3 z.1), (h4, ce226 h7), (h5, ce200 kc0 h8 h9 h10 h11 h12), (h7, ce200 kc2 (z.2.2.1 128) (z.2.2.1 129) (z.2.2.1 130) (z.2.2.1 131) (z.2.2.1 132)), (h8, ce49), (h9, ce49), (h10, ce49), (h11, ce49), (h12, ce49), (a386, ce320 h3), (h3, ce276 h6), (h6, ce275 kc1 (z.2.2.1 128) (z.2.2.1 128) (z.2.2.1 128) (z.2.2.1 128) (z.2.2.1 128) (z.2.2.1 128) (z.2.2.1 128))]) (tz := [(kc0, .object "java/lang/Object"), (kc2, .object "java/lang/Object"), (kc1, .object "java/lang/Object")]) hP hD hK [11, 12, 13] [0, 1] rfl hk541 hF537 hB541.1 ht541 hvm541 rfl rfl
  have hG : s.heap.size + 423 ≤ H541.size := Nat.le_trans hG hz541
  refine W.eq (g2 := F0 m 58 ls [.ref (z.2.2.1 128)]) (by rw [hr541]) ?_
  refine va_castE (nm := "java/lang/Integer") hx hb hown (hts _ q_320) (va_Orecv (hX.2.2.1.1.1 128 (by decide)) hS) dX9_shown_58 ?_
  have hM545 := k74_intValue l hl9 dC dI z H541.size
  obtain ⟨hF543, hC546⟩ := pc_M hM545 hP hD hK hS hX hT hA [] [] rfl rfl rfl
  refine va_calli (va_runV (As := []) (rest := []) ⟨hx, hb, hml, hown, hts⟩ hM545 (cwV 0 hts (gV q_323 q_324 q_325 q_297 q_322) rfl rfl rfl hV_J6_intValue_8abf5 ⟨Nat.le_of_ble_eq_true rfl, Nat.le_of_ble_eq_true rfl⟩) ⟨pc_blind, va_Orecv (hX.2.2.1.1.1 128 (by decide)) hS, fun U hU hW => ⟨rfl, hC546 U hU hW⟩⟩ rfl rfl hl.1 rfl (lv_room (Nat.le_of_ble_eq_true rfl)) dX9_shown_61 ⟨(Nat.le_of_ble_eq_true rfl), (Nat.le_of_ble_eq_true rfl)⟩) hS (fun q9 _ h9 => hF543 q9 h9) hF543 (fun r548 u547 t547 H547 L547 ht547 hvm547 hw547 hB547 hz547 hk547 hS => ?_)
  have hP := pq_keep hP hD [] rfl hk547 hB547.1 ht547
  have hG : s.heap.size + 423 ≤ H547.size := Nat.le_trans hG hz547
  refine W.eq (g2 := F0 m 64 ls [.int 0]) (by rw [hw547]) ?_
  refine lv_istore (lv' := [(6, .int 0), (4, .int 0), (5, .ref a386), (3, .int 48), (2, .int 1), (1, .int 0), (0, .ref h0)]) hx hb dX9_shown_64 hl (by decide) rfl (fun ls hl => ?_)
  refine lv_iload hx hb dX9_shown_66 (lv_at hl 1 rfl) ?_
  refine lv_if_ne (tgt := 82) hx hb dX9_shown_68 (by decide) (fun cz => absurd (by decide) cz) (fun _ => ?_)
  refine lv_aload_n hx hb dX9_shown_71 rfl (lv_at hl 6 rfl) ?_
  refine lv_iload_n hx hb dX9_shown_72 rfl (lv_at hl 4 rfl) ?_
  refine lv_iload_n hx hb dX9_shown_73 rfl (lv_at hl 3 rfl) ?_
  refine lv_iload hx hb dX9_shown_74 (lv_at hl 0 rfl) ?_
  have hM551 := k654_showsIt l hl9 dC dI z h0 h1 h2 h4 h5 h7 h8 h9 h10 h11 h12 h3 H547.size kc0 kc2
  obtain ⟨hF549, hC552⟩ := pc_M hM551 hP hD hK hS hX hT hA [0, 1, 2, 3, 4, 5, 6, 7, 8, 9, 10] [0, 1] rfl rfl rfl
  refine va_calli (va_runV (As := [.int 1, .int 48, .int 0]) (rest := []) ⟨hx, hb, hml, hown, hts⟩ hM551 (cwV 3 hts (gV q_429 q_430 q_431 q_60 q_428) rfl rfl rfl hV_X9_showsIt ⟨Nat.le_of_ble_eq_true rfl, Nat.le_of_ble_eq_true rfl⟩) ⟨pc_blind, va_recv hK hP (ci := 8) (q0 := 0) rfl rfl, fun U hU hW => ⟨rfl, hC552 U hU hW⟩⟩ rfl rfl hl.1 rfl (lv_room (Nat.le_of_ble_eq_true rfl)) dX9_shown_76 ⟨(Nat.le_of_ble_eq_true rfl), (Nat.le_of_ble_eq_true rfl)⟩) hS (fun q9 _ h9 => hF549 q9 h9) hF549 (fun r554 u553 t553 H553 L553 ht553 hvm553 hw553 hB553 hz553 hk553 hS => ?_)
  have hP := pq_keep hP hD [0, 1, 2, 3, 4, 5, 6, 7, 8, 9, 10] rfl hk553 hB553.1 ht553
  have hG : s.heap.size + 444 ≤ H553.size := va_gr (g := 423) (g1 := 21) hG (by rw [← ht553]; exact hB553.2)
  refine W.eq (g2 := F0 m 79 ls [.int 0]) (by rw [hw553]) ?_
  refine W.widen (k := 444) (n := 4800) (by decide) (by decide) ?_
  refine lv_if_eq (tgt := 86) hx hb dX9_shown_79 (by decide) (fun _ => ?_) (fun cz => absurd (by decide) cz)
  refine lv_iconst (v := 0) hx hb dX9_shown_86 (by decide) ?_
  refine lv_istore (lv' := [(4, .int 0), (6, .int 0), (5, .ref a386), (3, .int 48), (2, .int 1), (1, .int 0), (0, .ref h0)]) hx hb dX9_shown_87 hl (by decide) rfl (fun ls hl => ?_)
  refine lv_goto (tgt := 41) hx hb dX9_shown_89 (by decide) ?_
  refine lv_aload hx hb dX9_shown_41 (lv_at hl 2 rfl) ?_
  have hM557 := k650_hasNext l hl9 dC dI z a386 h3 h6 H553.size
  obtain ⟨hF555, hC558⟩ := pc_M hM557 hP hD hK hS hX hT hA [11, 12] [] rfl rfl rfl
  refine va_callFi (va_runF (As := []) (rest := []) (hK.1 1 _ rfl).2 ⟨hx, hb, hml, hown, hts⟩ hM557 (va_cwF 0 hts (gF q_261 q_262 q_263 q_246 q_260) rfl rfl rfl hT.2.2.2.2.2.2.1 hF_xIh ⟨Nat.le_of_ble_eq_true rfl, Nat.le_of_ble_eq_true rfl⟩) ⟨pc_blind, va_recv hK hP (ci := 1) (q0 := 11) rfl rfl, fun U hU hW => ⟨rfl, hC558 U hU hW⟩⟩ rfl rfl hl.1 rfl (lv_room (Nat.le_of_ble_eq_true rfl)) dX9_shown_43 ⟨(Nat.le_of_ble_eq_true rfl), (Nat.le_of_ble_eq_true rfl)⟩) hS (fun q9 _ h9 => hF555 q9 h9) hF555 (fun r560 u559 t559 H559 L559 ht559 hvm559 hw559 hB559 hz559 hk559 hS => ?_)
  have hP := pq_keep hP hD [11, 12] rfl hk559 hB559.1 ht559
  have hG : s.heap.size + 444 ≤ H559.size := Nat.le_trans hG hz559
  refine W.eq (g2 := F0 m 48 ls [.int 0]) (by rw [hw559]) ?_
  refine lv_if_eq (tgt := 92) hx hb dX9_shown_48 (by decide) (fun _ => ?_) (fun cz => absurd (by decide) cz)
  refine lv_iload_n hx hb dX9_shown_92 rfl (lv_at hl 5 rfl) ?_
  refine lv_iload hx hb dX9_shown_93 (lv_at hl 0 rfl) ?_
  refine lv_if_eq (tgt := 102) hx hb dX9_shown_95 (by decide) (fun _ => ?_) (fun cz => absurd (by decide) cz)
  refine lv_iconst (v := 0) hx hb dX9_shown_102 (by decide) ?_
  refine lv_iadd hx hb dX9_shown_103 ?_
  refine lv_topi (fun y561 ey561 => ?_)
  obtain rfl : y561 = 0 := ey561.trans (by decide)
  refine lv_istore_n (lv' := [(1, .int 0), (4, .int 0), (6, .int 0), (5, .ref a386), (3, .int 48), (2, .int 1), (0, .ref h0)]) hx hb dX9_shown_104 rfl hl (by decide) rfl (fun ls hl => ?_)
  refine lv_iload_n hx hb dX9_shown_105 rfl (lv_at hl 4 rfl) ?_
  refine lv_iconst (v := 1) hx hb dX9_shown_106 (by decide) ?_
  refine lv_iadd hx hb dX9_shown_107 ?_
  refine lv_topi (fun y562 ey562 => ?_)
  obtain rfl : y562 = 49 := ey562.trans (by decide)
  refine lv_i2c (v := 49) hx hb dX9_shown_108 (by decide) ?_
  refine lv_istore_n (lv' := [(3, .int 49), (1, .int 0), (4, .int 0), (6, .int 0), (5, .ref a386), (2, .int 1), (0, .ref h0)]) hx hb dX9_shown_109 rfl hl (by decide) rfl (fun ls hl => ?_)
  refine lv_goto (tgt := 23) hx hb dX9_shown_110 (by decide) ?_
  exact hend _ _ _ hS (hP.sub [0, 1, 2, 12, 3, 4, 13, 5, 6, 7, 8, 9, 10] rfl) (hD.sub [0, 1, 2, 12, 3, 4, 13, 5, 6, 7, 8, 9, 10] rfl rfl) (lv_sub hl [0, 1, 5, 6] rfl) hG

set_option maxHeartbeats 8000000 in
set_option maxRecDepth 100000 in
theorem k669_shown_g5 {p : Program} {l : Launch} {e : Env} {s : State} {m : MethodId} {args : Array Value} {below : List Frame} {meth : Method} {c : Code} {Q : State → Prop} {A : Nat → Prop} {H : Heap} {locs : List Loc} {ls : Array Slot} {dC : Nat → ClassId} {dI : Nat → Nat → Nat} {z : XZ} {h0 h1 h2 h3 h4 h5 h6 h7 h8 h9 h10 h11 h12 : Nat} {kc0 kc1 kc2 : ClassId} (hl9 : l.stackTraces = false) (hx : p.tables.exec = Jvm.exec) (hb : c.code = cX9_shown) (hml : c.maxLocals = 7) (hown : s.vm.findClass RX9 = some m.cls) (hts : ∀ w ∈ wsL_law, w.before args s = true) (hA : ∀ q : Nat, s.heap.size ≤ q → A q) (hX : XE z A s s.heap) (hT : XT s) (hS : va_S A s.heap H locs) (hP : va_P (dC, dI) xCl [(h0, ce21 h1 h2 h3 h4), (h1, ce201 h5), (h2, ce3 z.1), (h3, ce276 h6), (h4, ce226 h7), (h5, ce200 kc0 h8 h9 h10 h11 h12), (h6, ce275 kc1 (z.2.2.1 128) (z.2.2.1 128) (z.2.2.1 128) (z.2.2.1 128) (z.2.2.1 128) (z.2.2.1 128) (z.2.2.1 128)), (h7, ce200 kc2 (z.2.2.1 128) (z.2.2.1 129) (z.2.2.1 130) (z.2.2.1 131) (z.2.2.1 132)), (h8, ce49), (h9, ce49), (h10, ce49), (h11, ce49), (h12, ce49)] H) (hD : va_D A [(h0, ce21 h1 h2 h3 h4), (h1, ce201 h5), (h2, ce3 z.1), (h3, ce276 h6), (h4, ce226 h7), (h5, ce200 kc0 h8 h9 h10 h11 h12), (h6, ce275 kc1 (z.2.2.1 128) (z.2.2.1 128) (z.2.2.1 128) (z.2.2.1 128) (z.2.2.1 128) (z.2.2.1 128) (z.2.2.1 128)), (h7, ce200 kc2 (z.2.2.1 128) (z.2.2.1 129) (z.2.2.1 130) (z.2.2.1 131) (z.2.2.1 132)), (h8, ce49), (h9, ce49), (h10, ce49), (h11, ce49), (h12, ce49)]) (hK : va_K (dC, dI) xCl [(kc0, .object "java/lang/Object"), (kc1, .object "java/lang/Object"), (kc2, .object "java/lang/Object")] s) (hl : lv_has ls 7 [(3, .int 49), (1, .int 0), (2, .int 1), (0, .ref h0)]) (hG : s.heap.size + 444 ≤ H.size) (hend : ∀ (H' : Heap) (locs' : List Loc) (ls' : Array Slot), va_S A s.heap H' locs' → va_P (dC, dI) xCl [(h0, ce21 h1 h2 h3 h4), (h1, ce201 h5), (h2, ce3 z.1), (h3, ce276 h6), (h4, ce226 h7), (h5, ce200 kc0 h8 h9 h10 h11 h12), (h6, ce275 kc1 (z.2.2.1 128) (z.2.2.1 128) (z.2.2.1 128) (z.2.2.1 128) (z.2.2.1 128) (z.2.2.1 128) (z.2.2.1 128)), (h7, ce200 kc2 (z.2.2.1 128) (z.2.2.1 129) (z.2.2.1 130) (z.2.2.1 131) (z.2.2.1 132)), (h8, ce49), (h9, ce49), (h10, ce49), (h11, ce49), (h12, ce49)] H' → va_D A [(h0, ce21 h1 h2 h3 h4), (h1, ce201 h5), (h2, ce3 z.1), (h3, ce276 h6), (h4, ce226 h7), (h5, ce200 kc0 h8 h9 h10 h11 h12), (h6, ce275 kc1 (z.2.2.1 128) (z.2.2.1 128) (z.2.2.1 128) (z.2.2.1 128) (z.2.2.1 128) (z.2.2.1 128) (z.2.2.1 128)), (h7, ce200 kc2 (z.2.2.1 128) (z.2.2.1 129) (z.2.2.1 130) (z.2.2.1 131) (z.2.2.1 132)), (h8, ce49), (h9, ce49), (h10, ce49), (h11, ce49), (h12, ce49)] → lv_has ls' 7 [(3, .int 50), (1, .int 0), (2, .int 1), (0, .ref h0)] → s.heap.size + 592 ≤ H'.size → W p l e ({ frames := 5, cells := 1480, slots := 16000, locals := 121 } : Room) s m args below meth c H' locs' 592 6400 Q (F0 m 23 ls' [])) : W p l e ({ frames := 5, cells := 1480, slots := 16000, locals := 121 } : Room) s m args below meth c H locs 444 4800 Q (F0 m 23 ls []) := by
  refine lv_iload_n hx hb dX9_shown_23 rfl (lv_at hl 0 rfl) ?_
  refine lv_bipush (v := 49) hx hb dX9_shown_24 (by decide) ?_
  refine lv_icmp_gt (tgt := 113) hx hb dX9_shown_26 (by decide) (fun cz => absurd cz (by decide)) (fun _ => ?_)
  refine lv_iconst (v := 0) hx hb dX9_shown_29 (by decide) ?_
  refine lv_istore (lv' := [(4, .int 0), (3, .int 49), (1, .int 0), (2, .int 1), (0, .ref h0)]) hx hb dX9_shown_30 hl (by decide) rfl (fun ls hl => ?_)
  refine lv_aload_n hx hb dX9_shown_32 rfl (lv_at hl 4 rfl) ?_
  refine va_get (D := (dC, dI)) (ci := 8) (v := .ref h3) (C := RX9) (T := TX9) (N := 6) hx hb hts in_X9 hown hK hP 0 rfl rfl 3 (by decide) (hts _ q_66) (fun _ h9 => h9) rfl dX9_shown_33 ?_
  have hM565 := k619_iterator l hl9 dC dI z h3 h6 H.size
  obtain ⟨hF563, hC566⟩ := pc_M hM565 hP hD hK hS hX hT hA [3] [] rfl rfl rfl
  refine va_callr (va_runV (As := []) (rest := []) ⟨hx, hb, hml, hown, hts⟩ hM565 (cwV 0 hts (gV q_256 q_257 q_258 q_12 q_255) rfl rfl rfl hV_Jx4a65c_iterator_32c93 ⟨Nat.le_of_ble_eq_true rfl, Nat.le_of_ble_eq_true rfl⟩) ⟨pc_blind, va_recv hK hP (ci := 0) (q0 := 3) rfl rfl, fun U hU hW => ⟨rfl, hC566 U hU hW⟩⟩ rfl rfl hl.1 rfl (lv_room (Nat.le_of_ble_eq_true rfl)) dX9_shown_36 ⟨(Nat.le_of_ble_eq_true rfl), (Nat.le_of_ble_eq_true rfl)⟩) hS (fun q9 _ h9 => hF563 q9 h9) hF563 (fun u567 r568 t567 H567 L567 ht567 hvm567 hw567 hB567 hz567 hk567 hS => ?_)
  obtain ⟨a569, hr567, hB567⟩ := hB567
  obtain ⟨hP, hD, hK⟩ := pq_jn (wz := [(h0, ce21 h1 h2 h3 h4), (h1, ce201 h5), (h2, ce3 z.1), (h4, ce226 h7), (h5, ce200 kc0 h8 h9 h10 h11 h12), (h6, ce275 kc1 (z.2.2.1 128) (z.2.2.1 128) (z.2.2.1 128) (z.2.2.1 128) (z.2.2.1 128) (z.2.2.1 128) (z.2.2.1 128)), (h7, ce200 kc2 (z.2.2.1 128) (z.2.2.1 129) (z.2.2.1 130) (z.2.2.1 131) (z.2.2.1 132)), (h8, ce49), (h9, ce49), (h10, ce49), (h11, ce49), (h12, ce49), (h3, ce276 h6), (a569, ce292 h3)]) (tz := [(kc0, .object "java/lang/Object"), (kc1, .object "java/lang/Object"), (kc2, .object "java/lang/Object")]) hP hD hK [3] [0, 1, 2] rfl hk567 hF563 hB567.1 ht567 hvm567 rfl rfl
  have hG : s.heap.size + 445 ≤ H567.size := va_gr (g := 444) (g1 := 1) hG (by rw [← ht567]; exact hB567.2)
  refine W.eq (g2 := F0 m 39 ls [.ref a569]) (by rw [hr567]) ?_
  refine W.widen (k := 445) (n := 4804) (by decide) (by decide) ?_
  refine lv_astore (lv' := [(5, .ref a569), (4, .int 0), (3, .int 49), (1, .int 0), (2, .int 1), (0, .ref h0)]) hx hb dX9_shown_39 hl (by decide) rfl (fun ls hl => ?_)
  refine lv_aload hx hb dX9_shown_41 (lv_at hl 0 rfl) ?_
  have hM572 := k620_hasNext l hl9 dC dI z a569 h3 h6 H567.size
  obtain ⟨hF570, hC573⟩ := pc_M hM572 hP hD hK hS hX hT hA [13, 12] [] rfl rfl rfl
  refine va_callFi (va_runF (As := []) (rest := []) (hK.1 1 _ rfl).2 ⟨hx, hb, hml, hown, hts⟩ hM572 (va_cwF 0 hts (gF q_261 q_262 q_263 q_246 q_260) rfl rfl rfl hT.2.2.2.2.2.2.1 hF_xIh ⟨Nat.le_of_ble_eq_true rfl, Nat.le_of_ble_eq_true rfl⟩) ⟨pc_blind, va_recv hK hP (ci := 1) (q0 := 13) rfl rfl, fun U hU hW => ⟨rfl, hC573 U hU hW⟩⟩ rfl rfl hl.1 rfl (lv_room (Nat.le_of_ble_eq_true rfl)) dX9_shown_43 ⟨(Nat.le_of_ble_eq_true rfl), (Nat.le_of_ble_eq_true rfl)⟩) hS (fun q9 _ h9 => hF570 q9 h9) hF570 (fun r575 u574 t574 H574 L574 ht574 hvm574 hw574 hB574 hz574 hk574 hS => ?_)
  have hP := pq_keep hP hD [13, 12] rfl hk574 hB574.1 ht574
  have hG : s.heap.size + 445 ≤ H574.size := Nat.le_trans hG hz574
  refine W.eq (g2 := F0 m 48 ls [.int 1]) (by rw [hw574]) ?_
  refine lv_if_eq (tgt := 92) hx hb dX9_shown_48 (by decide) (fun cz => absurd cz (by decide)) (fun _ => ?_)
  refine lv_aload hx hb dX9_shown_51 (lv_at hl 0 rfl) ?_
  have hM578 := k622_next l hl9 dC dI z a569 h3 h6 H574.size kc1
  obtain ⟨hF576, hC579⟩ := pc_M hM578 hP hD hK hS hX hT hA [13, 12, 5] [1] rfl rfl rfl
  refine va_callFr (va_runF (As := []) (rest := []) (hK.1 1 _ rfl).2 ⟨hx, hb, hml, hown, hts⟩ hM578 (va_cwF 0 hts (gF q_308 q_309 q_310 q_246 q_307) rfl rfl rfl hT.2.2.2.2.2.2.2.1 hF_xIn ⟨Nat.le_of_ble_eq_true rfl, Nat.le_of_ble_eq_true rfl⟩) ⟨pc_blind, va_recv hK hP (ci := 1) (q0 := 13) rfl rfl, fun U hU hW => ⟨rfl, hC579 U hU hW⟩⟩ rfl rfl hl.1 rfl (lv_room (Nat.le_of_ble_eq_true rfl)) dX9_shown_53 ⟨(Nat.le_of_ble_eq_true rfl), (Nat.le_of_ble_eq_true rfl)⟩) hS (fun q9 _ h9 => hF576 q9 h9) hF576 (fun u580 r581 t580 H580 L580 ht580 hvm580 hw580 hB580 hz580 hk580 hS => ?_)
  obtain ⟨hr580, hB580⟩ := hB580
  obtain ⟨hP, hD, hK⟩ := pq_jn (wz := [(h0, ce21 h1 h2 h3 h4), (h1, ce201 h5), (h2, ce3 z.1), (h4, ce226 h7), (h5, ce200 kc0 h8 h9 h10 h11 h12), (h7, ce200 kc2 (z.2.2.1 128) (z.2.2.1 129) (z.2.2.1 130) (z.2.2.1 131) (z.2.2.1 132)), (h8, ce49), (h9, ce49), (h10, ce49), (h11, ce49), (h12, ce49), (a569, ce294 h3), (h3, ce276 h6), (h6, ce275 kc1 (z.2.2.1 128) (z.2.2.1 128) (z.2.2.1 128) (z.2.2.1 128) (z.2.2.1 128) (z.2.2.1 128) (z.2.2.1 128))]) (tz := [(kc0, .object "java/lang/Object"), (kc2, .object "java/lang/Object"), (kc1, .object "java/lang/Object")]) hP hD hK [13, 12, 5] [0, 2] rfl hk580 hF576 hB580.1 ht580 hvm580 rfl rfl
  have hG : s.heap.size + 445 ≤ H580.size := Nat.le_trans hG hz580
  refine W.eq (g2 := F0 m 58 ls [.ref (z.2.2.1 128)]) (by rw [hr580]) ?_
  refine va_castE (nm := "java/lang/Integer") hx hb hown (hts _ q_320) (va_Orecv (hX.2.2.1.1.1 128 (by decide)) hS) dX9_shown_58 ?_
  have hM584 := k74_intValue l hl9 dC dI z H580.size
  obtain ⟨hF582, hC585⟩ := pc_M hM584 hP hD hK hS hX hT hA [] [] rfl rfl rfl
  refine va_calli (va_runV (As := []) (rest := []) ⟨hx, hb, hml, hown, hts⟩ hM584 (cwV 0 hts (gV q_323 q_324 q_325 q_297 q_322) rfl rfl rfl hV_J6_intValue_8abf5 ⟨Nat.le_of_ble_eq_true rfl, Nat.le_of_ble_eq_true rfl⟩) ⟨pc_blind, va_Orecv (hX.2.2.1.1.1 128 (by decide)) hS, fun U hU hW => ⟨rfl, hC585 U hU hW⟩⟩ rfl rfl hl.1 rfl (lv_room (Nat.le_of_ble_eq_true rfl)) dX9_shown_61 ⟨(Nat.le_of_ble_eq_true rfl), (Nat.le_of_ble_eq_true rfl)⟩) hS (fun q9 _ h9 => hF582 q9 h9) hF582 (fun r587 u586 t586 H586 L586 ht586 hvm586 hw586 hB586 hz586 hk586 hS => ?_)
  have hP := pq_keep hP hD [] rfl hk586 hB586.1 ht586
  have hG : s.heap.size + 445 ≤ H586.size := Nat.le_trans hG hz586
  refine W.eq (g2 := F0 m 64 ls [.int 0]) (by rw [hw586]) ?_
  refine lv_istore (lv' := [(6, .int 0), (5, .ref a569), (4, .int 0), (3, .int 49), (1, .int 0), (2, .int 1), (0, .ref h0)]) hx hb dX9_shown_64 hl (by decide) rfl (fun ls hl => ?_)
  refine lv_iload hx hb dX9_shown_66 (lv_at hl 2 rfl) ?_
  refine lv_if_ne (tgt := 82) hx hb dX9_shown_68 (by decide) (fun cz => absurd (by decide) cz) (fun _ => ?_)
  refine lv_aload_n hx hb dX9_shown_71 rfl (lv_at hl 6 rfl) ?_
  refine lv_iload_n hx hb dX9_shown_72 rfl (lv_at hl 5 rfl) ?_
  refine lv_iload_n hx hb dX9_shown_73 rfl (lv_at hl 3 rfl) ?_
  refine lv_iload hx hb dX9_shown_74 (lv_at hl 0 rfl) ?_
  have hM590 := k656_showsIt l hl9 dC dI z h0 h1 h2 h4 h5 h7 h8 h9 h10 h11 h12 h3 H586.size kc0 kc2
  obtain ⟨hF588, hC591⟩ := pc_M hM590 hP hD hK hS hX hT hA [0, 1, 2, 3, 4, 5, 6, 7, 8, 9, 10] [0, 1] rfl rfl rfl
  refine va_calli (va_runV (As := [.int 1, .int 49, .int 0]) (rest := []) ⟨hx, hb, hml, hown, hts⟩ hM590 (cwV 3 hts (gV q_429 q_430 q_431 q_60 q_428) rfl rfl rfl hV_X9_showsIt ⟨Nat.le_of_ble_eq_true rfl, Nat.le_of_ble_eq_true rfl⟩) ⟨pc_blind, va_recv hK hP (ci := 8) (q0 := 0) rfl rfl, fun U hU hW => ⟨rfl, hC591 U hU hW⟩⟩ rfl rfl hl.1 rfl (lv_room (Nat.le_of_ble_eq_true rfl)) dX9_shown_76 ⟨(Nat.le_of_ble_eq_true rfl), (Nat.le_of_ble_eq_true rfl)⟩) hS (fun q9 _ h9 => hF588 q9 h9) hF588 (fun r593 u592 t592 H592 L592 ht592 hvm592 hw592 hB592 hz592 hk592 hS => ?_)
  have hP := pq_keep hP hD [0, 1, 2, 3, 4, 5, 6, 7, 8, 9, 10] rfl hk592 hB592.1 ht592
  have hG : s.heap.size + 466 ≤ H592.size := va_gr (g := 445) (g1 := 21) hG (by rw [← ht592]; exact hB592.2)
  refine W.eq (g2 := F0 m 79 ls [.int 0]) (by rw [hw592]) ?_
  refine W.widen (k := 466) (n := 5032) (by decide) (by decide) ?_
  refine lv_if_eq (tgt := 86) hx hb dX9_shown_79 (by decide) (fun _ => ?_) (fun cz => absurd (by decide) cz)
  refine lv_iconst (v := 0) hx hb dX9_shown_86 (by decide) ?_
  refine lv_istore (lv' := [(4, .int 0), (6, .int 0), (5, .ref a569), (3, .int 49), (1, .int 0), (2, .int 1), (0, .ref h0)]) hx hb dX9_shown_87 hl (by decide) rfl (fun ls hl => ?_)
  refine lv_goto (tgt := 41) hx hb dX9_shown_89 (by decide) ?_
  refine lv_aload hx hb dX9_shown_41 (lv_at hl 2 rfl) ?_
  have hM596 := k632_hasNext l hl9 dC dI z a569 h3 h6 H592.size
  obtain ⟨hF594, hC597⟩ := pc_M hM596 hP hD hK hS hX hT hA [11, 12] [] rfl rfl rfl
  refine va_callFi (va_runF (As := []) (rest := []) (hK.1 1 _ rfl).2 ⟨hx, hb, hml, hown, hts⟩ hM596 (va_cwF 0 hts (gF q_261 q_262 q_263 q_246 q_260) rfl rfl rfl hT.2.2.2.2.2.2.1 hF_xIh ⟨Nat.le_of_ble_eq_true rfl, Nat.le_of_ble_eq_true rfl⟩) ⟨pc_blind, va_recv hK hP (ci := 1) (q0 := 11) rfl rfl, fun U hU hW => ⟨rfl, hC597 U hU hW⟩⟩ rfl rfl hl.1 rfl (lv_room (Nat.le_of_ble_eq_true rfl)) dX9_shown_43 ⟨(Nat.le_of_ble_eq_true rfl), (Nat.le_of_ble_eq_true rfl)⟩) hS (fun q9 _ h9 => hF594 q9 h9) hF594 (fun r599 u598 t598 H598 L598 ht598 hvm598 hw598 hB598 hz598 hk598 hS => ?_)
  have hP := pq_keep hP hD [11, 12] rfl hk598 hB598.1 ht598
  have hG : s.heap.size + 466 ≤ H598.size := Nat.le_trans hG hz598
  refine W.eq (g2 := F0 m 48 ls [.int 1]) (by rw [hw598]) ?_
  refine lv_if_eq (tgt := 92) hx hb dX9_shown_48 (by decide) (fun cz => absurd cz (by decide)) (fun _ => ?_)
  refine lv_aload hx hb dX9_shown_51 (lv_at hl 2 rfl) ?_
  have hM602 := k634_next l hl9 dC dI z a569 h3 h6 H598.size kc1
  obtain ⟨hF600, hC603⟩ := pc_M hM602 hP hD hK hS hX hT hA [11, 12, 13] [2] rfl rfl rfl
  refine va_callFr (va_runF (As := []) (rest := []) (hK.1 1 _ rfl).2 ⟨hx, hb, hml, hown, hts⟩ hM602 (va_cwF 0 hts (gF q_308 q_309 q_310 q_246 q_307) rfl rfl rfl hT.2.2.2.2.2.2.2.1 hF_xIn ⟨Nat.le_of_ble_eq_true rfl, Nat.le_of_ble_eq_true rfl⟩) ⟨pc_blind, va_recv hK hP (ci := 1) (q0 := 11) rfl rfl, fun U hU hW => ⟨rfl, hC603 U hU hW⟩⟩ rfl rfl hl.1 rfl (lv_room (Nat.le_of_ble_eq_true rfl)) dX9_shown_53 ⟨(Nat.le_of_ble_eq_true rfl), (Nat.le_of_ble_eq_true rfl)⟩) hS (fun q9 _ h9 => hF600 q9 h9) hF600 (fun u604 r605 t604 H604 L604 ht604 hvm604 hw604 hB604 hz604 hk604 hS => ?_)
  obtain ⟨hr604, hB604⟩ := hB604
  obtain ⟨hP, hD, hK⟩ := pq_jn (wz := [(h0, ce21 h1 h2 h3 h4), (h1, ce201 h5), (h2, ce3 z.1), (h4, ce226 h7), (h5, ce200 kc0 h8 h9 h10 h11 h12), (h7, ce200 kc2 (z.2.2.1 128) (z.2.2.1 129) (z.2.2.1 130) (z.2.2.1 131) (z.2.2.1 132)), (h8, ce49), (h9, ce49), (h10, ce49), (h11, ce49), (h12, ce49), (a569, ce310 h3), (h3, ce276 h6), (h6, ce275 kc1 (z.2.2.1 128) (z.2.2.1 128) (z.2.2.1 128) (z.2.2.1 128) (z.2.2.1 128) (z.2.2.1 128) (z.2.2.1 128))]) (tz := [(kc0, .object "java/lang/Object"), (kc2, .object "java/lang/Object"), (kc1, .object "java/lang/Object")]) hP hD hK [11, 12, 13] [0, 1] rfl hk604 hF600 hB604.1 ht604 hvm604 rfl rfl
  have hG : s.heap.size + 466 ≤ H604.size := Nat.le_trans hG hz604
  refine W.eq (g2 := F0 m 58 ls [.ref (z.2.2.1 128)]) (by rw [hr604]) ?_
  refine va_castE (nm := "java/lang/Integer") hx hb hown (hts _ q_320) (va_Orecv (hX.2.2.1.1.1 128 (by decide)) hS) dX9_shown_58 ?_
  have hM608 := k74_intValue l hl9 dC dI z H604.size
  obtain ⟨hF606, hC609⟩ := pc_M hM608 hP hD hK hS hX hT hA [] [] rfl rfl rfl
  refine va_calli (va_runV (As := []) (rest := []) ⟨hx, hb, hml, hown, hts⟩ hM608 (cwV 0 hts (gV q_323 q_324 q_325 q_297 q_322) rfl rfl rfl hV_J6_intValue_8abf5 ⟨Nat.le_of_ble_eq_true rfl, Nat.le_of_ble_eq_true rfl⟩) ⟨pc_blind, va_Orecv (hX.2.2.1.1.1 128 (by decide)) hS, fun U hU hW => ⟨rfl, hC609 U hU hW⟩⟩ rfl rfl hl.1 rfl (lv_room (Nat.le_of_ble_eq_true rfl)) dX9_shown_61 ⟨(Nat.le_of_ble_eq_true rfl), (Nat.le_of_ble_eq_true rfl)⟩) hS (fun q9 _ h9 => hF606 q9 h9) hF606 (fun r611 u610 t610 H610 L610 ht610 hvm610 hw610 hB610 hz610 hk610 hS => ?_)
  have hP := pq_keep hP hD [] rfl hk610 hB610.1 ht610
  have hG : s.heap.size + 466 ≤ H610.size := Nat.le_trans hG hz610
  refine W.eq (g2 := F0 m 64 ls [.int 0]) (by rw [hw610]) ?_
  refine lv_istore (lv' := [(6, .int 0), (4, .int 0), (5, .ref a569), (3, .int 49), (1, .int 0), (2, .int 1), (0, .ref h0)]) hx hb dX9_shown_64 hl (by decide) rfl (fun ls hl => ?_)
  refine lv_iload hx hb dX9_shown_66 (lv_at hl 1 rfl) ?_
  refine lv_if_ne (tgt := 82) hx hb dX9_shown_68 (by decide) (fun cz => absurd (by decide) cz) (fun _ => ?_)
  refine lv_aload_n hx hb dX9_shown_71 rfl (lv_at hl 6 rfl) ?_
  refine lv_iload_n hx hb dX9_shown_72 rfl (lv_at hl 5 rfl) ?_
  refine lv_iload_n hx hb dX9_shown_73 rfl (lv_at hl 3 rfl) ?_
  refine lv_iload hx hb dX9_shown_74 (lv_at hl 0 rfl) ?_
  have hM614 := k656_showsIt l hl9 dC dI z h0 h1 h2 h4 h5 h7 h8 h9 h10 h11 h12 h3 H610.size kc0 kc2
  obtain ⟨hF612, hC615⟩ := pc_M hM614 hP hD hK hS hX hT hA [0, 1, 2, 3, 4, 5, 6, 7, 8, 9, 10] [0, 1] rfl rfl rfl
  refine va_calli (va_runV (As := [.int 1, .int 49, .int 0]) (rest := []) ⟨hx, hb, hml, hown, hts⟩ hM614 (cwV 3 hts (gV q_429 q_430 q_431 q_60 q_428) rfl rfl rfl hV_X9_showsIt ⟨Nat.le_of_ble_eq_true rfl, Nat.le_of_ble_eq_true rfl⟩) ⟨pc_blind, va_recv hK hP (ci := 8) (q0 := 0) rfl rfl, fun U hU hW => ⟨rfl, hC615 U hU hW⟩⟩ rfl rfl hl.1 rfl (lv_room (Nat.le_of_ble_eq_true rfl)) dX9_shown_76 ⟨(Nat.le_of_ble_eq_true rfl), (Nat.le_of_ble_eq_true rfl)⟩) hS (fun q9 _ h9 => hF612 q9 h9) hF612 (fun r617 u616 t616 H616 L616 ht616 hvm616 hw616 hB616 hz616 hk616 hS => ?_)
  have hP := pq_keep hP hD [0, 1, 2, 3, 4, 5, 6, 7, 8, 9, 10] rfl hk616 hB616.1 ht616
  have hG : s.heap.size + 487 ≤ H616.size := va_gr (g := 466) (g1 := 21) hG (by rw [← ht616]; exact hB616.2)
  refine W.eq (g2 := F0 m 79 ls [.int 0]) (by rw [hw616]) ?_
  refine W.widen (k := 487) (n := 5260) (by decide) (by decide) ?_
  refine lv_if_eq (tgt := 86) hx hb dX9_shown_79 (by decide) (fun _ => ?_) (fun cz => absurd (by decide) cz)
  refine lv_iconst (v := 0) hx hb dX9_shown_86 (by decide) ?_
  refine lv_istore (lv' := [(4, .int 0), (6, .int 0), (5, .ref a569), (3, .int 49), (1, .int 0), (2, .int 1), (0, .ref h0)]) hx hb dX9_shown_87 hl (by decide) rfl (fun ls hl => ?_)
  refine lv_goto (tgt := 41) hx hb dX9_shown_89 (by decide) ?_
  refine lv_aload hx hb dX9_shown_41 (lv_at hl 2 rfl) ?_
  have hM620 := k635_hasNext l hl9 dC dI z a569 h3 h6 H616.size
  obtain ⟨hF618, hC621⟩ := pc_M hM620 hP hD hK hS hX hT hA [11, 12] [] rfl rfl rfl
  refine va_callFi (va_runF (As := []) (rest := []) (hK.1 1 _ rfl).2 ⟨hx, hb, hml, hown, hts⟩ hM620 (va_cwF 0 hts (gF q_261 q_262 q_263 q_246 q_260) rfl rfl rfl hT.2.2.2.2.2.2.1 hF_xIh ⟨Nat.le_of_ble_eq_true rfl, Nat.le_of_ble_eq_true rfl⟩) ⟨pc_blind, va_recv hK hP (ci := 1) (q0 := 11) rfl rfl, fun U hU hW => ⟨rfl, hC621 U hU hW⟩⟩ rfl rfl hl.1 rfl (lv_room (Nat.le_of_ble_eq_true rfl)) dX9_shown_43 ⟨(Nat.le_of_ble_eq_true rfl), (Nat.le_of_ble_eq_true rfl)⟩) hS (fun q9 _ h9 => hF618 q9 h9) hF618 (fun r623 u622 t622 H622 L622 ht622 hvm622 hw622 hB622 hz622 hk622 hS => ?_)
  have hP := pq_keep hP hD [11, 12] rfl hk622 hB622.1 ht622
  have hG : s.heap.size + 487 ≤ H622.size := Nat.le_trans hG hz622
  refine W.eq (g2 := F0 m 48 ls [.int 1]) (by rw [hw622]) ?_
  refine lv_if_eq (tgt := 92) hx hb dX9_shown_48 (by decide) (fun cz => absurd cz (by decide)) (fun _ => ?_)
  refine lv_aload hx hb dX9_shown_51 (lv_at hl 2 rfl) ?_
  have hM626 := k637_next l hl9 dC dI z a569 h3 h6 H622.size kc1
  obtain ⟨hF624, hC627⟩ := pc_M hM626 hP hD hK hS hX hT hA [11, 12, 13] [2] rfl rfl rfl
  refine va_callFr (va_runF (As := []) (rest := []) (hK.1 1 _ rfl).2 ⟨hx, hb, hml, hown, hts⟩ hM626 (va_cwF 0 hts (gF q_308 q_309 q_310 q_246 q_307) rfl rfl rfl hT.2.2.2.2.2.2.2.1 hF_xIn ⟨Nat.le_of_ble_eq_true rfl, Nat.le_of_ble_eq_true rfl⟩) ⟨pc_blind, va_recv hK hP (ci := 1) (q0 := 11) rfl rfl, fun U hU hW => ⟨rfl, hC627 U hU hW⟩⟩ rfl rfl hl.1 rfl (lv_room (Nat.le_of_ble_eq_true rfl)) dX9_shown_53 ⟨(Nat.le_of_ble_eq_true rfl), (Nat.le_of_ble_eq_true rfl)⟩) hS (fun q9 _ h9 => hF624 q9 h9) hF624 (fun u628 r629 t628 H628 L628 ht628 hvm628 hw628 hB628 hz628 hk628 hS => ?_)
  obtain ⟨hr628, hB628⟩ := hB628
  obtain ⟨hP, hD, hK⟩ := pq_jn (wz := [(h0, ce21 h1 h2 h3 h4), (h1, ce201 h5), (h2, ce3 z.1), (h4, ce226 h7), (h5, ce200 kc0 h8 h9 h10 h11 h12), (h7, ce200 kc2 (z.2.2.1 128) (z.2.2.1 129) (z.2.2.1 130) (z.2.2.1 131) (z.2.2.1 132)), (h8, ce49), (h9, ce49), (h10, ce49), (h11, ce49), (h12, ce49), (a569, ce312 h3), (h3, ce276 h6), (h6, ce275 kc1 (z.2.2.1 128) (z.2.2.1 128) (z.2.2.1 128) (z.2.2.1 128) (z.2.2.1 128) (z.2.2.1 128) (z.2.2.1 128))]) (tz := [(kc0, .object "java/lang/Object"), (kc2, .object "java/lang/Object"), (kc1, .object "java/lang/Object")]) hP hD hK [11, 12, 13] [0, 1] rfl hk628 hF624 hB628.1 ht628 hvm628 rfl rfl
  have hG : s.heap.size + 487 ≤ H628.size := Nat.le_trans hG hz628
  refine W.eq (g2 := F0 m 58 ls [.ref (z.2.2.1 128)]) (by rw [hr628]) ?_
  refine va_castE (nm := "java/lang/Integer") hx hb hown (hts _ q_320) (va_Orecv (hX.2.2.1.1.1 128 (by decide)) hS) dX9_shown_58 ?_
  have hM632 := k74_intValue l hl9 dC dI z H628.size
  obtain ⟨hF630, hC633⟩ := pc_M hM632 hP hD hK hS hX hT hA [] [] rfl rfl rfl
  refine va_calli (va_runV (As := []) (rest := []) ⟨hx, hb, hml, hown, hts⟩ hM632 (cwV 0 hts (gV q_323 q_324 q_325 q_297 q_322) rfl rfl rfl hV_J6_intValue_8abf5 ⟨Nat.le_of_ble_eq_true rfl, Nat.le_of_ble_eq_true rfl⟩) ⟨pc_blind, va_Orecv (hX.2.2.1.1.1 128 (by decide)) hS, fun U hU hW => ⟨rfl, hC633 U hU hW⟩⟩ rfl rfl hl.1 rfl (lv_room (Nat.le_of_ble_eq_true rfl)) dX9_shown_61 ⟨(Nat.le_of_ble_eq_true rfl), (Nat.le_of_ble_eq_true rfl)⟩) hS (fun q9 _ h9 => hF630 q9 h9) hF630 (fun r635 u634 t634 H634 L634 ht634 hvm634 hw634 hB634 hz634 hk634 hS => ?_)
  have hP := pq_keep hP hD [] rfl hk634 hB634.1 ht634
  have hG : s.heap.size + 487 ≤ H634.size := Nat.le_trans hG hz634
  refine W.eq (g2 := F0 m 64 ls [.int 0]) (by rw [hw634]) ?_
  refine lv_istore (lv' := [(6, .int 0), (4, .int 0), (5, .ref a569), (3, .int 49), (1, .int 0), (2, .int 1), (0, .ref h0)]) hx hb dX9_shown_64 hl (by decide) rfl (fun ls hl => ?_)
  refine lv_iload hx hb dX9_shown_66 (lv_at hl 1 rfl) ?_
  refine lv_if_ne (tgt := 82) hx hb dX9_shown_68 (by decide) (fun cz => absurd (by decide) cz) (fun _ => ?_)
  refine lv_aload_n hx hb dX9_shown_71 rfl (lv_at hl 6 rfl) ?_
  refine lv_iload_n hx hb dX9_shown_72 rfl (lv_at hl 5 rfl) ?_
  refine lv_iload_n hx hb dX9_shown_73 rfl (lv_at hl 3 rfl) ?_
  refine lv_iload hx hb dX9_shown_74 (lv_at hl 0 rfl) ?_
  have hM638 := k656_showsIt l hl9 dC dI z h0 h1 h2 h4 h5 h7 h8 h9 h10 h11 h12 h3 H634.size kc0 kc2
  obtain ⟨hF636, hC639⟩ := pc_M hM638 hP hD hK hS hX hT hA [0, 1, 2, 3, 4, 5, 6, 7, 8, 9, 10] [0, 1] rfl rfl rfl
  refine va_calli (va_runV (As := [.int 1, .int 49, .int 0]) (rest := []) ⟨hx, hb, hml, hown, hts⟩ hM638 (cwV 3 hts (gV q_429 q_430 q_431 q_60 q_428) rfl rfl rfl hV_X9_showsIt ⟨Nat.le_of_ble_eq_true rfl, Nat.le_of_ble_eq_true rfl⟩) ⟨pc_blind, va_recv hK hP (ci := 8) (q0 := 0) rfl rfl, fun U hU hW => ⟨rfl, hC639 U hU hW⟩⟩ rfl rfl hl.1 rfl (lv_room (Nat.le_of_ble_eq_true rfl)) dX9_shown_76 ⟨(Nat.le_of_ble_eq_true rfl), (Nat.le_of_ble_eq_true rfl)⟩) hS (fun q9 _ h9 => hF636 q9 h9) hF636 (fun r641 u640 t640 H640 L640 ht640 hvm640 hw640 hB640 hz640 hk640 hS => ?_)
  have hP := pq_keep hP hD [0, 1, 2, 3, 4, 5, 6, 7, 8, 9, 10] rfl hk640 hB640.1 ht640
  have hG : s.heap.size + 508 ≤ H640.size := va_gr (g := 487) (g1 := 21) hG (by rw [← ht640]; exact hB640.2)
  refine W.eq (g2 := F0 m 79 ls [.int 0]) (by rw [hw640]) ?_
  refine W.widen (k := 508) (n := 5488) (by decide) (by decide) ?_
  refine lv_if_eq (tgt := 86) hx hb dX9_shown_79 (by decide) (fun _ => ?_) (fun cz => absurd (by decide) cz)
  refine lv_iconst (v := 0) hx hb dX9_shown_86 (by decide) ?_
  refine lv_istore (lv' := [(4, .int 0), (6, .int 0), (5, .ref a569), (3, .int 49), (1, .int 0), (2, .int 1), (0, .ref h0)]) hx hb dX9_shown_87 hl (by decide) rfl (fun ls hl => ?_)
  refine lv_goto (tgt := 41) hx hb dX9_shown_89 (by decide) ?_
  refine lv_aload hx hb dX9_shown_41 (lv_at hl 2 rfl) ?_
  have hM644 := k638_hasNext l hl9 dC dI z a569 h3 h6 H640.size
  obtain ⟨hF642, hC645⟩ := pc_M hM644 hP hD hK hS hX hT hA [11, 12] [] rfl rfl rfl
  refine va_callFi (va_runF (As := []) (rest := []) (hK.1 1 _ rfl).2 ⟨hx, hb, hml, hown, hts⟩ hM644 (va_cwF 0 hts (gF q_261 q_262 q_263 q_246 q_260) rfl rfl rfl hT.2.2.2.2.2.2.1 hF_xIh ⟨Nat.le_of_ble_eq_true rfl, Nat.le_of_ble_eq_true rfl⟩) ⟨pc_blind, va_recv hK hP (ci := 1) (q0 := 11) rfl rfl, fun U hU hW => ⟨rfl, hC645 U hU hW⟩⟩ rfl rfl hl.1 rfl (lv_room (Nat.le_of_ble_eq_true rfl)) dX9_shown_43 ⟨(Nat.le_of_ble_eq_true rfl), (Nat.le_of_ble_eq_true rfl)⟩) hS (fun q9 _ h9 => hF642 q9 h9) hF642 (fun r647 u646 t646 H646 L646 ht646 hvm646 hw646 hB646 hz646 hk646 hS => ?_)
  have hP := pq_keep hP hD [11, 12] rfl hk646 hB646.1 ht646
  have hG : s.heap.size + 508 ≤ H646.size := Nat.le_trans hG hz646
  refine W.eq (g2 := F0 m 48 ls [.int 1]) (by rw [hw646]) ?_
  refine lv_if_eq (tgt := 92) hx hb dX9_shown_48 (by decide) (fun cz => absurd cz (by decide)) (fun _ => ?_)
  refine lv_aload hx hb dX9_shown_51 (lv_at hl 2 rfl) ?_
  have hM650 := k640_next l hl9 dC dI z a569 h3 h6 H646.size kc1
  obtain ⟨hF648, hC651⟩ := pc_M hM650 hP hD hK hS hX hT hA [11, 12, 13] [2] rfl rfl rfl
  refine va_callFr (va_runF (As := []) (rest := []) (hK.1 1 _ rfl).2 ⟨hx, hb, hml, hown, hts⟩ hM650 (va_cwF 0 hts (gF q_308 q_309 q_310 q_246 q_307) rfl rfl rfl hT.2.2.2.2.2.2.2.1 hF_xIn ⟨Nat.le_of_ble_eq_true rfl, Nat.le_of_ble_eq_true rfl⟩) ⟨pc_blind, va_recv hK hP (ci := 1) (q0 := 11) rfl rfl, fun U hU hW => ⟨rfl, hC651 U hU hW⟩⟩ rfl rfl hl.1 rfl (lv_room (Nat.le_of_ble_eq_true rfl)) dX9_shown_53 ⟨(Nat.le_of_ble_eq_true rfl), (Nat.le_of_ble_eq_true rfl)⟩) hS (fun q9 _ h9 => hF648 q9 h9) hF648 (fun u652 r653 t652 H652 L652 ht652 hvm652 hw652 hB652 hz652 hk652 hS => ?_)
  obtain ⟨hr652, hB652⟩ := hB652
  obtain ⟨hP, hD, hK⟩ := pq_jn (wz := [(h0, ce21 h1 h2 h3 h4), (h1, ce201 h5), (h2, ce3 z.1), (h4, ce226 h7), (h5, ce200 kc0 h8 h9 h10 h11 h12), (h7, ce200 kc2 (z.2.2.1 128) (z.2.2.1 129) (z.2.2.1 130) (z.2.2.1 131) (z.2.2.1 132)), (h8, ce49), (h9, ce49), (h10, ce49), (h11, ce49), (h12, ce49), (a569, ce314 h3), (h3, ce276 h6), (h6, ce275 kc1 (z.2.2.1 128) (z.2.2.1 128) (z.2.2.1 128) (z.2.2.1 128) (z.2.2.1 128) (z.2.2.1 128) (z.2.2.1 128))]) (tz := [(kc0, .object "java/lang/Object"), (kc2, .object "java/lang/Object"), (kc1, .object "java/lang/Object")]) hP hD hK [11, 12, 13] [0, 1] rfl hk652 hF648 hB652.1 ht652 hvm652 rfl rfl
  have hG : s.heap.size + 508 ≤ H652.size := Nat.le_trans hG hz652
  refine W.eq (g2 := F0 m 58 ls [.ref (z.2.2.1 128)]) (by rw [hr652]) ?_
  refine va_castE (nm := "java/lang/Integer") hx hb hown (hts _ q_320) (va_Orecv (hX.2.2.1.1.1 128 (by decide)) hS) dX9_shown_58 ?_
  have hM656 := k74_intValue l hl9 dC dI z H652.size
  obtain ⟨hF654, hC657⟩ := pc_M hM656 hP hD hK hS hX hT hA [] [] rfl rfl rfl
  refine va_calli (va_runV (As := []) (rest := []) ⟨hx, hb, hml, hown, hts⟩ hM656 (cwV 0 hts (gV q_323 q_324 q_325 q_297 q_322) rfl rfl rfl hV_J6_intValue_8abf5 ⟨Nat.le_of_ble_eq_true rfl, Nat.le_of_ble_eq_true rfl⟩) ⟨pc_blind, va_Orecv (hX.2.2.1.1.1 128 (by decide)) hS, fun U hU hW => ⟨rfl, hC657 U hU hW⟩⟩ rfl rfl hl.1 rfl (lv_room (Nat.le_of_ble_eq_true rfl)) dX9_shown_61 ⟨(Nat.le_of_ble_eq_true rfl), (Nat.le_of_ble_eq_true rfl)⟩) hS (fun q9 _ h9 => hF654 q9 h9) hF654 (fun r659 u658 t658 H658 L658 ht658 hvm658 hw658 hB658 hz658 hk658 hS => ?_)
  have hP := pq_keep hP hD [] rfl hk658 hB658.1 ht658
  have hG : s.heap.size + 508 ≤ H658.size := Nat.le_trans hG hz658
  refine W.eq (g2 := F0 m 64 ls [.int 0]) (by rw [hw658]) ?_
  refine lv_istore (lv' := [(6, .int 0), (4, .int 0), (5, .ref a569), (3, .int 49), (1, .int 0), (2, .int 1), (0, .ref h0)]) hx hb dX9_shown_64 hl (by decide) rfl (fun ls hl => ?_)
  refine lv_iload hx hb dX9_shown_66 (lv_at hl 1 rfl) ?_
  refine lv_if_ne (tgt := 82) hx hb dX9_shown_68 (by decide) (fun cz => absurd (by decide) cz) (fun _ => ?_)
  refine lv_aload_n hx hb dX9_shown_71 rfl (lv_at hl 6 rfl) ?_
  refine lv_iload_n hx hb dX9_shown_72 rfl (lv_at hl 5 rfl) ?_
  refine lv_iload_n hx hb dX9_shown_73 rfl (lv_at hl 3 rfl) ?_
  refine lv_iload hx hb dX9_shown_74 (lv_at hl 0 rfl) ?_
  have hM662 := k656_showsIt l hl9 dC dI z h0 h1 h2 h4 h5 h7 h8 h9 h10 h11 h12 h3 H658.size kc0 kc2
  obtain ⟨hF660, hC663⟩ := pc_M hM662 hP hD hK hS hX hT hA [0, 1, 2, 3, 4, 5, 6, 7, 8, 9, 10] [0, 1] rfl rfl rfl
  refine va_calli (va_runV (As := [.int 1, .int 49, .int 0]) (rest := []) ⟨hx, hb, hml, hown, hts⟩ hM662 (cwV 3 hts (gV q_429 q_430 q_431 q_60 q_428) rfl rfl rfl hV_X9_showsIt ⟨Nat.le_of_ble_eq_true rfl, Nat.le_of_ble_eq_true rfl⟩) ⟨pc_blind, va_recv hK hP (ci := 8) (q0 := 0) rfl rfl, fun U hU hW => ⟨rfl, hC663 U hU hW⟩⟩ rfl rfl hl.1 rfl (lv_room (Nat.le_of_ble_eq_true rfl)) dX9_shown_76 ⟨(Nat.le_of_ble_eq_true rfl), (Nat.le_of_ble_eq_true rfl)⟩) hS (fun q9 _ h9 => hF660 q9 h9) hF660 (fun r665 u664 t664 H664 L664 ht664 hvm664 hw664 hB664 hz664 hk664 hS => ?_)
  have hP := pq_keep hP hD [0, 1, 2, 3, 4, 5, 6, 7, 8, 9, 10] rfl hk664 hB664.1 ht664
  have hG : s.heap.size + 529 ≤ H664.size := va_gr (g := 508) (g1 := 21) hG (by rw [← ht664]; exact hB664.2)
  refine W.eq (g2 := F0 m 79 ls [.int 0]) (by rw [hw664]) ?_
  refine W.widen (k := 529) (n := 5716) (by decide) (by decide) ?_
  refine lv_if_eq (tgt := 86) hx hb dX9_shown_79 (by decide) (fun _ => ?_) (fun cz => absurd (by decide) cz)
  refine lv_iconst (v := 0) hx hb dX9_shown_86 (by decide) ?_
  refine lv_istore (lv' := [(4, .int 0), (6, .int 0), (5, .ref a569), (3, .int 49), (1, .int 0), (2, .int 1), (0, .ref h0)]) hx hb dX9_shown_87 hl (by decide) rfl (fun ls hl => ?_)
  refine lv_goto (tgt := 41) hx hb dX9_shown_89 (by decide) ?_
  refine lv_aload hx hb dX9_shown_41 (lv_at hl 2 rfl) ?_
  have hM668 := k641_hasNext l hl9 dC dI z a569 h3 h6 H664.size
  obtain ⟨hF666, hC669⟩ := pc_M hM668 hP hD hK hS hX hT hA [11, 12] [] rfl rfl rfl
  refine va_callFi (va_runF (As := []) (rest := []) (hK.1 1 _ rfl).2 ⟨hx, hb, hml, hown, hts⟩ hM668 (va_cwF 0 hts (gF q_261 q_262 q_263 q_246 q_260) rfl rfl rfl hT.2.2.2.2.2.2.1 hF_xIh ⟨Nat.le_of_ble_eq_true rfl, Nat.le_of_ble_eq_true rfl⟩) ⟨pc_blind, va_recv hK hP (ci := 1) (q0 := 11) rfl rfl, fun U hU hW => ⟨rfl, hC669 U hU hW⟩⟩ rfl rfl hl.1 rfl (lv_room (Nat.le_of_ble_eq_true rfl)) dX9_shown_43 ⟨(Nat.le_of_ble_eq_true rfl), (Nat.le_of_ble_eq_true rfl)⟩) hS (fun q9 _ h9 => hF666 q9 h9) hF666 (fun r671 u670 t670 H670 L670 ht670 hvm670 hw670 hB670 hz670 hk670 hS => ?_)
  have hP := pq_keep hP hD [11, 12] rfl hk670 hB670.1 ht670
  have hG : s.heap.size + 529 ≤ H670.size := Nat.le_trans hG hz670
  refine W.eq (g2 := F0 m 48 ls [.int 1]) (by rw [hw670]) ?_
  refine lv_if_eq (tgt := 92) hx hb dX9_shown_48 (by decide) (fun cz => absurd cz (by decide)) (fun _ => ?_)
  refine lv_aload hx hb dX9_shown_51 (lv_at hl 2 rfl) ?_
  have hM674 := k643_next l hl9 dC dI z a569 h3 h6 H670.size kc1
  obtain ⟨hF672, hC675⟩ := pc_M hM674 hP hD hK hS hX hT hA [11, 12, 13] [2] rfl rfl rfl
  refine va_callFr (va_runF (As := []) (rest := []) (hK.1 1 _ rfl).2 ⟨hx, hb, hml, hown, hts⟩ hM674 (va_cwF 0 hts (gF q_308 q_309 q_310 q_246 q_307) rfl rfl rfl hT.2.2.2.2.2.2.2.1 hF_xIn ⟨Nat.le_of_ble_eq_true rfl, Nat.le_of_ble_eq_true rfl⟩) ⟨pc_blind, va_recv hK hP (ci := 1) (q0 := 11) rfl rfl, fun U hU hW => ⟨rfl, hC675 U hU hW⟩⟩ rfl rfl hl.1 rfl (lv_room (Nat.le_of_ble_eq_true rfl)) dX9_shown_53 ⟨(Nat.le_of_ble_eq_true rfl), (Nat.le_of_ble_eq_true rfl)⟩) hS (fun q9 _ h9 => hF672 q9 h9) hF672 (fun u676 r677 t676 H676 L676 ht676 hvm676 hw676 hB676 hz676 hk676 hS => ?_)
  obtain ⟨hr676, hB676⟩ := hB676
  obtain ⟨hP, hD, hK⟩ := pq_jn (wz := [(h0, ce21 h1 h2 h3 h4), (h1, ce201 h5), (h2, ce3 z.1), (h4, ce226 h7), (h5, ce200 kc0 h8 h9 h10 h11 h12), (h7, ce200 kc2 (z.2.2.1 128) (z.2.2.1 129) (z.2.2.1 130) (z.2.2.1 131) (z.2.2.1 132)), (h8, ce49), (h9, ce49), (h10, ce49), (h11, ce49), (h12, ce49), (a569, ce316 h3), (h3, ce276 h6), (h6, ce275 kc1 (z.2.2.1 128) (z.2.2.1 128) (z.2.2.1 128) (z.2.2.1 128) (z.2.2.1 128) (z.2.2.1 128) (z.2.2.1 128))]) (tz := [(kc0, .object "java/lang/Object"), (kc2, .object "java/lang/Object"), (kc1, .object "java/lang/Object")]) hP hD hK [11, 12, 13] [0, 1] rfl hk676 hF672 hB676.1 ht676 hvm676 rfl rfl
  have hG : s.heap.size + 529 ≤ H676.size := Nat.le_trans hG hz676
  refine W.eq (g2 := F0 m 58 ls [.ref (z.2.2.1 128)]) (by rw [hr676]) ?_
  refine va_castE (nm := "java/lang/Integer") hx hb hown (hts _ q_320) (va_Orecv (hX.2.2.1.1.1 128 (by decide)) hS) dX9_shown_58 ?_
  have hM680 := k74_intValue l hl9 dC dI z H676.size
  obtain ⟨hF678, hC681⟩ := pc_M hM680 hP hD hK hS hX hT hA [] [] rfl rfl rfl
  refine va_calli (va_runV (As := []) (rest := []) ⟨hx, hb, hml, hown, hts⟩ hM680 (cwV 0 hts (gV q_323 q_324 q_325 q_297 q_322) rfl rfl rfl hV_J6_intValue_8abf5 ⟨Nat.le_of_ble_eq_true rfl, Nat.le_of_ble_eq_true rfl⟩) ⟨pc_blind, va_Orecv (hX.2.2.1.1.1 128 (by decide)) hS, fun U hU hW => ⟨rfl, hC681 U hU hW⟩⟩ rfl rfl hl.1 rfl (lv_room (Nat.le_of_ble_eq_true rfl)) dX9_shown_61 ⟨(Nat.le_of_ble_eq_true rfl), (Nat.le_of_ble_eq_true rfl)⟩) hS (fun q9 _ h9 => hF678 q9 h9) hF678 (fun r683 u682 t682 H682 L682 ht682 hvm682 hw682 hB682 hz682 hk682 hS => ?_)
  have hP := pq_keep hP hD [] rfl hk682 hB682.1 ht682
  have hG : s.heap.size + 529 ≤ H682.size := Nat.le_trans hG hz682
  refine W.eq (g2 := F0 m 64 ls [.int 0]) (by rw [hw682]) ?_
  refine lv_istore (lv' := [(6, .int 0), (4, .int 0), (5, .ref a569), (3, .int 49), (1, .int 0), (2, .int 1), (0, .ref h0)]) hx hb dX9_shown_64 hl (by decide) rfl (fun ls hl => ?_)
  refine lv_iload hx hb dX9_shown_66 (lv_at hl 1 rfl) ?_
  refine lv_if_ne (tgt := 82) hx hb dX9_shown_68 (by decide) (fun cz => absurd (by decide) cz) (fun _ => ?_)
  refine lv_aload_n hx hb dX9_shown_71 rfl (lv_at hl 6 rfl) ?_
  refine lv_iload_n hx hb dX9_shown_72 rfl (lv_at hl 5 rfl) ?_
  refine lv_iload_n hx hb dX9_shown_73 rfl (lv_at hl 3 rfl) ?_
  refine lv_iload hx hb dX9_shown_74 (lv_at hl 0 rfl) ?_
  have hM686 := k656_showsIt l hl9 dC dI z h0 h1 h2 h4 h5 h7 h8 h9 h10 h11 h12 h3 H682.size kc0 kc2
  obtain ⟨hF684, hC687⟩ := pc_M hM686 hP hD hK hS hX hT hA [0, 1, 2, 3, 4, 5, 6, 7, 8, 9, 10] [0, 1] rfl rfl rfl
  refine va_calli (va_runV (As := [.int 1, .int 49, .int 0]) (rest := []) ⟨hx, hb, hml, hown, hts⟩ hM686 (cwV 3 hts (gV q_429 q_430 q_431 q_60 q_428) rfl rfl rfl hV_X9_showsIt ⟨Nat.le_of_ble_eq_true rfl, Nat.le_of_ble_eq_true rfl⟩) ⟨pc_blind, va_recv hK hP (ci := 8) (q0 := 0) rfl rfl, fun U hU hW => ⟨rfl, hC687 U hU hW⟩⟩ rfl rfl hl.1 rfl (lv_room (Nat.le_of_ble_eq_true rfl)) dX9_shown_76 ⟨(Nat.le_of_ble_eq_true rfl), (Nat.le_of_ble_eq_true rfl)⟩) hS (fun q9 _ h9 => hF684 q9 h9) hF684 (fun r689 u688 t688 H688 L688 ht688 hvm688 hw688 hB688 hz688 hk688 hS => ?_)
  have hP := pq_keep hP hD [0, 1, 2, 3, 4, 5, 6, 7, 8, 9, 10] rfl hk688 hB688.1 ht688
  have hG : s.heap.size + 550 ≤ H688.size := va_gr (g := 529) (g1 := 21) hG (by rw [← ht688]; exact hB688.2)
  refine W.eq (g2 := F0 m 79 ls [.int 0]) (by rw [hw688]) ?_
  refine W.widen (k := 550) (n := 5944) (by decide) (by decide) ?_
  refine lv_if_eq (tgt := 86) hx hb dX9_shown_79 (by decide) (fun _ => ?_) (fun cz => absurd (by decide) cz)
  refine lv_iconst (v := 0) hx hb dX9_shown_86 (by decide) ?_
  refine lv_istore (lv' := [(4, .int 0), (6, .int 0), (5, .ref a569), (3, .int 49), (1, .int 0), (2, .int 1), (0, .ref h0)]) hx hb dX9_shown_87 hl (by decide) rfl (fun ls hl => ?_)
  refine lv_goto (tgt := 41) hx hb dX9_shown_89 (by decide) ?_
  refine lv_aload hx hb dX9_shown_41 (lv_at hl 2 rfl) ?_
  have hM692 := k644_hasNext l hl9 dC dI z a569 h3 h6 H688.size
  obtain ⟨hF690, hC693⟩ := pc_M hM692 hP hD hK hS hX hT hA [11, 12] [] rfl rfl rfl
  refine va_callFi (va_runF (As := []) (rest := []) (hK.1 1 _ rfl).2 ⟨hx, hb, hml, hown, hts⟩ hM692 (va_cwF 0 hts (gF q_261 q_262 q_263 q_246 q_260) rfl rfl rfl hT.2.2.2.2.2.2.1 hF_xIh ⟨Nat.le_of_ble_eq_true rfl, Nat.le_of_ble_eq_true rfl⟩) ⟨pc_blind, va_recv hK hP (ci := 1) (q0 := 11) rfl rfl, fun U hU hW => ⟨rfl, hC693 U hU hW⟩⟩ rfl rfl hl.1 rfl (lv_room (Nat.le_of_ble_eq_true rfl)) dX9_shown_43 ⟨(Nat.le_of_ble_eq_true rfl), (Nat.le_of_ble_eq_true rfl)⟩) hS (fun q9 _ h9 => hF690 q9 h9) hF690 (fun r695 u694 t694 H694 L694 ht694 hvm694 hw694 hB694 hz694 hk694 hS => ?_)
  have hP := pq_keep hP hD [11, 12] rfl hk694 hB694.1 ht694
  have hG : s.heap.size + 550 ≤ H694.size := Nat.le_trans hG hz694
  refine W.eq (g2 := F0 m 48 ls [.int 1]) (by rw [hw694]) ?_
  refine lv_if_eq (tgt := 92) hx hb dX9_shown_48 (by decide) (fun cz => absurd cz (by decide)) (fun _ => ?_)
  refine lv_aload hx hb dX9_shown_51 (lv_at hl 2 rfl) ?_
  have hM698 := k646_next l hl9 dC dI z a569 h3 h6 H694.size kc1
  obtain ⟨hF696, hC699⟩ := pc_M hM698 hP hD hK hS hX hT hA [11, 12, 13] [2] rfl rfl rfl
  refine va_callFr (va_runF (As := []) (rest := []) (hK.1 1 _ rfl).2 ⟨hx, hb, hml, hown, hts⟩ hM698 (va_cwF 0 hts (gF q_308 q_309 q_310 q_246 q_307) rfl rfl rfl hT.2.2.2.2.2.2.2.1 hF_xIn ⟨Nat.le_of_ble_eq_true rfl, Nat.le_of_ble_eq_true rfl⟩) ⟨pc_blind, va_recv hK hP (ci := 1) (q0 := 11) rfl rfl, fun U hU hW => ⟨rfl, hC699 U hU hW⟩⟩ rfl rfl hl.1 rfl (lv_room (Nat.le_of_ble_eq_true rfl)) dX9_shown_53 ⟨(Nat.le_of_ble_eq_true rfl), (Nat.le_of_ble_eq_true rfl)⟩) hS (fun q9 _ h9 => hF696 q9 h9) hF696 (fun u700 r701 t700 H700 L700 ht700 hvm700 hw700 hB700 hz700 hk700 hS => ?_)
  obtain ⟨hr700, hB700⟩ := hB700
  obtain ⟨hP, hD, hK⟩ := pq_jn (wz := [(h0, ce21 h1 h2 h3 h4), (h1, ce201 h5), (h2, ce3 z.1), (h4, ce226 h7), (h5, ce200 kc0 h8 h9 h10 h11 h12), (h7, ce200 kc2 (z.2.2.1 128) (z.2.2.1 129) (z.2.2.1 130) (z.2.2.1 131) (z.2.2.1 132)), (h8, ce49), (h9, ce49), (h10, ce49), (h11, ce49), (h12, ce49), (a569, ce318 h3), (h3, ce276 h6), (h6, ce275 kc1 (z.2.2.1 128) (z.2.2.1 128) (z.2.2.1 128) (z.2.2.1 128) (z.2.2.1 128) (z.2.2.1 128) (z.2.2.1 128))]) (tz := [(kc0, .object "java/lang/Object"), (kc2, .object "java/lang/Object"), (kc1, .object "java/lang/Object")]) hP hD hK [11, 12, 13] [0, 1] rfl hk700 hF696 hB700.1 ht700 hvm700 rfl rfl
  have hG : s.heap.size + 550 ≤ H700.size := Nat.le_trans hG hz700
  refine W.eq (g2 := F0 m 58 ls [.ref (z.2.2.1 128)]) (by rw [hr700]) ?_
  refine va_castE (nm := "java/lang/Integer") hx hb hown (hts _ q_320) (va_Orecv (hX.2.2.1.1.1 128 (by decide)) hS) dX9_shown_58 ?_
  have hM704 := k74_intValue l hl9 dC dI z H700.size
  obtain ⟨hF702, hC705⟩ := pc_M hM704 hP hD hK hS hX hT hA [] [] rfl rfl rfl
  refine va_calli (va_runV (As := []) (rest := []) ⟨hx, hb, hml, hown, hts⟩ hM704 (cwV 0 hts (gV q_323 q_324 q_325 q_297 q_322) rfl rfl rfl hV_J6_intValue_8abf5 ⟨Nat.le_of_ble_eq_true rfl, Nat.le_of_ble_eq_true rfl⟩) ⟨pc_blind, va_Orecv (hX.2.2.1.1.1 128 (by decide)) hS, fun U hU hW => ⟨rfl, hC705 U hU hW⟩⟩ rfl rfl hl.1 rfl (lv_room (Nat.le_of_ble_eq_true rfl)) dX9_shown_61 ⟨(Nat.le_of_ble_eq_true rfl), (Nat.le_of_ble_eq_true rfl)⟩) hS (fun q9 _ h9 => hF702 q9 h9) hF702 (fun r707 u706 t706 H706 L706 ht706 hvm706 hw706 hB706 hz706 hk706 hS => ?_)
  have hP := pq_keep hP hD [] rfl hk706 hB706.1 ht706
  have hG : s.heap.size + 550 ≤ H706.size := Nat.le_trans hG hz706
  refine W.eq (g2 := F0 m 64 ls [.int 0]) (by rw [hw706]) ?_
  refine lv_istore (lv' := [(6, .int 0), (4, .int 0), (5, .ref a569), (3, .int 49), (1, .int 0), (2, .int 1), (0, .ref h0)]) hx hb dX9_shown_64 hl (by decide) rfl (fun ls hl => ?_)
  refine lv_iload hx hb dX9_shown_66 (lv_at hl 1 rfl) ?_
  refine lv_if_ne (tgt := 82) hx hb dX9_shown_68 (by decide) (fun cz => absurd (by decide) cz) (fun _ => ?_)
  refine lv_aload_n hx hb dX9_shown_71 rfl (lv_at hl 6 rfl) ?_
  refine lv_iload_n hx hb dX9_shown_72 rfl (lv_at hl 5 rfl) ?_
  refine lv_iload_n hx hb dX9_shown_73 rfl (lv_at hl 3 rfl) ?_
  refine lv_iload hx hb dX9_shown_74 (lv_at hl 0 rfl) ?_
  have hM710 := k656_showsIt l hl9 dC dI z h0 h1 h2 h4 h5 h7 h8 h9 h10 h11 h12 h3 H706.size kc0 kc2
  obtain ⟨hF708, hC711⟩ := pc_M hM710 hP hD hK hS hX hT hA [0, 1, 2, 3, 4, 5, 6, 7, 8, 9, 10] [0, 1] rfl rfl rfl
  refine va_calli (va_runV (As := [.int 1, .int 49, .int 0]) (rest := []) ⟨hx, hb, hml, hown, hts⟩ hM710 (cwV 3 hts (gV q_429 q_430 q_431 q_60 q_428) rfl rfl rfl hV_X9_showsIt ⟨Nat.le_of_ble_eq_true rfl, Nat.le_of_ble_eq_true rfl⟩) ⟨pc_blind, va_recv hK hP (ci := 8) (q0 := 0) rfl rfl, fun U hU hW => ⟨rfl, hC711 U hU hW⟩⟩ rfl rfl hl.1 rfl (lv_room (Nat.le_of_ble_eq_true rfl)) dX9_shown_76 ⟨(Nat.le_of_ble_eq_true rfl), (Nat.le_of_ble_eq_true rfl)⟩) hS (fun q9 _ h9 => hF708 q9 h9) hF708 (fun r713 u712 t712 H712 L712 ht712 hvm712 hw712 hB712 hz712 hk712 hS => ?_)
  have hP := pq_keep hP hD [0, 1, 2, 3, 4, 5, 6, 7, 8, 9, 10] rfl hk712 hB712.1 ht712
  have hG : s.heap.size + 571 ≤ H712.size := va_gr (g := 550) (g1 := 21) hG (by rw [← ht712]; exact hB712.2)
  refine W.eq (g2 := F0 m 79 ls [.int 0]) (by rw [hw712]) ?_
  refine W.widen (k := 571) (n := 6172) (by decide) (by decide) ?_
  refine lv_if_eq (tgt := 86) hx hb dX9_shown_79 (by decide) (fun _ => ?_) (fun cz => absurd (by decide) cz)
  refine lv_iconst (v := 0) hx hb dX9_shown_86 (by decide) ?_
  refine lv_istore (lv' := [(4, .int 0), (6, .int 0), (5, .ref a569), (3, .int 49), (1, .int 0), (2, .int 1), (0, .ref h0)]) hx hb dX9_shown_87 hl (by decide) rfl (fun ls hl => ?_)
  refine lv_goto (tgt := 41) hx hb dX9_shown_89 (by decide) ?_
  refine lv_aload hx hb dX9_shown_41 (lv_at hl 2 rfl) ?_
  have hM716 := k647_hasNext l hl9 dC dI z a569 h3 h6 H712.size
  obtain ⟨hF714, hC717⟩ := pc_M hM716 hP hD hK hS hX hT hA [11, 12] [] rfl rfl rfl
  refine va_callFi (va_runF (As := []) (rest := []) (hK.1 1 _ rfl).2 ⟨hx, hb, hml, hown, hts⟩ hM716 (va_cwF 0 hts (gF q_261 q_262 q_263 q_246 q_260) rfl rfl rfl hT.2.2.2.2.2.2.1 hF_xIh ⟨Nat.le_of_ble_eq_true rfl, Nat.le_of_ble_eq_true rfl⟩) ⟨pc_blind, va_recv hK hP (ci := 1) (q0 := 11) rfl rfl, fun U hU hW => ⟨rfl, hC717 U hU hW⟩⟩ rfl rfl hl.1 rfl (lv_room (Nat.le_of_ble_eq_true rfl)) dX9_shown_43 ⟨(Nat.le_of_ble_eq_true rfl), (Nat.le_of_ble_eq_true rfl)⟩) hS (fun q9 _ h9 => hF714 q9 h9) hF714 (fun r719 u718 t718 H718 L718 ht718 hvm718 hw718 hB718 hz718 hk718 hS => ?_)
  have hP := pq_keep hP hD [11, 12] rfl hk718 hB718.1 ht718
  have hG : s.heap.size + 571 ≤ H718.size := Nat.le_trans hG hz718
  refine W.eq (g2 := F0 m 48 ls [.int 1]) (by rw [hw718]) ?_
  refine lv_if_eq (tgt := 92) hx hb dX9_shown_48 (by decide) (fun cz => absurd cz (by decide)) (fun _ => ?_)
  refine lv_aload hx hb dX9_shown_51 (lv_at hl 2 rfl) ?_
  have hM722 := k649_next l hl9 dC dI z a569 h3 h6 H718.size kc1
  obtain ⟨hF720, hC723⟩ := pc_M hM722 hP hD hK hS hX hT hA [11, 12, 13] [2] rfl rfl rfl
  refine va_callFr (va_runF (As := []) (rest := []) (hK.1 1 _ rfl).2 ⟨hx, hb, hml, hown, hts⟩ hM722 (va_cwF 0 hts (gF q_308 q_309 q_310 q_246 q_307) rfl rfl rfl hT.2.2.2.2.2.2.2.1 hF_xIn ⟨Nat.le_of_ble_eq_true rfl, Nat.le_of_ble_eq_true rfl⟩) ⟨pc_blind, va_recv hK hP (ci := 1) (q0 := 11) rfl rfl, fun U hU hW => ⟨rfl, hC723 U hU hW⟩⟩ rfl rfl hl.1 rfl (lv_room (Nat.le_of_ble_eq_true rfl)) dX9_shown_53 ⟨(Nat.le_of_ble_eq_true rfl), (Nat.le_of_ble_eq_true rfl)⟩) hS (fun q9 _ h9 => hF720 q9 h9) hF720 (fun u724 r725 t724 H724 L724 ht724 hvm724 hw724 hB724 hz724 hk724 hS => ?_)
  obtain ⟨hr724, hB724⟩ := hB724
  obtain ⟨hP, hD, hK⟩ := pq_jn (wz := [(h0, ce21 h1 h2 h3 h4), (h1, ce201 h5), (h2, ce3 z.1), (h4, ce226 h7), (h5, ce200 kc0 h8 h9 h10 h11 h12), (h7, ce200 kc2 (z.2.2.1 128) (z.2.2.1 129) (z.2.2.1 130) (z.2.2.1 131) (z.2.2.1 132)), (h8, ce49), (h9, ce49), (h10, ce49), (h11, ce49), (h12, ce49), (a569, ce320 h3), (h3, ce276 h6), (h6, ce275 kc1 (z.2.2.1 128) (z.2.2.1 128) (z.2.2.1 128) (z.2.2.1 128) (z.2.2.1 128) (z.2.2.1 128) (z.2.2.1 128))]) (tz := [(kc0, .object "java/lang/Object"), (kc2, .object "java/lang/Object"), (kc1, .object "java/lang/Object")]) hP hD hK [11, 12, 13] [0, 1] rfl hk724 hF720 hB724.1 ht724 hvm724 rfl rfl
  have hG : s.heap.size + 571 ≤ H724.size := Nat.le_trans hG hz724
  refine W.eq (g2 := F0 m 58 ls [.ref (z.2.2.1 128)]) (by rw [hr724]) ?_
  refine va_castE (nm := "java/lang/Integer") hx hb hown (hts _ q_320) (va_Orecv (hX.2.2.1.1.1 128 (by decide)) hS) dX9_shown_58 ?_
  have hM728 := k74_intValue l hl9 dC dI z H724.size
  obtain ⟨hF726, hC729⟩ := pc_M hM728 hP hD hK hS hX hT hA [] [] rfl rfl rfl
  refine va_calli (va_runV (As := []) (rest := []) ⟨hx, hb, hml, hown, hts⟩ hM728 (cwV 0 hts (gV q_323 q_324 q_325 q_297 q_322) rfl rfl rfl hV_J6_intValue_8abf5 ⟨Nat.le_of_ble_eq_true rfl, Nat.le_of_ble_eq_true rfl⟩) ⟨pc_blind, va_Orecv (hX.2.2.1.1.1 128 (by decide)) hS, fun U hU hW => ⟨rfl, hC729 U hU hW⟩⟩ rfl rfl hl.1 rfl (lv_room (Nat.le_of_ble_eq_true rfl)) dX9_shown_61 ⟨(Nat.le_of_ble_eq_true rfl), (Nat.le_of_ble_eq_true rfl)⟩) hS (fun q9 _ h9 => hF726 q9 h9) hF726 (fun r731 u730 t730 H730 L730 ht730 hvm730 hw730 hB730 hz730 hk730 hS => ?_)
  have hP := pq_keep hP hD [] rfl hk730 hB730.1 ht730
  have hG : s.heap.size + 571 ≤ H730.size := Nat.le_trans hG hz730
  refine W.eq (g2 := F0 m 64 ls [.int 0]) (by rw [hw730]) ?_
  refine lv_istore (lv' := [(6, .int 0), (4, .int 0), (5, .ref a569), (3, .int 49), (1, .int 0), (2, .int 1), (0, .ref h0)]) hx hb dX9_shown_64 hl (by decide) rfl (fun ls hl => ?_)
  refine lv_iload hx hb dX9_shown_66 (lv_at hl 1 rfl) ?_
  refine lv_if_ne (tgt := 82) hx hb dX9_shown_68 (by decide) (fun cz => absurd (by decide) cz) (fun _ => ?_)
  refine lv_aload_n hx hb dX9_shown_71 rfl (lv_at hl 6 rfl) ?_
  refine lv_iload_n hx hb dX9_shown_72 rfl (lv_at hl 5 rfl) ?_
  refine lv_iload_n hx hb dX9_shown_73 rfl (lv_at hl 3 rfl) ?_
  refine lv_iload hx hb dX9_shown_74 (lv_at hl 0 rfl) ?_
  have hM734 := k656_showsIt l hl9 dC dI z h0 h1 h2 h4 h5 h7 h8 h9 h10 h11 h12 h3 H730.size kc0 kc2
  obtain ⟨hF732, hC735⟩ := pc_M hM734 hP hD hK hS hX hT hA [0, 1, 2, 3, 4, 5, 6, 7, 8, 9, 10] [0, 1] rfl rfl rfl
  refine va_calli (va_runV (As := [.int 1, .int 49, .int 0]) (rest := []) ⟨hx, hb, hml, hown, hts⟩ hM734 (cwV 3 hts (gV q_429 q_430 q_431 q_60 q_428) rfl rfl rfl hV_X9_showsIt ⟨Nat.le_of_ble_eq_true rfl, Nat.le_of_ble_eq_true rfl⟩) ⟨pc_blind, va_recv hK hP (ci := 8) (q0 := 0) rfl rfl, fun U hU hW => ⟨rfl, hC735 U hU hW⟩⟩ rfl rfl hl.1 rfl (lv_room (Nat.le_of_ble_eq_true rfl)) dX9_shown_76 ⟨(Nat.le_of_ble_eq_true rfl), (Nat.le_of_ble_eq_true rfl)⟩) hS (fun q9 _ h9 => hF732 q9 h9) hF732 (fun r737 u736 t736 H736 L736 ht736 hvm736 hw736 hB736 hz736 hk736 hS => ?_)
  have hP := pq_keep hP hD [0, 1, 2, 3, 4, 5, 6, 7, 8, 9, 10] rfl hk736 hB736.1 ht736
  have hG : s.heap.size + 592 ≤ H736.size := va_gr (g := 571) (g1 := 21) hG (by rw [← ht736]; exact hB736.2)
  refine W.eq (g2 := F0 m 79 ls [.int 0]) (by rw [hw736]) ?_
  refine W.widen (k := 592) (n := 6400) (by decide) (by decide) ?_
  refine lv_if_eq (tgt := 86) hx hb dX9_shown_79 (by decide) (fun _ => ?_) (fun cz => absurd (by decide) cz)
  refine lv_iconst (v := 0) hx hb dX9_shown_86 (by decide) ?_
  refine lv_istore (lv' := [(4, .int 0), (6, .int 0), (5, .ref a569), (3, .int 49), (1, .int 0), (2, .int 1), (0, .ref h0)]) hx hb dX9_shown_87 hl (by decide) rfl (fun ls hl => ?_)
  refine lv_goto (tgt := 41) hx hb dX9_shown_89 (by decide) ?_
  refine lv_aload hx hb dX9_shown_41 (lv_at hl 2 rfl) ?_
  have hM740 := k650_hasNext l hl9 dC dI z a569 h3 h6 H736.size
  obtain ⟨hF738, hC741⟩ := pc_M hM740 hP hD hK hS hX hT hA [11, 12] [] rfl rfl rfl
  refine va_callFi (va_runF (As := []) (rest := []) (hK.1 1 _ rfl).2 ⟨hx, hb, hml, hown, hts⟩ hM740 (va_cwF 0 hts (gF q_261 q_262 q_263 q_246 q_260) rfl rfl rfl hT.2.2.2.2.2.2.1 hF_xIh ⟨Nat.le_of_ble_eq_true rfl, Nat.le_of_ble_eq_true rfl⟩) ⟨pc_blind, va_recv hK hP (ci := 1) (q0 := 11) rfl rfl, fun U hU hW => ⟨rfl, hC741 U hU hW⟩⟩ rfl rfl hl.1 rfl (lv_room (Nat.le_of_ble_eq_true rfl)) dX9_shown_43 ⟨(Nat.le_of_ble_eq_true rfl), (Nat.le_of_ble_eq_true rfl)⟩) hS (fun q9 _ h9 => hF738 q9 h9) hF738 (fun r743 u742 t742 H742 L742 ht742 hvm742 hw742 hB742 hz742 hk742 hS => ?_)
  have hP := pq_keep hP hD [11, 12] rfl hk742 hB742.1 ht742
  have hG : s.heap.size + 592 ≤ H742.size := Nat.le_trans hG hz742
  refine W.eq (g2 := F0 m 48 ls [.int 0]) (by rw [hw742]) ?_
  refine lv_if_eq (tgt := 92) hx hb dX9_shown_48 (by decide) (fun _ => ?_) (fun cz => absurd (by decide) cz)
  refine lv_iload_n hx hb dX9_shown_92 rfl (lv_at hl 4 rfl) ?_
  refine lv_iload hx hb dX9_shown_93 (lv_at hl 0 rfl) ?_
  refine lv_if_eq (tgt := 102) hx hb dX9_shown_95 (by decide) (fun _ => ?_) (fun cz => absurd (by decide) cz)
  refine lv_iconst (v := 0) hx hb dX9_shown_102 (by decide) ?_
  refine lv_iadd hx hb dX9_shown_103 ?_
  refine lv_topi (fun y744 ey744 => ?_)
  obtain rfl : y744 = 0 := ey744.trans (by decide)
  refine lv_istore_n (lv' := [(1, .int 0), (4, .int 0), (6, .int 0), (5, .ref a569), (3, .int 49), (2, .int 1), (0, .ref h0)]) hx hb dX9_shown_104 rfl hl (by decide) rfl (fun ls hl => ?_)
  refine lv_iload_n hx hb dX9_shown_105 rfl (lv_at hl 4 rfl) ?_
  refine lv_iconst (v := 1) hx hb dX9_shown_106 (by decide) ?_
  refine lv_iadd hx hb dX9_shown_107 ?_
  refine lv_topi (fun y745 ey745 => ?_)
  obtain rfl : y745 = 50 := ey745.trans (by decide)
  refine lv_i2c (v := 50) hx hb dX9_shown_108 (by decide) ?_
  refine lv_istore_n (lv' := [(3, .int 50), (1, .int 0), (4, .int 0), (6, .int 0), (5, .ref a569), (2, .int 1), (0, .ref h0)]) hx hb dX9_shown_109 rfl hl (by decide) rfl (fun ls hl => ?_)
  refine lv_goto (tgt := 23) hx hb dX9_shown_110 (by decide) ?_
  exact hend _ _ _ hS (hP.sub [0, 1, 2, 12, 3, 4, 13, 5, 6, 7, 8, 9, 10] rfl) (hD.sub [0, 1, 2, 12, 3, 4, 13, 5, 6, 7, 8, 9, 10] rfl rfl) (lv_sub hl [0, 1, 5, 6] rfl) hG

set_option maxHeartbeats 8000000 in
set_option maxRecDepth 100000 in
theorem k669_shown_g6 {p : Program} {l : Launch} {e : Env} {s : State} {m : MethodId} {args : Array Value} {below : List Frame} {meth : Method} {c : Code} {Q : State → Prop} {A : Nat → Prop} {H : Heap} {locs : List Loc} {ls : Array Slot} {dC : Nat → ClassId} {dI : Nat → Nat → Nat} {z : XZ} {h0 h1 h2 h3 h4 h5 h6 h7 h8 h9 h10 h11 h12 : Nat} {kc0 kc1 kc2 : ClassId} (hl9 : l.stackTraces = false) (hx : p.tables.exec = Jvm.exec) (hb : c.code = cX9_shown) (hml : c.maxLocals = 7) (hown : s.vm.findClass RX9 = some m.cls) (hts : ∀ w ∈ wsL_law, w.before args s = true) (hA : ∀ q : Nat, s.heap.size ≤ q → A q) (hX : XE z A s s.heap) (hT : XT s) (hS : va_S A s.heap H locs) (hP : va_P (dC, dI) xCl [(h0, ce21 h1 h2 h3 h4), (h1, ce201 h5), (h2, ce3 z.1), (h3, ce276 h6), (h4, ce226 h7), (h5, ce200 kc0 h8 h9 h10 h11 h12), (h6, ce275 kc1 (z.2.2.1 128) (z.2.2.1 128) (z.2.2.1 128) (z.2.2.1 128) (z.2.2.1 128) (z.2.2.1 128) (z.2.2.1 128)), (h7, ce200 kc2 (z.2.2.1 128) (z.2.2.1 129) (z.2.2.1 130) (z.2.2.1 131) (z.2.2.1 132)), (h8, ce49), (h9, ce49), (h10, ce49), (h11, ce49), (h12, ce49)] H) (hD : va_D A [(h0, ce21 h1 h2 h3 h4), (h1, ce201 h5), (h2, ce3 z.1), (h3, ce276 h6), (h4, ce226 h7), (h5, ce200 kc0 h8 h9 h10 h11 h12), (h6, ce275 kc1 (z.2.2.1 128) (z.2.2.1 128) (z.2.2.1 128) (z.2.2.1 128) (z.2.2.1 128) (z.2.2.1 128) (z.2.2.1 128)), (h7, ce200 kc2 (z.2.2.1 128) (z.2.2.1 129) (z.2.2.1 130) (z.2.2.1 131) (z.2.2.1 132)), (h8, ce49), (h9, ce49), (h10, ce49), (h11, ce49), (h12, ce49)]) (hK : va_K (dC, dI) xCl [(kc0, .object "java/lang/Object"), (kc1, .object "java/lang/Object"), (kc2, .object "java/lang/Object")] s) (hl : lv_has ls 7 [(3, .int 50), (1, .int 0), (2, .int 1), (0, .ref h0)]) (hG : s.heap.size + 592 ≤ H.size) (hend : ∀ (H' : Heap) (locs' : List Loc) (ls' : Array Slot), va_S A s.heap H' locs' → va_P (dC, dI) xCl [(h0, ce21 h1 h2 h3 h4), (h1, ce201 h5), (h2, ce3 z.1), (h3, ce276 h6), (h4, ce226 h7), (h5, ce200 kc0 h8 h9 h10 h11 h12), (h6, ce275 kc1 (z.2.2.1 128) (z.2.2.1 128) (z.2.2.1 128) (z.2.2.1 128) (z.2.2.1 128) (z.2.2.1 128) (z.2.2.1 128)), (h7, ce200 kc2 (z.2.2.1 128) (z.2.2.1 129) (z.2.2.1 130) (z.2.2.1 131) (z.2.2.1 132)), (h8, ce49), (h9, ce49), (h10, ce49), (h11, ce49), (h12, ce49)] H' → va_D A [(h0, ce21 h1 h2 h3 h4), (h1, ce201 h5), (h2, ce3 z.1), (h3, ce276 h6), (h4, ce226 h7), (h5, ce200 kc0 h8 h9 h10 h11 h12), (h6, ce275 kc1 (z.2.2.1 128) (z.2.2.1 128) (z.2.2.1 128) (z.2.2.1 128) (z.2.2.1 128) (z.2.2.1 128) (z.2.2.1 128)), (h7, ce200 kc2 (z.2.2.1 128) (z.2.2.1 129) (z.2.2.1 130) (z.2.2.1 131) (z.2.2.1 132)), (h8, ce49), (h9, ce49), (h10, ce49), (h11, ce49), (h12, ce49)] → lv_has ls' 7 [(3, .int 48), (2, .int 2), (1, .int 0), (0, .ref h0)] → s.heap.size + 592 ≤ H'.size → W p l e ({ frames := 5, cells := 1480, slots := 16000, locals := 121 } : Room) s m args below meth c H' locs' 592 6400 Q (F0 m 23 ls' [])) : W p l e ({ frames := 5, cells := 1480, slots := 16000, locals := 121 } : Room) s m args below meth c H locs 592 6400 Q (F0 m 23 ls []) := by
  refine lv_iload_n hx hb dX9_shown_23 rfl (lv_at hl 0 rfl) ?_
  refine lv_bipush (v := 49) hx hb dX9_shown_24 (by decide) ?_
  refine lv_icmp_gt (tgt := 113) hx hb dX9_shown_26 (by decide) (fun _ => ?_) (fun cz => absurd (by decide) cz)
  refine lv_iinc (v := 2) (lv' := [(2, .int 2), (3, .int 50), (1, .int 0), (0, .ref h0)]) hx hb dX9_shown_113 hl (k := 2) rfl (by decide) (by decide) rfl (fun ls hl => ?_)
  refine lv_goto (tgt := 9) hx hb dX9_shown_116 (by decide) ?_
  refine lv_iload_n hx hb dX9_shown_9 rfl (lv_at hl 0 rfl) ?_
  refine lv_aload_n hx hb dX9_shown_10 rfl (lv_at hl 3 rfl) ?_
  refine va_get (D := (dC, dI)) (ci := 8) (v := .ref h1) (C := RX9) (T := TX9) (N := 6) hx hb hts in_X9 hown hK hP 0 rfl rfl 1 (by decide) (hts _ q_64) (fun _ h9 => h9) rfl dX9_shown_11 ?_
  have hM748 := k20_size l hl9 dC dI z h1 h5 H.size 5 5
  obtain ⟨hF746, hC749⟩ := pc_M hM748 hP hD hK hS hX hT hA [1] [] rfl rfl rfl
  refine va_calli (va_runV (As := []) (rest := [.int 2]) ⟨hx, hb, hml, hown, hts⟩ hM748 (cwV 0 hts (gV q_272 q_77 q_78 q_12 q_75) rfl rfl rfl hV_Jx4a65c_size_8abf5 ⟨Nat.le_of_ble_eq_true rfl, Nat.le_of_ble_eq_true rfl⟩) ⟨pc_blind, va_recv hK hP (ci := 0) (q0 := 1) rfl rfl, fun U hU hW => ⟨rfl, hC749 U hU hW⟩⟩ rfl rfl hl.1 rfl (lv_room (Nat.le_of_ble_eq_true rfl)) dX9_shown_14 ⟨(Nat.le_of_ble_eq_true rfl), (Nat.le_of_ble_eq_true rfl)⟩) hS (fun q9 _ h9 => hF746 q9 h9) hF746 (fun r751 u750 t750 H750 L750 ht750 hvm750 hw750 hB750 hz750 hk750 hS => ?_)
  have hP := pq_keep hP hD [1] rfl hk750 hB750.1 ht750
  have hG : s.heap.size + 592 ≤ H750.size := Nat.le_trans hG hz750
  refine W.eq (g2 := F0 m 17 ls [.int 5, .int 2]) (by rw [hw750]) ?_
  refine lv_icmp_ge (tgt := 119) hx hb dX9_shown_17 (by decide) (fun cz => absurd cz (by decide)) (fun _ => ?_)
  refine lv_bipush (v := 48) hx hb dX9_shown_20 (by decide) ?_
  refine lv_istore_n (lv' := [(3, .int 48), (2, .int 2), (1, .int 0), (0, .ref h0)]) hx hb dX9_shown_22 rfl hl (by decide) rfl (fun ls hl => ?_)
  exact hend _ _ _ hS (hP.sub [0, 1, 2, 3, 4, 5, 6, 7, 8, 9, 10, 11, 12] rfl) (hD.sub [0, 1, 2, 3, 4, 5, 6, 7, 8, 9, 10, 11, 12] rfl rfl) (lv_sub hl [0, 1, 2, 3] rfl) hG

set_option maxHeartbeats 8000000 in
set_option maxRecDepth 100000 in
theorem k669_shown_g7 {p : Program} {l : Launch} {e : Env} {s : State} {m : MethodId} {args : Array Value} {below : List Frame} {meth : Method} {c : Code} {Q : State → Prop} {A : Nat → Prop} {H : Heap} {locs : List Loc} {ls : Array Slot} {dC : Nat → ClassId} {dI : Nat → Nat → Nat} {z : XZ} {h0 h1 h2 h3 h4 h5 h6 h7 h8 h9 h10 h11 h12 : Nat} {kc0 kc1 kc2 : ClassId} (hl9 : l.stackTraces = false) (hx : p.tables.exec = Jvm.exec) (hb : c.code = cX9_shown) (hml : c.maxLocals = 7) (hown : s.vm.findClass RX9 = some m.cls) (hts : ∀ w ∈ wsL_law, w.before args s = true) (hA : ∀ q : Nat, s.heap.size ≤ q → A q) (hX : XE z A s s.heap) (hT : XT s) (hS : va_S A s.heap H locs) (hP : va_P (dC, dI) xCl [(h0, ce21 h1 h2 h3 h4), (h1, ce201 h5), (h2, ce3 z.1), (h3, ce276 h6), (h4, ce226 h7), (h5, ce200 kc0 h8 h9 h10 h11 h12), (h6, ce275 kc1 (z.2.2.1 128) (z.2.2.1 128) (z.2.2.1 128) (z.2.2.1 128) (z.2.2.1 128) (z.2.2.1 128) (z.2.2.1 128)), (h7, ce200 kc2 (z.2.2.1 128) (z.2.2.1 129) (z.2.2.1 130) (z.2.2.1 131) (z.2.2.1 132)), (h8, ce49), (h9, ce49), (h10, ce49), (h11, ce49), (h12, ce49)] H) (hD : va_D A [(h0, ce21 h1 h2 h3 h4), (h1, ce201 h5), (h2, ce3 z.1), (h3, ce276 h6), (h4, ce226 h7), (h5, ce200 kc0 h8 h9 h10 h11 h12), (h6, ce275 kc1 (z.2.2.1 128) (z.2.2.1 128) (z.2.2.1 128) (z.2.2.1 128) (z.2.2.1 128) (z.2.2.1 128) (z.2.2.1 128)), (h7, ce200 kc2 (z.2.2.1 128) (z.2.2.1 129) (z.2.2.1 130) (z.2.2.1 131) (z.2.2.1 132)), (h8, ce49), (h9, ce49), (h10, ce49), (h11, ce49), (h12, ce49)]) (hK : va_K (dC, dI) xCl [(kc0, .object "java/lang/Object"), (kc1, .object "java/lang/Object"), (kc2, .object "java/lang/Object")] s) (hl : lv_has ls 7 [(3, .int 48), (2, .int 2), (1, .int 0), (0, .ref h0)]) (hG : s.heap.size + 592 ≤ H.size) (hend : ∀ (H' : Heap) (locs' : List Loc) (ls' : Array Slot), va_S A s.heap H' locs' → va_P (dC, dI) xCl [(h0, ce21 h1 h2 h3 h4), (h1, ce201 h5), (h2, ce3 z.1), (h3, ce276 h6), (h4, ce226 h7), (h5, ce200 kc0 h8 h9 h10 h11 h12), (h6, ce275 kc1 (z.2.2.1 128) (z.2.2.1 128) (z.2.2.1 128) (z.2.2.1 128) (z.2.2.1 128) (z.2.2.1 128) (z.2.2.1 128)), (h7, ce200 kc2 (z.2.2.1 128) (z.2.2.1 129) (z.2.2.1 130) (z.2.2.1 131) (z.2.2.1 132)), (h8, ce49), (h9, ce49), (h10, ce49), (h11, ce49), (h12, ce49)] H' → va_D A [(h0, ce21 h1 h2 h3 h4), (h1, ce201 h5), (h2, ce3 z.1), (h3, ce276 h6), (h4, ce226 h7), (h5, ce200 kc0 h8 h9 h10 h11 h12), (h6, ce275 kc1 (z.2.2.1 128) (z.2.2.1 128) (z.2.2.1 128) (z.2.2.1 128) (z.2.2.1 128) (z.2.2.1 128) (z.2.2.1 128)), (h7, ce200 kc2 (z.2.2.1 128) (z.2.2.1 129) (z.2.2.1 130) (z.2.2.1 131) (z.2.2.1 132)), (h8, ce49), (h9, ce49), (h10, ce49), (h11, ce49), (h12, ce49)] → lv_has ls' 7 [(3, .int 49), (1, .int 0), (2, .int 2), (0, .ref h0)] → s.heap.size + 740 ≤ H'.size → W p l e ({ frames := 5, cells := 1480, slots := 16000, locals := 121 } : Room) s m args below meth c H' locs' 740 8000 Q (F0 m 23 ls' [])) : W p l e ({ frames := 5, cells := 1480, slots := 16000, locals := 121 } : Room) s m args below meth c H locs 592 6400 Q (F0 m 23 ls []) := by
  refine lv_iload_n hx hb dX9_shown_23 rfl (lv_at hl 0 rfl) ?_
  refine lv_bipush (v := 49) hx hb dX9_shown_24 (by decide) ?_
  refine lv_icmp_gt (tgt := 113) hx hb dX9_shown_26 (by decide) (fun cz => absurd cz (by decide)) (fun _ => ?_)
  refine lv_iconst (v := 0) hx hb dX9_shown_29 (by decide) ?_
  refine lv_istore (lv' := [(4, .int 0), (3, .int 48), (2, .int 2), (1, .int 0), (0, .ref h0)]) hx hb dX9_shown_30 hl (by decide) rfl (fun ls hl => ?_)
  refine lv_aload_n hx hb dX9_shown_32 rfl (lv_at hl 4 rfl) ?_
  refine va_get (D := (dC, dI)) (ci := 8) (v := .ref h3) (C := RX9) (T := TX9) (N := 6) hx hb hts in_X9 hown hK hP 0 rfl rfl 3 (by decide) (hts _ q_66) (fun _ h9 => h9) rfl dX9_shown_33 ?_
  have hM754 := k619_iterator l hl9 dC dI z h3 h6 H.size
  obtain ⟨hF752, hC755⟩ := pc_M hM754 hP hD hK hS hX hT hA [3] [] rfl rfl rfl
  refine va_callr (va_runV (As := []) (rest := []) ⟨hx, hb, hml, hown, hts⟩ hM754 (cwV 0 hts (gV q_256 q_257 q_258 q_12 q_255) rfl rfl rfl hV_Jx4a65c_iterator_32c93 ⟨Nat.le_of_ble_eq_true rfl, Nat.le_of_ble_eq_true rfl⟩) ⟨pc_blind, va_recv hK hP (ci := 0) (q0 := 3) rfl rfl, fun U hU hW => ⟨rfl, hC755 U hU hW⟩⟩ rfl rfl hl.1 rfl (lv_room (Nat.le_of_ble_eq_true rfl)) dX9_shown_36 ⟨(Nat.le_of_ble_eq_true rfl), (Nat.le_of_ble_eq_true rfl)⟩) hS (fun q9 _ h9 => hF752 q9 h9) hF752 (fun u756 r757 t756 H756 L756 ht756 hvm756 hw756 hB756 hz756 hk756 hS => ?_)
  obtain ⟨a758, hr756, hB756⟩ := hB756
  obtain ⟨hP, hD, hK⟩ := pq_jn (wz := [(h0, ce21 h1 h2 h3 h4), (h1, ce201 h5), (h2, ce3 z.1), (h4, ce226 h7), (h5, ce200 kc0 h8 h9 h10 h11 h12), (h6, ce275 kc1 (z.2.2.1 128) (z.2.2.1 128) (z.2.2.1 128) (z.2.2.1 128) (z.2.2.1 128) (z.2.2.1 128) (z.2.2.1 128)), (h7, ce200 kc2 (z.2.2.1 128) (z.2.2.1 129) (z.2.2.1 130) (z.2.2.1 131) (z.2.2.1 132)), (h8, ce49), (h9, ce49), (h10, ce49), (h11, ce49), (h12, ce49), (h3, ce276 h6), (a758, ce292 h3)]) (tz := [(kc0, .object "java/lang/Object"), (kc1, .object "java/lang/Object"), (kc2, .object "java/lang/Object")]) hP hD hK [3] [0, 1, 2] rfl hk756 hF752 hB756.1 ht756 hvm756 rfl rfl
  have hG : s.heap.size + 593 ≤ H756.size := va_gr (g := 592) (g1 := 1) hG (by rw [← ht756]; exact hB756.2)
  refine W.eq (g2 := F0 m 39 ls [.ref a758]) (by rw [hr756]) ?_
  refine W.widen (k := 593) (n := 6404) (by decide) (by decide) ?_
  refine lv_astore (lv' := [(5, .ref a758), (4, .int 0), (3, .int 48), (2, .int 2), (1, .int 0), (0, .ref h0)]) hx hb dX9_shown_39 hl (by decide) rfl (fun ls hl => ?_)
  refine lv_aload hx hb dX9_shown_41 (lv_at hl 0 rfl) ?_
  have hM761 := k620_hasNext l hl9 dC dI z a758 h3 h6 H756.size
  obtain ⟨hF759, hC762⟩ := pc_M hM761 hP hD hK hS hX hT hA [13, 12] [] rfl rfl rfl
  refine va_callFi (va_runF (As := []) (rest := []) (hK.1 1 _ rfl).2 ⟨hx, hb, hml, hown, hts⟩ hM761 (va_cwF 0 hts (gF q_261 q_262 q_263 q_246 q_260) rfl rfl rfl hT.2.2.2.2.2.2.1 hF_xIh ⟨Nat.le_of_ble_eq_true rfl, Nat.le_of_ble_eq_true rfl⟩) ⟨pc_blind, va_recv hK hP (ci := 1) (q0 := 13) rfl rfl, fun U hU hW => ⟨rfl, hC762 U hU hW⟩⟩ rfl rfl hl.1 rfl (lv_room (Nat.le_of_ble_eq_true rfl)) dX9_shown_43 ⟨(Nat.le_of_ble_eq_true rfl), (Nat.le_of_ble_eq_true rfl)⟩) hS (fun q9 _ h9 => hF759 q9 h9) hF759 (fun r764 u763 t763 H763 L763 ht763 hvm763 hw763 hB763 hz763 hk763 hS => ?_)
  have hP := pq_keep hP hD [13, 12] rfl hk763 hB763.1 ht763
  have hG : s.heap.size + 593 ≤ H763.size := Nat.le_trans hG hz763
  refine W.eq (g2 := F0 m 48 ls [.int 1]) (by rw [hw763]) ?_
  refine lv_if_eq (tgt := 92) hx hb dX9_shown_48 (by decide) (fun cz => absurd cz (by decide)) (fun _ => ?_)
  refine lv_aload hx hb dX9_shown_51 (lv_at hl 0 rfl) ?_
  have hM767 := k622_next l hl9 dC dI z a758 h3 h6 H763.size kc1
  obtain ⟨hF765, hC768⟩ := pc_M hM767 hP hD hK hS hX hT hA [13, 12, 5] [1] rfl rfl rfl
  refine va_callFr (va_runF (As := []) (rest := []) (hK.1 1 _ rfl).2 ⟨hx, hb, hml, hown, hts⟩ hM767 (va_cwF 0 hts (gF q_308 q_309 q_310 q_246 q_307) rfl rfl rfl hT.2.2.2.2.2.2.2.1 hF_xIn ⟨Nat.le_of_ble_eq_true rfl, Nat.le_of_ble_eq_true rfl⟩) ⟨pc_blind, va_recv hK hP (ci := 1) (q0 := 13) rfl rfl, fun U hU hW => ⟨rfl, hC768 U hU hW⟩⟩ rfl rfl hl.1 rfl (lv_room (Nat.le_of_ble_eq_true rfl)) dX9_shown_53 ⟨(Nat.le_of_ble_eq_true rfl), (Nat.le_of_ble_eq_true rfl)⟩) hS (fun q9 _ h9 => hF765 q9 h9) hF765 (fun u769 r770 t769 H769 L769 ht769 hvm769 hw769 hB769 hz769 hk769 hS => ?_)
  obtain ⟨hr769, hB769⟩ := hB769
  obtain ⟨hP, hD, hK⟩ := pq_jn (wz := [(h0, ce21 h1 h2 h3 h4), (h1, ce201 h5), (h2, ce3 z.1), (h4, ce226 h7), (h5, ce200 kc0 h8 h9 h10 h11 h12), (h7, ce200 kc2 (z.2.2.1 128) (z.2.2.1 129) (z.2.2.1 130) (z.2.2.1 131) (z.2.2.1 132)), (h8, ce49), (h9, ce49), (h10, ce49), (h11, ce49), (h12, ce49), (a758, ce294 h3), (h3, ce276 h6), (h6, ce275 kc1 (z.2.2.1 128) (z.2.2.1 128) (z.2.2.1 128) (z.2.2.1 128) (z.2.2.1 128) (z.2.2.1 128) (z.2.2.1 128))]) (tz := [(kc0, .object "java/lang/Object"), (kc2, .object "java/lang/Object"), (kc1, .object "java/lang/Object")]) hP hD hK [13, 12, 5] [0, 2] rfl hk769 hF765 hB769.1 ht769 hvm769 rfl rfl
  have hG : s.heap.size + 593 ≤ H769.size := Nat.le_trans hG hz769
  refine W.eq (g2 := F0 m 58 ls [.ref (z.2.2.1 128)]) (by rw [hr769]) ?_
  refine va_castE (nm := "java/lang/Integer") hx hb hown (hts _ q_320) (va_Orecv (hX.2.2.1.1.1 128 (by decide)) hS) dX9_shown_58 ?_
  have hM773 := k74_intValue l hl9 dC dI z H769.size
  obtain ⟨hF771, hC774⟩ := pc_M hM773 hP hD hK hS hX hT hA [] [] rfl rfl rfl
  refine va_calli (va_runV (As := []) (rest := []) ⟨hx, hb, hml, hown, hts⟩ hM773 (cwV 0 hts (gV q_323 q_324 q_325 q_297 q_322) rfl rfl rfl hV_J6_intValue_8abf5 ⟨Nat.le_of_ble_eq_true rfl, Nat.le_of_ble_eq_true rfl⟩) ⟨pc_blind, va_Orecv (hX.2.2.1.1.1 128 (by decide)) hS, fun U hU hW => ⟨rfl, hC774 U hU hW⟩⟩ rfl rfl hl.1 rfl (lv_room (Nat.le_of_ble_eq_true rfl)) dX9_shown_61 ⟨(Nat.le_of_ble_eq_true rfl), (Nat.le_of_ble_eq_true rfl)⟩) hS (fun q9 _ h9 => hF771 q9 h9) hF771 (fun r776 u775 t775 H775 L775 ht775 hvm775 hw775 hB775 hz775 hk775 hS => ?_)
  have hP := pq_keep hP hD [] rfl hk775 hB775.1 ht775
  have hG : s.heap.size + 593 ≤ H775.size := Nat.le_trans hG hz775
  refine W.eq (g2 := F0 m 64 ls [.int 0]) (by rw [hw775]) ?_
  refine lv_istore (lv' := [(6, .int 0), (5, .ref a758), (4, .int 0), (3, .int 48), (2, .int 2), (1, .int 0), (0, .ref h0)]) hx hb dX9_shown_64 hl (by decide) rfl (fun ls hl => ?_)
  refine lv_iload hx hb dX9_shown_66 (lv_at hl 2 rfl) ?_
  refine lv_if_ne (tgt := 82) hx hb dX9_shown_68 (by decide) (fun cz => absurd (by decide) cz) (fun _ => ?_)
  refine lv_aload_n hx hb dX9_shown_71 rfl (lv_at hl 6 rfl) ?_
  refine lv_iload_n hx hb dX9_shown_72 rfl (lv_at hl 4 rfl) ?_
  refine lv_iload_n hx hb dX9_shown_73 rfl (lv_at hl 3 rfl) ?_
  refine lv_iload hx hb dX9_shown_74 (lv_at hl 0 rfl) ?_
  have hM779 := k658_showsIt l hl9 dC dI z h0 h1 h2 h4 h5 h7 h8 h9 h10 h11 h12 h3 H775.size kc0 kc2
  obtain ⟨hF777, hC780⟩ := pc_M hM779 hP hD hK hS hX hT hA [0, 1, 2, 3, 4, 5, 6, 7, 8, 9, 10] [0, 1] rfl rfl rfl
  refine va_calli (va_runV (As := [.int 2, .int 48, .int 0]) (rest := []) ⟨hx, hb, hml, hown, hts⟩ hM779 (cwV 3 hts (gV q_429 q_430 q_431 q_60 q_428) rfl rfl rfl hV_X9_showsIt ⟨Nat.le_of_ble_eq_true rfl, Nat.le_of_ble_eq_true rfl⟩) ⟨pc_blind, va_recv hK hP (ci := 8) (q0 := 0) rfl rfl, fun U hU hW => ⟨rfl, hC780 U hU hW⟩⟩ rfl rfl hl.1 rfl (lv_room (Nat.le_of_ble_eq_true rfl)) dX9_shown_76 ⟨(Nat.le_of_ble_eq_true rfl), (Nat.le_of_ble_eq_true rfl)⟩) hS (fun q9 _ h9 => hF777 q9 h9) hF777 (fun r782 u781 t781 H781 L781 ht781 hvm781 hw781 hB781 hz781 hk781 hS => ?_)
  have hP := pq_keep hP hD [0, 1, 2, 3, 4, 5, 6, 7, 8, 9, 10] rfl hk781 hB781.1 ht781
  have hG : s.heap.size + 614 ≤ H781.size := va_gr (g := 593) (g1 := 21) hG (by rw [← ht781]; exact hB781.2)
  refine W.eq (g2 := F0 m 79 ls [.int 0]) (by rw [hw781]) ?_
  refine W.widen (k := 614) (n := 6632) (by decide) (by decide) ?_
  refine lv_if_eq (tgt := 86) hx hb dX9_shown_79 (by decide) (fun _ => ?_) (fun cz => absurd (by decide) cz)
  refine lv_iconst (v := 0) hx hb dX9_shown_86 (by decide) ?_
  refine lv_istore (lv' := [(4, .int 0), (6, .int 0), (5, .ref a758), (3, .int 48), (2, .int 2), (1, .int 0), (0, .ref h0)]) hx hb dX9_shown_87 hl (by decide) rfl (fun ls hl => ?_)
  refine lv_goto (tgt := 41) hx hb dX9_shown_89 (by decide) ?_
  refine lv_aload hx hb dX9_shown_41 (lv_at hl 2 rfl) ?_
  have hM785 := k632_hasNext l hl9 dC dI z a758 h3 h6 H781.size
  obtain ⟨hF783, hC786⟩ := pc_M hM785 hP hD hK hS hX hT hA [11, 12] [] rfl rfl rfl
  refine va_callFi (va_runF (As := []) (rest := []) (hK.1 1 _ rfl).2 ⟨hx, hb, hml, hown, hts⟩ hM785 (va_cwF 0 hts (gF q_261 q_262 q_263 q_246 q_260) rfl rfl rfl hT.2.2.2.2.2.2.1 hF_xIh ⟨Nat.le_of_ble_eq_true rfl, Nat.le_of_ble_eq_true rfl⟩) ⟨pc_blind, va_recv hK hP (ci := 1) (q0 := 11) rfl rfl, fun U hU hW => ⟨rfl, hC786 U hU hW⟩⟩ rfl rfl hl.1 rfl (lv_room (Nat.le_of_ble_eq_true rfl)) dX9_shown_43 ⟨(Nat.le_of_ble_eq_true rfl), (Nat.le_of_ble_eq_true rfl)⟩) hS (fun q9 _ h9 => hF783 q9 h9) hF783 (fun r788 u787 t787 H787 L787 ht787 hvm787 hw787 hB787 hz787 hk787 hS => ?_)
  have hP := pq_keep hP hD [11, 12] rfl hk787 hB787.1 ht787
  have hG : s.heap.size + 614 ≤ H787.size := Nat.le_trans hG hz787
  refine W.eq (g2 := F0 m 48 ls [.int 1]) (by rw [hw787]) ?_
  refine lv_if_eq (tgt := 92) hx hb dX9_shown_48 (by decide) (fun cz => absurd cz (by decide)) (fun _ => ?_)
  refine lv_aload hx hb dX9_shown_51 (lv_at hl 2 rfl) ?_
  have hM791 := k634_next l hl9 dC dI z a758 h3 h6 H787.size kc1
  obtain ⟨hF789, hC792⟩ := pc_M hM791 hP hD hK hS hX hT hA [11, 12, 13] [2] rfl rfl rfl
  refine va_callFr (va_runF (As := []) (rest := []) (hK.1 1 _ rfl).2 ⟨hx, hb, hml, hown, hts⟩ hM791 (va_cwF 0 hts (gF q_308 q_309 q_310 q_246 q_307) rfl rfl rfl hT.2.2.2.2.2.2.2.1 hF_xIn ⟨Nat.le_of_ble_eq_true rfl, Nat.le_of_ble_eq_true rfl⟩) ⟨pc_blind, va_recv hK hP (ci := 1) (q0 := 11) rfl rfl, fun U hU hW => ⟨rfl, hC792 U hU hW⟩⟩ rfl rfl hl.1 rfl (lv_room (Nat.le_of_ble_eq_true rfl)) dX9_shown_53 ⟨(Nat.le_of_ble_eq_true rfl), (Nat.le_of_ble_eq_true rfl)⟩) hS (fun q9 _ h9 => hF789 q9 h9) hF789 (fun u793 r794 t793 H793 L793 ht793 hvm793 hw793 hB793 hz793 hk793 hS => ?_)
  obtain ⟨hr793, hB793⟩ := hB793
  obtain ⟨hP, hD, hK⟩ := pq_jn (wz := [(h0, ce21 h1 h2 h3 h4), (h1, ce201 h5), (h2, ce3 z.1), (h4, ce226 h7), (h5, ce200 kc0 h8 h9 h10 h11 h12), (h7, ce200 kc2 (z.2.2.1 128) (z.2.2.1 129) (z.2.2.1 130) (z.2.2.1 131) (z.2.2.1 132)), (h8, ce49), (h9, ce49), (h10, ce49), (h11, ce49), (h12, ce49), (a758, ce310 h3), (h3, ce276 h6), (h6, ce275 kc1 (z.2.2.1 128) (z.2.2.1 128) (z.2.2.1 128) (z.2.2.1 128) (z.2.2.1 128) (z.2.2.1 128) (z.2.2.1 128))]) (tz := [(kc0, .object "java/lang/Object"), (kc2, .object "java/lang/Object"), (kc1, .object "java/lang/Object")]) hP hD hK [11, 12, 13] [0, 1] rfl hk793 hF789 hB793.1 ht793 hvm793 rfl rfl
  have hG : s.heap.size + 614 ≤ H793.size := Nat.le_trans hG hz793
  refine W.eq (g2 := F0 m 58 ls [.ref (z.2.2.1 128)]) (by rw [hr793]) ?_
  refine va_castE (nm := "java/lang/Integer") hx hb hown (hts _ q_320) (va_Orecv (hX.2.2.1.1.1 128 (by decide)) hS) dX9_shown_58 ?_
  have hM797 := k74_intValue l hl9 dC dI z H793.size
  obtain ⟨hF795, hC798⟩ := pc_M hM797 hP hD hK hS hX hT hA [] [] rfl rfl rfl
  refine va_calli (va_runV (As := []) (rest := []) ⟨hx, hb, hml, hown, hts⟩ hM797 (cwV 0 hts (gV q_323 q_324 q_325 q_297 q_322) rfl rfl rfl hV_J6_intValue_8abf5 ⟨Nat.le_of_ble_eq_true rfl, Nat.le_of_ble_eq_true rfl⟩) ⟨pc_blind, va_Orecv (hX.2.2.1.1.1 128 (by decide)) hS, fun U hU hW => ⟨rfl, hC798 U hU hW⟩⟩ rfl rfl hl.1 rfl (lv_room (Nat.le_of_ble_eq_true rfl)) dX9_shown_61 ⟨(Nat.le_of_ble_eq_true rfl), (Nat.le_of_ble_eq_true rfl)⟩) hS (fun q9 _ h9 => hF795 q9 h9) hF795 (fun r800 u799 t799 H799 L799 ht799 hvm799 hw799 hB799 hz799 hk799 hS => ?_)
  have hP := pq_keep hP hD [] rfl hk799 hB799.1 ht799
  have hG : s.heap.size + 614 ≤ H799.size := Nat.le_trans hG hz799
  refine W.eq (g2 := F0 m 64 ls [.int 0]) (by rw [hw799]) ?_
  refine lv_istore (lv' := [(6, .int 0), (4, .int 0), (5, .ref a758), (3, .int 48), (2, .int 2), (1, .int 0), (0, .ref h0)]) hx hb dX9_shown_64 hl (by decide) rfl (fun ls hl => ?_)
  refine lv_iload hx hb dX9_shown_66 (lv_at hl 1 rfl) ?_
  refine lv_if_ne (tgt := 82) hx hb dX9_shown_68 (by decide) (fun cz => absurd (by decide) cz) (fun _ => ?_)
  refine lv_aload_n hx hb dX9_shown_71 rfl (lv_at hl 6 rfl) ?_
  refine lv_iload_n hx hb dX9_shown_72 rfl (lv_at hl 4 rfl) ?_
  refine lv_iload_n hx hb dX9_shown_73 rfl (lv_at hl 3 rfl) ?_
  refine lv_iload hx hb dX9_shown_74 (lv_at hl 0 rfl) ?_
  have hM803 := k658_showsIt l hl9 dC dI z h0 h1 h2 h4 h5 h7 h8 h9 h10 h11 h12 h3 H799.size kc0 kc2
  obtain ⟨hF801, hC804⟩ := pc_M hM803 hP hD hK hS hX hT hA [0, 1, 2, 3, 4, 5, 6, 7, 8, 9, 10] [0, 1] rfl rfl rfl
  refine va_calli (va_runV (As := [.int 2, .int 48, .int 0]) (rest := []) ⟨hx, hb, hml, hown, hts⟩ hM803 (cwV 3 hts (gV q_429 q_430 q_431 q_60 q_428) rfl rfl rfl hV_X9_showsIt ⟨Nat.le_of_ble_eq_true rfl, Nat.le_of_ble_eq_true rfl⟩) ⟨pc_blind, va_recv hK hP (ci := 8) (q0 := 0) rfl rfl, fun U hU hW => ⟨rfl, hC804 U hU hW⟩⟩ rfl rfl hl.1 rfl (lv_room (Nat.le_of_ble_eq_true rfl)) dX9_shown_76 ⟨(Nat.le_of_ble_eq_true rfl), (Nat.le_of_ble_eq_true rfl)⟩) hS (fun q9 _ h9 => hF801 q9 h9) hF801 (fun r806 u805 t805 H805 L805 ht805 hvm805 hw805 hB805 hz805 hk805 hS => ?_)
  have hP := pq_keep hP hD [0, 1, 2, 3, 4, 5, 6, 7, 8, 9, 10] rfl hk805 hB805.1 ht805
  have hG : s.heap.size + 635 ≤ H805.size := va_gr (g := 614) (g1 := 21) hG (by rw [← ht805]; exact hB805.2)
  refine W.eq (g2 := F0 m 79 ls [.int 0]) (by rw [hw805]) ?_
  refine W.widen (k := 635) (n := 6860) (by decide) (by decide) ?_
  refine lv_if_eq (tgt := 86) hx hb dX9_shown_79 (by decide) (fun _ => ?_) (fun cz => absurd (by decide) cz)
  refine lv_iconst (v := 0) hx hb dX9_shown_86 (by decide) ?_
  refine lv_istore (lv' := [(4, .int 0), (6, .int 0), (5, .ref a758), (3, .int 48), (2, .int 2), (1, .int 0), (0, .ref h0)]) hx hb dX9_shown_87 hl (by decide) rfl (fun ls hl => ?_)
  refine lv_goto (tgt := 41) hx hb dX9_shown_89 (by decide) ?_
  refine lv_aload hx hb dX9_shown_41 (lv_at hl 2 rfl) ?_
  have hM809 := k635_hasNext l hl9 dC dI z a758 h3 h6 H805.size
  obtain ⟨hF807, hC810⟩ := pc_M hM809 hP hD hK hS hX hT hA [11, 12] [] rfl rfl rfl
  refine va_callFi (va_runF (As := []) (rest := []) (hK.1 1 _ rfl).2 ⟨hx, hb, hml, hown, hts⟩ hM809 (va_cwF 0 hts (gF q_261 q_262 q_263 q_246 q_260) rfl rfl rfl hT.2.2.2.2.2.2.1 hF_xIh ⟨Nat.le_of_ble_eq_true rfl, Nat.le_of_ble_eq_true rfl⟩) ⟨pc_blind, va_recv hK hP (ci := 1) (q0 := 11) rfl rfl, fun U hU hW => ⟨rfl, hC810 U hU hW⟩⟩ rfl rfl hl.1 rfl (lv_room (Nat.le_of_ble_eq_true rfl)) dX9_shown_43 ⟨(Nat.le_of_ble_eq_true rfl), (Nat.le_of_ble_eq_true rfl)⟩) hS (fun q9 _ h9 => hF807 q9 h9) hF807 (fun r812 u811 t811 H811 L811 ht811 hvm811 hw811 hB811 hz811 hk811 hS => ?_)
  have hP := pq_keep hP hD [11, 12] rfl hk811 hB811.1 ht811
  have hG : s.heap.size + 635 ≤ H811.size := Nat.le_trans hG hz811
  refine W.eq (g2 := F0 m 48 ls [.int 1]) (by rw [hw811]) ?_
  refine lv_if_eq (tgt := 92) hx hb dX9_shown_48 (by decide) (fun cz => absurd cz (by decide)) (fun _ => ?_)
  refine lv_aload hx hb dX9_shown_51 (lv_at hl 2 rfl) ?_
  have hM815 := k637_next l hl9 dC dI z a758 h3 h6 H811.size kc1
  obtain ⟨hF813, hC816⟩ := pc_M hM815 hP hD hK hS hX hT hA [11, 12, 13] [2] rfl rfl rfl
  refine va_callFr (va_runF (As := []) (rest := []) (hK.1 1 _ rfl).2 ⟨hx, hb, hml, hown, hts⟩ hM815 (va_cwF 0 hts (gF q_308 q_309 q_310 q_246 q_307) rfl rfl rfl hT.2.2.2.2.2.2.2.1 hF_xIn ⟨Nat.le_of_ble_eq_true rfl, Nat.le_of_ble_eq_true rfl⟩) ⟨pc_blind, va_recv hK hP (ci := 1) (q0 := 11) rfl rfl, fun U hU hW => ⟨rfl, hC816 U hU hW⟩⟩ rfl rfl hl.1 rfl (lv_room (Nat.le_of_ble_eq_true rfl)) dX9_shown_53 ⟨(Nat.le_of_ble_eq_true rfl), (Nat.le_of_ble_eq_true rfl)⟩) hS (fun q9 _ h9 => hF813 q9 h9) hF813 (fun u817 r818 t817 H817 L817 ht817 hvm817 hw817 hB817 hz817 hk817 hS => ?_)
  obtain ⟨hr817, hB817⟩ := hB817
  obtain ⟨hP, hD, hK⟩ := pq_jn (wz := [(h0, ce21 h1 h2 h3 h4), (h1, ce201 h5), (h2, ce3 z.1), (h4, ce226 h7), (h5, ce200 kc0 h8 h9 h10 h11 h12), (h7, ce200 kc2 (z.2.2.1 128) (z.2.2.1 129) (z.2.2.1 130) (z.2.2.1 131) (z.2.2.1 132)), (h8, ce49), (h9, ce49), (h10, ce49), (h11, ce49), (h12, ce49), (a758, ce312 h3), (h3, ce276 h6), (h6, ce275 kc1 (z.2.2.1 128) (z.2.2.1 128) (z.2.2.1 128) (z.2.2.1 128) (z.2.2.1 128) (z.2.2.1 128) (z.2.2.1 128))]) (tz := [(kc0, .object "java/lang/Object"), (kc2, .object "java/lang/Object"), (kc1, .object "java/lang/Object")]) hP hD hK [11, 12, 13] [0, 1] rfl hk817 hF813 hB817.1 ht817 hvm817 rfl rfl
  have hG : s.heap.size + 635 ≤ H817.size := Nat.le_trans hG hz817
  refine W.eq (g2 := F0 m 58 ls [.ref (z.2.2.1 128)]) (by rw [hr817]) ?_
  refine va_castE (nm := "java/lang/Integer") hx hb hown (hts _ q_320) (va_Orecv (hX.2.2.1.1.1 128 (by decide)) hS) dX9_shown_58 ?_
  have hM821 := k74_intValue l hl9 dC dI z H817.size
  obtain ⟨hF819, hC822⟩ := pc_M hM821 hP hD hK hS hX hT hA [] [] rfl rfl rfl
  refine va_calli (va_runV (As := []) (rest := []) ⟨hx, hb, hml, hown, hts⟩ hM821 (cwV 0 hts (gV q_323 q_324 q_325 q_297 q_322) rfl rfl rfl hV_J6_intValue_8abf5 ⟨Nat.le_of_ble_eq_true rfl, Nat.le_of_ble_eq_true rfl⟩) ⟨pc_blind, va_Orecv (hX.2.2.1.1.1 128 (by decide)) hS, fun U hU hW => ⟨rfl, hC822 U hU hW⟩⟩ rfl rfl hl.1 rfl (lv_room (Nat.le_of_ble_eq_true rfl)) dX9_shown_61 ⟨(Nat.le_of_ble_eq_true rfl), (Nat.le_of_ble_eq_true rfl)⟩) hS (fun q9 _ h9 => hF819 q9 h9) hF819 (fun r824 u823 t823 H823 L823 ht823 hvm823 hw823 hB823 hz823 hk823 hS => ?_)
  have hP := pq_keep hP hD [] rfl hk823 hB823.1 ht823
  have hG : s.heap.size + 635 ≤ H823.size := Nat.le_trans hG hz823
  refine W.eq (g2 := F0 m 64 ls [.int 0]) (by rw [hw823]) ?_
  refine lv_istore (lv' := [(6, .int 0), (4, .int 0), (5, .ref a758), (3, .int 48), (2, .int 2), (1, .int 0), (0, .ref h0)]) hx hb dX9_shown_64 hl (by decide) rfl (fun ls hl => ?_)
  refine lv_iload hx hb dX9_shown_66 (lv_at hl 1 rfl) ?_
  refine lv_if_ne (tgt := 82) hx hb dX9_shown_68 (by decide) (fun cz => absurd (by decide) cz) (fun _ => ?_)
  refine lv_aload_n hx hb dX9_shown_71 rfl (lv_at hl 6 rfl) ?_
  refine lv_iload_n hx hb dX9_shown_72 rfl (lv_at hl 4 rfl) ?_
  refine lv_iload_n hx hb dX9_shown_73 rfl (lv_at hl 3 rfl) ?_
  refine lv_iload hx hb dX9_shown_74 (lv_at hl 0 rfl) ?_
  have hM827 := k658_showsIt l hl9 dC dI z h0 h1 h2 h4 h5 h7 h8 h9 h10 h11 h12 h3 H823.size kc0 kc2
  obtain ⟨hF825, hC828⟩ := pc_M hM827 hP hD hK hS hX hT hA [0, 1, 2, 3, 4, 5, 6, 7, 8, 9, 10] [0, 1] rfl rfl rfl
  refine va_calli (va_runV (As := [.int 2, .int 48, .int 0]) (rest := []) ⟨hx, hb, hml, hown, hts⟩ hM827 (cwV 3 hts (gV q_429 q_430 q_431 q_60 q_428) rfl rfl rfl hV_X9_showsIt ⟨Nat.le_of_ble_eq_true rfl, Nat.le_of_ble_eq_true rfl⟩) ⟨pc_blind, va_recv hK hP (ci := 8) (q0 := 0) rfl rfl, fun U hU hW => ⟨rfl, hC828 U hU hW⟩⟩ rfl rfl hl.1 rfl (lv_room (Nat.le_of_ble_eq_true rfl)) dX9_shown_76 ⟨(Nat.le_of_ble_eq_true rfl), (Nat.le_of_ble_eq_true rfl)⟩) hS (fun q9 _ h9 => hF825 q9 h9) hF825 (fun r830 u829 t829 H829 L829 ht829 hvm829 hw829 hB829 hz829 hk829 hS => ?_)
  have hP := pq_keep hP hD [0, 1, 2, 3, 4, 5, 6, 7, 8, 9, 10] rfl hk829 hB829.1 ht829
  have hG : s.heap.size + 656 ≤ H829.size := va_gr (g := 635) (g1 := 21) hG (by rw [← ht829]; exact hB829.2)
  refine W.eq (g2 := F0 m 79 ls [.int 0]) (by rw [hw829]) ?_
  refine W.widen (k := 656) (n := 7088) (by decide) (by decide) ?_
  refine lv_if_eq (tgt := 86) hx hb dX9_shown_79 (by decide) (fun _ => ?_) (fun cz => absurd (by decide) cz)
  refine lv_iconst (v := 0) hx hb dX9_shown_86 (by decide) ?_
  refine lv_istore (lv' := [(4, .int 0), (6, .int 0), (5, .ref a758), (3, .int 48), (2, .int 2), (1, .int 0), (0, .ref h0)]) hx hb dX9_shown_87 hl (by decide) rfl (fun ls hl => ?_)
  refine lv_goto (tgt := 41) hx hb dX9_shown_89 (by decide) ?_
  refine lv_aload hx hb dX9_shown_41 (lv_at hl 2 rfl) ?_
  have hM833 := k638_hasNext l hl9 dC dI z a758 h3 h6 H829.size
  obtain ⟨hF831, hC834⟩ := pc_M hM833 hP hD hK hS hX hT hA [11, 12] [] rfl rfl rfl
  refine va_callFi (va_runF (As := []) (rest := []) (hK.1 1 _ rfl).2 ⟨hx, hb, hml, hown, hts⟩ hM833 (va_cwF 0 hts (gF q_261 q_262 q_263 q_246 q_260) rfl rfl rfl hT.2.2.2.2.2.2.1 hF_xIh ⟨Nat.le_of_ble_eq_true rfl, Nat.le_of_ble_eq_true rfl⟩) ⟨pc_blind, va_recv hK hP (ci := 1) (q0 := 11) rfl rfl, fun U hU hW => ⟨rfl, hC834 U hU hW⟩⟩ rfl rfl hl.1 rfl (lv_room (Nat.le_of_ble_eq_true rfl)) dX9_shown_43 ⟨(Nat.le_of_ble_eq_true rfl), (Nat.le_of_ble_eq_true rfl)⟩) hS (fun q9 _ h9 => hF831 q9 h9) hF831 (fun r836 u835 t835 H835 L835 ht835 hvm835 hw835 hB835 hz835 hk835 hS => ?_)
  have hP := pq_keep hP hD [11, 12] rfl hk835 hB835.1 ht835
  have hG : s.heap.size + 656 ≤ H835.size := Nat.le_trans hG hz835
  refine W.eq (g2 := F0 m 48 ls [.int 1]) (by rw [hw835]) ?_
  refine lv_if_eq (tgt := 92) hx hb dX9_shown_48 (by decide) (fun cz => absurd cz (by decide)) (fun _ => ?_)
  refine lv_aload hx hb dX9_shown_51 (lv_at hl 2 rfl) ?_
  have hM839 := k640_next l hl9 dC dI z a758 h3 h6 H835.size kc1
  obtain ⟨hF837, hC840⟩ := pc_M hM839 hP hD hK hS hX hT hA [11, 12, 13] [2] rfl rfl rfl
  refine va_callFr (va_runF (As := []) (rest := []) (hK.1 1 _ rfl).2 ⟨hx, hb, hml, hown, hts⟩ hM839 (va_cwF 0 hts (gF q_308 q_309 q_310 q_246 q_307) rfl rfl rfl hT.2.2.2.2.2.2.2.1 hF_xIn ⟨Nat.le_of_ble_eq_true rfl, Nat.le_of_ble_eq_true rfl⟩) ⟨pc_blind, va_recv hK hP (ci := 1) (q0 := 11) rfl rfl, fun U hU hW => ⟨rfl, hC840 U hU hW⟩⟩ rfl rfl hl.1 rfl (lv_room (Nat.le_of_ble_eq_true rfl)) dX9_shown_53 ⟨(Nat.le_of_ble_eq_true rfl), (Nat.le_of_ble_eq_true rfl)⟩) hS (fun q9 _ h9 => hF837 q9 h9) hF837 (fun u841 r842 t841 H841 L841 ht841 hvm841 hw841 hB841 hz841 hk841 hS => ?_)
  obtain ⟨hr841, hB841⟩ := hB841
  obtain ⟨hP, hD, hK⟩ := pq_jn (wz := [(h0, ce21 h1 h2 h3 h4), (h1, ce201 h5), (h2, ce3 z.1), (h4, ce226 h7), (h5, ce200 kc0 h8 h9 h10 h11 h12), (h7, ce200 kc2 (z.2.2.1 128) (z.2.2.1 129) (z.2.2.1 130) (z.2.2.1 131) (z.2.2.1 132)), (h8, ce49), (h9, ce49), (h10, ce49), (h11, ce49), (h12, ce49), (a758, ce314 h3), (h3, ce276 h6), (h6, ce275 kc1 (z.2.2.1 128) (z.2.2.1 128) (z.2.2.1 128) (z.2.2.1 128) (z.2.2.1 128) (z.2.2.1 128) (z.2.2.1 128))]) (tz := [(kc0, .object "java/lang/Object"), (kc2, .object "java/lang/Object"), (kc1, .object "java/lang/Object")]) hP hD hK [11, 12, 13] [0, 1] rfl hk841 hF837 hB841.1 ht841 hvm841 rfl rfl
  have hG : s.heap.size + 656 ≤ H841.size := Nat.le_trans hG hz841
  refine W.eq (g2 := F0 m 58 ls [.ref (z.2.2.1 128)]) (by rw [hr841]) ?_
  refine va_castE (nm := "java/lang/Integer") hx hb hown (hts _ q_320) (va_Orecv (hX.2.2.1.1.1 128 (by decide)) hS) dX9_shown_58 ?_
  have hM845 := k74_intValue l hl9 dC dI z H841.size
  obtain ⟨hF843, hC846⟩ := pc_M hM845 hP hD hK hS hX hT hA [] [] rfl rfl rfl
  refine va_calli (va_runV (As := []) (rest := []) ⟨hx, hb, hml, hown, hts⟩ hM845 (cwV 0 hts (gV q_323 q_324 q_325 q_297 q_322) rfl rfl rfl hV_J6_intValue_8abf5 ⟨Nat.le_of_ble_eq_true rfl, Nat.le_of_ble_eq_true rfl⟩) ⟨pc_blind, va_Orecv (hX.2.2.1.1.1 128 (by decide)) hS, fun U hU hW => ⟨rfl, hC846 U hU hW⟩⟩ rfl rfl hl.1 rfl (lv_room (Nat.le_of_ble_eq_true rfl)) dX9_shown_61 ⟨(Nat.le_of_ble_eq_true rfl), (Nat.le_of_ble_eq_true rfl)⟩) hS (fun q9 _ h9 => hF843 q9 h9) hF843 (fun r848 u847 t847 H847 L847 ht847 hvm847 hw847 hB847 hz847 hk847 hS => ?_)
  have hP := pq_keep hP hD [] rfl hk847 hB847.1 ht847
  have hG : s.heap.size + 656 ≤ H847.size := Nat.le_trans hG hz847
  refine W.eq (g2 := F0 m 64 ls [.int 0]) (by rw [hw847]) ?_
  refine lv_istore (lv' := [(6, .int 0), (4, .int 0), (5, .ref a758), (3, .int 48), (2, .int 2), (1, .int 0), (0, .ref h0)]) hx hb dX9_shown_64 hl (by decide) rfl (fun ls hl => ?_)
  refine lv_iload hx hb dX9_shown_66 (lv_at hl 1 rfl) ?_
  refine lv_if_ne (tgt := 82) hx hb dX9_shown_68 (by decide) (fun cz => absurd (by decide) cz) (fun _ => ?_)
  refine lv_aload_n hx hb dX9_shown_71 rfl (lv_at hl 6 rfl) ?_
  refine lv_iload_n hx hb dX9_shown_72 rfl (lv_at hl 4 rfl) ?_
  refine lv_iload_n hx hb dX9_shown_73 rfl (lv_at hl 3 rfl) ?_
  refine lv_iload hx hb dX9_shown_74 (lv_at hl 0 rfl) ?_
  have hM851 := k658_showsIt l hl9 dC dI z h0 h1 h2 h4 h5 h7 h8 h9 h10 h11 h12 h3 H847.size kc0 kc2
  obtain ⟨hF849, hC852⟩ := pc_M hM851 hP hD hK hS hX hT hA [0, 1, 2, 3, 4, 5, 6, 7, 8, 9, 10] [0, 1] rfl rfl rfl
  refine va_calli (va_runV (As := [.int 2, .int 48, .int 0]) (rest := []) ⟨hx, hb, hml, hown, hts⟩ hM851 (cwV 3 hts (gV q_429 q_430 q_431 q_60 q_428) rfl rfl rfl hV_X9_showsIt ⟨Nat.le_of_ble_eq_true rfl, Nat.le_of_ble_eq_true rfl⟩) ⟨pc_blind, va_recv hK hP (ci := 8) (q0 := 0) rfl rfl, fun U hU hW => ⟨rfl, hC852 U hU hW⟩⟩ rfl rfl hl.1 rfl (lv_room (Nat.le_of_ble_eq_true rfl)) dX9_shown_76 ⟨(Nat.le_of_ble_eq_true rfl), (Nat.le_of_ble_eq_true rfl)⟩) hS (fun q9 _ h9 => hF849 q9 h9) hF849 (fun r854 u853 t853 H853 L853 ht853 hvm853 hw853 hB853 hz853 hk853 hS => ?_)
  have hP := pq_keep hP hD [0, 1, 2, 3, 4, 5, 6, 7, 8, 9, 10] rfl hk853 hB853.1 ht853
  have hG : s.heap.size + 677 ≤ H853.size := va_gr (g := 656) (g1 := 21) hG (by rw [← ht853]; exact hB853.2)
  refine W.eq (g2 := F0 m 79 ls [.int 0]) (by rw [hw853]) ?_
  refine W.widen (k := 677) (n := 7316) (by decide) (by decide) ?_
  refine lv_if_eq (tgt := 86) hx hb dX9_shown_79 (by decide) (fun _ => ?_) (fun cz => absurd (by decide) cz)
  refine lv_iconst (v := 0) hx hb dX9_shown_86 (by decide) ?_
  refine lv_istore (lv' := [(4, .int 0), (6, .int 0), (5, .ref a758), (3, .int 48), (2, .int 2), (1, .int 0), (0, .ref h0)]) hx hb dX9_shown_87 hl (by decide) rfl (fun ls hl => ?_)
  refine lv_goto (tgt := 41) hx hb dX9_shown_89 (by decide) ?_
  refine lv_aload hx hb dX9_shown_41 (lv_at hl 2 rfl) ?_
  have hM857 := k641_hasNext l hl9 dC dI z a758 h3 h6 H853.size
  obtain ⟨hF855, hC858⟩ := pc_M hM857 hP hD hK hS hX hT hA [11, 12] [] rfl rfl rfl
  refine va_callFi (va_runF (As := []) (rest := []) (hK.1 1 _ rfl).2 ⟨hx, hb, hml, hown, hts⟩ hM857 (va_cwF 0 hts (gF q_261 q_262 q_263 q_246 q_260) rfl rfl rfl hT.2.2.2.2.2.2.1 hF_xIh ⟨Nat.le_of_ble_eq_true rfl, Nat.le_of_ble_eq_true rfl⟩) ⟨pc_blind, va_recv hK hP (ci := 1) (q0 := 11) rfl rfl, fun U hU hW => ⟨rfl, hC858 U hU hW⟩⟩ rfl rfl hl.1 rfl (lv_room (Nat.le_of_ble_eq_true rfl)) dX9_shown_43 ⟨(Nat.le_of_ble_eq_true rfl), (Nat.le_of_ble_eq_true rfl)⟩) hS (fun q9 _ h9 => hF855 q9 h9) hF855 (fun r860 u859 t859 H859 L859 ht859 hvm859 hw859 hB859 hz859 hk859 hS => ?_)
  have hP := pq_keep hP hD [11, 12] rfl hk859 hB859.1 ht859
  have hG : s.heap.size + 677 ≤ H859.size := Nat.le_trans hG hz859
  refine W.eq (g2 := F0 m 48 ls [.int 1]) (by rw [hw859]) ?_
  refine lv_if_eq (tgt := 92) hx hb dX9_shown_48 (by decide) (fun cz => absurd cz (by decide)) (fun _ => ?_)
  refine lv_aload hx hb dX9_shown_51 (lv_at hl 2 rfl) ?_
  have hM863 := k643_next l hl9 dC dI z a758 h3 h6 H859.size kc1
  obtain ⟨hF861, hC864⟩ := pc_M hM863 hP hD hK hS hX hT hA [11, 12, 13] [2] rfl rfl rfl
  refine va_callFr (va_runF (As := []) (rest := []) (hK.1 1 _ rfl).2 ⟨hx, hb, hml, hown, hts⟩ hM863 (va_cwF 0 hts (gF q_308 q_309 q_310 q_246 q_307) rfl rfl rfl hT.2.2.2.2.2.2.2.1 hF_xIn ⟨Nat.le_of_ble_eq_true rfl, Nat.le_of_ble_eq_true rfl⟩) ⟨pc_blind, va_recv hK hP (ci := 1) (q0 := 11) rfl rfl, fun U hU hW => ⟨rfl, hC864 U hU hW⟩⟩ rfl rfl hl.1 rfl (lv_room (Nat.le_of_ble_eq_true rfl)) dX9_shown_53 ⟨(Nat.le_of_ble_eq_true rfl), (Nat.le_of_ble_eq_true rfl)⟩) hS (fun q9 _ h9 => hF861 q9 h9) hF861 (fun u865 r866 t865 H865 L865 ht865 hvm865 hw865 hB865 hz865 hk865 hS => ?_)
  obtain ⟨hr865, hB865⟩ := hB865
  obtain ⟨hP, hD, hK⟩ := pq_jn (wz := [(h0, ce21 h1 h2 h3 h4), (h1, ce201 h5), (h2, ce3 z.1), (h4, ce226 h7), (h5, ce200 kc0 h8 h9 h10 h11 h12), (h7, ce200 kc2 (z.2.2.1 128) (z.2.2.1 129) (z.2.2.1 130) (z.2.2.1 131) (z.2.2.1 132)), (h8, ce49), (h9, ce49), (h10, ce49), (h11, ce49), (h12, ce49), (a758, ce316 h3), (h3, ce276 h6), (h6, ce275 kc1 (z.2.2.1 128) (z.2.2.1 128) (z.2.2.1 128) (z.2.2.1 128) (z.2.2.1 128) (z.2.2.1 128) (z.2.2.1 128))]) (tz := [(kc0, .object "java/lang/Object"), (kc2, .object "java/lang/Object"), (kc1, .object "java/lang/Object")]) hP hD hK [11, 12, 13] [0, 1] rfl hk865 hF861 hB865.1 ht865 hvm865 rfl rfl
  have hG : s.heap.size + 677 ≤ H865.size := Nat.le_trans hG hz865
  refine W.eq (g2 := F0 m 58 ls [.ref (z.2.2.1 128)]) (by rw [hr865]) ?_
  refine va_castE (nm := "java/lang/Integer") hx hb hown (hts _ q_320) (va_Orecv (hX.2.2.1.1.1 128 (by decide)) hS) dX9_shown_58 ?_
  have hM869 := k74_intValue l hl9 dC dI z H865.size
  obtain ⟨hF867, hC870⟩ := pc_M hM869 hP hD hK hS hX hT hA [] [] rfl rfl rfl
  refine va_calli (va_runV (As := []) (rest := []) ⟨hx, hb, hml, hown, hts⟩ hM869 (cwV 0 hts (gV q_323 q_324 q_325 q_297 q_322) rfl rfl rfl hV_J6_intValue_8abf5 ⟨Nat.le_of_ble_eq_true rfl, Nat.le_of_ble_eq_true rfl⟩) ⟨pc_blind, va_Orecv (hX.2.2.1.1.1 128 (by decide)) hS, fun U hU hW => ⟨rfl, hC870 U hU hW⟩⟩ rfl rfl hl.1 rfl (lv_room (Nat.le_of_ble_eq_true rfl)) dX9_shown_61 ⟨(Nat.le_of_ble_eq_true rfl), (Nat.le_of_ble_eq_true rfl)⟩) hS (fun q9 _ h9 => hF867 q9 h9) hF867 (fun r872 u871 t871 H871 L871 ht871 hvm871 hw871 hB871 hz871 hk871 hS => ?_)
  have hP := pq_keep hP hD [] rfl hk871 hB871.1 ht871
  have hG : s.heap.size + 677 ≤ H871.size := Nat.le_trans hG hz871
  refine W.eq (g2 := F0 m 64 ls [.int 0]) (by rw [hw871]) ?_
  refine lv_istore (lv' := [(6, .int 0), (4, .int 0), (5, .ref a758), (3, .int 48), (2, .int 2), (1, .int 0), (0, .ref h0)]) hx hb dX9_shown_64 hl (by decide) rfl (fun ls hl => ?_)
  refine lv_iload hx hb dX9_shown_66 (lv_at hl 1 rfl) ?_
  refine lv_if_ne (tgt := 82) hx hb dX9_shown_68 (by decide) (fun cz => absurd (by decide) cz) (fun _ => ?_)
  refine lv_aload_n hx hb dX9_shown_71 rfl (lv_at hl 6 rfl) ?_
  refine lv_iload_n hx hb dX9_shown_72 rfl (lv_at hl 4 rfl) ?_
  refine lv_iload_n hx hb dX9_shown_73 rfl (lv_at hl 3 rfl) ?_
  refine lv_iload hx hb dX9_shown_74 (lv_at hl 0 rfl) ?_
  have hM875 := k658_showsIt l hl9 dC dI z h0 h1 h2 h4 h5 h7 h8 h9 h10 h11 h12 h3 H871.size kc0 kc2
  obtain ⟨hF873, hC876⟩ := pc_M hM875 hP hD hK hS hX hT hA [0, 1, 2, 3, 4, 5, 6, 7, 8, 9, 10] [0, 1] rfl rfl rfl
  refine va_calli (va_runV (As := [.int 2, .int 48, .int 0]) (rest := []) ⟨hx, hb, hml, hown, hts⟩ hM875 (cwV 3 hts (gV q_429 q_430 q_431 q_60 q_428) rfl rfl rfl hV_X9_showsIt ⟨Nat.le_of_ble_eq_true rfl, Nat.le_of_ble_eq_true rfl⟩) ⟨pc_blind, va_recv hK hP (ci := 8) (q0 := 0) rfl rfl, fun U hU hW => ⟨rfl, hC876 U hU hW⟩⟩ rfl rfl hl.1 rfl (lv_room (Nat.le_of_ble_eq_true rfl)) dX9_shown_76 ⟨(Nat.le_of_ble_eq_true rfl), (Nat.le_of_ble_eq_true rfl)⟩) hS (fun q9 _ h9 => hF873 q9 h9) hF873 (fun r878 u877 t877 H877 L877 ht877 hvm877 hw877 hB877 hz877 hk877 hS => ?_)
  have hP := pq_keep hP hD [0, 1, 2, 3, 4, 5, 6, 7, 8, 9, 10] rfl hk877 hB877.1 ht877
  have hG : s.heap.size + 698 ≤ H877.size := va_gr (g := 677) (g1 := 21) hG (by rw [← ht877]; exact hB877.2)
  refine W.eq (g2 := F0 m 79 ls [.int 0]) (by rw [hw877]) ?_
  refine W.widen (k := 698) (n := 7544) (by decide) (by decide) ?_
  refine lv_if_eq (tgt := 86) hx hb dX9_shown_79 (by decide) (fun _ => ?_) (fun cz => absurd (by decide) cz)
  refine lv_iconst (v := 0) hx hb dX9_shown_86 (by decide) ?_
  refine lv_istore (lv' := [(4, .int 0), (6, .int 0), (5, .ref a758), (3, .int 48), (2, .int 2), (1, .int 0), (0, .ref h0)]) hx hb dX9_shown_87 hl (by decide) rfl (fun ls hl => ?_)
  refine lv_goto (tgt := 41) hx hb dX9_shown_89 (by decide) ?_
  refine lv_aload hx hb dX9_shown_41 (lv_at hl 2 rfl) ?_
  have hM881 := k644_hasNext l hl9 dC dI z a758 h3 h6 H877.size
  obtain ⟨hF879, hC882⟩ := pc_M hM881 hP hD hK hS hX hT hA [11, 12] [] rfl rfl rfl
  refine va_callFi (va_runF (As := []) (rest := []) (hK.1 1 _ rfl).2 ⟨hx, hb, hml, hown, hts⟩ hM881 (va_cwF 0 hts (gF q_261 q_262 q_263 q_246 q_260) rfl rfl rfl hT.2.2.2.2.2.2.1 hF_xIh ⟨Nat.le_of_ble_eq_true rfl, Nat.le_of_ble_eq_true rfl⟩) ⟨pc_blind, va_recv hK hP (ci := 1) (q0 := 11) rfl rfl, fun U hU hW => ⟨rfl, hC882 U hU hW⟩⟩ rfl rfl hl.1 rfl (lv_room (Nat.le_of_ble_eq_true rfl)) dX9_shown_43 ⟨(Nat.le_of_ble_eq_true rfl), (Nat.le_of_ble_eq_true rfl)⟩) hS (fun q9 _ h9 => hF879 q9 h9) hF879 (fun r884 u883 t883 H883 L883 ht883 hvm883 hw883 hB883 hz883 hk883 hS => ?_)
  have hP := pq_keep hP hD [11, 12] rfl hk883 hB883.1 ht883
  have hG : s.heap.size + 698 ≤ H883.size := Nat.le_trans hG hz883
  refine W.eq (g2 := F0 m 48 ls [.int 1]) (by rw [hw883]) ?_
  refine lv_if_eq (tgt := 92) hx hb dX9_shown_48 (by decide) (fun cz => absurd cz (by decide)) (fun _ => ?_)
  refine lv_aload hx hb dX9_shown_51 (lv_at hl 2 rfl) ?_
  have hM887 := k646_next l hl9 dC dI z a758 h3 h6 H883.size kc1
  obtain ⟨hF885, hC888⟩ := pc_M hM887 hP hD hK hS hX hT hA [11, 12, 13] [2] rfl rfl rfl
  refine va_callFr (va_runF (As := []) (rest := []) (hK.1 1 _ rfl).2 ⟨hx, hb, hml, hown, hts⟩ hM887 (va_cwF 0 hts (gF q_308 q_309 q_310 q_246 q_307) rfl rfl rfl hT.2.2.2.2.2.2.2.1 hF_xIn ⟨Nat.le_of_ble_eq_true rfl, Nat.le_of_ble_eq_true rfl⟩) ⟨pc_blind, va_recv hK hP (ci := 1) (q0 := 11) rfl rfl, fun U hU hW => ⟨rfl, hC888 U hU hW⟩⟩ rfl rfl hl.1 rfl (lv_room (Nat.le_of_ble_eq_true rfl)) dX9_shown_53 ⟨(Nat.le_of_ble_eq_true rfl), (Nat.le_of_ble_eq_true rfl)⟩) hS (fun q9 _ h9 => hF885 q9 h9) hF885 (fun u889 r890 t889 H889 L889 ht889 hvm889 hw889 hB889 hz889 hk889 hS => ?_)
  obtain ⟨hr889, hB889⟩ := hB889
  obtain ⟨hP, hD, hK⟩ := pq_jn (wz := [(h0, ce21 h1 h2 h3 h4), (h1, ce201 h5), (h2, ce3 z.1), (h4, ce226 h7), (h5, ce200 kc0 h8 h9 h10 h11 h12), (h7, ce200 kc2 (z.2.2.1 128) (z.2.2.1 129) (z.2.2.1 130) (z.2.2.1 131) (z.2.2.1 132)), (h8, ce49), (h9, ce49), (h10, ce49), (h11, ce49), (h12, ce49), (a758, ce318 h3), (h3, ce276 h6), (h6, ce275 kc1 (z.2.2.1 128) (z.2.2.1 128) (z.2.2.1 128) (z.2.2.1 128) (z.2.2.1 128) (z.2.2.1 128) (z.2.2.1 128))]) (tz := [(kc0, .object "java/lang/Object"), (kc2, .object "java/lang/Object"), (kc1, .object "java/lang/Object")]) hP hD hK [11, 12, 13] [0, 1] rfl hk889 hF885 hB889.1 ht889 hvm889 rfl rfl
  have hG : s.heap.size + 698 ≤ H889.size := Nat.le_trans hG hz889
  refine W.eq (g2 := F0 m 58 ls [.ref (z.2.2.1 128)]) (by rw [hr889]) ?_
  refine va_castE (nm := "java/lang/Integer") hx hb hown (hts _ q_320) (va_Orecv (hX.2.2.1.1.1 128 (by decide)) hS) dX9_shown_58 ?_
  have hM893 := k74_intValue l hl9 dC dI z H889.size
  obtain ⟨hF891, hC894⟩ := pc_M hM893 hP hD hK hS hX hT hA [] [] rfl rfl rfl
  refine va_calli (va_runV (As := []) (rest := []) ⟨hx, hb, hml, hown, hts⟩ hM893 (cwV 0 hts (gV q_323 q_324 q_325 q_297 q_322) rfl rfl rfl hV_J6_intValue_8abf5 ⟨Nat.le_of_ble_eq_true rfl, Nat.le_of_ble_eq_true rfl⟩) ⟨pc_blind, va_Orecv (hX.2.2.1.1.1 128 (by decide)) hS, fun U hU hW => ⟨rfl, hC894 U hU hW⟩⟩ rfl rfl hl.1 rfl (lv_room (Nat.le_of_ble_eq_true rfl)) dX9_shown_61 ⟨(Nat.le_of_ble_eq_true rfl), (Nat.le_of_ble_eq_true rfl)⟩) hS (fun q9 _ h9 => hF891 q9 h9) hF891 (fun r896 u895 t895 H895 L895 ht895 hvm895 hw895 hB895 hz895 hk895 hS => ?_)
  have hP := pq_keep hP hD [] rfl hk895 hB895.1 ht895
  have hG : s.heap.size + 698 ≤ H895.size := Nat.le_trans hG hz895
  refine W.eq (g2 := F0 m 64 ls [.int 0]) (by rw [hw895]) ?_
  refine lv_istore (lv' := [(6, .int 0), (4, .int 0), (5, .ref a758), (3, .int 48), (2, .int 2), (1, .int 0), (0, .ref h0)]) hx hb dX9_shown_64 hl (by decide) rfl (fun ls hl => ?_)
  refine lv_iload hx hb dX9_shown_66 (lv_at hl 1 rfl) ?_
  refine lv_if_ne (tgt := 82) hx hb dX9_shown_68 (by decide) (fun cz => absurd (by decide) cz) (fun _ => ?_)
  refine lv_aload_n hx hb dX9_shown_71 rfl (lv_at hl 6 rfl) ?_
  refine lv_iload_n hx hb dX9_shown_72 rfl (lv_at hl 4 rfl) ?_
  refine lv_iload_n hx hb dX9_shown_73 rfl (lv_at hl 3 rfl) ?_
  refine lv_iload hx hb dX9_shown_74 (lv_at hl 0 rfl) ?_
  have hM899 := k658_showsIt l hl9 dC dI z h0 h1 h2 h4 h5 h7 h8 h9 h10 h11 h12 h3 H895.size kc0 kc2
  obtain ⟨hF897, hC900⟩ := pc_M hM899 hP hD hK hS hX hT hA [0, 1, 2, 3, 4, 5, 6, 7, 8, 9, 10] [0, 1] rfl rfl rfl
  refine va_calli (va_runV (As := [.int 2, .int 48, .int 0]) (rest := []) ⟨hx, hb, hml, hown, hts⟩ hM899 (cwV 3 hts (gV q_429 q_430 q_431 q_60 q_428) rfl rfl rfl hV_X9_showsIt ⟨Nat.le_of_ble_eq_true rfl, Nat.le_of_ble_eq_true rfl⟩) ⟨pc_blind, va_recv hK hP (ci := 8) (q0 := 0) rfl rfl, fun U hU hW => ⟨rfl, hC900 U hU hW⟩⟩ rfl rfl hl.1 rfl (lv_room (Nat.le_of_ble_eq_true rfl)) dX9_shown_76 ⟨(Nat.le_of_ble_eq_true rfl), (Nat.le_of_ble_eq_true rfl)⟩) hS (fun q9 _ h9 => hF897 q9 h9) hF897 (fun r902 u901 t901 H901 L901 ht901 hvm901 hw901 hB901 hz901 hk901 hS => ?_)
  have hP := pq_keep hP hD [0, 1, 2, 3, 4, 5, 6, 7, 8, 9, 10] rfl hk901 hB901.1 ht901
  have hG : s.heap.size + 719 ≤ H901.size := va_gr (g := 698) (g1 := 21) hG (by rw [← ht901]; exact hB901.2)
  refine W.eq (g2 := F0 m 79 ls [.int 0]) (by rw [hw901]) ?_
  refine W.widen (k := 719) (n := 7772) (by decide) (by decide) ?_
  refine lv_if_eq (tgt := 86) hx hb dX9_shown_79 (by decide) (fun _ => ?_) (fun cz => absurd (by decide) cz)
  refine lv_iconst (v := 0) hx hb dX9_shown_86 (by decide) ?_
  refine lv_istore (lv' := [(4, .int 0), (6, .int 0), (5, .ref a758), (3, .int 48), (2, .int 2), (1, .int 0), (0, .ref h0)]) hx hb dX9_shown_87 hl (by decide) rfl (fun ls hl => ?_)
  refine lv_goto (tgt := 41) hx hb dX9_shown_89 (by decide) ?_
  refine lv_aload hx hb dX9_shown_41 (lv_at hl 2 rfl) ?_
  have hM905 := k647_hasNext l hl9 dC dI z a758 h3 h6 H901.size
  obtain ⟨hF903, hC906⟩ := pc_M hM905 hP hD hK hS hX hT hA [11, 12] [] rfl rfl rfl
  refine va_callFi (va_runF (As := []) (rest := []) (hK.1 1 _ rfl).2 ⟨hx, hb, hml, hown, hts⟩ hM905 (va_cwF 0 hts (gF q_261 q_262 q_263 q_246 q_260) rfl rfl rfl hT.2.2.2.2.2.2.1 hF_xIh ⟨Nat.le_of_ble_eq_true rfl, Nat.le_of_ble_eq_true rfl⟩) ⟨pc_blind, va_recv hK hP (ci := 1) (q0 := 11) rfl rfl, fun U hU hW => ⟨rfl, hC906 U hU hW⟩⟩ rfl rfl hl.1 rfl (lv_room (Nat.le_of_ble_eq_true rfl)) dX9_shown_43 ⟨(Nat.le_of_ble_eq_true rfl), (Nat.le_of_ble_eq_true rfl)⟩) hS (fun q9 _ h9 => hF903 q9 h9) hF903 (fun r908 u907 t907 H907 L907 ht907 hvm907 hw907 hB907 hz907 hk907 hS => ?_)
  have hP := pq_keep hP hD [11, 12] rfl hk907 hB907.1 ht907
  have hG : s.heap.size + 719 ≤ H907.size := Nat.le_trans hG hz907
  refine W.eq (g2 := F0 m 48 ls [.int 1]) (by rw [hw907]) ?_
  refine lv_if_eq (tgt := 92) hx hb dX9_shown_48 (by decide) (fun cz => absurd cz (by decide)) (fun _ => ?_)
  refine lv_aload hx hb dX9_shown_51 (lv_at hl 2 rfl) ?_
  have hM911 := k649_next l hl9 dC dI z a758 h3 h6 H907.size kc1
  obtain ⟨hF909, hC912⟩ := pc_M hM911 hP hD hK hS hX hT hA [11, 12, 13] [2] rfl rfl rfl
  refine va_callFr (va_runF (As := []) (rest := []) (hK.1 1 _ rfl).2 ⟨hx, hb, hml, hown, hts⟩ hM911 (va_cwF 0 hts (gF q_308 q_309 q_310 q_246 q_307) rfl rfl rfl hT.2.2.2.2.2.2.2.1 hF_xIn ⟨Nat.le_of_ble_eq_true rfl, Nat.le_of_ble_eq_true rfl⟩) ⟨pc_blind, va_recv hK hP (ci := 1) (q0 := 11) rfl rfl, fun U hU hW => ⟨rfl, hC912 U hU hW⟩⟩ rfl rfl hl.1 rfl (lv_room (Nat.le_of_ble_eq_true rfl)) dX9_shown_53 ⟨(Nat.le_of_ble_eq_true rfl), (Nat.le_of_ble_eq_true rfl)⟩) hS (fun q9 _ h9 => hF909 q9 h9) hF909 (fun u913 r914 t913 H913 L913 ht913 hvm913 hw913 hB913 hz913 hk913 hS => ?_)
  obtain ⟨hr913, hB913⟩ := hB913
  obtain ⟨hP, hD, hK⟩ := pq_jn (wz := [(h0, ce21 h1 h2 h3 h4), (h1, ce201 h5), (h2, ce3 z.1), (h4, ce226 h7), (h5, ce200 kc0 h8 h9 h10 h11 h12), (h7, ce200 kc2 (z.2.2.1 128) (z.2.2.1 129) (z.2.2.1 130) (z.2.2.1 131) (z.2.2.1 132)), (h8, ce49), (h9, ce49), (h10, ce49), (h11, ce49), (h12, ce49), (a758, ce320 h3), (h3, ce276 h6), (h6, ce275 kc1 (z.2.2.1 128) (z.2.2.1 128) (z.2.2.1 128) (z.2.2.1 128) (z.2.2.1 128) (z.2.2.1 128) (z.2.2.1 128))]) (tz := [(kc0, .object "java/lang/Object"), (kc2, .object "java/lang/Object"), (kc1, .object "java/lang/Object")]) hP hD hK [11, 12, 13] [0, 1] rfl hk913 hF909 hB913.1 ht913 hvm913 rfl rfl
  have hG : s.heap.size + 719 ≤ H913.size := Nat.le_trans hG hz913
  refine W.eq (g2 := F0 m 58 ls [.ref (z.2.2.1 128)]) (by rw [hr913]) ?_
  refine va_castE (nm := "java/lang/Integer") hx hb hown (hts _ q_320) (va_Orecv (hX.2.2.1.1.1 128 (by decide)) hS) dX9_shown_58 ?_
  have hM917 := k74_intValue l hl9 dC dI z H913.size
  obtain ⟨hF915, hC918⟩ := pc_M hM917 hP hD hK hS hX hT hA [] [] rfl rfl rfl
  refine va_calli (va_runV (As := []) (rest := []) ⟨hx, hb, hml, hown, hts⟩ hM917 (cwV 0 hts (gV q_323 q_324 q_325 q_297 q_322) rfl rfl rfl hV_J6_intValue_8abf5 ⟨Nat.le_of_ble_eq_true rfl, Nat.le_of_ble_eq_true rfl⟩) ⟨pc_blind, va_Orecv (hX.2.2.1.1.1 128 (by decide)) hS, fun U hU hW => ⟨rfl, hC918 U hU hW⟩⟩ rfl rfl hl.1 rfl (lv_room (Nat.le_of_ble_eq_true rfl)) dX9_shown_61 ⟨(Nat.le_of_ble_eq_true rfl), (Nat.le_of_ble_eq_true rfl)⟩) hS (fun q9 _ h9 => hF915 q9 h9) hF915 (fun r920 u919 t919 H919 L919 ht919 hvm919 hw919 hB919 hz919 hk919 hS => ?_)
  have hP := pq_keep hP hD [] rfl hk919 hB919.1 ht919
  have hG : s.heap.size + 719 ≤ H919.size := Nat.le_trans hG hz919
  refine W.eq (g2 := F0 m 64 ls [.int 0]) (by rw [hw919]) ?_
  refine lv_istore (lv' := [(6, .int 0), (4, .int 0), (5, .ref a758), (3, .int 48), (2, .int 2), (1, .int 0), (0, .ref h0)]) hx hb dX9_shown_64 hl (by decide) rfl (fun ls hl => ?_)
  refine lv_iload hx hb dX9_shown_66 (lv_at hl 1 rfl) ?_
  refine lv_if_ne (tgt := 82) hx hb dX9_shown_68 (by decide) (fun cz => absurd (by decide) cz) (fun _ => ?_)
  refine lv_aload_n hx hb dX9_shown_71 rfl (lv_at hl 6 rfl) ?_
  refine lv_iload_n hx hb dX9_shown_72 rfl (lv_at hl 4 rfl) ?_
  refine lv_iload_n hx hb dX9_shown_73 rfl (lv_at hl 3 rfl) ?_
  refine lv_iload hx hb dX9_shown_74 (lv_at hl 0 rfl) ?_
  have hM923 := k658_showsIt l hl9 dC dI z h0 h1 h2 h4 h5 h7 h8 h9 h10 h11 h12 h3 H919.size kc0 kc2
  obtain ⟨hF921, hC924⟩ := pc_M hM923 hP hD hK hS hX hT hA [0, 1, 2, 3, 4, 5, 6, 7, 8, 9, 10] [0, 1] rfl rfl rfl
  refine va_calli (va_runV (As := [.int 2, .int 48, .int 0]) (rest := []) ⟨hx, hb, hml, hown, hts⟩ hM923 (cwV 3 hts (gV q_429 q_430 q_431 q_60 q_428) rfl rfl rfl hV_X9_showsIt ⟨Nat.le_of_ble_eq_true rfl, Nat.le_of_ble_eq_true rfl⟩) ⟨pc_blind, va_recv hK hP (ci := 8) (q0 := 0) rfl rfl, fun U hU hW => ⟨rfl, hC924 U hU hW⟩⟩ rfl rfl hl.1 rfl (lv_room (Nat.le_of_ble_eq_true rfl)) dX9_shown_76 ⟨(Nat.le_of_ble_eq_true rfl), (Nat.le_of_ble_eq_true rfl)⟩) hS (fun q9 _ h9 => hF921 q9 h9) hF921 (fun r926 u925 t925 H925 L925 ht925 hvm925 hw925 hB925 hz925 hk925 hS => ?_)
  have hP := pq_keep hP hD [0, 1, 2, 3, 4, 5, 6, 7, 8, 9, 10] rfl hk925 hB925.1 ht925
  have hG : s.heap.size + 740 ≤ H925.size := va_gr (g := 719) (g1 := 21) hG (by rw [← ht925]; exact hB925.2)
  refine W.eq (g2 := F0 m 79 ls [.int 0]) (by rw [hw925]) ?_
  refine W.widen (k := 740) (n := 8000) (by decide) (by decide) ?_
  refine lv_if_eq (tgt := 86) hx hb dX9_shown_79 (by decide) (fun _ => ?_) (fun cz => absurd (by decide) cz)
  refine lv_iconst (v := 0) hx hb dX9_shown_86 (by decide) ?_
  refine lv_istore (lv' := [(4, .int 0), (6, .int 0), (5, .ref a758), (3, .int 48), (2, .int 2), (1, .int 0), (0, .ref h0)]) hx hb dX9_shown_87 hl (by decide) rfl (fun ls hl => ?_)
  refine lv_goto (tgt := 41) hx hb dX9_shown_89 (by decide) ?_
  refine lv_aload hx hb dX9_shown_41 (lv_at hl 2 rfl) ?_
  have hM929 := k650_hasNext l hl9 dC dI z a758 h3 h6 H925.size
  obtain ⟨hF927, hC930⟩ := pc_M hM929 hP hD hK hS hX hT hA [11, 12] [] rfl rfl rfl
  refine va_callFi (va_runF (As := []) (rest := []) (hK.1 1 _ rfl).2 ⟨hx, hb, hml, hown, hts⟩ hM929 (va_cwF 0 hts (gF q_261 q_262 q_263 q_246 q_260) rfl rfl rfl hT.2.2.2.2.2.2.1 hF_xIh ⟨Nat.le_of_ble_eq_true rfl, Nat.le_of_ble_eq_true rfl⟩) ⟨pc_blind, va_recv hK hP (ci := 1) (q0 := 11) rfl rfl, fun U hU hW => ⟨rfl, hC930 U hU hW⟩⟩ rfl rfl hl.1 rfl (lv_room (Nat.le_of_ble_eq_true rfl)) dX9_shown_43 ⟨(Nat.le_of_ble_eq_true rfl), (Nat.le_of_ble_eq_true rfl)⟩) hS (fun q9 _ h9 => hF927 q9 h9) hF927 (fun r932 u931 t931 H931 L931 ht931 hvm931 hw931 hB931 hz931 hk931 hS => ?_)
  have hP := pq_keep hP hD [11, 12] rfl hk931 hB931.1 ht931
  have hG : s.heap.size + 740 ≤ H931.size := Nat.le_trans hG hz931
  refine W.eq (g2 := F0 m 48 ls [.int 0]) (by rw [hw931]) ?_
  refine lv_if_eq (tgt := 92) hx hb dX9_shown_48 (by decide) (fun _ => ?_) (fun cz => absurd (by decide) cz)
  refine lv_iload_n hx hb dX9_shown_92 rfl (lv_at hl 5 rfl) ?_
  refine lv_iload hx hb dX9_shown_93 (lv_at hl 0 rfl) ?_
  refine lv_if_eq (tgt := 102) hx hb dX9_shown_95 (by decide) (fun _ => ?_) (fun cz => absurd (by decide) cz)
  refine lv_iconst (v := 0) hx hb dX9_shown_102 (by decide) ?_
  refine lv_iadd hx hb dX9_shown_103 ?_
  refine lv_topi (fun y933 ey933 => ?_)
  obtain rfl : y933 = 0 := ey933.trans (by decide)
  refine lv_istore_n (lv' := [(1, .int 0), (4, .int 0), (6, .int 0), (5, .ref a758), (3, .int 48), (2, .int 2), (0, .ref h0)]) hx hb dX9_shown_104 rfl hl (by decide) rfl (fun ls hl => ?_)
  refine lv_iload_n hx hb dX9_shown_105 rfl (lv_at hl 4 rfl) ?_
  refine lv_iconst (v := 1) hx hb dX9_shown_106 (by decide) ?_
  refine lv_iadd hx hb dX9_shown_107 ?_
  refine lv_topi (fun y934 ey934 => ?_)
  obtain rfl : y934 = 49 := ey934.trans (by decide)
  refine lv_i2c (v := 49) hx hb dX9_shown_108 (by decide) ?_
  refine lv_istore_n (lv' := [(3, .int 49), (1, .int 0), (4, .int 0), (6, .int 0), (5, .ref a758), (2, .int 2), (0, .ref h0)]) hx hb dX9_shown_109 rfl hl (by decide) rfl (fun ls hl => ?_)
  refine lv_goto (tgt := 23) hx hb dX9_shown_110 (by decide) ?_
  exact hend _ _ _ hS (hP.sub [0, 1, 2, 12, 3, 4, 13, 5, 6, 7, 8, 9, 10] rfl) (hD.sub [0, 1, 2, 12, 3, 4, 13, 5, 6, 7, 8, 9, 10] rfl rfl) (lv_sub hl [0, 1, 5, 6] rfl) hG
