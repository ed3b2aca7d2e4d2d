set_option maxHeartbeats 8000000 in
set_option maxRecDepth 100000 in
theorem k669_shown_g8 {p : Program} {l : Launch} {e : Env} {s : State} {m : MethodId} {args : Array Value} {below : List Frame} {meth : Method} {c : Code} {Q : State → Prop} {A : Nat → Prop} {H : Heap} {locs : List Loc} {ls : Array Slot} {dC : Nat → ClassId} {dI : Nat → Nat → Nat} {z : XZ} {h0 h1 h2 h3 h4 h5 h6 h7 h8 h9 h10 h11 h12 : Nat} {kc0 kc1 kc2 : ClassId} (hl9 : l.stackTraces = false) (hx : p.tables.exec = Jvm.exec) (hb : c.code = cX9_shown) (hml : c.maxLocals = 7) (hown : s.vm.findClass RX9 = some m.cls) (hts : ∀ w ∈ wsL_law, w.before args s = true) (hA : ∀ q : Nat, s.heap.size ≤ q → A q) (hX : XE z A s s.heap) (hT : XT s) (hS : va_S A s.heap H locs) (hP : va_P (dC, dI) xCl [(h0, ce21 h1 h2 h3 h4), (h1, ce201 h5), (h2, ce3 z.1), (h3, ce276 h6), (h4, ce226 h7), (h5, ce200 kc0 h8 h9 h10 h11 h12), (h6, ce275 kc1 (z.2.2.1 128) (z.2.2.1 128) (z.2.2.1 128) (z.2.2.1 128) (z.2.2.1 128) (z.2.2.1 128) (z.2.2.1 128)), (h7, ce200 kc2 (z.2.2.1 128) (z.2.2.1 129) (z.2.2.1 130) (z.2.2.1 131) (z.2.2.1 132)), (h8, ce49), (h9, ce49), (h10, ce49), (h11, ce49), (h12, ce49)] H) (hD : va_D A [(h0, ce21 h1 h2 h3 h4), (h1, ce201 h5), (h2, ce3 z.1), (h3, ce276 h6), (h4, ce226 h7), (h5, ce200 kc0 h8 h9 h10 h11 h12), (h6, ce275 kc1 (z.2.2.1 128) (z.2.2.1 128) (z.2.2.1 128) (z.2.2.1 128) (z.2.2.1 128) (z.2.2.1 128) (z.2.2.1 128)), (h7, ce200 kc2 (z.2.2.1 128) (z.2.2.1 129) (z.2.2.1 130) (z.2.2.1 131) (z.2.2.1 132)), (h8, ce49), (h9, ce49), (h10, ce49), (h11, ce49), (h12, ce49)]) (hK : va_K (dC, dI) xCl [(kc0, .object "java/lang/Object"), (kc1, .object "java/lang/Object"), (kc2, .object "java/lang/Object")] s) (hl : lv_has ls 7 [(3, .int 49), (1, .int 0), (2, .int 2), (0, .ref h0)]) (hG : s.heap.size + 740 ≤ H.size) (hend : ∀ (H' : Heap) (locs' : List Loc) (ls' : Array Slot), va_S A s.heap H' locs' → va_P (dC, dI) xCl [(h0, ce21 h1 h2 h3 h4), (h1, ce201 h5), (h2, ce3 z.1), (h3, ce276 h6), (h4, ce226 h7), (h5, ce200 kc0 h8 h9 h10 h11 h12), (h6, ce275 kc1 (z.2.2.1 128) (z.2.2.1 128) (z.2.2.1 128) (z.2.2.1 128) (z.2.2.1 128) (z.2.2.1 128) (z.2.2.1 128)), (h7, ce200 kc2 (z.2.2.1 128) (z.2.2.1 129) (z.2.2.1 130) (z.2.2.1 131) (z.2.2.1 132)), (h8, ce49), (h9, ce49), (h10, ce49), (h11, ce49), (h12, ce49)] H' → va_D A [(h0, ce21 h1 h2 h3 h4), (h1, ce201 h5), (h2, ce3 z.1), (h3, ce276 h6), (h4, ce226 h7), (h5, ce200 kc0 h8 h9 h10 h11 h12), (h6, ce275 kc1 (z.2.2.1 128) (z.2.2.1 128) (z.2.2.1 128) (z.2.2.1 128) (z.2.2.1 128) (z.2.2.1 128) (z.2.2.1 128)), (h7, ce200 kc2 (z.2.2.1 128) (z.2.2.1 129) (z.2.2.1 130) (z.2.2.1 131) (z.2.2.1 132)), (h8, ce49), (h9, ce49), (h10, ce49), (h11, ce49), (h12, ce49)] → lv_has ls' 7 [(3, .int 50), (1, .int 0), (2, .int 2), (0, .ref h0)] → s.heap.size + 888 ≤ H'.size → W p l e ({ frames := 5, cells := 1480, slots := 16000, locals := 121 } : Room) s m args below meth c H' locs' 888 9600 Q (F0 m 23 ls' [])) : W p l e ({ frames := 5, cells := 1480, slots := 16000, locals := 121 } : Room) s m args below meth c H locs 740 8000 Q (F0 m 23 ls []) := by
  refine lv_iload_n hx hb dX9_shown_23 rfl (lv_at hl 0 rfl) ?_
  refine lv_bipush (v := 49) hx hb dX9_shown_24 (by decide) ?_
  refine lv_icmp_gt (tgt := 113) hx hb dX9_shown_26 (by decide) (fun cz => absurd cz (by decide)) (fun _ => ?_)
  refine lv_iconst (v := 0) hx hb dX9_shown_29 (by decide) ?_
  refine lv_istore (lv' := [(4, .int 0), (3, .int 49), (1, .int 0), (2, .int 2), (0, .ref h0)]) hx hb dX9_shown_30 hl (by decide) rfl (fun ls hl => ?_)
  refine lv_aload_n hx hb dX9_shown_32 rfl (lv_at hl 4 rfl) ?_
  refine va_get (D := (dC, dI)) (ci := 8) (v := .ref h3) (C := RX9) (T := TX9) (N := 6) hx hb hts in_X9 hown hK hP 0 rfl rfl 3 (by decide) (hts _ q_66) (fun _ h9 => h9) rfl dX9_shown_33 ?_
  have hM937 := k619_iterator l hl9 dC dI z h3 h6 H.size
  obtain ⟨hF935, hC938⟩ := pc_M hM937 hP hD hK hS hX hT hA [3] [] rfl rfl rfl
  refine va_callr (va_runV (As := []) (rest := []) ⟨hx, hb, hml, hown, hts⟩ hM937 (cwV 0 hts (gV q_256 q_257 q_258 q_12 q_255) rfl rfl rfl hV_Jx4a65c_iterator_32c93 ⟨Nat.le_of_ble_eq_true rfl, Nat.le_of_ble_eq_true rfl⟩) ⟨pc_blind, va_recv hK hP (ci := 0) (q0 := 3) rfl rfl, fun U hU hW => ⟨rfl, hC938 U hU hW⟩⟩ rfl rfl hl.1 rfl (lv_room (Nat.le_of_ble_eq_true rfl)) dX9_shown_36 ⟨(Nat.le_of_ble_eq_true rfl), (Nat.le_of_ble_eq_true rfl)⟩) hS (fun q9 _ h9 => hF935 q9 h9) hF935 (fun u939 r940 t939 H939 L939 ht939 hvm939 hw939 hB939 hz939 hk939 hS => ?_)
  obtain ⟨a941, hr939, hB939⟩ := hB939
  obtain ⟨hP, hD, hK⟩ := pq_jn (wz := [(h0, ce21 h1 h2 h3 h4), (h1, ce201 h5), (h2, ce3 z.1), (h4, ce226 h7), (h5, ce200 kc0 h8 h9 h10 h11 h12), (h6, ce275 kc1 (z.2.2.1 128) (z.2.2.1 128) (z.2.2.1 128) (z.2.2.1 128) (z.2.2.1 128) (z.2.2.1 128) (z.2.2.1 128)), (h7, ce200 kc2 (z.2.2.1 128) (z.2.2.1 129) (z.2.2.1 130) (z.2.2.1 131) (z.2.2.1 132)), (h8, ce49), (h9, ce49), (h10, ce49), (h11, ce49), (h12, ce49), (h3, ce276 h6), (a941, ce292 h3)]) (tz := [(kc0, .object "java/lang/Object"), (kc1, .object "java/lang/Object"), (kc2, .object "java/lang/Object")]) hP hD hK [3] [0, 1, 2] rfl hk939 hF935 hB939.1 ht939 hvm939 rfl rfl
  have hG : s.heap.size + 741 ≤ H939.size := va_gr (g := 740) (g1 := 1) hG (by rw [← ht939]; exact hB939.2)
  refine W.eq (g2 := F0 m 39 ls [.ref a941]) (by rw [hr939]) ?_
  refine W.widen (k := 741) (n := 8004) (by decide) (by decide) ?_
  refine lv_astore (lv' := [(5, .ref a941), (4, .int 0), (3, .int 49), (1, .int 0), (2, .int 2), (0, .ref h0)]) hx hb dX9_shown_39 hl (by decide) rfl (fun ls hl => ?_)
  refine lv_aload hx hb dX9_shown_41 (lv_at hl 0 rfl) ?_
  have hM944 := k620_hasNext l hl9 dC dI z a941 h3 h6 H939.size
  obtain ⟨hF942, hC945⟩ := pc_M hM944 hP hD hK hS hX hT hA [13, 12] [] rfl rfl rfl
  refine va_callFi (va_runF (As := []) (rest := []) (hK.1 1 _ rfl).2 ⟨hx, hb, hml, hown, hts⟩ hM944 (va_cwF 0 hts (gF q_261 q_262 q_263 q_246 q_260) rfl rfl rfl hT.2.2.2.2.2.2.1 hF_xIh ⟨Nat.le_of_ble_eq_true rfl, Nat.le_of_ble_eq_true rfl⟩) ⟨pc_blind, va_recv hK hP (ci := 1) (q0 := 13) rfl rfl, fun U hU hW => ⟨rfl, hC945 U hU hW⟩⟩ rfl rfl hl.1 rfl (lv_room (Nat.le_of_ble_eq_true rfl)) dX9_shown_43 ⟨(Nat.le_of_ble_eq_true rfl), (Nat.le_of_ble_eq_true rfl)⟩) hS (fun q9 _ h9 => hF942 q9 h9) hF942 (fun r947 u946 t946 H946 L946 ht946 hvm946 hw946 hB946 hz946 hk946 hS => ?_)
  have hP := pq_keep hP hD [13, 12] rfl hk946 hB946.1 ht946
  have hG : s.heap.size + 741 ≤ H946.size := Nat.le_trans hG hz946
  refine W.eq (g2 := F0 m 48 ls [.int 1]) (by rw [hw946]) ?_
  refine lv_if_eq (tgt := 92) hx hb dX9_shown_48 (by decide) (fun cz => absurd cz (by decide)) (fun _ => ?_)
  refine lv_aload hx hb dX9_shown_51 (lv_at hl 0 rfl) ?_
  have hM950 := k622_next l hl9 dC dI z a941 h3 h6 H946.size kc1
  obtain ⟨hF948, hC951⟩ := pc_M hM950 hP hD hK hS hX hT hA [13, 12, 5] [1] rfl rfl rfl
  refine va_callFr (va_runF (As := []) (rest := []) (hK.1 1 _ rfl).2 ⟨hx, hb, hml, hown, hts⟩ hM950 (va_cwF 0 hts (gF q_308 q_309 q_310 q_246 q_307) rfl rfl rfl hT.2.2.2.2.2.2.2.1 hF_xIn ⟨Nat.le_of_ble_eq_true rfl, Nat.le_of_ble_eq_true rfl⟩) ⟨pc_blind, va_recv hK hP (ci := 1) (q0 := 13) rfl rfl, fun U hU hW => ⟨rfl, hC951 U hU hW⟩⟩ rfl rfl hl.1 rfl (lv_room (Nat.le_of_ble_eq_true rfl)) dX9_shown_53 ⟨(Nat.le_of_ble_eq_true rfl), (Nat.le_of_ble_eq_true rfl)⟩) hS (fun q9 _ h9 => hF948 q9 h9) hF948 (fun u952 r953 t952 H952 L952 ht952 hvm952 hw952 hB952 hz952 hk952 hS => ?_)
  obtain ⟨hr952, hB952⟩ := hB952
  obtain ⟨hP, hD, hK⟩ := pq_jn (wz := [(h0, ce21 h1 h2 h3 h4), (h1, ce201 h5), (h2, ce3 z.1), (h4, ce226 h7), (h5, ce200 kc0 h8 h9 h10 h11 h12), (h7, ce200 kc2 (z.2.2.1 128) (z.2.2.1 129) (z.2.2.1 130) (z.2.2.1 131) (z.2.2.1 132)), (h8, ce49), (h9, ce49), (h10, ce49), (h11, ce49), (h12, ce49), (a941, ce294 h3), (h3, ce276 h6), (h6, ce275 kc1 (z.2.2.1 128) (z.2.2.1 128) (z.2.2.1 128) (z.2.2.1 128) (z.2.2.1 128) (z.2.2.1 128) (z.2.2.1 128))]) (tz := [(kc0, .object "java/lang/Object"), (kc2, .object "java/lang/Object"), (kc1, .object "java/lang/Object")]) hP hD hK [13, 12, 5] [0, 2] rfl hk952 hF948 hB952.1 ht952 hvm952 rfl rfl
  have hG : s.heap.size + 741 ≤ H952.size := Nat.le_trans hG hz952
  refine W.eq (g2 := F0 m 58 ls [.ref (z.2.2.1 128)]) (by rw [hr952]) ?_
  refine va_castE (nm := "java/lang/Integer") hx hb hown (hts _ q_320) (va_Orecv (hX.2.2.1.1.1 128 (by decide)) hS) dX9_shown_58 ?_
  have hM956 := k74_intValue l hl9 dC dI z H952.size
  obtain ⟨hF954, hC957⟩ := pc_M hM956 hP hD hK hS hX hT hA [] [] rfl rfl rfl
  refine va_calli (va_runV (As := []) (rest := []) ⟨hx, hb, hml, hown, hts⟩ hM956 (cwV 0 hts (gV q_323 q_324 q_325 q_297 q_322) rfl rfl rfl hV_J6_intValue_8abf5 ⟨Nat.le_of_ble_eq_true rfl, Nat.le_of_ble_eq_true rfl⟩) ⟨pc_blind, va_Orecv (hX.2.2.1.1.1 128 (by decide)) hS, fun U hU hW => ⟨rfl, hC957 U hU hW⟩⟩ rfl rfl hl.1 rfl (lv_room (Nat.le_of_ble_eq_true rfl)) dX9_shown_61 ⟨(Nat.le_of_ble_eq_true rfl), (Nat.le_of_ble_eq_true rfl)⟩) hS (fun q9 _ h9 => hF954 q9 h9) hF954 (fun r959 u958 t958 H958 L958 ht958 hvm958 hw958 hB958 hz958 hk958 hS => ?_)
  have hP := pq_keep hP hD [] rfl hk958 hB958.1 ht958
  have hG : s.heap.size + 741 ≤ H958.size := Nat.le_trans hG hz958
  refine W.eq (g2 := F0 m 64 ls [.int 0]) (by rw [hw958]) ?_
  refine lv_istore (lv' := [(6, .int 0), (5, .ref a941), (4, .int 0), (3, .int 49), (1, .int 0), (2, .int 2), (0, .ref h0)]) hx hb dX9_shown_64 hl (by decide) rfl (fun ls hl => ?_)
  refine lv_iload hx hb dX9_shown_66 (lv_at hl 2 rfl) ?_
  refine lv_if_ne (tgt := 82) hx hb dX9_shown_68 (by decide) (fun cz => absurd (by decide) cz) (fun _ => ?_)
  refine lv_aload_n hx hb dX9_shown_71 rfl (lv_at hl 6 rfl) ?_
  refine lv_iload_n hx hb dX9_shown_72 rfl (lv_at hl 5 rfl) ?_
  refine lv_iload_n hx hb dX9_shown_73 rfl (lv_at hl 3 rfl) ?_
  refine lv_iload hx hb dX9_shown_74 (lv_at hl 0 rfl) ?_
  have hM962 := k660_showsIt l hl9 dC dI z h0 h1 h2 h4 h5 h7 h8 h9 h10 h11 h12 h3 H958.size kc0 kc2
  obtain ⟨hF960, hC963⟩ := pc_M hM962 hP hD hK hS hX hT hA [0, 1, 2, 3, 4, 5, 6, 7, 8, 9, 10] [0, 1] rfl rfl rfl
  refine va_calli (va_runV (As := [.int 2, .int 49, .int 0]) (rest := []) ⟨hx, hb, hml, hown, hts⟩ hM962 (cwV 3 hts (gV q_429 q_430 q_431 q_60 q_428) rfl rfl rfl hV_X9_showsIt ⟨Nat.le_of_ble_eq_true rfl, Nat.le_of_ble_eq_true rfl⟩) ⟨pc_blind, va_recv hK hP (ci := 8) (q0 := 0) rfl rfl, fun U hU hW => ⟨rfl, hC963 U hU hW⟩⟩ rfl rfl hl.1 rfl (lv_room (Nat.le_of_ble_eq_true rfl)) dX9_shown_76 ⟨(Nat.le_of_ble_eq_true rfl), (Nat.le_of_ble_eq_true rfl)⟩) hS (fun q9 _ h9 => hF960 q9 h9) hF960 (fun r965 u964 t964 H964 L964 ht964 hvm964 hw964 hB964 hz964 hk964 hS => ?_)
  have hP := pq_keep hP hD [0, 1, 2, 3, 4, 5, 6, 7, 8, 9, 10] rfl hk964 hB964.1 ht964
  have hG : s.heap.size + 762 ≤ H964.size := va_gr (g := 741) (g1 := 21) hG (by rw [← ht964]; exact hB964.2)
  refine W.eq (g2 := F0 m 79 ls [.int 0]) (by rw [hw964]) ?_
  refine W.widen (k := 762) (n := 8232) (by decide) (by decide) ?_
  refine lv_if_eq (tgt := 86) hx hb dX9_shown_79 (by decide) (fun _ => ?_) (fun cz => absurd (by decide) cz)
  refine lv_iconst (v := 0) hx hb dX9_shown_86 (by decide) ?_
  refine lv_istore (lv' := [(4, .int 0), (6, .int 0), (5, .ref a941), (3, .int 49), (1, .int 0), (2, .int 2), (0, .ref h0)]) hx hb dX9_shown_87 hl (by decide) rfl (fun ls hl => ?_)
  refine lv_goto (tgt := 41) hx hb dX9_shown_89 (by decide) ?_
  refine lv_aload hx hb dX9_shown_41 (lv_at hl 2 rfl) ?_
  have hM968 := k632_hasNext l hl9 dC dI z a941 h3 h6 H964.size
  obtain ⟨hF966, hC969⟩ := pc_M hM968 hP hD hK hS hX hT hA [11, 12] [] rfl rfl rfl
  refine va_callFi (va_runF (As := []) (rest := []) (hK.1 1 _ rfl).2 ⟨hx, hb, hml, hown, hts⟩ hM968 (va_cwF 0 hts (gF q_261 q_262 q_263 q_246 q_260) rfl rfl rfl hT.2.2.2.2.2.2.1 hF_xIh ⟨Nat.le_of_ble_eq_true rfl, Nat.le_of_ble_eq_true rfl⟩) ⟨pc_blind, va_recv hK hP (ci := 1) (q0 := 11) rfl rfl, fun U hU hW => ⟨rfl, hC969 U hU hW⟩⟩ rfl rfl hl.1 rfl (lv_room (Nat.le_of_ble_eq_true rfl)) dX9_shown_43 ⟨(Nat.le_of_ble_eq_true rfl), (Nat.le_of_ble_eq_true rfl)⟩) hS (fun q9 _ h9 => hF966 q9 h9) hF966 (fun r971 u970 t970 H970 L970 ht970 hvm970 hw970 hB970 hz970 hk970 hS => ?_)
  have hP := pq_keep hP hD [11, 12] rfl hk970 hB970.1 ht970
  have hG : s.heap.size + 762 ≤ H970.size := Nat.le_trans hG hz970
  refine W.eq (g2 := F0 m 48 ls [.int 1]) (by rw [hw970]) ?_
  refine lv_if_eq (tgt := 92) hx hb dX9_shown_48 (by decide) (fun cz => absurd cz (by decide)) (fun _ => ?_)
  refine lv_aload hx hb dX9_shown_51 (lv_at hl 2 rfl) ?_
  have hM974 := k634_next l hl9 dC dI z a941 h3 h6 H970.size kc1
  obtain ⟨hF972, hC975⟩ := pc_M hM974 hP hD hK hS hX hT hA [11, 12, 13] [2] rfl rfl rfl
  refine va_callFr (va_runF (As := []) (rest := []) (hK.1 1 _ rfl).2 ⟨hx, hb, hml, hown, hts⟩ hM974 (va_cwF 0 hts (gF q_308 q_309 q_310 q_246 q_307) rfl rfl rfl hT.2.2.2.2.2.2.2.1 hF_xIn ⟨Nat.le_of_ble_eq_true rfl, Nat.le_of_ble_eq_true rfl⟩) ⟨pc_blind, va_recv hK hP (ci := 1) (q0 := 11) rfl rfl, fun U hU hW => ⟨rfl, hC975 U hU hW⟩⟩ rfl rfl hl.1 rfl (lv_room (Nat.le_of_ble_eq_true rfl)) dX9_shown_53 ⟨(Nat.le_of_ble_eq_true rfl), (Nat.le_of_ble_eq_true rfl)⟩) hS (fun q9 _ h9 => hF972 q9 h9) hF972 (fun u976 r977 t976 H976 L976 ht976 hvm976 hw976 hB976 hz976 hk976 hS => ?_)
  obtain ⟨hr976, hB976⟩ := hB976
  obtain ⟨hP, hD, hK⟩ := pq_jn (wz := [(h0, ce21 h1 h2 h3 h4), (h1, ce201 h5), (h2, ce3 z.1), (h4, ce226 h7), (h5, ce200 kc0 h8 h9 h10 h11 h12), (h7, ce200 kc2 (z.2.2.1 128) (z.2.2.1 129) (z.2.2.1 130) (z.2.2.1 131) (z.2.2.1 132)), (h8, ce49), (h9, ce49), (h10, ce49), (h11, ce49), (h12, ce49), (a941, ce310 h3), (h3, ce276 h6), (h6, ce275 kc1 (z.2.2.1 128) (z.2.2.1 128) (z.2.2.1 128) (z.2.2.1 128) (z.2.2.1 128) (z.2.2.1 128) (z.2.2.1 128))]) (tz := [(kc0, .object "java/lang/Object"), (kc2, .object "java/lang/Object"), (kc1, .object "java/lang/Object")]) hP hD hK [11, 12, 13] [0, 1] rfl hk976 hF972 hB976.1 ht976 hvm976 rfl rfl
  have hG : s.heap.size + 762 ≤ H976.size := Nat.le_trans hG hz976
  refine W.eq (g2 := F0 m 58 ls [.ref (z.2.2.1 128)]) (by rw [hr976]) ?_
  refine va_castE (nm := "java/lang/Integer") hx hb hown (hts _ q_320) (va_Orecv (hX.2.2.1.1.1 128 (by decide)) hS) dX9_shown_58 ?_
  have hM980 := k74_intValue l hl9 dC dI z H976.size
  obtain ⟨hF978, hC981⟩ := pc_M hM980 hP hD hK hS hX hT hA [] [] rfl rfl rfl
  refine va_calli (va_runV (As := []) (rest := []) ⟨hx, hb, hml, hown, hts⟩ hM980 (cwV 0 hts (gV q_323 q_324 q_325 q_297 q_322) rfl rfl rfl hV_J6_intValue_8abf5 ⟨Nat.le_of_ble_eq_true rfl, Nat.le_of_ble_eq_true rfl⟩) ⟨pc_blind, va_Orecv (hX.2.2.1.1.1 128 (by decide)) hS, fun U hU hW => ⟨rfl, hC981 U hU hW⟩⟩ rfl rfl hl.1 rfl (lv_room (Nat.le_of_ble_eq_true rfl)) dX9_shown_61 ⟨(Nat.le_of_ble_eq_true rfl), (Nat.le_of_ble_eq_true rfl)⟩) hS (fun q9 _ h9 => hF978 q9 h9) hF978 (fun r983 u982 t982 H982 L982 ht982 hvm982 hw982 hB982 hz982 hk982 hS => ?_)
  have hP := pq_keep hP hD [] rfl hk982 hB982.1 ht982
  have hG : s.heap.size + 762 ≤ H982.size := Nat.le_trans hG hz982
  refine W.eq (g2 := F0 m 64 ls [.int 0]) (by rw [hw982]) ?_
  refine lv_istore (lv' := [(6, .int 0), (4, .int 0), (5, .ref a941), (3, .int 49), (1, .int 0), (2, .int 2), (0, .ref h0)]) hx hb dX9_shown_64 hl (by decide) rfl (fun ls hl => ?_)
  refine lv_iload hx hb dX9_shown_66 (lv_at hl 1 rfl) ?_
  refine lv_if_ne (tgt := 82) hx hb dX9_shown_68 (by decide) (fun cz => absurd (by decide) cz) (fun _ => ?_)
  refine lv_aload_n hx hb dX9_shown_71 rfl (lv_at hl 6 rfl) ?_
  refine lv_iload_n hx hb dX9_shown_72 rfl (lv_at hl 5 rfl) ?_
  refine lv_iload_n hx hb dX9_shown_73 rfl (lv_at hl 3 rfl) ?_
  refine lv_iload hx hb dX9_shown_74 (lv_at hl 0 rfl) ?_
  have hM986 := k660_showsIt l hl9 dC dI z h0 h1 h2 h4 h5 h7 h8 h9 h10 h11 h12 h3 H982.size kc0 kc2
  obtain ⟨hF984, hC987⟩ := pc_M hM986 hP hD hK hS hX hT hA [0, 1, 2, 3, 4, 5, 6, 7, 8, 9, 10] [0, 1] rfl rfl rfl
  refine va_calli (va_runV (As := [.int 2, .int 49, .int 0]) (rest := []) ⟨hx, hb, hml, hown, hts⟩ hM986 (cwV 3 hts (gV q_429 q_430 q_431 q_60 q_428) rfl rfl rfl hV_X9_showsIt ⟨Nat.le_of_ble_eq_true rfl, Nat.le_of_ble_eq_true rfl⟩) ⟨pc_blind, va_recv hK hP (ci := 8) (q0 := 0) rfl rfl, fun U hU hW => ⟨rfl, hC987 U hU hW⟩⟩ rfl rfl hl.1 rfl (lv_room (Nat.le_of_ble_eq_true rfl)) dX9_shown_76 ⟨(Nat.le_of_ble_eq_true rfl), (Nat.le_of_ble_eq_true rfl)⟩) hS (fun q9 _ h9 => hF984 q9 h9) hF984 (fun r989 u988 t988 H988 L988 ht988 hvm988 hw988 hB988 hz988 hk988 hS => ?_)
  have hP := pq_keep hP hD [0, 1, 2, 3, 4, 5, 6, 7, 8, 9, 10] rfl hk988 hB988.1 ht988
  have hG : s.heap.size + 783 ≤ H988.size := va_gr (g := 762) (g1 := 21) hG (by rw [← ht988]; exact hB988.2)
  refine W.eq (g2 := F0 m 79 ls [.int 0]) (by rw [hw988]) ?_
  refine W.widen (k := 783) (n := 8460) (by decide) (by decide) ?_
  refine lv_if_eq (tgt := 86) hx hb dX9_shown_79 (by decide) (fun _ => ?_) (fun cz => absurd (by decide) cz)
  refine lv_iconst (v := 0) hx hb dX9_shown_86 (by decide) ?_
  refine lv_istore (lv' := [(4, .int 0), (6, .int 0), (5, .ref a941), (3, .int 49), (1, .int 0), (2, .int 2), (0, .ref h0)]) hx hb dX9_shown_87 hl (by decide) rfl (fun ls hl => ?_)
  refine lv_goto (tgt := 41) hx hb dX9_shown_89 (by decide) ?_
  refine lv_aload hx hb dX9_shown_41 (lv_at hl 2 rfl) ?_
  have hM992 := k635_hasNext l hl9 dC dI z a941 h3 h6 H988.size
  obtain ⟨hF990, hC993⟩ := pc_M hM992 hP hD hK hS hX hT hA [11, 12] [] rfl rfl rfl
  refine va_callFi (va_runF (As := []) (rest := []) (hK.1 1 _ rfl).2 ⟨hx, hb, hml, hown, hts⟩ hM992 (va_cwF 0 hts (gF q_261 q_262 q_263 q_246 q_260) rfl rfl rfl hT.2.2.2.2.2.2.1 hF_xIh ⟨Nat.le_of_ble_eq_true rfl, Nat.le_of_ble_eq_true rfl⟩) ⟨pc_blind, va_recv hK hP (ci := 1) (q0 := 11) rfl rfl, fun U hU hW => ⟨rfl, hC993 U hU hW⟩⟩ rfl rfl hl.1 rfl (lv_room (Nat.le_of_ble_eq_true rfl)) dX9_shown_43 ⟨(Nat.le_of_ble_eq_true rfl), (Nat.le_of_ble_eq_true rfl)⟩) hS (fun q9 _ h9 => hF990 q9 h9) hF990 (fun r995 u994 t994 H994 L994 ht994 hvm994 hw994 hB994 hz994 hk994 hS => ?_)
  have hP := pq_keep hP hD [11, 12] rfl hk994 hB994.1 ht994
  have hG : s.heap.size + 783 ≤ H994.size := Nat.le_trans hG hz994
  refine W.eq (g2 := F0 m 48 ls [.int 1]) (by rw [hw994]) ?_
  refine lv_if_eq (tgt := 92) hx hb dX9_shown_48 (by decide) (fun cz => absurd cz (by decide)) (fun _ => ?_)
  refine lv_aload hx hb dX9_shown_51 (lv_at hl 2 rfl) ?_
  have hM998 := k637_next l hl9 dC dI z a941 h3 h6 H994.size kc1
  obtain ⟨hF996, hC999⟩ := pc_M hM998 hP hD hK hS hX hT hA [11, 12, 13] [2] rfl rfl rfl
  refine va_callFr (va_runF (As := []) (rest := []) (hK.1 1 _ rfl).2 ⟨hx, hb, hml, hown, hts⟩ hM998 (va_cwF 0 hts (gF q_308 q_309 q_310 q_246 q_307) rfl rfl rfl hT.2.2.2.2.2.2.2.1 hF_xIn ⟨Nat.le_of_ble_eq_true rfl, Nat.le_of_ble_eq_true rfl⟩) ⟨pc_blind, va_recv hK hP (ci := 1) (q0 := 11) rfl rfl, fun U hU hW => ⟨rfl, hC999 U hU hW⟩⟩ rfl rfl hl.1 rfl (lv_room (Nat.le_of_ble_eq_true rfl)) dX9_shown_53 ⟨(Nat.le_of_ble_eq_true rfl), (Nat.le_of_ble_eq_true rfl)⟩) hS (fun q9 _ h9 => hF996 q9 h9) hF996 (fun u1000 r1001 t1000 H1000 L1000 ht1000 hvm1000 hw1000 hB1000 hz1000 hk1000 hS => ?_)
  obtain ⟨hr1000, hB1000⟩ := hB1000
  obtain ⟨hP, hD, hK⟩ := pq_jn (wz := [(h0, ce21 h1 h2 h3 h4), (h1, ce201 h5), (h2, ce3 z.1), (h4, ce226 h7), (h5, ce200 kc0 h8 h9 h10 h11 h12), (h7, ce200 kc2 (z.2.2.1 128) (z.2.2.1 129) (z.2.2.1 130) (z.2.2.1 131) (z.2.2.1 132)), (h8, ce49), (h9, ce49), (h10, ce49), (h11, ce49), (h12, ce49), (a941, ce312 h3), (h3, ce276 h6), (h6, ce275 kc1 (z.2.2.1 128) (z.2.2.1 128) (z.2.2.1 128) (z.2.2.1 128) (z.2.2.1 128) (z.2.2.1 128) (z.2.2.1 128))]) (tz := [(kc0, .object "java/lang/Object"), (kc2, .object "java/lang/Object"), (kc1, .object "java/lang/Object")]) hP hD hK [11, 12, 13] [0, 1] rfl hk1000 hF996 hB1000.1 ht1000 hvm1000 rfl rfl
  have hG : s.heap.size + 783 ≤ H1000.size := Nat.le_trans hG hz1000
  refine W.eq (g2 := F0 m 58 ls [.ref (z.2.2.1 128)]) (by rw [hr1000]) ?_
  refine va_castE (nm := "java/lang/Integer") hx hb hown (hts _ q_320) (va_Orecv (hX.2.2.1.1.1 128 (by decide)) hS) dX9_shown_58 ?_
  have hM1004 := k74_intValue l hl9 dC dI z H1000.size
  obtain ⟨hF1002, hC1005⟩ := pc_M hM1004 hP hD hK hS hX hT hA [] [] rfl rfl rfl
  refine va_calli (va_runV (As := []) (rest := []) ⟨hx, hb, hml, hown, hts⟩ hM1004 (cwV 0 hts (gV q_323 q_324 q_325 q_297 q_322) rfl rfl rfl hV_J6_intValue_8abf5 ⟨Nat.le_of_ble_eq_true rfl, Nat.le_of_ble_eq_true rfl⟩) ⟨pc_blind, va_Orecv (hX.2.2.1.1.1 128 (by decide)) hS, fun U hU hW => ⟨rfl, hC1005 U hU hW⟩⟩ rfl rfl hl.1 rfl (lv_room (Nat.le_of_ble_eq_true rfl)) dX9_shown_61 ⟨(Nat.le_of_ble_eq_true rfl), (Nat.le_of_ble_eq_true rfl)⟩) hS (fun q9 _ h9 => hF1002 q9 h9) hF1002 (fun r1007 u1006 t1006 H1006 L1006 ht1006 hvm1006 hw1006 hB1006 hz1006 hk1006 hS => ?_)
  have hP := pq_keep hP hD [] rfl hk1006 hB1006.1 ht1006
  have hG : s.heap.size + 783 ≤ H1006.size := Nat.le_trans hG hz1006
  refine W.eq (g2 := F0 m 64 ls [.int 0]) (by rw [hw1006]) ?_
  refine lv_istore (lv' := [(6, .int 0), (4, .int 0), (5, .ref a941), (3, .int 49), (1, .int 0), (2, .int 2), (0, .ref h0)]) hx hb dX9_shown_64 hl (by decide) rfl (fun ls hl => ?_)
  refine lv_iload hx hb dX9_shown_66 (lv_at hl 1 rfl) ?_
  refine lv_if_ne (tgt := 82) hx hb dX9_shown_68 (by decide) (fun cz => absurd (by decide) cz) (fun _ => ?_)
  refine lv_aload_n hx hb dX9_shown_71 rfl (lv_at hl 6 rfl) ?_
  refine lv_iload_n hx hb dX9_shown_72 rfl (lv_at hl 5 rfl) ?_
  refine lv_iload_n hx hb dX9_shown_73 rfl (lv_at hl 3 rfl) ?_
  refine lv_iload hx hb dX9_shown_74 (lv_at hl 0 rfl) ?_
  have hM1010 := k660_showsIt l hl9 dC dI z h0 h1 h2 h4 h5 h7 h8 h9 h10 h11 h12 h3 H1006.size kc0 kc2
  obtain ⟨hF1008, hC1011⟩ := pc_M hM1010 hP hD hK hS hX hT hA [0, 1, 2, 3, 4, 5, 6, 7, 8, 9, 10] [0, 1] rfl rfl rfl
  refine va_calli (va_runV (As := [.int 2, .int 49, .int 0]) (rest := []) ⟨hx, hb, hml, hown, hts⟩ hM1010 (cwV 3 hts (gV q_429 q_430 q_431 q_60 q_428) rfl rfl rfl hV_X9_showsIt ⟨Nat.le_of_ble_eq_true rfl, Nat.le_of_ble_eq_true rfl⟩) ⟨pc_blind, va_recv hK hP (ci := 8) (q0 := 0) rfl rfl, fun U hU hW => ⟨rfl, hC1011 U hU hW⟩⟩ rfl rfl hl.1 rfl (lv_room (Nat.le_of_ble_eq_true rfl)) dX9_shown_76 ⟨(Nat.le_of_ble_eq_true rfl), (Nat.le_of_ble_eq_true rfl)⟩) hS (fun q9 _ h9 => hF1008 q9 h9) hF1008 (fun r1013 u1012 t1012 H1012 L1012 ht1012 hvm1012 hw1012 hB1012 hz1012 hk1012 hS => ?_)
  have hP := pq_keep hP hD [0, 1, 2, 3, 4, 5, 6, 7, 8, 9, 10] rfl hk1012 hB1012.1 ht1012
  have hG : s.heap.size + 804 ≤ H1012.size := va_gr (g := 783) (g1 := 21) hG (by rw [← ht1012]; exact hB1012.2)
  refine W.eq (g2 := F0 m 79 ls [.int 0]) (by rw [hw1012]) ?_
  refine W.widen (k := 804) (n := 8688) (by decide) (by decide) ?_
  refine lv_if_eq (tgt := 86) hx hb dX9_shown_79 (by decide) (fun _ => ?_) (fun cz => absurd (by decide) cz)
  refine lv_iconst (v := 0) hx hb dX9_shown_86 (by decide) ?_
  refine lv_istore (lv' := [(4, .int 0), (6, .int 0), (5, .ref a941), (3, .int 49), (1, .int 0), (2, .int 2), (0, .ref h0)]) hx hb dX9_shown_87 hl (by decide) rfl (fun ls hl => ?_)
  refine lv_goto (tgt := 41) hx hb dX9_shown_89 (by decide) ?_
  refine lv_aload hx hb dX9_shown_41 (lv_at hl 2 rfl) ?_
  have hM1016 := k638_hasNext l hl9 dC dI z a941 h3 h6 H1012.size
  obtain ⟨hF1014, hC1017⟩ := pc_M hM1016 hP hD hK hS hX hT hA [11, 12] [] rfl rfl rfl
  refine va_callFi (va_runF (As := []) (rest := []) (hK.1 1 _ rfl).2 ⟨hx, hb, hml, hown, hts⟩ hM1016 (va_cwF 0 hts (gF q_261 q_262 q_263 q_246 q_260) rfl rfl rfl hT.2.2.2.2.2.2.1 hF_xIh ⟨Nat.le_of_ble_eq_true rfl, Nat.le_of_ble_eq_true rfl⟩) ⟨pc_blind, va_recv hK hP (ci := 1) (q0 := 11) rfl rfl, fun U hU hW => ⟨rfl, hC1017 U hU hW⟩⟩ rfl rfl hl.1 rfl (lv_room (Nat.le_of_ble_eq_true rfl)) dX9_shown_43 ⟨(Nat.le_of_ble_eq_true rfl), (Nat.le_of_ble_eq_true rfl)⟩) hS (fun q9 _ h9 => hF1014 q9 h9) hF1014 (fun r1019 u1018 t1018 H1018 L1018 ht1018 hvm1018 hw1018 hB1018 hz1018 hk1018 hS => ?_)
  have hP := pq_keep hP hD [11, 12] rfl hk1018 hB1018.1 ht1018
  have hG : s.heap.size + 804 ≤ H1018.size := Nat.le_trans hG hz1018
  refine W.eq (g2 := F0 m 48 ls [.int 1]) (by rw [hw1018]) ?_
  refine lv_if_eq (tgt := 92) hx hb dX9_shown_48 (by decide) (fun cz => absurd cz (by decide)) (fun _ => ?_)
  refine lv_aload hx hb dX9_shown_51 (lv_at hl 2 rfl) ?_
  have hM1022 := k640_next l hl9 dC dI z a941 h3 h6 H1018.size kc1
  obtain ⟨hF1020, hC1023⟩ := pc_M hM1022 hP hD hK hS hX hT hA [11, 12, 13] [2] rfl rfl rfl
  refine va_callFr (va_runF (As := []) (rest := []) (hK.1 1 _ rfl).2 ⟨hx, hb, hml, hown, hts⟩ hM1022 (va_cwF 0 hts (gF q_308 q_309 q_310 q_246 q_307) rfl rfl rfl hT.2.2.2.2.2.2.2.1 hF_xIn ⟨Nat.le_of_ble_eq_true rfl, Nat.le_of_ble_eq_true rfl⟩) ⟨pc_blind, va_recv hK hP (ci := 1) (q0 := 11) rfl rfl, fun U hU hW => ⟨rfl, hC1023 U hU hW⟩⟩ rfl rfl hl.1 rfl (lv_room (Nat.le_of_ble_eq_true rfl)) dX9_shown_53 ⟨(Nat.le_of_ble_eq_true rfl), (Nat.le_of_ble_eq_true rfl)⟩) hS (fun q9 _ h9 => hF1020 q9 h9) hF1020 (fun u1024 r1025 t1024 H1024 L1024 ht1024 hvm1024 hw1024 hB1024 hz1024 hk1024 hS => ?_)
  obtain ⟨hr1024, hB1024⟩ := hB1024
  obtain ⟨hP, hD, hK⟩ := pq_jn (wz := [(h0, ce21 h1 h2 h3 h4), (h1, ce201 h5), (h2, ce3 z.1), (h4, ce226 h7), (h5, ce200 kc0 h8 h9 h10 h11 h12), (h7, ce200 kc2 (z.2.2.1 128) (z.2.2.1 129) (z.2.2.1 130) (z.2.2.1 131) (z.2.2.1 132)), (h8, ce49), (h9, ce49), (h10, ce49), (h11, ce49), (h12, ce49), (a941, ce314 h3), (h3, ce276 h6), (h6, ce275 kc1 (z.2.2.1 128) (z.2.2.1 128) (z.2.2.1 128) (z.2.2.1 128) (z.2.2.1 128) (z.2.2.1 128) (z.2.2.1 128))]) (tz := [(kc0, .object "java/lang/Object"), (kc2, .object "java/lang/Object"), (kc1, .object "java/lang/Object")]) hP hD hK [11, 12, 13] [0, 1] rfl hk1024 hF1020 hB1024.1 ht1024 hvm1024 rfl rfl
  have hG : s.heap.size + 804 ≤ H1024.size := Nat.le_trans hG hz1024
  refine W.eq (g2 := F0 m 58 ls [.ref (z.2.2.1 128)]) (by rw [hr1024]) ?_
  refine va_castE (nm := "java/lang/Integer") hx hb hown (hts _ q_320) (va_Orecv (hX.2.2.1.1.1 128 (by decide)) hS) dX9_shown_58 ?_
  have hM1028 := k74_intValue l hl9 dC dI z H1024.size
  obtain ⟨hF1026, hC1029⟩ := pc_M hM1028 hP hD hK hS hX hT hA [] [] rfl rfl rfl
  refine va_calli (va_runV (As := []) (rest := []) ⟨hx, hb, hml, hown, hts⟩ hM1028 (cwV 0 hts (gV q_323 q_324 q_325 q_297 q_322) rfl rfl rfl hV_J6_intValue_8abf5 ⟨Nat.le_of_ble_eq_true rfl, Nat.le_of_ble_eq_true rfl⟩) ⟨pc_blind, va_Orecv (hX.2.2.1.1.1 128 (by decide)) hS, fun U hU hW => ⟨rfl, hC1029 U hU hW⟩⟩ rfl rfl hl.1 rfl (lv_room (Nat.le_of_ble_eq_true rfl)) dX9_shown_61 ⟨(Nat.le_of_ble_eq_true rfl), (Nat.le_of_ble_eq_true rfl)⟩) hS (fun q9 _ h9 => hF1026 q9 h9) hF1026 (fun r1031 u1030 t1030 H1030 L1030 ht1030 hvm1030 hw1030 hB1030 hz1030 hk1030 hS => ?_)
  have hP := pq_keep hP hD [] rfl hk1030 hB1030.1 ht1030
  have hG : s.heap.size + 804 ≤ H1030.size := Nat.le_trans hG hz1030
  refine W.eq (g2 := F0 m 64 ls [.int 0]) (by rw [hw1030]) ?_
  refine lv_istore (lv' := [(6, .int 0), (4, .int 0), (5, .ref a941), (3, .int 49), (1, .int 0), (2, .int 2), (0, .ref h0)]) hx hb dX9_shown_64 hl (by decide) rfl (fun ls hl => ?_)
  refine lv_iload hx hb dX9_shown_66 (lv_at hl 1 rfl) ?_
  refine lv_if_ne (tgt := 82) hx hb dX9_shown_68 (by decide) (fun cz => absurd (by decide) cz) (fun _ => ?_)
  refine lv_aload_n hx hb dX9_shown_71 rfl (lv_at hl 6 rfl) ?_
  refine lv_iload_n hx hb dX9_shown_72 rfl (lv_at hl 5 rfl) ?_
  refine lv_iload_n hx hb dX9_shown_73 rfl (lv_at hl 3 rfl) ?_
  refine lv_iload hx hb dX9_shown_74 (lv_at hl 0 rfl) ?_
  have hM1034 := k660_showsIt l hl9 dC dI z h0 h1 h2 h4 h5 h7 h8 h9 h10 h11 h12 h3 H1030.size kc0 kc2
  obtain ⟨hF1032, hC1035⟩ := pc_M hM1034 hP hD hK hS hX hT hA [0, 1, 2, 3, 4, 5, 6, 7, 8, 9, 10] [0, 1] rfl rfl rfl
  refine va_calli (va_runV (As := [.int 2, .int 49, .int 0]) (rest := []) ⟨hx, hb, hml, hown, hts⟩ hM1034 (cwV 3 hts (gV q_429 q_430 q_431 q_60 q_428) rfl rfl rfl hV_X9_showsIt ⟨Nat.le_of_ble_eq_true rfl, Nat.le_of_ble_eq_true rfl⟩) ⟨pc_blind, va_recv hK hP (ci := 8) (q0 := 0) rfl rfl, fun U hU hW => ⟨rfl, hC1035 U hU hW⟩⟩ rfl rfl hl.1 rfl (lv_room (Nat.le_of_ble_eq_true rfl)) dX9_shown_76 ⟨(Nat.le_of_ble_eq_true rfl), (Nat.le_of_ble_eq_true rfl)⟩) hS (fun q9 _ h9 => hF1032 q9 h9) hF1032 (fun r1037 u1036 t1036 H1036 L1036 ht1036 hvm1036 hw1036 hB1036 hz1036 hk1036 hS => ?_)
  have hP := pq_keep hP hD [0, 1, 2, 3, 4, 5, 6, 7, 8, 9, 10] rfl hk1036 hB1036.1 ht1036
  have hG : s.heap.size + 825 ≤ H1036.size := va_gr (g := 804) (g1 := 21) hG (by rw [← ht1036]; exact hB1036.2)
  refine W.eq (g2 := F0 m 79 ls [.int 0]) (by rw [hw1036]) ?_
  refine W.widen (k := 825) (n := 8916) (by decide) (by decide) ?_
  refine lv_if_eq (tgt := 86) hx hb dX9_shown_79 (by decide) (fun _ => ?_) (fun cz => absurd (by decide) cz)
  refine lv_iconst (v := 0) hx hb dX9_shown_86 (by decide) ?_
  refine lv_istore (lv' := [(4, .int 0), (6, .int 0), (5, .ref a941), (3, .int 49), (1, .int 0), (2, .int 2), (0, .ref h0)]) hx hb dX9_shown_87 hl (by decide) rfl (fun ls hl => ?_)
  refine lv_goto (tgt := 41) hx hb dX9_shown_89 (by decide) ?_
  refine lv_aload hx hb dX9_shown_41 (lv_at hl 2 rfl) ?_
  have hM1040 := k641_hasNext l hl9 dC dI z a941 h3 h6 H1036.size
  obtain ⟨hF1038, hC1041⟩ := pc_M hM1040 hP hD hK hS hX hT hA [11, 12] [] rfl rfl rfl
  refine va_callFi (va_runF (As := []) (rest := []) (hK.1 1 _ rfl).2 ⟨hx, hb, hml, hown, hts⟩ hM1040 (va_cwF 0 hts (gF q_261 q_262 q_263 q_246 q_260) rfl rfl rfl hT.2.2.2.2.2.2.1 hF_xIh ⟨Nat.le_of_ble_eq_true rfl, Nat.le_of_ble_eq_true rfl⟩) ⟨pc_blind, va_recv hK hP (ci := 1) (q0 := 11) rfl rfl, fun U hU hW => ⟨rfl, hC1041 U hU hW⟩⟩ rfl rfl hl.1 rfl (lv_room (Nat.le_of_ble_eq_true rfl)) dX9_shown_43 ⟨(Nat.le_of_ble_eq_true rfl), (Nat.le_of_ble_eq_true rfl)⟩) hS (fun q9 _ h9 => hF1038 q9 h9) hF1038 (fun r1043 u1042 t1042 H1042 L1042 ht1042 hvm1042 hw1042 hB1042 hz1042 hk1042 hS => ?_)
  have hP := pq_keep hP hD [11, 12] rfl hk1042 hB1042.1 ht1042
  have hG : s.heap.size + 825 ≤ H1042.size := Nat.le_trans hG hz1042
  refine W.eq (g2 := F0 m 48 ls [.int 1]) (by rw [hw1042]) ?_
  refine lv_if_eq (tgt := 92) hx hb dX9_shown_48 (by decide) (fun cz => absurd cz (by decide)) (fun _ => ?_)
  refine lv_aload hx hb dX9_shown_51 (lv_at hl 2 rfl) ?_
  have hM1046 := k643_next l hl9 dC dI z a941 h3 h6 H1042.size kc1
  obtain ⟨hF1044, hC1047⟩ := pc_M hM1046 hP hD hK hS hX hT hA [11, 12, 13] [2] rfl rfl rfl
  refine va_callFr (va_runF (As := []) (rest := []) (hK.1 1 _ rfl).2 ⟨hx, hb, hml, hown, hts⟩ hM1046 (va_cwF 0 hts (gF q_308 q_309 q_310 q_246 q_307) rfl rfl rfl hT.2.2.2.2.2.2.2.1 hF_xIn ⟨Nat.le_of_ble_eq_true rfl, Nat.le_of_ble_eq_true rfl⟩) ⟨pc_blind, va_recv hK hP (ci := 1) (q0 := 11) rfl rfl, fun U hU hW => ⟨rfl, hC1047 U hU hW⟩⟩ rfl rfl hl.1 rfl (lv_room (Nat.le_of_ble_eq_true rfl)) dX9_shown_53 ⟨(Nat.le_of_ble_eq_true rfl), (Nat.le_of_ble_eq_true rfl)⟩) hS (fun q9 _ h9 => hF1044 q9 h9) hF1044 (fun u1048 r1049 t1048 H1048 L1048 ht1048 hvm1048 hw1048 hB1048 hz1048 hk1048 hS => ?_)
  obtain ⟨hr1048, hB1048⟩ := hB1048
  obtain ⟨hP, hD, hK⟩ := pq_jn (wz := [(h0, ce21 h1 h2 h3 h4), (h1, ce201 h5), (h2, ce3 z.1), (h4, ce226 h7), (h5, ce200 kc0 h8 h9 h10 h11 h12), (h7, ce200 kc2 (z.2.2.1 128) (z.2.2.1 129) (z.2.2.1 130) (z.2.2.1 131) (z.2.2.1 132)), (h8, ce49), (h9, ce49), (h10, ce49), (h11, ce49), (h12, ce49), (a941, ce316 h3), (h3, ce276 h6), (h6, ce275 kc1 (z.2.2.1 128) (z.2.2.1 128) (z.2.2.1 128) (z.2.2.1 128) (z.2.2.1 128) (z.2.2.1 128) (z.2.2.1 128))]) (tz := [(kc0, .object "java/lang/Object"), (kc2, .object "java/lang/Object"), (kc1, .object "java/lang/Object")]) hP hD hK [11, 12, 13] [0, 1] rfl hk1048 hF1044 hB1048.1 ht1048 hvm1048 rfl rfl
  have hG : s.heap.size + 825 ≤ H1048.size := Nat.le_trans hG hz1048
  refine W.eq (g2 := F0 m 58 ls [.ref (z.2.2.1 128)]) (by rw [hr1048]) ?_
  refine va_castE (nm := "java/lang/Integer") hx hb hown (hts _ q_320) (va_Orecv (hX.2.2.1.1.1 128 (by decide)) hS) dX9_shown_58 ?_
  have hM1052 := k74_intValue l hl9 dC dI z H1048.size
  obtain ⟨hF1050, hC1053⟩ := pc_M hM1052 hP hD hK hS hX hT hA [] [] rfl rfl rfl
  refine va_calli (va_runV (As := []) (rest := []) ⟨hx, hb, hml, hown, hts⟩ hM1052 (cwV 0 hts (gV q_323 q_324 q_325 q_297 q_322) rfl rfl rfl hV_J6_intValue_8abf5 ⟨Nat.le_of_ble_eq_true rfl, Nat.le_of_ble_eq_true rfl⟩) ⟨pc_blind, va_Orecv (hX.2.2.1.1.1 128 (by decide)) hS, fun U hU hW => ⟨rfl, hC1053 U hU hW⟩⟩ rfl rfl hl.1 rfl (lv_room (Nat.le_of_ble_eq_true rfl)) dX9_shown_61 ⟨(Nat.le_of_ble_eq_true rfl), (Nat.le_of_ble_eq_true rfl)⟩) hS (fun q9 _ h9 => hF1050 q9 h9) hF1050 (fun r1055 u1054 t1054 H1054 L1054 ht1054 hvm1054 hw1054 hB1054 hz1054 hk1054 hS => ?_)
  have hP := pq_keep hP hD [] rfl hk1054 hB1054.1 ht1054
  have hG : s.heap.size + 825 ≤ H1054.size := Nat.le_trans hG hz1054
  refine W.eq (g2 := F0 m 64 ls [.int 0]) (by rw [hw1054]) ?_
  refine lv_istore (lv' := [(6, .int 0), (4, .int 0), (5, .ref a941), (3, .int 49), (1, .int 0), (2, .int 2), (0, .ref h0)]) hx hb dX9_shown_64 hl (by decide) rfl (fun ls hl => ?_)
  refine lv_iload hx hb dX9_shown_66 (lv_at hl 1 rfl) ?_
  refine lv_if_ne (tgt := 82) hx hb dX9_shown_68 (by decide) (fun cz => absurd (by decide) cz) (fun _ => ?_)
  refine lv_aload_n hx hb dX9_shown_71 rfl (lv_at hl 6 rfl) ?_
  refine lv_iload_n hx hb dX9_shown_72 rfl (lv_at hl 5 rfl) ?_
  refine lv_iload_n hx hb dX9_shown_73 rfl (lv_at hl 3 rfl) ?_
  refine lv_iload hx hb dX9_shown_74 (lv_at hl 0 rfl) ?_
  have hM1058 := k660_showsIt l hl9 dC dI z h0 h1 h2 h4 h5 h7 h8 h9 h10 h11 h12 h3 H1054.size kc0 kc2
  obtain ⟨hF1056, hC1059⟩ := pc_M hM1058 hP hD hK hS hX hT hA [0, 1, 2, 3, 4, 5, 6, 7, 8, 9, 10] [0, 1] rfl rfl rfl
  refine va_calli (va_runV (As := [.int 2, .int 49, .int 0]) (rest := []) ⟨hx, hb, hml, hown, hts⟩ hM1058 (cwV 3 hts (gV q_429 q_430 q_431 q_60 q_428) rfl rfl rfl hV_X9_showsIt ⟨Nat.le_of_ble_eq_true rfl, Nat.le_of_ble_eq_true rfl⟩) ⟨pc_blind, va_recv hK hP (ci := 8) (q0 := 0) rfl rfl, fun U hU hW => ⟨rfl, hC1059 U hU hW⟩⟩ rfl rfl hl.1 rfl (lv_room (Nat.le_of_ble_eq_true rfl)) dX9_shown_76 ⟨(Nat.le_of_ble_eq_true rfl), (Nat.le_of_ble_eq_true rfl)⟩) hS (fun q9 _ h9 => hF1056 q9 h9) hF1056 (fun r1061 u1060 t1060 H1060 L1060 ht1060 hvm1060 hw1060 hB1060 hz1060 hk1060 hS => ?_)
  have hP := pq_keep hP hD [0, 1, 2, 3, 4, 5, 6, 7, 8, 9, 10] rfl hk1060 hB1060.1 ht1060
  have hG : s.heap.size + 846 ≤ H1060.size := va_gr (g := 825) (g1 := 21) hG (by rw [← ht1060]; exact hB1060.2)
  refine W.eq (g2 := F0 m 79 ls [.int 0]) (by rw [hw1060]) ?_
  refine W.widen (k := 846) (n := 9144) (by decide) (by decide) ?_
  refine lv_if_eq (tgt := 86) hx hb dX9_shown_79 (by decide) (fun _ => ?_) (fun cz => absurd (by decide) cz)
  refine lv_iconst (v := 0) hx hb dX9_shown_86 (by decide) ?_
  refine lv_istore (lv' := [(4, .int 0), (6, .int 0), (5, .ref a941), (3, .int 49), (1, .int 0), (2, .int 2), (0, .ref h0)]) hx hb dX9_shown_87 hl (by decide) rfl (fun ls hl => ?_)
  refine lv_goto (tgt := 41) hx hb dX9_shown_89 (by decide) ?_
  refine lv_aload hx hb dX9_shown_41 (lv_at hl 2 rfl) ?_
  have hM1064 := k644_hasNext l hl9 dC dI z a941 h3 h6 H1060.size
  obtain ⟨hF1062, hC1065⟩ := pc_M hM1064 hP hD hK hS hX hT hA [11, 12] [] rfl rfl rfl
  refine va_callFi (va_runF (As := []) (rest := []) (hK.1 1 _ rfl).2 ⟨hx, hb, hml, hown, hts⟩ hM1064 (va_cwF 0 hts (gF q_261 q_262 q_263 q_246 q_260) rfl rfl rfl hT.2.2.2.2.2.2.1 hF_xIh ⟨Nat.le_of_ble_eq_true rfl, Nat.le_of_ble_eq_true rfl⟩) ⟨pc_blind, va_recv hK hP (ci := 1) (q0 := 11) rfl rfl, fun U hU hW => ⟨rfl, hC1065 U hU hW⟩⟩ rfl rfl hl.1 rfl (lv_room (Nat.le_of_ble_eq_true rfl)) dX9_shown_43 ⟨(Nat.le_of_ble_eq_true rfl), (Nat.le_of_ble_eq_true rfl)⟩) hS (fun q9 _ h9 => hF1062 q9 h9) hF1062 (fun r1067 u1066 t1066 H1066 L1066 ht1066 hvm1066 hw1066 hB1066 hz1066 hk1066 hS => ?_)
  have hP := pq_keep hP hD [11, 12] rfl hk1066 hB1066.1 ht1066
  have hG : s.heap.size + 846 ≤ H1066.size := Nat.le_trans hG hz1066
  refine W.eq (g2 := F0 m 48 ls [.int 1]) (by rw [hw1066]) ?_
  refine lv_if_eq (tgt := 92) hx hb dX9_shown_48 (by decide) (fun cz => absurd cz (by decide)) (fun _ => ?_)
  refine lv_aload hx hb dX9_shown_51 (lv_at hl 2 rfl) ?_
  have hM1070 := k646_next l hl9 dC dI z a941 h3 h6 H1066.size kc1
  obtain ⟨hF1068, hC1071⟩ := pc_M hM1070 hP hD hK hS hX hT hA [11, 12, 13] [2] rfl rfl rfl
  refine va_callFr (va_runF (As := []) (rest := []) (hK.1 1 _ rfl).2 ⟨hx, hb, hml, hown, hts⟩ hM1070 (va_cwF 0 hts (gF q_308 q_309 q_310 q_246 q_307) rfl rfl rfl hT.2.2.2.2.2.2.2.1 hF_xIn ⟨Nat.le_of_ble_eq_true rfl, Nat.le_of_ble_eq_true rfl⟩) ⟨pc_blind, va_recv hK hP (ci := 1) (q0 := 11) rfl rfl, fun U hU hW => ⟨rfl, hC1071 U hU hW⟩⟩ rfl rfl hl.1 rfl (lv_room (Nat.le_of_ble_eq_true rfl)) dX9_shown_53 ⟨(Nat.le_of_ble_eq_true rfl), (Nat.le_of_ble_eq_true rfl)⟩) hS (fun q9 _ h9 => hF1068 q9 h9) hF1068 (fun u1072 r1073 t1072 H1072 L1072 ht1072 hvm1072 hw1072 hB1072 hz1072 hk1072 hS => ?_)
  obtain ⟨hr1072, hB1072⟩ := hB1072
  obtain ⟨hP, hD, hK⟩ := pq_jn (wz := [(h0, ce21 h1 h2 h3 h4), (h1, ce201 h5), (h2, ce3 z.1), (h4, ce226 h7), (h5, ce200 kc0 h8 h9 h10 h11 h12), (h7, ce200 kc2 (z.2.2.1 128) (z.2.2.1 129) (z.2.2.1 130) (z.2.2.1 131) (z.2.2.1 132)), (h8, ce49), (h9, ce49), (h10, ce49), (h11, ce49), (h12, ce49), (a941, ce318 h3), (h3, ce276 h6), (h6, ce275 kc1 (z.2.2.1 128) (z.2.2.1 128) (z.2.2.1 128) (z.2.2.1 128) (z.2.2.1 128) (z.2.2.1 128) (z.2.2.1 128))]) (tz := [(kc0, .object "java/lang/Object"), (kc2, .object "java/lang/Object"), (kc1, .object "java/lang/Object")]) hP hD hK [11, 12, 13] [0, 1] rfl hk1072 hF1068 hB1072.1 ht1072 hvm1072 rfl rfl
  have hG : s.heap.size + 846 ≤ H1072.size := Nat.le_trans hG hz1072
  refine W.eq (g2 := F0 m 58 ls [.ref (z.2.2.1 128)]) (by rw [hr1072]) ?_
  refine va_castE (nm := "java/lang/Integer") hx hb hown (hts _ q_320) (va_Orecv (hX.2.2.1.1.1 128 (by decide)) hS) dX9_shown_58 ?_
  have hM1076 := k74_intValue l hl9 dC dI z H1072.size
  obtain ⟨hF1074, hC1077⟩ := pc_M hM1076 hP hD hK hS hX hT hA [] [] rfl rfl rfl
  refine va_calli (va_runV (As := []) (rest := []) ⟨hx, hb, hml, hown, hts⟩ hM1076 (cwV 0 hts (gV q_323 q_324 q_325 q_297 q_322) rfl rfl rfl hV_J6_intValue_8abf5 ⟨Nat.le_of_ble_eq_true rfl, Nat.le_of_ble_eq_true rfl⟩) ⟨pc_blind, va_Orecv (hX.2.2.1.1.1 128 (by decide)) hS, fun U hU hW => ⟨rfl, hC1077 U hU hW⟩⟩ rfl rfl hl.1 rfl (lv_room (Nat.le_of_ble_eq_true rfl)) dX9_shown_61 ⟨(Nat.le_of_ble_eq_true rfl), (Nat.le_of_ble_eq_true rfl)⟩) hS (fun q9 _ h9 => hF1074 q9 h9) hF1074 (fun r1079 u1078 t1078 H1078 L1078 ht1078 hvm1078 hw1078 hB1078 hz1078 hk1078 hS => ?_)
  have hP := pq_keep hP hD [] rfl hk1078 hB1078.1 ht1078
  have hG : s.heap.size + 846 ≤ H1078.size := Nat.le_trans hG hz1078
  refine W.eq (g2 := F0 m 64 ls [.int 0]) (by rw [hw1078]) ?_
  refine lv_istore (lv' := [(6, .int 0), (4, .int 0), (5, .ref a941), (3, .int 49), (1, .int 0), (2, .int 2), (0, .ref h0)]) hx hb dX9_shown_64 hl (by decide) rfl (fun ls hl => ?_)
  refine lv_iload hx hb dX9_shown_66 (lv_at hl 1 rfl) ?_
  refine lv_if_ne (tgt := 82) hx hb dX9_shown_68 (by decide) (fun cz => absurd (by decide) cz) (fun _ => ?_)
  refine lv_aload_n hx hb dX9_shown_71 rfl (lv_at hl 6 rfl) ?_
  refine lv_iload_n hx hb dX9_shown_72 rfl (lv_at hl 5 rfl) ?_
  refine lv_iload_n hx hb dX9_shown_73 rfl (lv_at hl 3 rfl) ?_
  refine lv_iload hx hb dX9_shown_74 (lv_at hl 0 rfl) ?_
  have hM1082 := k660_showsIt l hl9 dC dI z h0 h1 h2 h4 h5 h7 h8 h9 h10 h11 h12 h3 H1078.size kc0 kc2
  obtain ⟨hF1080, hC1083⟩ := pc_M hM1082 hP hD hK hS hX hT hA [0, 1, 2, 3, 4, 5, 6, 7, 8, 9, 10] [0, 1] rfl rfl rfl
  refine va_calli (va_runV (As := [.int 2, .int 49, .int 0]) (rest := []) ⟨hx, hb, hml, hown, hts⟩ hM1082 (cwV 3 hts (gV q_429 q_430 q_431 q_60 q_428) rfl rfl rfl hV_X9_showsIt ⟨Nat.le_of_ble_eq_true rfl, Nat.le_of_ble_eq_true rfl⟩) ⟨pc_blind, va_recv hK hP (ci := 8) (q0 := 0) rfl rfl, fun U hU hW => ⟨rfl, hC1083 U hU hW⟩⟩ rfl rfl hl.1 rfl (lv_room (Nat.le_of_ble_eq_true rfl)) dX9_shown_76 ⟨(Nat.le_of_ble_eq_true rfl), (Nat.le_of_ble_eq_true rfl)⟩) hS (fun q9 _ h9 => hF1080 q9 h9) hF1080 (fun r1085 u1084 t1084 H1084 L1084 ht1084 hvm1084 hw1084 hB1084 hz1084 hk1084 hS => ?_)
  have hP := pq_keep hP hD [0, 1, 2, 3, 4, 5, 6, 7, 8, 9, 10] rfl hk1084 hB1084.1 ht1084
  have hG : s.heap.size + 867 ≤ H1084.size := va_gr (g := 846) (g1 := 21) hG (by rw [← ht1084]; exact hB1084.2)
  refine W.eq (g2 := F0 m 79 ls [.int 0]) (by rw [hw1084]) ?_
  refine W.widen (k := 867) (n := 9372) (by decide) (by decide) ?_
  refine lv_if_eq (tgt := 86) hx hb dX9_shown_79 (by decide) (fun _ => ?_) (fun cz => absurd (by decide) cz)
  refine lv_iconst (v := 0) hx hb dX9_shown_86 (by decide) ?_
  refine lv_istore (lv' := [(4, .int 0), (6, .int 0), (5, .ref a941), (3, .int 49), (1, .int 0), (2, .int 2), (0, .ref h0)]) hx hb dX9_shown_87 hl (by decide) rfl (fun ls hl => ?_)
  refine lv_goto (tgt := 41) hx hb dX9_shown_89 (by decide) ?_
  refine lv_aload hx hb dX9_shown_41 (lv_at hl 2 rfl) ?_
  have hM1088 := k647_hasNext l hl9 dC dI z a941 h3 h6 H1084.size
  obtain ⟨hF1086, hC1089⟩ := pc_M hM1088 hP hD hK hS hX hT hA [11, 12] [] rfl rfl rfl
  refine va_callFi (va_runF (As := []) (rest := []) (hK.1 1 _ rfl).2 ⟨hx, hb, hml, hown, hts⟩ hM1088 (va_cwF 0 hts (gF q_261 q_262 q_263 q_246 q_260) rfl rfl rfl hT.2.2.2.2.2.2.1 hF_xIh ⟨Nat.le_of_ble_eq_true rfl, Nat.le_of_ble_eq_true rfl⟩) ⟨pc_blind, va_recv hK hP (ci := 1) (q0 := 11) rfl rfl, fun U hU hW => ⟨rfl, hC1089 U hU hW⟩⟩ rfl rfl hl.1 rfl (lv_room (Nat.le_of_ble_eq_true rfl)) dX9_shown_43 ⟨(Nat.le_of_ble_eq_true rfl), (Nat.le_of_ble_eq_true rfl)⟩) hS (fun q9 _ h9 => hF1086 q9 h9) hF1086 (fun r1091 u1090 t1090 H1090 L1090 ht1090 hvm1090 hw1090 hB1090 hz1090 hk1090 hS => ?_)
  have hP := pq_keep hP hD [11, 12] rfl hk1090 hB1090.1 ht1090
  have hG : s.heap.size + 867 ≤ H1090.size := Nat.le_trans hG hz1090
  refine W.eq (g2 := F0 m 48 ls [.int 1]) (by rw [hw1090]) ?_
  refine lv_if_eq (tgt := 92) hx hb dX9_shown_48 (by decide) (fun cz => absurd cz (by decide)) (fun _ => ?_)
  refine lv_aload hx hb dX9_shown_51 (lv_at hl 2 rfl) ?_
  have hM1094 := k649_next l hl9 dC dI z a941 h3 h6 H1090.size kc1
  obtain ⟨hF1092, hC1095⟩ := pc_M hM1094 hP hD hK hS hX hT hA [11, 12, 13] [2] rfl rfl rfl
  refine va_callFr (va_runF (As := []) (rest := []) (hK.1 1 _ rfl).2 ⟨hx, hb, hml, hown, hts⟩ hM1094 (va_cwF 0 hts (gF q_308 q_309 q_310 q_246 q_307) rfl rfl rfl hT.2.2.2.2.2.2.2.1 hF_xIn ⟨Nat.le_of_ble_eq_true rfl, Nat.le_of_ble_eq_true rfl⟩) ⟨pc_blind, va_recv hK hP (ci := 1) (q0 := 11) rfl rfl, fun U hU hW => ⟨rfl, hC1095 U hU hW⟩⟩ rfl rfl hl.1 rfl (lv_room (Nat.le_of_ble_eq_true rfl)) dX9_shown_53 ⟨(Nat.le_of_ble_eq_true rfl), (Nat.le_of_ble_eq_true rfl)⟩) hS (fun q9 _ h9 => hF1092 q9 h9) hF1092 (fun u1096 r1097 t1096 H1096 L1096 ht1096 hvm1096 hw1096 hB1096 hz1096 hk1096 hS => ?_)
  obtain ⟨hr1096, hB1096⟩ := hB1096
  obtain ⟨hP, hD, hK⟩ := pq_jn (wz := [(h0, ce21 h1 h2 h3 h4), (h1, ce201 h5), (h2, ce3 z.1), (h4, ce226 h7), (h5, ce200 kc0 h8 h9 h10 h11 h12), (h7, ce200 kc2 (z.2.2.1 128) (z.2.2.1 129) (z.2.2.1 130) (z.2.2.1 131) (z.2.2.1 132)), (h8, ce49), (h9, ce49), (h10, ce49), (h11, ce49), (h12, ce49), (a941, ce320 h3), (h3, ce276 h6), (h6, ce275 kc1 (z.2.2.1 128) (z.2.2.1 128) (z.2.2.1 128) (z.2.2.1 128) (z.2.2.1 128) (z.2.2.1 128) (z.2.2.1 128))]) (tz := [(kc0, .object "java/lang/Object"), (kc2, .object "java/lang/Object"), (kc1, .object "java/lang/Object")]) hP hD hK [11, 12, 13] [0, 1] rfl hk1096 hF1092 hB1096.1 ht1096 hvm1096 rfl rfl
  have hG : s.heap.size + 867 ≤ H1096.size := Nat.le_trans hG hz1096
  refine W.eq (g2 := F0 m 58 ls [.ref (z.2.2.1 128)]) (by rw [hr1096]) ?_
  refine va_castE (nm := "java/lang/Integer") hx hb hown (hts _ q_320) (va_Orecv (hX.2.2.1.1.1 128 (by decide)) hS) dX9_shown_58 ?_
  have hM1100 := k74_intValue l hl9 dC dI z H1096.size
  obtain ⟨hF1098, hC1101⟩ := pc_M hM1100 hP hD hK hS hX hT hA [] [] rfl rfl rfl
  refine va_calli (va_runV (As := []) (rest := []) ⟨hx, hb, hml, hown, hts⟩ hM1100 (cwV 0 hts (gV q_323 q_324 q_325 q_297 q_322) rfl rfl rfl hV_J6_intValue_8abf5 ⟨Nat.le_of_ble_eq_true rfl, Nat.le_of_ble_eq_true rfl⟩) ⟨pc_blind, va_Orecv (hX.2.2.1.1.1 128 (by decide)) hS, fun U hU hW => ⟨rfl, hC1101 U hU hW⟩⟩ rfl rfl hl.1 rfl (lv_room (Nat.le_of_ble_eq_true rfl)) dX9_shown_61 ⟨(Nat.le_of_ble_eq_true rfl), (Nat.le_of_ble_eq_true rfl)⟩) hS (fun q9 _ h9 => hF1098 q9 h9) hF1098 (fun r1103 u1102 t1102 H1102 L1102 ht1102 hvm1102 hw1102 hB1102 hz1102 hk1102 hS => ?_)
  have hP := pq_keep hP hD [] rfl hk1102 hB1102.1 ht1102
  have hG : s.heap.size + 867 ≤ H1102.size := Nat.le_trans hG hz1102
  refine W.eq (g2 := F0 m 64 ls [.int 0]) (by rw [hw1102]) ?_
  refine lv_istore (lv' := [(6, .int 0), (4, .int 0), (5, .ref a941), (3, .int 49), (1, .int 0), (2, .int 2), (0, .ref h0)]) hx hb dX9_shown_64 hl (by decide) rfl (fun ls hl => ?_)
  refine lv_iload hx hb dX9_shown_66 (lv_at hl 1 rfl) ?_
  refine lv_if_ne (tgt := 82) hx hb dX9_shown_68 (by decide) (fun cz => absurd (by decide) cz) (fun _ => ?_)
  refine lv_aload_n hx hb dX9_shown_71 rfl (lv_at hl 6 rfl) ?_
  refine lv_iload_n hx hb dX9_shown_72 rfl (lv_at hl 5 rfl) ?_
  refine lv_iload_n hx hb dX9_shown_73 rfl (lv_at hl 3 rfl) ?_
  refine lv_iload hx hb dX9_shown_74 (lv_at hl 0 rfl) ?_
  have hM1106 := k660_showsIt l hl9 dC dI z h0 h1 h2 h4 h5 h7 h8 h9 h10 h11 h12 h3 H1102.size kc0 kc2
  obtain ⟨hF1104, hC1107⟩ := pc_M hM1106 hP hD hK hS hX hT hA [0, 1, 2, 3, 4, 5, 6, 7, 8, 9, 10] [0, 1] rfl rfl rfl
  refine va_calli (va_runV (As := [.int 2, .int 49, .int 0]) (rest := []) ⟨hx, hb, hml, hown, hts⟩ hM1106 (cwV 3 hts (gV q_429 q_430 q_431 q_60 q_428) rfl rfl rfl hV_X9_showsIt ⟨Nat.le_of_ble_eq_true rfl, Nat.le_of_ble_eq_true rfl⟩) ⟨pc_blind, va_recv hK hP (ci := 8) (q0 := 0) rfl rfl, fun U hU hW => ⟨rfl, hC1107 U hU hW⟩⟩ rfl rfl hl.1 rfl (lv_room (Nat.le_of_ble_eq_true rfl)) dX9_shown_76 ⟨(Nat.le_of_ble_eq_true rfl), (Nat.le_of_ble_eq_true rfl)⟩) hS (fun q9 _ h9 => hF1104 q9 h9) hF1104 (fun r1109 u1108 t1108 H1108 L1108 ht1108 hvm1108 hw1108 hB1108 hz1108 hk1108 hS => ?_)
  have hP := pq_keep hP hD [0, 1, 2, 3, 4, 5, 6, 7, 8, 9, 10] rfl hk1108 hB1108.1 ht1108
  have hG : s.heap.size + 888 ≤ H1108.size := va_gr (g := 867) (g1 := 21) hG (by rw [← ht1108]; exact hB1108.2)
  refine W.eq (g2 := F0 m 79 ls [.int 0]) (by rw [hw1108]) ?_
  refine W.widen (k := 888) (n := 9600) (by decide) (by decide) ?_
  refine lv_if_eq (tgt := 86) hx hb dX9_shown_79 (by decide) (fun _ => ?_) (fun cz => absurd (by decide) cz)
  refine lv_iconst (v := 0) hx hb dX9_shown_86 (by decide) ?_
  refine lv_istore (lv' := [(4, .int 0), (6, .int 0), (5, .ref a941), (3, .int 49), (1, .int 0), (2, .int 2), (0, .ref h0)]) hx hb dX9_shown_87 hl (by decide) rfl (fun ls hl => ?_)
  refine lv_goto (tgt := 41) hx hb dX9_shown_89 (by decide) ?_
  refine lv_aload hx hb dX9_shown_41 (lv_at hl 2 rfl) ?_
  have hM1112 := k650_hasNext l hl9 dC dI z a941 h3 h6 H1108.size
  obtain ⟨hF1110, hC1113⟩ := pc_M hM1112 hP hD hK hS hX hT hA [11, 12] [] rfl rfl rfl
  refine va_callFi (va_runF (As := []) (rest := []) (hK.1 1 _ rfl).2 ⟨hx, hb, hml, hown, hts⟩ hM1112 (va_cwF 0 hts (gF q_261 q_262 q_263 q_246 q_260) rfl rfl rfl hT.2.2.2.2.2.2.1 hF_xIh ⟨Nat.le_of_ble_eq_true rfl, Nat.le_of_ble_eq_true rfl⟩) ⟨pc_blind, va_recv hK hP (ci := 1) (q0 := 11) rfl rfl, fun U hU hW => ⟨rfl, hC1113 U hU hW⟩⟩ rfl rfl hl.1 rfl (lv_room (Nat.le_of_ble_eq_true rfl)) dX9_shown_43 ⟨(Nat.le_of_ble_eq_true rfl), (Nat.le_of_ble_eq_true rfl)⟩) hS (fun q9 _ h9 => hF1110 q9 h9) hF1110 (fun r1115 u1114 t1114 H1114 L1114 ht1114 hvm1114 hw1114 hB1114 hz1114 hk1114 hS => ?_)
  have hP := pq_keep hP hD [11, 12] rfl hk1114 hB1114.1 ht1114
  have hG : s.heap.size + 888 ≤ H1114.size := Nat.le_trans hG hz1114
  refine W.eq (g2 := F0 m 48 ls [.int 0]) (by rw [hw1114]) ?_
  refine lv_if_eq (tgt := 92) hx hb dX9_shown_48 (by decide) (fun _ => ?_) (fun cz => absurd (by decide) cz)
  refine lv_iload_n hx hb dX9_shown_92 rfl (lv_at hl 4 rfl) ?_
  refine lv_iload hx hb dX9_shown_93 (lv_at hl 0 rfl) ?_
  refine lv_if_eq (tgt := 102) hx hb dX9_shown_95 (by decide) (fun _ => ?_) (fun cz => absurd (by decide) cz)
  refine lv_iconst (v := 0) hx hb dX9_shown_102 (by decide) ?_
  refine lv_iadd hx hb dX9_shown_103 ?_
  refine lv_topi (fun y1116 ey1116 => ?_)
  obtain rfl : y1116 = 0 := ey1116.trans (by decide)
  refine lv_istore_n (lv' := [(1, .int 0), (4, .int 0), (6, .int 0), (5, .ref a941), (3, .int 49), (2, .int 2), (0, .ref h0)]) hx hb dX9_shown_104 rfl hl (by decide) rfl (fun ls hl => ?_)
  refine lv_iload_n hx hb dX9_shown_105 rfl (lv_at hl 4 rfl) ?_
  refine lv_iconst (v := 1) hx hb dX9_shown_106 (by decide) ?_
  refine lv_iadd hx hb dX9_shown_107 ?_
  refine lv_topi (fun y1117 ey1117 => ?_)
  obtain rfl : y1117 = 50 := ey1117.trans (by decide)
  refine lv_i2c (v := 50) hx hb dX9_shown_108 (by decide) ?_
  refine lv_istore_n (lv' := [(3, .int 50), (1, .int 0), (4, .int 0), (6, .int 0), (5, .ref a941), (2, .int 2), (0, .ref h0)]) hx hb dX9_shown_109 rfl hl (by decide) rfl (fun ls hl => ?_)
  refine lv_goto (tgt := 23) hx hb dX9_shown_110 (by decide) ?_
  exact hend _ _ _ hS (hP.sub [0, 1, 2, 12, 3, 4, 13, 5, 6, 7, 8, 9, 10] rfl) (hD.sub [0, 1, 2, 12, 3, 4, 13, 5, 6, 7, 8, 9, 10] rfl rfl) (lv_sub hl [0, 1, 5, 6] rfl) hG

set_option maxHeartbeats 8000000 in
set_option maxRecDepth 100000 in
theorem k669_shown_g9 {p : Program} {l : Launch} {e : Env} {s : State} {m : MethodId} {args : Array Value} {below : List Frame} {meth : Method} {c : Code} {Q : State → Prop} {A : Nat → Prop} {H : Heap} {locs : List Loc} {ls : Array Slot} {dC : Nat → ClassId} {dI : Nat → Nat → Nat} {z : XZ} {h0 h1 h2 h3 h4 h5 h6 h7 h8 h9 h10 h11 h12 : Nat} {kc0 kc1 kc2 : ClassId} (hl9 : l.stackTraces = false) (hx : p.tables.exec = Jvm.exec) (hb : c.code = cX9_shown) (hml : c.maxLocals = 7) (hown : s.vm.findClass RX9 = some m.cls) (hts : ∀ w ∈ wsL_law, w.before args s = true) (hA : ∀ q : Nat, s.heap.size ≤ q → A q) (hX : XE z A s s.heap) (hT : XT s) (hS : va_S A s.heap H locs) (hP : va_P (dC, dI) xCl [(h0, ce21 h1 h2 h3 h4), (h1, ce201 h5), (h2, ce3 z.1), (h3, ce276 h6), (h4, ce226 h7), (h5, ce200 kc0 h8 h9 h10 h11 h12), (h6, ce275 kc1 (z.2.2.1 128) (z.2.2.1 128) (z.2.2.1 128) (z.2.2.1 128) (z.2.2.1 128) (z.2.2.1 128) (z.2.2.1 128)), (h7, ce200 kc2 (z.2.2.1 128) (z.2.2.1 129) (z.2.2.1 130) (z.2.2.1 131) (z.2.2.1 132)), (h8, ce49), (h9, ce49), (h10, ce49), (h11, ce49), (h12, ce49)] H) (hD : va_D A [(h0, ce21 h1 h2 h3 h4), (h1, ce201 h5), (h2, ce3 z.1), (h3, ce276 h6), (h4, ce226 h7), (h5, ce200 kc0 h8 h9 h10 h11 h12), (h6, ce275 kc1 (z.2.2.1 128) (z.2.2.1 128) (z.2.2.1 128) (z.2.2.1 128) (z.2.2.1 128) (z.2.2.1 128) (z.2.2.1 128)), (h7, ce200 kc2 (z.2.2.1 128) (z.2.2.1 129) (z.2.2.1 130) (z.2.2.1 131) (z.2.2.1 132)), (h8, ce49), (h9, ce49), (h10, ce49), (h11, ce49), (h12, ce49)]) (hK : va_K (dC, dI) xCl [(kc0, .object "java/lang/Object"), (kc1, .object "java/lang/Object"), (kc2, .object "java/lang/Object")] s) (hl : lv_has ls 7 [(3, .int 50), (1, .int 0), (2, .int 2), (0, .ref h0)]) (hG : s.heap.size + 888 ≤ H.size) (hend : ∀ (H' : Heap) (locs' : List Loc) (ls' : Array Slot), va_S A s.heap H' locs' → va_P (dC, dI) xCl [(h0, ce21 h1 h2 h3 h4), (h1, ce201 h5), (h2, ce3 z.1), (h3, ce276 h6), (h4, ce226 h7), (h5, ce200 kc0 h8 h9 h10 h11 h12), (h6, ce275 kc1 (z.2.2.1 128) (z.2.2.1 128) (z.2.2.1 128) (z.2.2.1 128) (z.2.2.1 128) (z.2.2.1 128) (z.2.2.1 128)), (h7, ce200 kc2 (z.2.2.1 128) (z.2.2.1 129) (z.2.2.1 130) (z.2.2.1 131) (z.2.2.1 132)), (h8, ce49), (h9, ce49), (h10, ce49), (h11, ce49), (h12, ce49)] H' → va_D A [(h0, ce21 h1 h2 h3 h4), (h1, ce201 h5), (h2, ce3 z.1), (h3, ce276 h6), (h4, ce226 h7), (h5, ce200 kc0 h8 h9 h10 h11 h12), (h6, ce275 kc1 (z.2.2.1 128) (z.2.2.1 128) (z.2.2.1 128) (z.2.2.1 128) (z.2.2.1 128) (z.2.2.1 128) (z.2.2.1 128)), (h7, ce200 kc2 (z.2.2.1 128) (z.2.2.1 129) (z.2.2.1 130) (z.2.2.1 131) (z.2.2.1 132)), (h8, ce49), (h9, ce49), (h10, ce49), (h11, ce49), (h12, ce49)] → lv_has ls' 7 [(3, .int 48), (2, .int 3), (1, .int 0), (0, .ref h0)] → s.heap.size + 888 ≤ H'.size → W p l e ({ frames := 5, cells := 1480, slots := 16000, locals := 121 } : Room) s m args below meth c H' locs' 888 9600 Q (F0 m 23 ls' [])) : W p l e ({ frames := 5, cells := 1480, slots := 16000, locals := 121 } : Room) s m args below meth c H locs 888 9600 Q (F0 m 23 ls []) := by
  refine lv_iload_n hx hb dX9_shown_23 rfl (lv_at hl 0 rfl) ?_
  refine lv_bipush (v := 49) hx hb dX9_shown_24 (by decide) ?_
  refine lv_icmp_gt (tgt := 113) hx hb dX9_shown_26 (by decide) (fun _ => ?_) (fun cz => absurd (by decide) cz)
  refine lv_iinc (v := 3) (lv' := [(2, .int 3), (3, .int 50), (1, .int 0), (0, .ref h0)]) hx hb dX9_shown_113 hl (k := 2) rfl (by decide) (by decide) rfl (fun ls hl => ?_)
  refine lv_goto (tgt := 9) hx hb dX9_shown_116 (by decide) ?_
  refine lv_iload_n hx hb dX9_shown_9 rfl (lv_at hl 0 rfl) ?_
  refine lv_aload_n hx hb dX9_shown_10 rfl (lv_at hl 3 rfl) ?_
  refine va_get (D := (dC, dI)) (ci := 8) (v := .ref h1) (C := RX9) (T := TX9) (N := 6) hx hb hts in_X9 hown hK hP 0 rfl rfl 1 (by decide) (hts _ q_64) (fun _ h9 => h9) rfl dX9_shown_11 ?_
  have hM1120 := k20_size l hl9 dC dI z h1 h5 H.size 5 5
  obtain ⟨hF1118, hC1121⟩ := pc_M hM1120 hP hD hK hS hX hT hA [1] [] rfl rfl rfl
  refine va_calli (va_runV (As := []) (rest := [.int 3]) ⟨hx, hb, hml, hown, hts⟩ hM1120 (cwV 0 hts (gV q_272 q_77 q_78 q_12 q_75) rfl rfl rfl hV_Jx4a65c_size_8abf5 ⟨Nat.le_of_ble_eq_true rfl, Nat.le_of_ble_eq_true rfl⟩) ⟨pc_blind, va_recv hK hP (ci := 0) (q0 := 1) rfl rfl, fun U hU hW => ⟨rfl, hC1121 U hU hW⟩⟩ rfl rfl hl.1 rfl (lv_room (Nat.le_of_ble_eq_true rfl)) dX9_shown_14 ⟨(Nat.le_of_ble_eq_true rfl), (Nat.le_of_ble_eq_true rfl)⟩) hS (fun q9 _ h9 => hF1118 q9 h9) hF1118 (fun r1123 u1122 t1122 H1122 L1122 ht1122 hvm1122 hw1122 hB1122 hz1122 hk1122 hS => ?_)
  have hP := pq_keep hP hD [1] rfl hk1122 hB1122.1 ht1122
  have hG : s.heap.size + 888 ≤ H1122.size := Nat.le_trans hG hz1122
  refine W.eq (g2 := F0 m 17 ls [.int 5, .int 3]) (by rw [hw1122]) ?_
  refine lv_icmp_ge (tgt := 119) hx hb dX9_shown_17 (by decide) (fun cz => absurd cz (by decide)) (fun _ => ?_)
  refine lv_bipush (v := 48) hx hb dX9_shown_20 (by decide) ?_
  refine lv_istore_n (lv' := [(3, .int 48), (2, .int 3), (1, .int 0), (0, .ref h0)]) hx hb dX9_shown_22 rfl hl (by decide) rfl (fun ls hl => ?_)
  exact hend _ _ _ hS (hP.sub [0, 1, 2, 3, 4, 5, 6, 7, 8, 9, 10, 11, 12] rfl) (hD.sub [0, 1, 2, 3, 4, 5, 6, 7, 8, 9, 10, 11, 12] rfl rfl) (lv_sub hl [0, 1, 2, 3] rfl) hG

set_option maxHeartbeats 8000000 in
set_option maxRecDepth 100000 in
theorem k669_shown_g10 {p : Program} {l : Launch} {e : Env} {s : State} {m : MethodId} {args : Array Value} {below : List Frame} {meth : Method} {c : Code} {Q : State → Prop} {A : Nat → Prop} {H : Heap} {locs : List Loc} {ls : Array Slot} {dC : Nat → ClassId} {dI : Nat → Nat → Nat} {z : XZ} {h0 h1 h2 h3 h4 h5 h6 h7 h8 h9 h10 h11 h12 : Nat} {kc0 kc1 kc2 : ClassId} (hl9 : l.stackTraces = false) (hx : p.tables.exec = Jvm.exec) (hb : c.code = cX9_shown) (hml : c.maxLocals = 7) (hown : s.vm.findClass RX9 = some m.cls) (hts : ∀ w ∈ wsL_law, w.before args s = true) (hA : ∀ q : Nat, s.heap.size ≤ q → A q) (hX : XE z A s s.heap) (hT : XT s) (hS : va_S A s.heap H locs) (hP : va_P (dC, dI) xCl [(h0, ce21 h1 h2 h3 h4), (h1, ce201 h5), (h2, ce3 z.1), (h3, ce276 h6), (h4, ce226 h7), (h5, ce200 kc0 h8 h9 h10 h11 h12), (h6, ce275 kc1 (z.2.2.1 128) (z.2.2.1 128) (z.2.2.1 128) (z.2.2.1 128) (z.2.2.1 128) (z.2.2.1 128) (z.2.2.1 128)), (h7, ce200 kc2 (z.2.2.1 128) (z.2.2.1 129) (z.2.2.1 130) (z.2.2.1 131) (z.2.2.1 132)), (h8, ce49), (h9, ce49), (h10, ce49), (h11, ce49), (h12, ce49)] H) (hD : va_D A [(h0, ce21 h1 h2 h3 h4), (h1, ce201 h5), (h2, ce3 z.1), (h3, ce276 h6), (h4, ce226 h7), (h5, ce200 kc0 h8 h9 h10 h11 h12), (h6, ce275 kc1 (z.2.2.1 128) (z.2.2.1 128) (z.2.2.1 128) (z.2.2.1 128) (z.2.2.1 128) (z.2.2.1 128) (z.2.2.1 128)), (h7, ce200 kc2 (z.2.2.1 128) (z.2.2.1 129) (z.2.2.1 130) (z.2.2.1 131) (z.2.2.1 132)), (h8, ce49), (h9, ce49), (h10, ce49), (h11, ce49), (h12, ce49)]) (hK : va_K (dC, dI) xCl [(kc0, .object "java/lang/Object"), (kc1, .object "java/lang/Object"), (kc2, .object "java/lang/Object")] s) (hl : lv_has ls 7 [(3, .int 48), (2, .int 3), (1, .int 0), (0, .ref h0)]) (hG : s.heap.size + 888 ≤ H.size) (hend : ∀ (H' : Heap) (locs' : List Loc) (ls' : Array Slot), va_S A s.heap H' locs' → va_P (dC, dI) xCl [(h0, ce21 h1 h2 h3 h4), (h1, ce201 h5), (h2, ce3 z.1), (h3, ce276 h6), (h4, ce226 h7), (h5, ce200 kc0 h8 h9 h10 h11 h12), (h6, ce275 kc1 (z.2.2.1 128) (z.2.2.1 128) (z.2.2.1 128) (z.2.2.1 128) (z.2.2.1 128) (z.2.2.1 128) (z.2.2.1 128)), (h7, ce200 kc2 (z.2.2.1 128) (z.2.2.1 129) (z.2.2.1 130) (z.2.2.1 131) (z.2.2.1 132)), (h8, ce49), (h9, ce49), (h10, ce49), (h11, ce49), (h12, ce49)] H' → va_D A [(h0, ce21 h1 h2 h3 h4), (h1, ce201 h5), (h2, ce3 z.1), (h3, ce276 h6), (h4, ce226 h7), (h5, ce200 kc0 h8 h9 h10 h11 h12), (h6, ce275 kc1 (z.2.2.1 128) (z.2.2.1 128) (z.2.2.1 128) (z.2.2.1 128) (z.2.2.1 128) (z.2.2.1 128) (z.2.2.1 128)), (h7, ce200 kc2 (z.2.2.1 128) (z.2.2.1 129) (z.2.2.1 130) (z.2.2.1 131) (z.2.2.1 132)), (h8, ce49), (h9, ce49), (h10, ce49), (h11, ce49), (h12, ce49)] → lv_has ls' 7 [(3, .int 49), (1, .int 0), (2, .int 3), (0, .ref h0)] → s.heap.size + 1036 ≤ H'.size → W p l e ({ frames := 5, cells := 1480, slots := 16000, locals := 121 } : Room) s m args below meth c H' locs' 1036 11200 Q (F0 m 23 ls' [])) : W p l e ({ frames := 5, cells := 1480, slots := 16000, locals := 121 } : Room) s m args below meth c H locs 888 9600 Q (F0 m 23 ls []) := by
  refine lv_iload_n hx hb dX9_shown_23 rfl (lv_at hl 0 rfl) ?_
  refine lv_bipush (v := 49) hx hb dX9_shown_24 (by decide) ?_
  refine lv_icmp_gt (tgt := 113) hx hb dX9_shown_26 (by decide) (fun cz => absurd cz (by decide)) (fun _ => ?_)
  refine lv_iconst (v := 0) hx hb dX9_shown_29 (by decide) ?_
  refine lv_istore (lv' := [(4, .int 0), (3, .int 48), (2, .int 3), (1, .int 0), (0, .ref h0)]) hx hb dX9_shown_30 hl (by decide) rfl (fun ls hl => ?_)
  refine lv_aload_n hx hb dX9_shown_32 rfl (lv_at hl 4 rfl) ?_
  refine va_get (D := (dC, dI)) (ci := 8) (v := .ref h3) (C := RX9) (T := TX9) (N := 6) hx hb hts in_X9 hown hK hP 0 rfl rfl 3 (by decide) (hts _ q_66) (fun _ h9 => h9) rfl dX9_shown_33 ?_
  have hM1126 := k619_iterator l hl9 dC dI z h3 h6 H.size
  obtain ⟨hF1124, hC1127⟩ := pc_M hM1126 hP hD hK hS hX hT hA [3] [] rfl rfl rfl
  refine va_callr (va_runV (As := []) (rest := []) ⟨hx, hb, hml, hown, hts⟩ hM1126 (cwV 0 hts (gV q_256 q_257 q_258 q_12 q_255) rfl rfl rfl hV_Jx4a65c_iterator_32c93 ⟨Nat.le_of_ble_eq_true rfl, Nat.le_of_ble_eq_true rfl⟩) ⟨pc_blind, va_recv hK hP (ci := 0) (q0 := 3) rfl rfl, fun U hU hW => ⟨rfl, hC1127 U hU hW⟩⟩ rfl rfl hl.1 rfl (lv_room (Nat.le_of_ble_eq_true rfl)) dX9_shown_36 ⟨(Nat.le_of_ble_eq_true rfl), (Nat.le_of_ble_eq_true rfl)⟩) hS (fun q9 _ h9 => hF1124 q9 h9) hF1124 (fun u1128 r1129 t1128 H1128 L1128 ht1128 hvm1128 hw1128 hB1128 hz1128 hk1128 hS => ?_)
  obtain ⟨a1130, hr1128, hB1128⟩ := hB1128
  obtain ⟨hP, hD, hK⟩ := pq_jn (wz := [(h0, ce21 h1 h2 h3 h4), (h1, ce201 h5), (h2, ce3 z.1), (h4, ce226 h7), (h5, ce200 kc0 h8 h9 h10 h11 h12), (h6, ce275 kc1 (z.2.2.1 128) (z.2.2.1 128) (z.2.2.1 128) (z.2.2.1 128) (z.2.2.1 128) (z.2.2.1 128) (z.2.2.1 128)), (h7, ce200 kc2 (z.2.2.1 128) (z.2.2.1 129) (z.2.2.1 130) (z.2.2.1 131) (z.2.2.1 132)), (h8, ce49), (h9, ce49), (h10, ce49), (h11, ce49), (h12, ce49), (h3, ce276 h6), (a1130, ce292 h3)]) (tz := [(kc0, .object "java/lang/Object"), (kc1, .object "java/lang/Object"), (kc2, .object "java/lang/Object")]) hP hD hK [3] [0, 1, 2] rfl hk1128 hF1124 hB1128.1 ht1128 hvm1128 rfl rfl
  have hG : s.heap.size + 889 ≤ H1128.size := va_gr (g := 888) (g1 := 1) hG (by rw [← ht1128]; exact hB1128.2)
  refine W.eq (g2 := F0 m 39 ls [.ref a1130]) (by rw [hr1128]) ?_
  refine W.widen (k := 889) (n := 9604) (by decide) (by decide) ?_
  refine lv_astore (lv' := [(5, .ref a1130), (4, .int 0), (3, .int 48), (2, .int 3), (1, .int 0), (0, .ref h0)]) hx hb dX9_shown_39 hl (by decide) rfl (fun ls hl => ?_)
  refine lv_aload hx hb dX9_shown_41 (lv_at hl 0 rfl) ?_
  have hM1133 := k620_hasNext l hl9 dC dI z a1130 h3 h6 H1128.size
  obtain ⟨hF1131, hC1134⟩ := pc_M hM1133 hP hD hK hS hX hT hA [13, 12] [] rfl rfl rfl
  refine va_callFi (va_runF (As := []) (rest := []) (hK.1 1 _ rfl).2 ⟨hx, hb, hml, hown, hts⟩ hM1133 (va_cwF 0 hts (gF q_261 q_262 q_263 q_246 q_260) rfl rfl rfl hT.2.2.2.2.2.2.1 hF_xIh ⟨Nat.le_of_ble_eq_true rfl, Nat.le_of_ble_eq_true rfl⟩) ⟨pc_blind, va_recv hK hP (ci := 1) (q0 := 13) rfl rfl, fun U hU hW => ⟨rfl, hC1134 U hU hW⟩⟩ rfl rfl hl.1 rfl (lv_room (Nat.le_of_ble_eq_true rfl)) dX9_shown_43 ⟨(Nat.le_of_ble_eq_true rfl), (Nat.le_of_ble_eq_true rfl)⟩) hS (fun q9 _ h9 => hF1131 q9 h9) hF1131 (fun r1136 u1135 t1135 H1135 L1135 ht1135 hvm1135 hw1135 hB1135 hz1135 hk1135 hS => ?_)
  have hP := pq_keep hP hD [13, 12] rfl hk1135 hB1135.1 ht1135
  have hG : s.heap.size + 889 ≤ H1135.size := Nat.le_trans hG hz1135
  refine W.eq (g2 := F0 m 48 ls [.int 1]) (by rw [hw1135]) ?_
  refine lv_if_eq (tgt := 92) hx hb dX9_shown_48 (by decide) (fun cz => absurd cz (by decide)) (fun _ => ?_)
  refine lv_aload hx hb dX9_shown_51 (lv_at hl 0 rfl) ?_
  have hM1139 := k622_next l hl9 dC dI z a1130 h3 h6 H1135.size kc1
  obtain ⟨hF1137, hC1140⟩ := pc_M hM1139 hP hD hK hS hX hT hA [13, 12, 5] [1] rfl rfl rfl
  refine va_callFr (va_runF (As := []) (rest := []) (hK.1 1 _ rfl).2 ⟨hx, hb, hml, hown, hts⟩ hM1139 (va_cwF 0 hts (gF q_308 q_309 q_310 q_246 q_307) rfl rfl rfl hT.2.2.2.2.2.2.2.1 hF_xIn ⟨Nat.le_of_ble_eq_true rfl, Nat.le_of_ble_eq_true rfl⟩) ⟨pc_blind, va_recv hK hP (ci := 1) (q0 := 13) rfl rfl, fun U hU hW => ⟨rfl, hC1140 U hU hW⟩⟩ rfl rfl hl.1 rfl (lv_room (Nat.le_of_ble_eq_true rfl)) dX9_shown_53 ⟨(Nat.le_of_ble_eq_true rfl), (Nat.le_of_ble_eq_true rfl)⟩) hS (fun q9 _ h9 => hF1137 q9 h9) hF1137 (fun u1141 r1142 t1141 H1141 L1141 ht1141 hvm1141 hw1141 hB1141 hz1141 hk1141 hS => ?_)
  obtain ⟨hr1141, hB1141⟩ := hB1141
  obtain ⟨hP, hD, hK⟩ := pq_jn (wz := [(h0, ce21 h1 h2 h3 h4), (h1, ce201 h5), (h2, ce3 z.1), (h4, ce226 h7), (h5, ce200 kc0 h8 h9 h10 h11 h12), (h7, ce200 kc2 (z.2.2.1 128) (z.2.2.1 129) (z.2.2.1 130) (z.2.2.1 131) (z.2.2.1 132)), (h8, ce49), (h9, ce49), (h10, ce49), (h11, ce49), (h12, ce49), (a1130, ce294 h3), (h3, ce276 h6), (h6, ce275 kc1 (z.2.2.1 128) (z.2.2.1 128) (z.2.2.1 128) (z.2.2.1 128) (z.2.2.1 128) (z.2.2.1 128) (z.2.2.1 128))]) (tz := [(kc0, .object "java/lang/Object"), (kc2, .object "java/lang/Object"), (kc1, .object "java/lang/Object")]) hP hD hK [13, 12, 5] [0, 2] rfl hk1141 hF1137 hB1141.1 ht1141 hvm1141 rfl rfl
  have hG : s.heap.size + 889 ≤ H1141.size := Nat.le_trans hG hz1141
  refine W.eq (g2 := F0 m 58 ls [.ref (z.2.2.1 128)]) (by rw [hr1141]) ?_
  refine va_castE (nm := "java/lang/Integer") hx hb hown (hts _ q_320) (va_Orecv (hX.2.2.1.1.1 128 (by decide)) hS) dX9_shown_58 ?_
  have hM1145 := k74_intValue l hl9 dC dI z H1141.size
  obtain ⟨hF1143, hC1146⟩ := pc_M hM1145 hP hD hK hS hX hT hA [] [] rfl rfl rfl
  refine va_calli (va_runV (As := []) (rest := []) ⟨hx, hb, hml, hown, hts⟩ hM1145 (cwV 0 hts (gV q_323 q_324 q_325 q_297 q_322) rfl rfl rfl hV_J6_intValue_8abf5 ⟨Nat.le_of_ble_eq_true rfl, Nat.le_of_ble_eq_true rfl⟩) ⟨pc_blind, va_Orecv (hX.2.2.1.1.1 128 (by decide)) hS, fun U hU hW => ⟨rfl, hC1146 U hU hW⟩⟩ rfl rfl hl.1 rfl (lv_room (Nat.le_of_ble_eq_true rfl)) dX9_shown_61 ⟨(Nat.le_of_ble_eq_true rfl), (Nat.le_of_ble_eq_true rfl)⟩) hS (fun q9 _ h9 => hF1143 q9 h9) hF1143 (fun r1148 u1147 t1147 H1147 L1147 ht1147 hvm1147 hw1147 hB1147 hz1147 hk1147 hS => ?_)
  have hP := pq_keep hP hD [] rfl hk1147 hB1147.1 ht1147
  have hG : s.heap.size + 889 ≤ H1147.size := Nat.le_trans hG hz1147
  refine W.eq (g2 := F0 m 64 ls [.int 0]) (by rw [hw1147]) ?_
  refine lv_istore (lv' := [(6, .int 0), (5, .ref a1130), (4, .int 0), (3, .int 48), (2, .int 3), (1, .int 0), (0, .ref h0)]) hx hb dX9_shown_64 hl (by decide) rfl (fun ls hl => ?_)
  refine lv_iload hx hb dX9_shown_66 (lv_at hl 2 rfl) ?_
  refine lv_if_ne (tgt := 82) hx hb dX9_shown_68 (by decide) (fun cz => absurd (by decide) cz) (fun _ => ?_)
  refine lv_aload_n hx hb dX9_shown_71 rfl (lv_at hl 6 rfl) ?_
  refine lv_iload_n hx hb dX9_shown_72 rfl (lv_at hl 4 rfl) ?_
  refine lv_iload_n hx hb dX9_shown_73 rfl (lv_at hl 3 rfl) ?_
  refine lv_iload hx hb dX9_shown_74 (lv_at hl 0 rfl) ?_
  have hM1151 := k662_showsIt l hl9 dC dI z h0 h1 h2 h4 h5 h7 h8 h9 h10 h11 h12 h3 H1147.size kc0 kc2
  obtain ⟨hF1149, hC1152⟩ := pc_M hM1151 hP hD hK hS hX hT hA [0, 1, 2, 3, 4, 5, 6, 7, 8, 9, 10] [0, 1] rfl rfl rfl
  refine va_calli (va_runV (As := [.int 3, .int 48, .int 0]) (rest := []) ⟨hx, hb, hml, hown, hts⟩ hM1151 (cwV 3 hts (gV q_429 q_430 q_431 q_60 q_428) rfl rfl rfl hV_X9_showsIt ⟨Nat.le_of_ble_eq_true rfl, Nat.le_of_ble_eq_true rfl⟩) ⟨pc_blind, va_recv hK hP (ci := 8) (q0 := 0) rfl rfl, fun U hU hW => ⟨rfl, hC1152 U hU hW⟩⟩ rfl rfl hl.1 rfl (lv_room (Nat.le_of_ble_eq_true rfl)) dX9_shown_76 ⟨(Nat.le_of_ble_eq_true rfl), (Nat.le_of_ble_eq_true rfl)⟩) hS (fun q9 _ h9 => hF1149 q9 h9) hF1149 (fun r1154 u1153 t1153 H1153 L1153 ht1153 hvm1153 hw1153 hB1153 hz1153 hk1153 hS => ?_)
  have hP := pq_keep hP hD [0, 1, 2, 3, 4, 5, 6, 7, 8, 9, 10] rfl hk1153 hB1153.1 ht1153
  have hG : s.heap.size + 910 ≤ H1153.size := va_gr (g := 889) (g1 := 21) hG (by rw [← ht1153]; exact hB1153.2)
  refine W.eq (g2 := F0 m 79 ls [.int 0]) (by rw [hw1153]) ?_
  refine W.widen (k := 910) (n := 9832) (by decide) (by decide) ?_
  refine lv_if_eq (tgt := 86) hx hb dX9_shown_79 (by decide) (fun _ => ?_) (fun cz => absurd (by decide) cz)
  refine lv_iconst (v := 0) hx hb dX9_shown_86 (by decide) ?_
  refine lv_istore (lv' := [(4, .int 0), (6, .int 0), (5, .ref a1130), (3, .int 48), (2, .int 3), (1, .int 0), (0, .ref h0)]) hx hb dX9_shown_87 hl (by decide) rfl (fun ls hl => ?_)
  refine lv_goto (tgt := 41) hx hb dX9_shown_89 (by decide) ?_
  refine lv_aload hx hb dX9_shown_41 (lv_at hl 2 rfl) ?_
  have hM1157 := k632_hasNext l hl9 dC dI z a1130 h3 h6 H1153.size
  obtain ⟨hF1155, hC1158⟩ := pc_M hM1157 hP hD hK hS hX hT hA [11, 12] [] rfl rfl rfl
  refine va_callFi (va_runF (As := []) (rest := []) (hK.1 1 _ rfl).2 ⟨hx, hb, hml, hown, hts⟩ hM1157 (va_cwF 0 hts (gF q_261 q_262 q_263 q_246 q_260) rfl rfl rfl hT.2.2.2.2.2.2.1 hF_xIh ⟨Nat.le_of_ble_eq_true rfl, Nat.le_of_ble_eq_true rfl⟩) ⟨pc_blind, va_recv hK hP (ci := 1) (q0 := 11) rfl rfl, fun U hU hW => ⟨rfl, hC1158 U hU hW⟩⟩ rfl rfl hl.1 rfl (lv_room (Nat.le_of_ble_eq_true rfl)) dX9_shown_43 ⟨(Nat.le_of_ble_eq_true rfl), (Nat.le_of_ble_eq_true rfl)⟩) hS (fun q9 _ h9 => hF1155 q9 h9) hF1155 (fun r1160 u1159 t1159 H1159 L1159 ht1159 hvm1159 hw1159 hB1159 hz1159 hk1159 hS => ?_)
  have hP := pq_keep hP hD [11, 12] rfl hk1159 hB1159.1 ht1159
  have hG : s.heap.size + 910 ≤ H1159.size := Nat.le_trans hG hz1159
  refine W.eq (g2 := F0 m 48 ls [.int 1]) (by rw [hw1159]) ?_
  refine lv_if_eq (tgt := 92) hx hb dX9_shown_48 (by decide) (fun cz => absurd cz (by decide)) (fun _ => ?_)
  refine lv_aload hx hb dX9_shown_51 (lv_at hl 2 rfl) ?_
  have hM1163 := k634_next l hl9 dC dI z a1130 h3 h6 H1159.size kc1
  obtain ⟨hF1161, hC1164⟩ := pc_M hM1163 hP hD hK hS hX hT hA [11, 12, 13] [2] rfl rfl rfl
  refine va_callFr (va_runF (As := []) (rest := []) (hK.1 1 _ rfl).2 ⟨hx, hb, hml, hown, hts⟩ hM1163 (va_cwF 0 hts (gF q_308 q_309 q_310 q_246 q_307) rfl rfl rfl hT.2.2.2.2.2.2.2.1 hF_xIn ⟨Nat.le_of_ble_eq_true rfl, Nat.le_of_ble_eq_true rfl⟩) ⟨pc_blind, va_recv hK hP (ci := 1) (q0 := 11) rfl rfl, fun U hU hW => ⟨rfl, hC1164 U hU hW⟩⟩ rfl rfl hl.1 rfl (lv_room (Nat.le_of_ble_eq_true rfl)) dX9_shown_53 ⟨(Nat.le_of_ble_eq_true rfl), (Nat.le_of_ble_eq_true rfl)⟩) hS (fun q9 _ h9 => hF1161 q9 h9) hF1161 (fun u1165 r1166 t1165 H1165 L1165 ht1165 hvm1165 hw1165 hB1165 hz1165 hk1165 hS => ?_)
  obtain ⟨hr1165, hB1165⟩ := hB1165
  obtain ⟨hP, hD, hK⟩ := pq_jn (wz := [(h0, ce21 h1 h2 h3 h4), (h1, ce201 h5), (h2, ce3 z.1), (h4, ce226 h7), (h5, ce200 kc0 h8 h9 h10 h11 h12), (h7, ce200 kc2 (z.2.2.1 128) (z.2.2.1 129) (z.2.2.1 130) (z.2.2.1 131) (z.2.2.1 132)), (h8, ce49), (h9, ce49), (h10, ce49), (h11, ce49), (h12, ce49), (a1130, ce310 h3), (h3, ce276 h6), (h6, ce275 kc1 (z.2.2.1 128) (z.2.2.1 128) (z.2.2.1 128) (z.2.2.1 128) (z.2.2.1 128) (z.2.2.1 128) (z.2.2.1 128))]) (tz := [(kc0, .object "java/lang/Object"), (kc2, .object "java/lang/Object"), (kc1, .object "java/lang/Object")]) hP hD hK [11, 12, 13] [0, 1] rfl hk1165 hF1161 hB1165.1 ht1165 hvm1165 rfl rfl
  have hG : s.heap.size + 910 ≤ H1165.size := Nat.le_trans hG hz1165
  refine W.eq (g2 := F0 m 58 ls [.ref (z.2.2.1 128)]) (by rw [hr1165]) ?_
  refine va_castE (nm := "java/lang/Integer") hx hb hown (hts _ q_320) (va_Orecv (hX.2.2.1.1.1 128 (by decide)) hS) dX9_shown_58 ?_
  have hM1169 := k74_intValue l hl9 dC dI z H1165.size
  obtain ⟨hF1167, hC1170⟩ := pc_M hM1169 hP hD hK hS hX hT hA [] [] rfl rfl rfl
  refine va_calli (va_runV (As := []) (rest := []) ⟨hx, hb, hml, hown, hts⟩ hM1169 (cwV 0 hts (gV q_323 q_324 q_325 q_297 q_322) rfl rfl rfl hV_J6_intValue_8abf5 ⟨Nat.le_of_ble_eq_true rfl, Nat.le_of_ble_eq_true rfl⟩) ⟨pc_blind, va_Orecv (hX.2.2.1.1.1 128 (by decide)) hS, fun U hU hW => ⟨rfl, hC1170 U hU hW⟩⟩ rfl rfl hl.1 rfl (lv_room (Nat.le_of_ble_eq_true rfl)) dX9_shown_61 ⟨(Nat.le_of_ble_eq_true rfl), (Nat.le_of_ble_eq_true rfl)⟩) hS (fun q9 _ h9 => hF1167 q9 h9) hF1167 (fun r1172 u1171 t1171 H1171 L1171 ht1171 hvm1171 hw1171 hB1171 hz1171 hk1171 hS => ?_)
  have hP := pq_keep hP hD [] rfl hk1171 hB1171.1 ht1171
  have hG : s.heap.size + 910 ≤ H1171.size := Nat.le_trans hG hz1171
  refine W.eq (g2 := F0 m 64 ls [.int 0]) (by rw [hw1171]) ?_
  refine lv_istore (lv' := [(6, .int 0), (4, .int 0), (5, .ref a1130), (3, .int 48), (2, .int 3), (1, .int 0), (0, .ref h0)]) hx hb dX9_shown_64 hl (by decide) rfl (fun ls hl => ?_)
  refine lv_iload hx hb dX9_shown_66 (lv_at hl 1 rfl) ?_
  refine lv_if_ne (tgt := 82) hx hb dX9_shown_68 (by decide) (fun cz => absurd (by decide) cz) (fun _ => ?_)
  refine lv_aload_n hx hb dX9_shown_71 rfl (lv_at hl 6 rfl) ?_
  refine lv_iload_n hx hb dX9_shown_72 rfl (lv_at hl 4 rfl) ?_
  refine lv_iload_n hx hb dX9_shown_73 rfl (lv_at hl 3 rfl) ?_
  refine lv_iload hx hb dX9_shown_74 (lv_at hl 0 rfl) ?_
  have hM1175 := k662_showsIt l hl9 dC dI z h0 h1 h2 h4 h5 h7 h8 h9 h10 h11 h12 h3 H1171.size kc0 kc2
  obtain ⟨hF1173, hC1176⟩ := pc_M hM1175 hP hD hK hS hX hT hA [0, 1, 2, 3, 4, 5, 6, 7, 8, 9, 10] [0, 1] rfl rfl rfl
  refine va_calli (va_runV (As := [.int 3, .int 48, .int 0]) (rest := []) ⟨hx, hb, hml, hown, hts⟩ hM1175 (cwV 3 hts (gV q_429 q_430 q_431 q_60 q_428) rfl rfl rfl hV_X9_showsIt ⟨Nat.le_of_ble_eq_true rfl, Nat.le_of_ble_eq_true rfl⟩) ⟨pc_blind, va_recv hK hP (ci := 8) (q0 := 0) rfl rfl, fun U hU hW => ⟨rfl, hC1176 U hU hW⟩⟩ rfl rfl hl.1 rfl (lv_room (Nat.le_of_ble_eq_true rfl)) dX9_shown_76 ⟨(Nat.le_of_ble_eq_true rfl), (Nat.le_of_ble_eq_true rfl)⟩) hS (fun q9 _ h9 => hF1173 q9 h9) hF1173 (fun r1178 u1177 t1177 H1177 L1177 ht1177 hvm1177 hw1177 hB1177 hz1177 hk1177 hS => ?_)
  have hP := pq_keep hP hD [0, 1, 2, 3, 4, 5, 6, 7, 8, 9, 10] rfl hk1177 hB1177.1 ht1177
  have hG : s.heap.size + 931 ≤ H1177.size := va_gr (g := 910) (g1 := 21) hG (by rw [← ht1177]; exact hB1177.2)
  refine W.eq (g2 := F0 m 79 ls [.int 0]) (by rw [hw1177]) ?_
  refine W.widen (k := 931) (n := 10060) (by decide) (by decide) ?_
  refine lv_if_eq (tgt := 86) hx hb dX9_shown_79 (by decide) (fun _ => ?_) (fun cz => absurd (by decide) cz)
  refine lv_iconst (v := 0) hx hb dX9_shown_86 (by decide) ?_
  refine lv_istore (lv' := [(4, .int 0), (6, .int 0), (5, .ref a1130), (3, .int 48), (2, .int 3), (1, .int 0), (0, .ref h0)]) hx hb dX9_shown_87 hl (by decide) rfl (fun ls hl => ?_)
  refine lv_goto (tgt := 41) hx hb dX9_shown_89 (by decide) ?_
  refine lv_aload hx hb dX9_shown_41 (lv_at hl 2 rfl) ?_
  have hM1181 := k635_hasNext l hl9 dC dI z a1130 h3 h6 H1177.size
  obtain ⟨hF1179, hC1182⟩ := pc_M hM1181 hP hD hK hS hX hT hA [11, 12] [] rfl rfl rfl
  refine va_callFi (va_runF (As := []) (rest := []) (hK.1 1 _ rfl).2 ⟨hx, hb, hml, hown, hts⟩ hM1181 (va_cwF 0 hts (gF q_261 q_262 q_263 q_246 q_260) rfl rfl rfl hT.2.2.2.2.2.2.1 hF_xIh ⟨Nat.le_of_ble_eq_true rfl, Nat.le_of_ble_eq_true rfl⟩) ⟨pc_blind, va_recv hK hP (ci := 1) (q0 := 11) rfl rfl, fun U hU hW => ⟨rfl, hC1182 U hU hW⟩⟩ rfl rfl hl.1 rfl (lv_room (Nat.le_of_ble_eq_true rfl)) dX9_shown_43 ⟨(Nat.le_of_ble_eq_true rfl), (Nat.le_of_ble_eq_true rfl)⟩) hS (fun q9 _ h9 => hF1179 q9 h9) hF1179 (fun r1184 u1183 t1183 H1183 L1183 ht1183 hvm1183 hw1183 hB1183 hz1183 hk1183 hS => ?_)
  have hP := pq_keep hP hD [11, 12] rfl hk1183 hB1183.1 ht1183
  have hG : s.heap.size + 931 ≤ H1183.size := Nat.le_trans hG hz1183
  refine W.eq (g2 := F0 m 48 ls [.int 1]) (by rw [hw1183]) ?_
  refine lv_if_eq (tgt := 92) hx hb dX9_shown_48 (by decide) (fun cz => absurd cz (by decide)) (fun _ => ?_)
  refine lv_aload hx hb dX9_shown_51 (lv_at hl 2 rfl) ?_
  have hM1187 := k637_next l hl9 dC dI z a1130 h3 h6 H1183.size kc1
  obtain ⟨hF1185, hC1188⟩ := pc_M hM1187 hP hD hK hS hX hT hA [11, 12, 13] [2] rfl rfl rfl
  refine va_callFr (va_runF (As := []) (rest := []) (hK.1 1 _ rfl).2 ⟨hx, hb, hml, hown, hts⟩ hM1187 (va_cwF 0 hts (gF q_308 q_309 q_310 q_246 q_307) rfl rfl rfl hT.2.2.2.2.2.2.2.1 hF_xIn ⟨Nat.le_of_ble_eq_true rfl, Nat.le_of_ble_eq_true rfl⟩) ⟨pc_blind, va_recv hK hP (ci := 1) (q0 := 11) rfl rfl, fun U hU hW => ⟨rfl, hC1188 U hU hW⟩⟩ rfl rfl hl.1 rfl (lv_room (Nat.le_of_ble_eq_true rfl)) dX9_shown_53 ⟨(Nat.le_of_ble_eq_true rfl), (Nat.le_of_ble_eq_true rfl)⟩) hS (fun q9 _ h9 => hF1185 q9 h9) hF1185 (fun u1189 r1190 t1189 H1189 L1189 ht1189 hvm1189 hw1189 hB1189 hz1189 hk1189 hS => ?_)
  obtain ⟨hr1189, hB1189⟩ := hB1189
  obtain ⟨hP, hD, hK⟩ := pq_jn (wz := [(h0, ce21 h1 h2 h3 h4), (h1, ce201 h5), (h2, ce3 z.1), (h4, ce226 h7), (h5, ce200 kc0 h8 h9 h10 h11 h12), (h7, ce200 kc2 (z.2.2.1 128) (z.2.2.1 129) (z.2.2.1 130) (z.2.2.1 131) (z.2.2.1 132)), (h8, ce49), (h9, ce49), (h10, ce49), (h11, ce49), (h12, ce49), (a1130, ce312 h3), (h3, ce276 h6), (h6, ce275 kc1 (z.2.2.1 128) (z.2.2.1 128) (z.2.2.1 128) (z.2.2.1 128) (z.2.2.1 128) (z.2.2.1 128) (z.2.2.1 128))]) (tz := [(kc0, .object "java/lang/Object"), (kc2, .object "java/lang/Object"), (kc1, .object "java/lang/Object")]) hP hD hK [11, 12, 13] [0, 1] rfl hk1189 hF1185 hB1189.1 ht1189 hvm1189 rfl rfl
  have hG : s.heap.size + 931 ≤ H1189.size := Nat.le_trans hG hz1189
  refine W.eq (g2 := F0 m 58 ls [.ref (z.2.2.1 128)]) (by rw [hr1189]) ?_
  refine va_castE (nm := "java/lang/Integer") hx hb hown (hts _ q_320) (va_Orecv (hX.2.2.1.1.1 128 (by decide)) hS) dX9_shown_58 ?_
  have hM1193 := k74_intValue l hl9 dC dI z H1189.size
  obtain ⟨hF1191, hC1194⟩ := pc_M hM1193 hP hD hK hS hX hT hA [] [] rfl rfl rfl
  refine va_calli (va_runV (As := []) (rest := []) ⟨hx, hb, hml, hown, hts⟩ hM1193 (cwV 0 hts (gV q_323 q_324 q_325 q_297 q_322) rfl rfl rfl hV_J6_intValue_8abf5 ⟨Nat.le_of_ble_eq_true rfl, Nat.le_of_ble_eq_true rfl⟩) ⟨pc_blind, va_Orecv (hX.2.2.1.1.1 128 (by decide)) hS, fun U hU hW => ⟨rfl, hC1194 U hU hW⟩⟩ rfl rfl hl.1 rfl (lv_room (Nat.le_of_ble_eq_true rfl)) dX9_shown_61 ⟨(Nat.le_of_ble_eq_true rfl), (Nat.le_of_ble_eq_true rfl)⟩) hS (fun q9 _ h9 => hF1191 q9 h9) hF1191 (fun r1196 u1195 t1195 H1195 L1195 ht1195 hvm1195 hw1195 hB1195 hz1195 hk1195 hS => ?_)
  have hP := pq_keep hP hD [] rfl hk1195 hB1195.1 ht1195
  have hG : s.heap.size + 931 ≤ H1195.size := Nat.le_trans hG hz1195
  refine W.eq (g2 := F0 m 64 ls [.int 0]) (by rw [hw1195]) ?_
  refine lv_istore (lv' := [(6, .int 0), (4, .int 0), (5, .ref a1130), (3, .int 48), (2, .int 3), (1, .int 0), (0, .ref h0)]) hx hb dX9_shown_64 hl (by decide) rfl (fun ls hl => ?_)
  refine lv_iload hx hb dX9_shown_66 (lv_at hl 1 rfl) ?_
  refine lv_if_ne (tgt := 82) hx hb dX9_shown_68 (by decide) (fun cz => absurd (by decide) cz) (fun _ => ?_)
  refine lv_aload_n hx hb dX9_shown_71 rfl (lv_at hl 6 rfl) ?_
  refine lv_iload_n hx hb dX9_shown_72 rfl (lv_at hl 4 rfl) ?_
  refine lv_iload_n hx hb dX9_shown_73 rfl (lv_at hl 3 rfl) ?_
  refine lv_iload hx hb dX9_shown_74 (lv_at hl 0 rfl) ?_
  have hM1199 := k662_showsIt l hl9 dC dI z h0 h1 h2 h4 h5 h7 h8 h9 h10 h11 h12 h3 H1195.size kc0 kc2
  obtain ⟨hF1197, hC1200⟩ := pc_M hM1199 hP hD hK hS hX hT hA [0, 1, 2, 3, 4, 5, 6, 7, 8, 9, 10] [0, 1] rfl rfl rfl
  refine va_calli (va_runV (As := [.int 3, .int 48, .int 0]) (rest := []) ⟨hx, hb, hml, hown, hts⟩ hM1199 (cwV 3 hts (gV q_429 q_430 q_431 q_60 q_428) rfl rfl rfl hV_X9_showsIt ⟨Nat.le_of_ble_eq_true rfl, Nat.le_of_ble_eq_true rfl⟩) ⟨pc_blind, va_recv hK hP (ci := 8) (q0 := 0) rfl rfl, fun U hU hW => ⟨rfl, hC1200 U hU hW⟩⟩ rfl rfl hl.1 rfl (lv_room (Nat.le_of_ble_eq_true rfl)) dX9_shown_76 ⟨(Nat.le_of_ble_eq_true rfl), (Nat.le_of_ble_eq_true rfl)⟩) hS (fun q9 _ h9 => hF1197 q9 h9) hF1197 (fun r1202 u1201 t1201 H1201 L1201 ht1201 hvm1201 hw1201 hB1201 hz1201 hk1201 hS => ?_)
  have hP := pq_keep hP hD [0, 1, 2, 3, 4, 5, 6, 7, 8, 9, 10] rfl hk1201 hB1201.1 ht1201
  have hG : s.heap.size + 952 ≤ H1201.size := va_gr (g := 931) (g1 := 21) hG (by rw [← ht1201]; exact hB1201.2)
  refine W.eq (g2 := F0 m 79 ls [.int 0]) (by rw [hw1201]) ?_
  refine W.widen (k := 952) (n := 10288) (by decide) (by decide) ?_
  refine lv_if_eq (tgt := 86) hx hb dX9_shown_79 (by decide) (fun _ => ?_) (fun cz => absurd (by decide) cz)
  refine lv_iconst (v := 0) hx hb dX9_shown_86 (by decide) ?_
  refine lv_istore (lv' := [(4, .int 0), (6, .int 0), (5, .ref a1130), (3, .int 48), (2, .int 3), (1, .int 0), (0, .ref h0)]) hx hb dX9_shown_87 hl (by decide) rfl (fun ls hl => ?_)
  refine lv_goto (tgt := 41) hx hb dX9_shown_89 (by decide) ?_
  refine lv_aload hx hb dX9_shown_41 (lv_at hl 2 rfl) ?_
  have hM1205 := k638_hasNext l hl9 dC dI z a1130 h3 h6 H1201.size
  obtain ⟨hF1203, hC1206⟩ := pc_M hM1205 hP hD hK hS hX hT hA [11, 12] [] rfl rfl rfl
  refine va_callFi (va_runF (As := []) (rest := []) (hK.1 1 _ rfl).2 ⟨hx, hb, hml, hown, hts⟩ hM1205 (va_cwF 0 hts (gF q_261 q_262 q_263 q_246 q_260) rfl rfl rfl hT.2.2.2.2.2.2.1 hF_xIh ⟨Nat.le_of_ble_eq_true rfl, Nat.le_of_ble_eq_true rfl⟩) ⟨pc_blind, va_recv hK hP (ci := 1) (q0 := 11) rfl rfl, fun U hU hW => ⟨rfl, hC1206 U hU hW⟩⟩ rfl rfl hl.1 rfl (lv_room (Nat.le_of_ble_eq_true rfl)) dX9_shown_43 ⟨(Nat.le_of_ble_eq_true rfl), (Nat.le_of_ble_eq_true rfl)⟩) hS (fun q9 _ h9 => hF1203 q9 h9) hF1203 (fun r1208 u1207 t1207 H1207 L1207 ht1207 hvm1207 hw1207 hB1207 hz1207 hk1207 hS => ?_)
  have hP := pq_keep hP hD [11, 12] rfl hk1207 hB1207.1 ht1207
  have hG : s.heap.size + 952 ≤ H1207.size := Nat.le_trans hG hz1207
  refine W.eq (g2 := F0 m 48 ls [.int 1]) (by rw [hw1207]) ?_
  refine lv_if_eq (tgt := 92) hx hb dX9_shown_48 (by decide) (fun cz => absurd cz (by decide)) (fun _ => ?_)
  refine lv_aload hx hb dX9_shown_51 (lv_at hl 2 rfl) ?_
  have hM1211 := k640_next l hl9 dC dI z a1130 h3 h6 H1207.size kc1
  obtain ⟨hF1209, hC1212⟩ := pc_M hM1211 hP hD hK hS hX hT hA [11, 12, 13] [2] rfl rfl rfl
  refine va_callFr (va_runF (As := []) (rest := []) (hK.1 1 _ rfl).2 ⟨hx, hb, hml, hown, hts⟩ hM1211 (va_cwF 0 hts (gF q_308 q_309 q_310 q_246 q_307) rfl rfl rfl hT.2.2.2.2.2.2.2.1 hF_xIn ⟨Nat.le_of_ble_eq_true rfl, Nat.le_of_ble_eq_true rfl⟩) ⟨pc_blind, va_recv hK hP (ci := 1) (q0 := 11) rfl rfl, fun U hU hW => ⟨rfl, hC1212 U hU hW⟩⟩ rfl rfl hl.1 rfl (lv_room (Nat.le_of_ble_eq_true rfl)) dX9_shown_53 ⟨(Nat.le_of_ble_eq_true rfl), (Nat.le_of_ble_eq_true rfl)⟩) hS (fun q9 _ h9 => hF1209 q9 h9) hF1209 (fun u1213 r1214 t1213 H1213 L1213 ht1213 hvm1213 hw1213 hB1213 hz1213 hk1213 hS => ?_)
  obtain ⟨hr1213, hB1213⟩ := hB1213
  obtain ⟨hP, hD, hK⟩ := pq_jn (wz := [(h0, ce21 h1 h2 h3 h4), (h1, ce201 h5), (h2, ce3 z.1), (h4, ce226 h7), (h5, ce200 kc0 h8 h9 h10 h11 h12), (h7, ce200 kc2 (z.2.2.1 128) (z.2.2.1 129) (z.2.2.1 130) (z.2.2.1 131) (z.2.2.1 132)), (h8, ce49), (h9, ce49), (h10, ce49), (h11, ce49), (h12, ce49), (a1130, ce314 h3), (h3, ce276 h6), (h6, ce275 kc1 (z.2.2.1 128) (z.2.2.1 128) (z.2.2.1 128) (z.2.2.1 128) (z.2.2.1 128) (z.2.2.1 128) (z.2.2.1 128))]) (tz := [(kc0, .object "java/lang/Object"), (kc2, .object "java/lang/Object"), (kc1, .object "java/lang/Object")]) hP hD hK [11, 12, 13] [0, 1] rfl hk1213 hF1209 hB1213.1 ht1213 hvm1213 rfl rfl
  have hG : s.heap.size + 952 ≤ H1213.size := Nat.le_trans hG hz1213
  refine W.eq (g2 := F0 m 58 ls [.ref (z.2.2.1 128)]) (by rw [hr1213]) ?_
  refine va_castE (nm := "java/lang/Integer") hx hb hown (hts _ q_320) (va_Orecv (hX.2.2.1.1.1 128 (by decide)) hS) dX9_shown_58 ?_
  have hM1217 := k74_intValue l hl9 dC dI z H1213.size
  obtain ⟨hF1215, hC1218⟩ := pc_M hM1217 hP hD hK hS hX hT hA [] [] rfl rfl rfl
  refine va_calli (va_runV (As := []) (rest := []) ⟨hx, hb, hml, hown, hts⟩ hM1217 (cwV 0 hts (gV q_323 q_324 q_325 q_297 q_322) rfl rfl rfl hV_J6_intValue_8abf5 ⟨Nat.le_of_ble_eq_true rfl, Nat.le_of_ble_eq_true rfl⟩) ⟨pc_blind, va_Orecv (hX.2.2.1.1.1 128 (by decide)) hS, fun U hU hW => ⟨rfl, hC1218 U hU hW⟩⟩ rfl rfl hl.1 rfl (lv_room (Nat.le_of_ble_eq_true rfl)) dX9_shown_61 ⟨(Nat.le_of_ble_eq_true rfl), (Nat.le_of_ble_eq_true rfl)⟩) hS (fun q9 _ h9 => hF1215 q9 h9) hF1215 (fun r1220 u1219 t1219 H1219 L1219 ht1219 hvm1219 hw1219 hB1219 hz1219 hk1219 hS => ?_)
  have hP := pq_keep hP hD [] rfl hk1219 hB1219.1 ht1219
  have hG : s.heap.size + 952 ≤ H1219.size := Nat.le_trans hG hz1219
  refine W.eq (g2 := F0 m 64 ls [.int 0]) (by rw [hw1219]) ?_
  refine lv_istore (lv' := [(6, .int 0), (4, .int 0), (5, .ref a1130), (3, .int 48), (2, .int 3), (1, .int 0), (0, .ref h0)]) hx hb dX9_shown_64 hl (by decide) rfl (fun ls hl => ?_)
  refine lv_iload hx hb dX9_shown_66 (lv_at hl 1 rfl) ?_
  refine lv_if_ne (tgt := 82) hx hb dX9_shown_68 (by decide) (fun cz => absurd (by decide) cz) (fun _ => ?_)
  refine lv_aload_n hx hb dX9_shown_71 rfl (lv_at hl 6 rfl) ?_
  refine lv_iload_n hx hb dX9_shown_72 rfl (lv_at hl 4 rfl) ?_
  refine lv_iload_n hx hb dX9_shown_73 rfl (lv_at hl 3 rfl) ?_
  refine lv_iload hx hb dX9_shown_74 (lv_at hl 0 rfl) ?_
  have hM1223 := k662_showsIt l hl9 dC dI z h0 h1 h2 h4 h5 h7 h8 h9 h10 h11 h12 h3 H1219.size kc0 kc2
  obtain ⟨hF1221, hC1224⟩ := pc_M hM1223 hP hD hK hS hX hT hA [0, 1, 2, 3, 4, 5, 6, 7, 8, 9, 10] [0, 1] rfl rfl rfl
  refine va_calli (va_runV (As := [.int 3, .int 48, .int 0]) (rest := []) ⟨hx, hb, hml, hown, hts⟩ hM1223 (cwV 3 hts (gV q_429 q_430 q_431 q_60 q_428) rfl rfl rfl hV_X9_showsIt ⟨Nat.le_of_ble_eq_true rfl, Nat.le_of_ble_eq_true rfl⟩) ⟨pc_blind, va_recv hK hP (ci := 8) (q0 := 0) rfl rfl, fun U hU hW => ⟨rfl, hC1224 U hU hW⟩⟩ rfl rfl hl.1 rfl (lv_room (Nat.le_of_ble_eq_true rfl)) dX9_shown_76 ⟨(Nat.le_of_ble_eq_true rfl), (Nat.le_of_ble_eq_true rfl)⟩) hS (fun q9 _ h9 => hF1221 q9 h9) hF1221 (fun r1226 u1225 t1225 H1225 L1225 ht1225 hvm1225 hw1225 hB1225 hz1225 hk1225 hS => ?_)
  have hP := pq_keep hP hD [0, 1, 2, 3, 4, 5, 6, 7, 8, 9, 10] rfl hk1225 hB1225.1 ht1225
  have hG : s.heap.size + 973 ≤ H1225.size := va_gr (g := 952) (g1 := 21) hG (by rw [← ht1225]; exact hB1225.2)
  refine W.eq (g2 := F0 m 79 ls [.int 0]) (by rw [hw1225]) ?_
  refine W.widen (k := 973) (n := 10516) (by decide) (by decide) ?_
  refine lv_if_eq (tgt := 86) hx hb dX9_shown_79 (by decide) (fun _ => ?_) (fun cz => absurd (by decide) cz)
  refine lv_iconst (v := 0) hx hb dX9_shown_86 (by decide) ?_
  refine lv_istore (lv' := [(4, .int 0), (6, .int 0), (5, .ref a1130), (3, .int 48), (2, .int 3), (1, .int 0), (0, .ref h0)]) hx hb dX9_shown_87 hl (by decide) rfl (fun ls hl => ?_)
  refine lv_goto (tgt := 41) hx hb dX9_shown_89 (by decide) ?_
  refine lv_aload hx hb dX9_shown_41 (lv_at hl 2 rfl) ?_
  have hM1229 := k641_hasNext l hl9 dC dI z a1130 h3 h6 H1225.size
  obtain ⟨hF1227, hC1230⟩ := pc_M hM1229 hP hD hK hS hX hT hA [11, 12] [] rfl rfl rfl
  refine va_callFi (va_runF (As := []) (rest := []) (hK.1 1 _ rfl).2 ⟨hx, hb, hml, hown, hts⟩ hM1229 (va_cwF 0 hts (gF q_261 q_262 q_263 q_246 q_260) rfl rfl rfl hT.2.2.2.2.2.2.1 hF_xIh ⟨Nat.le_of_ble_eq_true rfl, Nat.le_of_ble_eq_true rfl⟩) ⟨pc_blind, va_recv hK hP (ci := 1) (q0 := 11) rfl rfl, fun U hU hW => ⟨rfl, hC1230 U hU hW⟩⟩ rfl rfl hl.1 rfl (lv_room (Nat.le_of_ble_eq_true rfl)) dX9_shown_43 ⟨(Nat.le_of_ble_eq_true rfl), (Nat.le_of_ble_eq_true rfl)⟩) hS (fun q9 _ h9 => hF1227 q9 h9) hF1227 (fun r1232 u1231 t1231 H1231 L1231 ht1231 hvm1231 hw1231 hB1231 hz1231 hk1231 hS => ?_)
  have hP := pq_keep hP hD [11, 12] rfl hk1231 hB1231.1 ht1231
  have hG : s.heap.size + 973 ≤ H1231.size := Nat.le_trans hG hz1231
  refine W.eq (g2 := F0 m 48 ls [.int 1]) (by rw [hw1231]) ?_
  refine lv_if_eq (tgt := 92) hx hb dX9_shown_48 (by decide) (fun cz => absurd cz (by decide)) (fun _ => ?_)
  refine lv_aload hx hb dX9_shown_51 (lv_at hl 2 rfl) ?_
  have hM1235 := k643_next l hl9 dC dI z a1130 h3 h6 H1231.size kc1
  obtain ⟨hF1233, hC1236⟩ := pc_M hM1235 hP hD hK hS hX hT hA [11, 12, 13] [2] rfl rfl rfl
  refine va_callFr (va_runF (As := []) (rest := []) (hK.1 1 _ rfl).2 ⟨hx, hb, hml, hown, hts⟩ hM1235 (va_cwF 0 hts (gF q_308 q_309 q_310 q_246 q_307) rfl rfl rfl hT.2.2.2.2.2.2.2.1 hF_xIn ⟨Nat.le_of_ble_eq_true rfl, Nat.le_of_ble_eq_true rfl⟩) ⟨pc_blind, va_recv hK hP (ci := 1) (q0 := 11) rfl rfl, fun U hU hW => ⟨rfl, hC1236 U hU hW⟩⟩ rfl rfl hl.1 rfl (lv_room (Nat.le_of_ble_eq_true rfl)) dX9_shown_53 ⟨(Nat.le_of_ble_eq_true rfl), (Nat.le_of_ble_eq_true rfl)⟩) hS (fun q9 _ h9 => hF1233 q9 h9) hF1233 (fun u1237 r1238 t1237 H1237 L1237 ht1237 hvm1237 hw1237 hB1237 hz1237 hk1237 hS => ?_)
  obtain ⟨hr1237, hB1237⟩ := hB1237
  obtain ⟨hP, hD, hK⟩ := pq_jn (wz := [(h0, ce21 h1 h2 h3 h4), (h1, ce201 h5), (h2, ce3 z.1), (h4, ce226 h7), (h5, ce200 kc0 h8 h9 h10 h11 h12), (h7, ce200 kc2 (z.2.2.1 128) (z.2.2.1 129) (z.2.2.1 130) (z.2.2.1 131) (z.2.2.1 132)), (h8, ce49), (h9, ce49), (h10, ce49), (h11, ce49), (h12, ce49), (a1130, ce316 h3), (h3, ce276 h6), (h6, ce275 kc1 (z.2.2.1 128) (z.2.2.1 128) (z.2.2.1 128) (z.2.2.1 128) (z.2.2.1 128) (z.2.2.1 128) (z.2.2.1 128))]) (tz := [(kc0, .object "java/lang/Object"), (kc2, .object "java/lang/Object"), (kc1, .object "java/lang/Object")]) hP hD hK [11, 12, 13] [0, 1] rfl hk1237 hF1233 hB1237.1 ht1237 hvm1237 rfl rfl
  have hG : s.heap.size + 973 ≤ H1237.size := Nat.le_trans hG hz1237
  refine W.eq (g2 := F0 m 58 ls [.ref (z.2.2.1 128)]) (by rw [hr1237]) ?_
  refine va_castE (nm := "java/lang/Integer") hx hb hown (hts _ q_320) (va_Orecv (hX.2.2.1.1.1 128 (by decide)) hS) dX9_shown_58 ?_
  have hM1241 := k74_intValue l hl9 dC dI z H1237.size
  obtain ⟨hF1239, hC1242⟩ := pc_M hM1241 hP hD hK hS hX hT hA [] [] rfl rfl rfl
  refine va_calli (va_runV (As := []) (rest := []) ⟨hx, hb, hml, hown, hts⟩ hM1241 (cwV 0 hts (gV q_323 q_324 q_325 q_297 q_322) rfl rfl rfl hV_J6_intValue_8abf5 ⟨Nat.le_of_ble_eq_true rfl, Nat.le_of_ble_eq_true rfl⟩) ⟨pc_blind, va_Orecv (hX.2.2.1.1.1 128 (by decide)) hS, fun U hU hW => ⟨rfl, hC1242 U hU hW⟩⟩ rfl rfl hl.1 rfl (lv_room (Nat.le_of_ble_eq_true rfl)) dX9_shown_61 ⟨(Nat.le_of_ble_eq_true rfl), (Nat.le_of_ble_eq_true rfl)⟩) hS (fun q9 _ h9 => hF1239 q9 h9) hF1239 (fun r1244 u1243 t1243 H1243 L1243 ht1243 hvm1243 hw1243 hB1243 hz1243 hk1243 hS => ?_)
  have hP := pq_keep hP hD [] rfl hk1243 hB1243.1 ht1243
  have hG : s.heap.size + 973 ≤ H1243.size := Nat.le_trans hG hz1243
  refine W.eq (g2 := F0 m 64 ls [.int 0]) (by rw [hw1243]) ?_
  refine lv_istore (lv' := [(6, .int 0), (4, .int 0), (5, .ref a1130), (3, .int 48), (2, .int 3), (1, .int 0), (0, .ref h0)]) hx hb dX9_shown_64 hl (by decide) rfl (fun ls hl => ?_)
  refine lv_iload hx hb dX9_shown_66 (lv_at hl 1 rfl) ?_
  refine lv_if_ne (tgt := 82) hx hb dX9_shown_68 (by decide) (fun cz => absurd (by decide) cz) (fun _ => ?_)
  refine lv_aload_n hx hb dX9_shown_71 rfl (lv_at hl 6 rfl) ?_
  refine lv_iload_n hx hb dX9_shown_72 rfl (lv_at hl 4 rfl) ?_
  refine lv_iload_n hx hb dX9_shown_73 rfl (lv_at hl 3 rfl) ?_
  refine lv_iload hx hb dX9_shown_74 (lv_at hl 0 rfl) ?_
  have hM1247 := k662_showsIt l hl9 dC dI z h0 h1 h2 h4 h5 h7 h8 h9 h10 h11 h12 h3 H1243.size kc0 kc2
  obtain ⟨hF1245, hC1248⟩ := pc_M hM1247 hP hD hK hS hX hT hA [0, 1, 2, 3, 4, 5, 6, 7, 8, 9, 10] [0, 1] rfl rfl rfl
  refine va_calli (va_runV (As := [.int 3, .int 48, .int 0]) (rest := []) ⟨hx, hb, hml, hown, hts⟩ hM1247 (cwV 3 hts (gV q_429 q_430 q_431 q_60 q_428) rfl rfl rfl hV_X9_showsIt ⟨Nat.le_of_ble_eq_true rfl, Nat.le_of_ble_eq_true rfl⟩) ⟨pc_blind, va_recv hK hP (ci := 8) (q0 := 0) rfl rfl, fun U hU hW => ⟨rfl, hC1248 U hU hW⟩⟩ rfl rfl hl.1 rfl (lv_room (Nat.le_of_ble_eq_true rfl)) dX9_shown_76 ⟨(Nat.le_of_ble_eq_true rfl), (Nat.le_of_ble_eq_true rfl)⟩) hS (fun q9 _ h9 => hF1245 q9 h9) hF1245 (fun r1250 u1249 t1249 H1249 L1249 ht1249 hvm1249 hw1249 hB1249 hz1249 hk1249 hS => ?_)
  have hP := pq_keep hP hD [0, 1, 2, 3, 4, 5, 6, 7, 8, 9, 10] rfl hk1249 hB1249.1 ht1249
  have hG : s.heap.size + 994 ≤ H1249.size := va_gr (g := 973) (g1 := 21) hG (by rw [← ht1249]; exact hB1249.2)
  refine W.eq (g2 := F0 m 79 ls [.int 0]) (by rw [hw1249]) ?_
  refine W.widen (k := 994) (n := 10744) (by decide) (by decide) ?_
  refine lv_if_eq (tgt := 86) hx hb dX9_shown_79 (by decide) (fun _ => ?_) (fun cz => absurd (by decide) cz)
  refine lv_iconst (v := 0) hx hb dX9_shown_86 (by decide) ?_
  refine lv_istore (lv' := [(4, .int 0), (6, .int 0), (5, .ref a1130), (3, .int 48), (2, .int 3), (1, .int 0), (0, .ref h0)]) hx hb dX9_shown_87 hl (by decide) rfl (fun ls hl => ?_)
  refine lv_goto (tgt := 41) hx hb dX9_shown_89 (by decide) ?_
  refine lv_aload hx hb dX9_shown_41 (lv_at hl 2 rfl) ?_
  have hM1253 := k644_hasNext l hl9 dC dI z a1130 h3 h6 H1249.size
  obtain ⟨hF1251, hC1254⟩ := pc_M hM1253 hP hD hK hS hX hT hA [11, 12] [] rfl rfl rfl
  refine va_callFi (va_runF (As := []) (rest := []) (hK.1 1 _ rfl).2 ⟨hx, hb, hml, hown, hts⟩ hM1253 (va_cwF 0 hts (gF q_261 q_262 q_263 q_246 q_260) rfl rfl rfl hT.2.2.2.2.2.2.1 hF_xIh ⟨Nat.le_of_ble_eq_true rfl, Nat.le_of_ble_eq_true rfl⟩) ⟨pc_blind, va_recv hK hP (ci := 1) (q0 := 11) rfl rfl, fun U hU hW => ⟨rfl, hC1254 U hU hW⟩⟩ rfl rfl hl.1 rfl (lv_room (Nat.le_of_ble_eq_true rfl)) dX9_shown_43 ⟨(Nat.le_of_ble_eq_true rfl), (Nat.le_of_ble_eq_true rfl)⟩) hS (fun q9 _ h9 => hF1251 q9 h9) hF1251 (fun r1256 u1255 t1255 H1255 L1255 ht1255 hvm1255 hw1255 hB1255 hz1255 hk1255 hS => ?_)
  have hP := pq_keep hP hD [11, 12] rfl hk1255 hB1255.1 ht1255
  have hG : s.heap.size + 994 ≤ H1255.size := Nat.le_trans hG hz1255
  refine W.eq (g2 := F0 m 48 ls [.int 1]) (by rw [hw1255]) ?_
  refine lv_if_eq (tgt := 92) hx hb dX9_shown_48 (by decide) (fun cz => absurd cz (by decide)) (fun _ => ?_)
  refine lv_aload hx hb dX9_shown_51 (lv_at hl 2 rfl) ?_
  have hM1259 := k646_next l hl9 dC dI z a1130 h3 h6 H1255.size kc1
  obtain ⟨hF1257, hC1260⟩ := pc_M hM1259 hP hD hK hS hX hT hA [11, 12, 13] [2] rfl rfl rfl
  refine va_callFr (va_runF (As := []) (rest := []) (hK.1 1 _ rfl).2 ⟨hx, hb, hml, hown, hts⟩ hM1259 (va_cwF 0 hts (gF q_308 q_309 q_310 q_246 q_307) rfl rfl rfl hT.2.2.2.2.2.2.2.1 hF_xIn ⟨Nat.le_of_ble_eq_true rfl, Nat.le_of_ble_eq_true rfl⟩) ⟨pc_blind, va_recv hK hP (ci := 1) (q0 := 11) rfl rfl, fun U hU hW => ⟨rfl, hC1260 U hU hW⟩⟩ rfl rfl hl.1 rfl (lv_room (Nat.le_of_ble_eq_true rfl)) dX9_shown_53 ⟨(Nat.le_of_ble_eq_true rfl), (Nat.le_of_ble_eq_true rfl)⟩) hS (fun q9 _ h9 => hF1257 q9 h9) hF1257 (fun u1261 r1262 t1261 H1261 L1261 ht1261 hvm1261 hw1261 hB1261 hz1261 hk1261 hS => ?_)
  obtain ⟨hr1261, hB1261⟩ := hB1261
  obtain ⟨hP, hD, hK⟩ := pq_jn (wz := [(h0, ce21 h1 h2 h3 h4), (h1, ce201 h5), (h2, ce3 z.1), (h4, ce226 h7), (h5, ce200 kc0 h8 h9 h10 h11 h12), (h7, ce200 kc2 (z.2.2.1 128) (z.2.2.1 129) (z.2.2.1 130) (z.2.2.1 131) (z.2.2.1 132)), (h8, ce49), (h9, ce49), (h10, ce49), (h11, ce49), (h12, ce49), (a1130, ce318 h3), (h3, ce276 h6), (h6, ce275 kc1 (z.2.2.1 128) (z.2.2.1 128) (z.2.2.1 128) (z.2.2.1 128) (z.2.2.1 128) (z.2.2.1 128) (z.2.2.1 128))]) (tz := [(kc0, .object "java/lang/Object"), (kc2, .object "java/lang/Object"), (kc1, .object "java/lang/Object")]) hP hD hK [11, 12, 13] [0, 1] rfl hk1261 hF1257 hB1261.1 ht1261 hvm1261 rfl rfl
  have hG : s.heap.size + 994 ≤ H1261.size := Nat.le_trans hG hz1261
  refine W.eq (g2 := F0 m 58 ls [.ref (z.2.2.1 128)]) (by rw [hr1261]) ?_
  refine va_castE (nm := "java/lang/Integer") hx hb hown (hts _ q_320) (va_Orecv (hX.2.2.1.1.1 128 (by decide)) hS) dX9_shown_58 ?_
  have hM1265 := k74_intValue l hl9 dC dI z H1261.size
  obtain ⟨hF1263, hC1266⟩ := pc_M hM1265 hP hD hK hS hX hT hA [] [] rfl rfl rfl
  refine va_calli (va_runV (As := []) (rest := []) ⟨hx, hb, hml, hown, hts⟩ hM1265 (cwV 0 hts (gV q_323 q_324 q_325 q_297 q_322) rfl rfl rfl hV_J6_intValue_8abf5 ⟨Nat.le_of_ble_eq_true rfl, Nat.le_of_ble_eq_true rfl⟩) ⟨pc_blind, va_Orecv (hX.2.2.1.1.1 128 (by decide)) hS, fun U hU hW => ⟨rfl, hC1266 U hU hW⟩⟩ rfl rfl hl.1 rfl (lv_room (Nat.le_of_ble_eq_true rfl)) dX9_shown_61 ⟨(Nat.le_of_ble_eq_true rfl), (Nat.le_of_ble_eq_true rfl)⟩) hS (fun q9 _ h9 => hF1263 q9 h9) hF1263 (fun r1268 u1267 t1267 H1267 L1267 ht1267 hvm1267 hw1267 hB1267 hz1267 hk1267 hS => ?_)
  have hP := pq_keep hP hD [] rfl hk1267 hB1267.1 ht1267
  have hG : s.heap.size + 994 ≤ H1267.size := Nat.le_trans hG hz1267
  refine W.eq (g2 := F0 m 64 ls [.int 0]) (by rw [hw1267]) ?_
  refine lv_istore (lv' := [(6, .int 0), (4, .int 0), (5, .ref a1130), (3, .int 48), (2, .int 3), (1, .int 0), (0, .ref h0)]) hx hb dX9_shown_64 hl (by decide) rfl (fun ls hl => ?_)
  refine lv_iload hx hb dX9_shown_66 (lv_at hl 1 rfl) ?_
  refine lv_if_ne (tgt := 82) hx hb dX9_shown_68 (by decide) (fun cz => absurd (by decide) cz) (fun _ => ?_)
  refine lv_aload_n hx hb dX9_shown_71 rfl (lv_at hl 6 rfl) ?_
  refine lv_iload_n hx hb dX9_shown_72 rfl (lv_at hl 4 rfl) ?_
  refine lv_iload_n hx hb dX9_shown_73 rfl (lv_at hl 3 rfl) ?_
  refine lv_iload hx hb dX9_shown_74 (lv_at hl 0 rfl) ?_
  have hM1271 := k662_showsIt l hl9 dC dI z h0 h1 h2 h4 h5 h7 h8 h9 h10 h11 h12 h3 H1267.size kc0 kc2
  obtain ⟨hF1269, hC1272⟩ := pc_M hM1271 hP hD hK hS hX hT hA [0, 1, 2, 3, 4, 5, 6, 7, 8, 9, 10] [0, 1] rfl rfl rfl
  refine va_calli (va_runV (As := [.int 3, .int 48, .int 0]) (rest := []) ⟨hx, hb, hml, hown, hts⟩ hM1271 (cwV 3 hts (gV q_429 q_430 q_431 q_60 q_428) rfl rfl rfl hV_X9_showsIt ⟨Nat.le_of_ble_eq_true rfl, Nat.le_of_ble_eq_true rfl⟩) ⟨pc_blind, va_recv hK hP (ci := 8) (q0 := 0) rfl rfl, fun U hU hW => ⟨rfl, hC1272 U hU hW⟩⟩ rfl rfl hl.1 rfl (lv_room (Nat.le_of_ble_eq_true rfl)) dX9_shown_76 ⟨(Nat.le_of_ble_eq_true rfl), (Nat.le_of_ble_eq_true rfl)⟩) hS (fun q9 _ h9 => hF1269 q9 h9) hF1269 (fun r1274 u1273 t1273 H1273 L1273 ht1273 hvm1273 hw1273 hB1273 hz1273 hk1273 hS => ?_)
  have hP := pq_keep hP hD [0, 1, 2, 3, 4, 5, 6, 7, 8, 9, 10] rfl hk1273 hB1273.1 ht1273
  have hG : s.heap.size + 1015 ≤ H1273.size := va_gr (g := 994) (g1 := 21) hG (by rw [← ht1273]; exact hB1273.2)
  refine W.eq (g2 := F0 m 79 ls [.int 0]) (by rw [hw1273]) ?_
  refine W.widen (k := 1015) (n := 10972) (by decide) (by decide) ?_
  refine lv_if_eq (tgt := 86) hx hb dX9_shown_79 (by decide) (fun _ => ?_) (fun cz => absurd (by decide) cz)
  refine lv_iconst (v := 0) hx hb dX9_shown_86 (by decide) ?_
  refine lv_istore (lv' := [(4, .int 0), (6, .int 0), (5, .ref a1130), (3, .int 48), (2, .int 3), (1, .int 0), (0, .ref h0)]) hx hb dX9_shown_87 hl (by decide) rfl (fun ls hl => ?_)
  refine lv_goto (tgt := 41) hx hb dX9_shown_89 (by decide) ?_
  refine lv_aload hx hb dX9_shown_41 (lv_at hl 2 rfl) ?_
  have hM1277 := k647_hasNext l hl9 dC dI z a1130 h3 h6 H1273.size
  obtain ⟨hF1275, hC1278⟩ := pc_M hM1277 hP hD hK hS hX hT hA [11, 12] [] rfl rfl rfl
  refine va_callFi (va_runF (As := []) (rest := []) (hK.1 1 _ rfl).2 ⟨hx, hb, hml, hown, hts⟩ hM1277 (va_cwF 0 hts (gF q_261 q_262 q_263 q_246 q_260) rfl rfl rfl hT.2.2.2.2.2.2.1 hF_xIh ⟨Nat.le_of_ble_eq_true rfl, Nat.le_of_ble_eq_true rfl⟩) ⟨pc_blind, va_recv hK hP (ci := 1) (q0 := 11) rfl rfl, fun U hU hW => ⟨rfl, hC1278 U hU hW⟩⟩ rfl rfl hl.1 rfl (lv_room (Nat.le_of_ble_eq_true rfl)) dX9_shown_43 ⟨(Nat.le_of_ble_eq_true rfl), (Nat.le_of_ble_eq_true rfl)⟩) hS (fun q9 _ h9 => hF1275 q9 h9) hF1275 (fun r1280 u1279 t1279 H1279 L1279 ht1279 hvm1279 hw1279 hB1279 hz1279 hk1279 hS => ?_)
  have hP := pq_keep hP hD [11, 12] rfl hk1279 hB1279.1 ht1279
  have hG : s.heap.size + 1015 ≤ H1279.size := Nat.le_trans hG hz1279
  refine W.eq (g2 := F0 m 48 ls [.int 1]) (by rw [hw1279]) ?_
  refine lv_if_eq (tgt := 92) hx hb dX9_shown_48 (by decide) (fun cz => absurd cz (by decide)) (fun _ => ?_)
  refine lv_aload hx hb dX9_shown_51 (lv_at hl 2 rfl) ?_
  have hM1283 := k649_next l hl9 dC dI z a1130 h3 h6 H1279.size kc1
  obtain ⟨hF1281, hC1284⟩ := pc_M hM1283 hP hD hK hS hX hT hA [11, 12, 13] [2] rfl rfl rfl
  refine va_callFr (va_runF (As := []) (rest := []) (hK.1 1 _ rfl).2 ⟨hx, hb, hml, hown, hts⟩ hM1283 (va_cwF 0 hts (gF q_308 q_309 q_310 q_246 q_307) rfl rfl rfl hT.2.2.2.2.2.2.2.1 hF_xIn ⟨Nat.le_of_ble_eq_true rfl, Nat.le_of_ble_eq_true rfl⟩) ⟨pc_blind, va_recv hK hP (ci := 1) (q0 := 11) rfl rfl, fun U hU hW => ⟨rfl, hC1284 U hU hW⟩⟩ rfl rfl hl.1 rfl (lv_room (Nat.le_of_ble_eq_true rfl)) dX9_shown_53 ⟨(Nat.le_of_ble_eq_true rfl), (Nat.le_of_ble_eq_true rfl)⟩) hS (fun q9 _ h9 => hF1281 q9 h9) hF1281 (fun u1285 r1286 t1285 H1285 L1285 ht1285 hvm1285 hw1285 hB1285 hz1285 hk1285 hS => ?_)
  obtain ⟨hr1285, hB1285⟩ := hB1285
  obtain ⟨hP, hD, hK⟩ := pq_jn (wz := [(h0, ce21 h1 h2 h3 h4), (h1, ce201 h5), (h2, ce3 z.1), (h4, ce226 h7), (h5, ce200 kc0 h8 h9 h10 h11 h12), (h7, ce200 kc2 (z.2.2.1 128) (z.2.2.1 129) (z.2.2.1 130) (z.2.2.1 131) (z.2.2.1 132)), (h8, ce49), (h9, ce49), (h10, ce49), (h11, ce49), (h12, ce49), (a1130, ce320 h3), (h3, ce276 h6), (h6, ce275 kc1 (z.2.2.1 128) (z.2.2.1 128) (z.2.2.1 128) (z.2.2.1 128) (z.2.2.1 128) (z.2.2.1 128) (z.2.2.1 128))]) (tz := [(kc0, .object "java/lang/Object"), (kc2, .object "java/lang/Object"), (kc1, .object "java/lang/Object")]) hP hD hK [11, 12, 13] [0, 1] rfl hk1285 hF1281 hB1285.1 ht1285 hvm1285 rfl rfl
  have hG : s.heap.size + 1015 ≤ H1285.size := Nat.le_trans hG hz1285
  refine W.eq (g2 := F0 m 58 ls [.ref (z.2.2.1 128)]) (by rw [hr1285]) ?_
  refine va_castE (nm := "java/lang/Integer") hx hb hown (hts _ q_320) (va_Orecv (hX.2.2.1.1.1 128 (by decide)) hS) dX9_shown_58 ?_
  have hM1289 := k74_intValue l hl9 dC dI z H1285.size
  obtain ⟨hF1287, hC1290⟩ := pc_M hM1289 hP hD hK hS hX hT hA [] [] rfl rfl rfl
  refine va_calli (va_runV (As := []) (rest := []) ⟨hx, hb, hml, hown, hts⟩ hM1289 (cwV 0 hts (gV q_323 q_324 q_325 q_297 q_322) rfl rfl rfl hV_J6_intValue_8abf5 ⟨Nat.le_of_ble_eq_true rfl, Nat.le_of_ble_eq_true rfl⟩) ⟨pc_blind, va_Orecv (hX.2.2.1.1.1 128 (by decide)) hS, fun U hU hW => ⟨rfl, hC1290 U hU hW⟩⟩ rfl rfl hl.1 rfl (lv_room (Nat.le_of_ble_eq_true rfl)) dX9_shown_61 ⟨(Nat.le_of_ble_eq_true rfl), (Nat.le_of_ble_eq_true rfl)⟩) hS (fun q9 _ h9 => hF1287 q9 h9) hF1287 (fun r1292 u1291 t1291 H1291 L1291 ht1291 hvm1291 hw1291 hB1291 hz1291 hk1291 hS => ?_)
  have hP := pq_keep hP hD [] rfl hk1291 hB1291.1 ht1291
  have hG : s.heap.size + 1015 ≤ H1291.size := Nat.le_trans hG hz1291
  refine W.eq (g2 := F0 m 64 ls [.int 0]) (by rw [hw1291]) ?_
  refine lv_istore (lv' := [(6, .int 0), (4, .int 0), (5, .ref a1130), (3, .int 48), (2, .int 3), (1, .int 0), (0, .ref h0)]) hx hb dX9_shown_64 hl (by decide) rfl (fun ls hl => ?_)
  refine lv_iload hx hb dX9_shown_66 (lv_at hl 1 rfl) ?_
  refine lv_if_ne (tgt := 82) hx hb dX9_shown_68 (by decide) (fun cz => absurd (by decide) cz) (fun _ => ?_)
  refine lv_aload_n hx hb dX9_shown_71 rfl (lv_at hl 6 rfl) ?_
  refine lv_iload_n hx hb dX9_shown_72 rfl (lv_at hl 4 rfl) ?_
  refine lv_iload_n hx hb dX9_shown_73 rfl (lv_at hl 3 rfl) ?_
  refine lv_iload hx hb dX9_shown_74 (lv_at hl 0 rfl) ?_
  have hM1295 := k662_showsIt l hl9 dC dI z h0 h1 h2 h4 h5 h7 h8 h9 h10 h11 h12 h3 H1291.size kc0 kc2
  obtain ⟨hF1293, hC1296⟩ := pc_M hM1295 hP hD hK hS hX hT hA [0, 1, 2, 3, 4, 5, 6, 7, 8, 9, 10] [0, 1] rfl rfl rfl
  refine va_calli (va_runV (As := [.int 3, .int 48, .int 0]) (rest := []) ⟨hx, hb, hml, hown, hts⟩ hM1295 (cwV 3 hts (gV q_429 q_430 q_431 q_60 q_428) rfl rfl rfl hV_X9_showsIt ⟨Nat.le_of_ble_eq_true rfl, Nat.le_of_ble_eq_true rfl⟩) ⟨pc_blind, va_recv hK hP (ci := 8) (q0 := 0) rfl rfl, fun U hU hW => ⟨rfl, hC1296 U hU hW⟩⟩ rfl rfl hl.1 rfl (lv_room (Nat.le_of_ble_eq_true rfl)) dX9_shown_76 ⟨(Nat.le_of_ble_eq_true rfl), (Nat.le_of_ble_eq_true rfl)⟩) hS (fun q9 _ h9 => hF1293 q9 h9) hF1293 (fun r1298 u1297 t1297 H1297 L1297 ht1297 hvm1297 hw1297 hB1297 hz1297 hk1297 hS => ?_)
  have hP := pq_keep hP hD [0, 1, 2, 3, 4, 5, 6, 7, 8, 9, 10] rfl hk1297 hB1297.1 ht1297
  have hG : s.heap.size + 1036 ≤ H1297.size := va_gr (g := 1015) (g1 := 21) hG (by rw [← ht1297]; exact hB1297.2)
  refine W.eq (g2 := F0 m 79 ls [.int 0]) (by rw [hw1297]) ?_
  refine W.widen (k := 1036) (n := 11200) (by decide) (by decide) ?_
  refine lv_if_eq (tgt := 86) hx hb dX9_shown_79 (by decide) (fun _ => ?_) (fun cz => absurd (by decide) cz)
  refine lv_iconst (v := 0) hx hb dX9_shown_86 (by decide) ?_
  refine lv_istore (lv' := [(4, .int 0), (6, .int 0), (5, .ref a1130), (3, .int 48), (2, .int 3), (1, .int 0), (0, .ref h0)]) hx hb dX9_shown_87 hl (by decide) rfl (fun ls hl => ?_)
  refine lv_goto (tgt := 41) hx hb dX9_shown_89 (by decide) ?_
  refine lv_aload hx hb dX9_shown_41 (lv_at hl 2 rfl) ?_
  have hM1301 := k650_hasNext l hl9 dC dI z a1130 h3 h6 H1297.size
  obtain ⟨hF1299, hC1302⟩ := pc_M hM1301 hP hD hK hS hX hT hA [11, 12] [] rfl rfl rfl
  refine va_callFi (va_runF (As := []) (rest := []) (hK.1 1 _ rfl).2 ⟨hx, hb, hml, hown, hts⟩ hM1301 (va_cwF 0 hts (gF q_261 q_262 q_263 q_246 q_260) rfl rfl rfl hT.2.2.2.2.2.2.1 hF_xIh ⟨Nat.le_of_ble_eq_true rfl, Nat.le_of_ble_eq_true rfl⟩) ⟨pc_blind, va_recv hK hP (ci := 1) (q0 := 11) rfl rfl, fun U hU hW => ⟨rfl, hC1302 U hU hW⟩⟩ rfl rfl hl.1 rfl (lv_room (Nat.le_of_ble_eq_true rfl)) dX9_shown_43 ⟨(Nat.le_of_ble_eq_true rfl), (Nat.le_of_ble_eq_true rfl)⟩) hS (fun q9 _ h9 => hF1299 q9 h9) hF1299 (fun r1304 u1303 t1303 H1303 L1303 ht1303 hvm1303 hw1303 hB1303 hz1303 hk1303 hS => ?_)
  have hP := pq_keep hP hD [11, 12] rfl hk1303 hB1303.1 ht1303
  have hG : s.heap.size + 1036 ≤ H1303.size := Nat.le_trans hG hz1303
  refine W.eq (g2 := F0 m 48 ls [.int 0]) (by rw [hw1303]) ?_
  refine lv_if_eq (tgt := 92) hx hb dX9_shown_48 (by decide) (fun _ => ?_) (fun cz => absurd (by decide) cz)
  refine lv_iload_n hx hb dX9_shown_92 rfl (lv_at hl 5 rfl) ?_
  refine lv_iload hx hb dX9_shown_93 (lv_at hl 0 rfl) ?_
  refine lv_if_eq (tgt := 102) hx hb dX9_shown_95 (by decide) (fun _ => ?_) (fun cz => absurd (by decide) cz)
  refine lv_iconst (v := 0) hx hb dX9_shown_102 (by decide) ?_
  refine lv_iadd hx hb dX9_shown_103 ?_
  refine lv_topi (fun y1305 ey1305 => ?_)
  obtain rfl : y1305 = 0 := ey1305.trans (by decide)
  refine lv_istore_n (lv' := [(1, .int 0), (4, .int 0), (6, .int 0), (5, .ref a1130), (3, .int 48), (2, .int 3), (0, .ref h0)]) hx hb dX9_shown_104 rfl hl (by decide) rfl (fun ls hl => ?_)
  refine lv_iload_n hx hb dX9_shown_105 rfl (lv_at hl 4 rfl) ?_
  refine lv_iconst (v := 1) hx hb dX9_shown_106 (by decide) ?_
  refine lv_iadd hx hb dX9_shown_107 ?_
  refine lv_topi (fun y1306 ey1306 => ?_)
  obtain rfl : y1306 = 49 := ey1306.trans (by decide)
  refine lv_i2c (v := 49) hx hb dX9_shown_108 (by decide) ?_
  refine lv_istore_n (lv' := [(3, .int 49), (1, .int 0), (4, .int 0), (6, .int 0), (5, .ref a1130), (2, .int 3), (0, .ref h0)]) hx hb dX9_shown_109 rfl hl (by decide) rfl (fun ls hl => ?_)
  refine lv_goto (tgt := 23) hx hb dX9_shown_110 (by decide) ?_
  exact hend _ _ _ hS (hP.sub [0, 1, 2, 12, 3, 4, 13, 5, 6, 7, 8, 9, 10] rfl) (hD.sub [0, 1, 2, 12, 3, 4, 13, 5, 6, 7, 8, 9, 10] rfl rfl) (lv_sub hl [0, 1, 5, 6] rfl) hG

set_option maxHeartbeats 8000000 in
set_option maxRecDepth 100000 in
theorem k669_shown_g11 {p : Program} {l : Launch} {e : Env} {s : State} {m : MethodId} {args : Array Value} {below : List Frame} {meth : Method} {c : Code} {Q : State → Prop} {A : Nat → Prop} {H : Heap} {locs : List Loc} {ls : Array Slot} {dC : Nat → ClassId} {dI : Nat → Nat → Nat} {z : XZ} {h0 h1 h2 h3 h4 h5 h6 h7 h8 h9 h10 h11 h12 : Nat} {kc0 kc1 kc2 : ClassId} (hl9 : l.stackTraces = false) (hx : p.tables.exec = Jvm.exec) (hb : c.code = cX9_shown) (hml : c.maxLocals = 7) (hown : s.vm.findClass RX9 = some m.cls) (hts : ∀ w ∈ wsL_law, w.before args s = true) (hA : ∀ q : Nat, s.heap.size ≤ q → A q) (hX : XE z A s s.heap) (hT : XT s) (hS : va_S A s.heap H locs) (hP : va_P (dC, dI) xCl [(h0, ce21 h1 h2 h3 h4), (h1, ce201 h5), (h2, ce3 z.1), (h3, ce276 h6), (h4, ce226 h7), (h5, ce200 kc0 h8 h9 h10 h11 h12), (h6, ce275 kc1 (z.2.2.1 128) (z.2.2.1 128) (z.2.2.1 128) (z.2.2.1 128) (z.2.2.1 128) (z.2.2.1 128) (z.2.2.1 128)), (h7, ce200 kc2 (z.2.2.1 128) (z.2.2.1 129) (z.2.2.1 130) (z.2.2.1 131) (z.2.2.1 132)), (h8, ce49), (h9, ce49), (h10, ce49), (h11, ce49), (h12, ce49)] H) (hD : va_D A [(h0, ce21 h1 h2 h3 h4), (h1, ce201 h5), (h2, ce3 z.1), (h3, ce276 h6), (h4, ce226 h7), (h5, ce200 kc0 h8 h9 h10 h11 h12), (h6, ce275 kc1 (z.2.2.1 128) (z.2.2.1 128) (z.2.2.1 128) (z.2.2.1 128) (z.2.2.1 128) (z.2.2.1 128) (z.2.2.1 128)), (h7, ce200 kc2 (z.2.2.1 128) (z.2.2.1 129) (z.2.2.1 130) (z.2.2.1 131) (z.2.2.1 132)), (h8, ce49), (h9, ce49), (h10, ce49), (h11, ce49), (h12, ce49)]) (hK : va_K (dC, dI) xCl [(kc0, .object "java/lang/Object"), (kc1, .object "java/lang/Object"), (kc2, .object "java/lang/Object")] s) (hl : lv_has ls 7 [(3, .int 49), (1, .int 0), (2, .int 3), (0, .ref h0)]) (hG : s.heap.size + 1036 ≤ H.size) (hend : ∀ (H' : Heap) (locs' : List Loc) (ls' : Array Slot), va_S A s.heap H' locs' → va_P (dC, dI) xCl [(h0, ce21 h1 h2 h3 h4), (h1, ce201 h5), (h2, ce3 z.1), (h3, ce276 h6), (h4, ce226 h7), (h5, ce200 kc0 h8 h9 h10 h11 h12), (h6, ce275 kc1 (z.2.2.1 128) (z.2.2.1 128) (z.2.2.1 128) (z.2.2.1 128) (z.2.2.1 128) (z.2.2.1 128) (z.2.2.1 128)), (h7, ce200 kc2 (z.2.2.1 128) (z.2.2.1 129) (z.2.2.1 130) (z.2.2.1 131) (z.2.2.1 132)), (h8, ce49), (h9, ce49), (h10, ce49), (h11, ce49), (h12, ce49)] H' → va_D A [(h0, ce21 h1 h2 h3 h4), (h1, ce201 h5), (h2, ce3 z.1), (h3, ce276 h6), (h4, ce226 h7), (h5, ce200 kc0 h8 h9 h10 h11 h12), (h6, ce275 kc1 (z.2.2.1 128) (z.2.2.1 128) (z.2.2.1 128) (z.2.2.1 128) (z.2.2.1 128) (z.2.2.1 128) (z.2.2.1 128)), (h7, ce200 kc2 (z.2.2.1 128) (z.2.2.1 129) (z.2.2.1 130) (z.2.2.1 131) (z.2.2.1 132)), (h8, ce49), (h9, ce49), (h10, ce49), (h11, ce49), (h12, ce49)] → lv_has ls' 7 [(3, .int 50), (1, .int 0), (2, .int 3), (0, .ref h0)] → s.heap.size + 1184 ≤ H'.size → W p l e ({ frames := 5, cells := 1480, slots := 16000, locals := 121 } : Room) s m args below meth c H' locs' 1184 12800 Q (F0 m 23 ls' [])) : W p l e ({ frames := 5, cells := 1480, slots := 16000, locals := 121 } : Room) s m args below meth c H locs 1036 11200 Q (F0 m 23 ls []) := by
  refine lv_iload_n hx hb dX9_shown_23 rfl (lv_at hl 0 rfl) ?_
  refine lv_bipush (v := 49) hx hb dX9_shown_24 (by decide) ?_
  refine lv_icmp_gt (tgt := 113) hx hb dX9_shown_26 (by decide) (fun cz => absurd cz (by decide)) (fun _ => ?_)
  refine lv_iconst (v := 0) hx hb dX9_shown_29 (by decide) ?_
  refine lv_istore (lv' := [(4, .int 0), (3, .int 49), (1, .int 0), (2, .int 3), (0, .ref h0)]) hx hb dX9_shown_30 hl (by decide) rfl (fun ls hl => ?_)
  refine lv_aload_n hx hb dX9_shown_32 rfl (lv_at hl 4 rfl) ?_
  refine va_get (D := (dC, dI)) (ci := 8) (v := .ref h3) (C := RX9) (T := TX9) (N := 6) hx hb hts in_X9 hown hK hP 0 rfl rfl 3 (by decide) (hts _ q_66) (fun _ h9 => h9) rfl dX9_shown_33 ?_
  have hM1309 := k619_iterator l hl9 dC dI z h3 h6 H.size
  obtain ⟨hF1307, hC1310⟩ := pc_M hM1309 hP hD hK hS hX hT hA [3] [] rfl rfl rfl
  refine va_callr (va_runV (As := []) (rest := []) ⟨hx, hb, hml, hown, hts⟩ hM1309 (cwV 0 hts (gV q_256 q_257 q_258 q_12 q_255) rfl rfl rfl hV_Jx4a65c_iterator_32c93 ⟨Nat.le_of_ble_eq_true rfl, Nat.le_of_ble_eq_true rfl⟩) ⟨pc_blind, va_recv hK hP (ci := 0) (q0 := 3) rfl rfl, fun U hU hW => ⟨rfl, hC1310 U hU hW⟩⟩ rfl rfl hl.1 rfl (lv_room (Nat.le_of_ble_eq_true rfl)) dX9_shown_36 ⟨(Nat.le_of_ble_eq_true rfl), (Nat.le_of_ble_eq_true rfl)⟩) hS (fun q9 _ h9 => hF1307 q9 h9) hF1307 (fun u1311 r1312 t1311 H1311 L1311 ht1311 hvm1311 hw1311 hB1311 hz1311 hk1311 hS => ?_)
  obtain ⟨a1313, hr1311, hB1311⟩ := hB1311
  obtain ⟨hP, hD, hK⟩ := pq_jn (wz := [(h0, ce21 h1 h2 h3 h4), (h1, ce201 h5), (h2, ce3 z.1), (h4, ce226 h7), (h5, ce200 kc0 h8 h9 h10 h11 h12), (h6, ce275 kc1 (z.2.2.1 128) (z.2.2.1 128) (z.2.2.1 128) (z.2.2.1 128) (z.2.2.1 128) (z.2.2.1 128) (z.2.2.1 128)), (h7, ce200 kc2 (z.2.2.1 128) (z.2.2.1 129) (z.2.2.1 130) (z.2.2.1 131) (z.2.2.1 132)), (h8, ce49), (h9, ce49), (h10, ce49), (h11, ce49), (h12, ce49), (h3, ce276 h6), (a1313, ce292 h3)]) (tz := [(kc0, .object "java/lang/Object"), (kc1, .object "java/lang/Object"), (kc2, .object "java/lang/Object")]) hP hD hK [3] [0, 1, 2] rfl hk1311 hF1307 hB1311.1 ht1311 hvm1311 rfl rfl
  have hG : s.heap.size + 1037 ≤ H1311.size := va_gr (g := 1036) (g1 := 1) hG (by rw [← ht1311]; exact hB1311.2)
  refine W.eq (g2 := F0 m 39 ls [.ref a1313]) (by rw [hr1311]) ?_
  refine W.widen (k := 1037) (n := 11204) (by decide) (by decide) ?_
  refine lv_astore (lv' := [(5, .ref a1313), (4, .int 0), (3, .int 49), (1, .int 0), (2, .int 3), (0, .ref h0)]) hx hb dX9_shown_39 hl (by decide) rfl (fun ls hl => ?_)
  refine lv_aload hx hb dX9_shown_41 (lv_at hl 0 rfl) ?_
  have hM1316 := k620_hasNext l hl9 dC dI z a1313 h3 h6 H1311.size
  obtain ⟨hF1314, hC1317⟩ := pc_M hM1316 hP hD hK hS hX hT hA [13, 12] [] rfl rfl rfl
  refine va_callFi (va_runF (As := []) (rest := []) (hK.1 1 _ rfl).2 ⟨hx, hb, hml, hown, hts⟩ hM1316 (va_cwF 0 hts (gF q_261 q_262 q_263 q_246 q_260) rfl rfl rfl hT.2.2.2.2.2.2.1 hF_xIh ⟨Nat.le_of_ble_eq_true rfl, Nat.le_of_ble_eq_true rfl⟩) ⟨pc_blind, va_recv hK hP (ci := 1) (q0 := 13) rfl rfl, fun U hU hW => ⟨rfl, hC1317 U hU hW⟩⟩ rfl rfl hl.1 rfl (lv_room (Nat.le_of_ble_eq_true rfl)) dX9_shown_43 ⟨(Nat.le_of_ble_eq_true rfl), (Nat.le_of_ble_eq_true rfl)⟩) hS (fun q9 _ h9 => hF1314 q9 h9) hF1314 (fun r1319 u1318 t1318 H1318 L1318 ht1318 hvm1318 hw1318 hB1318 hz1318 hk1318 hS => ?_)
  have hP := pq_keep hP hD [13, 12] rfl hk1318 hB1318.1 ht1318
  have hG : s.heap.size + 1037 ≤ H1318.size := Nat.le_trans hG hz1318
  refine W.eq (g2 := F0 m 48 ls [.int 1]) (by rw [hw1318]) ?_
  refine lv_if_eq (tgt := 92) hx hb dX9_shown_48 (by decide) (fun cz => absurd cz (by decide)) (fun _ => ?_)
  refine lv_aload hx hb dX9_shown_51 (lv_at hl 0 rfl) ?_
  have hM1322 := k622_next l hl9 dC dI z a1313 h3 h6 H1318.size kc1
  obtain ⟨hF1320, hC1323⟩ := pc_M hM1322 hP hD hK hS hX hT hA [13, 12, 5] [1] rfl rfl rfl
  refine va_callFr (va_runF (As := []) (rest := []) (hK.1 1 _ rfl).2 ⟨hx, hb, hml, hown, hts⟩ hM1322 (va_cwF 0 hts (gF q_308 q_309 q_310 q_246 q_307) rfl rfl rfl hT.2.2.2.2.2.2.2.1 hF_xIn ⟨Nat.le_of_ble_eq_true rfl, Nat.le_of_ble_eq_true rfl⟩) ⟨pc_blind, va_recv hK hP (ci := 1) (q0 := 13) rfl rfl, fun U hU hW => ⟨rfl, hC1323 U hU hW⟩⟩ rfl rfl hl.1 rfl (lv_room (Nat.le_of_ble_eq_true rfl)) dX9_shown_53 ⟨(Nat.le_of_ble_eq_true rfl), (Nat.le_of_ble_eq_true rfl)⟩) hS (fun q9 _ h9 => hF1320 q9 h9) hF1320 (fun u1324 r1325 t1324 H1324 L1324 ht1324 hvm1324 hw1324 hB1324 hz1324 hk1324 hS => ?_)
  obtain ⟨hr1324, hB1324⟩ := hB1324
  obtain ⟨hP, hD, hK⟩ := pq_jn (wz := [(h0, ce21 h1 h2 h3 h4), (h1, ce201 h5), (h2, ce3 z.1), (h4, ce226 h7), (h5, ce200 kc0 h8 h9 h10 h11 h12), (h7, ce200 kc2 (z.2.2.1 128) (z.2.2.1 129) (z.2.2.1 130) (z.2.2.1 131) (z.2.2.1 132)), (h8, ce49), (h9, ce49), (h10, ce49), (h11, ce49), (h12, ce49), (a1313, ce294 h3), (h3, ce276 h6), (h6, ce275 kc1 (z.2.2.1 128) (z.2.2.1 128) (z.2.2.1 128) (z.2.2.1 128) (z.2.2.1 128) (z.2.2.1 128) (z.2.2.1 128))]) (tz := [(kc0, .object "java/lang/Object"), (kc2, .object "java/lang/Object"), (kc1, .object "java/lang/Object")]) hP hD hK [13, 12, 5] [0, 2] rfl hk1324 hF1320 hB1324.1 ht1324 hvm1324 rfl rfl
  have hG : s.heap.size + 1037 ≤ H1324.size := Nat.le_trans hG hz1324
  refine W.eq (g2 := F0 m 58 ls [.ref (z.2.2.1 128)]) (by rw [hr1324]) ?_
  refine va_castE (nm := "java/lang/Integer") hx hb hown (hts _ q_320) (va_Orecv (hX.2.2.1.1.1 128 (by decide)) hS) dX9_shown_58 ?_
  have hM1328 := k74_intValue l hl9 dC dI z H1324.size
  obtain ⟨hF1326, hC1329⟩ := pc_M hM1328 hP hD hK hS hX hT hA [] [] rfl rfl rfl
  refine va_calli (va_runV (As := []) (rest := []) ⟨hx, hb, hml, hown, hts⟩ hM1328 (cwV 0 hts (gV q_323 q_324 q_325 q_297 q_322) rfl rfl rfl hV_J6_intValue_8abf5 ⟨Nat.le_of_ble_eq_true rfl, Nat.le_of_ble_eq_true rfl⟩) ⟨pc_blind, va_Orecv (hX.2.2.1.1.1 128 (by decide)) hS, fun U hU hW => ⟨rfl, hC1329 U hU hW⟩⟩ rfl rfl hl.1 rfl (lv_room (Nat.le_of_ble_eq_true rfl)) dX9_shown_61 ⟨(Nat.le_of_ble_eq_true rfl), (Nat.le_of_ble_eq_true rfl)⟩) hS (fun q9 _ h9 => hF1326 q9 h9) hF1326 (fun r1331 u1330 t1330 H1330 L1330 ht1330 hvm1330 hw1330 hB1330 hz1330 hk1330 hS => ?_)
  have hP := pq_keep hP hD [] rfl hk1330 hB1330.1 ht1330
  have hG : s.heap.size + 1037 ≤ H1330.size := Nat.le_trans hG hz1330
  refine W.eq (g2 := F0 m 64 ls [.int 0]) (by rw [hw1330]) ?_
  refine lv_istore (lv' := [(6, .int 0), (5, .ref a1313), (4, .int 0), (3, .int 49), (1, .int 0), (2, .int 3), (0, .ref h0)]) hx hb dX9_shown_64 hl (by decide) rfl (fun ls hl => ?_)
  refine lv_iload hx hb dX9_shown_66 (lv_at hl 2 rfl) ?_
  refine lv_if_ne (tgt := 82) hx hb dX9_shown_68 (by decide) (fun cz => absurd (by decide) cz) (fun _ => ?_)
  refine lv_aload_n hx hb dX9_shown_71 rfl (lv_at hl 6 rfl) ?_
  refine lv_iload_n hx hb dX9_shown_72 rfl (lv_at hl 5 rfl) ?_
  refine lv_iload_n hx hb dX9_shown_73 rfl (lv_at hl 3 rfl) ?_
  refine lv_iload hx hb dX9_shown_74 (lv_at hl 0 rfl) ?_
  have hM1334 := k664_showsIt l hl9 dC dI z h0 h1 h2 h4 h5 h7 h8 h9 h10 h11 h12 h3 H1330.size kc0 kc2
  obtain ⟨hF1332, hC1335⟩ := pc_M hM1334 hP hD hK hS hX hT hA [0, 1, 2, 3, 4, 5, 6, 7, 8, 9, 10] [0, 1] rfl rfl rfl
  refine va_calli (va_runV (As := [.int 3, .int 49, .int 0]) (rest := []) ⟨hx, hb, hml, hown, hts⟩ hM1334 (cwV 3 hts (gV q_429 q_430 q_431 q_60 q_428) rfl rfl rfl hV_X9_showsIt ⟨Nat.le_of_ble_eq_true rfl, Nat.le_of_ble_eq_true rfl⟩) ⟨pc_blind, va_recv hK hP (ci := 8) (q0 := 0) rfl rfl, fun U hU hW => ⟨rfl, hC1335 U hU hW⟩⟩ rfl rfl hl.1 rfl (lv_room (Nat.le_of_ble_eq_true rfl)) dX9_shown_76 ⟨(Nat.le_of_ble_eq_true rfl), (Nat.le_of_ble_eq_true rfl)⟩) hS (fun q9 _ h9 => hF1332 q9 h9) hF1332 (fun r1337 u1336 t1336 H1336 L1336 ht1336 hvm1336 hw1336 hB1336 hz1336 hk1336 hS => ?_)
  have hP := pq_keep hP hD [0, 1, 2, 3, 4, 5, 6, 7, 8, 9, 10] rfl hk1336 hB1336.1 ht1336
  have hG : s.heap.size + 1058 ≤ H1336.size := va_gr (g := 1037) (g1 := 21) hG (by rw [← ht1336]; exact hB1336.2)
  refine W.eq (g2 := F0 m 79 ls [.int 0]) (by rw [hw1336]) ?_
  refine W.widen (k := 1058) (n := 11432) (by decide) (by decide) ?_
  refine lv_if_eq (tgt := 86) hx hb dX9_shown_79 (by decide) (fun _ => ?_) (fun cz => absurd (by decide) cz)
  refine lv_iconst (v := 0) hx hb dX9_shown_86 (by decide) ?_
  refine lv_istore (lv' := [(4, .int 0), (6, .int 0), (5, .ref a1313), (3, .int 49), (1, .int 0), (2, .int 3), (0, .ref h0)]) hx hb dX9_shown_87 hl (by decide) rfl (fun ls hl => ?_)
  refine lv_goto (tgt := 41) hx hb dX9_shown_89 (by decide) ?_
  refine lv_aload hx hb dX9_shown_41 (lv_at hl 2 rfl) ?_
  have hM1340 := k632_hasNext l hl9 dC dI z a1313 h3 h6 H1336.size
  obtain ⟨hF1338, hC1341⟩ := pc_M hM1340 hP hD hK hS hX hT hA [11, 12] [] rfl rfl rfl
  refine va_callFi (va_runF (As := []) (rest := []) (hK.1 1 _ rfl).2 ⟨hx, hb, hml, hown, hts⟩ hM1340 (va_cwF 0 hts (gF q_261 q_262 q_263 q_246 q_260) rfl rfl rfl hT.2.2.2.2.2.2.1 hF_xIh ⟨Nat.le_of_ble_eq_true rfl, Nat.le_of_ble_eq_true rfl⟩) ⟨pc_blind, va_recv hK hP (ci := 1) (q0 := 11) rfl rfl, fun U hU hW => ⟨rfl, hC1341 U hU hW⟩⟩ rfl rfl hl.1 rfl (lv_room (Nat.le_of_ble_eq_true rfl)) dX9_shown_43 ⟨(Nat.le_of_ble_eq_true rfl), (Nat.le_of_ble_eq_true rfl)⟩) hS (fun q9 _ h9 => hF1338 q9 h9) hF1338 (fun r1343 u1342 t1342 H1342 L1342 ht1342 hvm1342 hw1342 hB1342 hz1342 hk1342 hS => ?_)
  have hP := pq_keep hP hD [11, 12] rfl hk1342 hB1342.1 ht1342
  have hG : s.heap.size + 1058 ≤ H1342.size := Nat.le_trans hG hz1342
  refine W.eq (g2 := F0 m 48 ls [.int 1]) (by rw [hw1342]) ?_
  refine lv_if_eq (tgt := 92) hx hb dX9_shown_48 (by decide) (fun cz => absurd cz (by decide)) (fun _ => ?_)
  refine lv_aload hx hb dX9_shown_51 (lv_at hl 2 rfl) ?_
  have hM1346 := k634_next l hl9 dC dI z a1313 h3 h6 H1342.size kc1
  obtain ⟨hF1344, hC1347⟩ := pc_M hM1346 hP hD hK hS hX hT hA [11, 12, 13] [2] rfl rfl rfl
  refine va_callFr (va_runF (As := []) (rest := []) (hK.1 1 _ rfl).2 ⟨hx, hb, hml, hown, hts⟩ hM1346 (va_cwF 0 hts (gF q_308 q_309 q_310 q_246 q_307) rfl rfl rfl hT.2.2.2.2.2.2.2.1 hF_xIn ⟨Nat.le_of_ble_eq_true rfl, Nat.le_of_ble_eq_true rfl⟩) ⟨pc_blind, va_recv hK hP (ci := 1) (q0 := 11) rfl rfl, fun U hU hW => ⟨rfl, hC1347 U hU hW⟩⟩ rfl rfl hl.1 rfl (lv_room (Nat.le_of_ble_eq_true rfl)) dX9_shown_53 ⟨(Nat.le_of_ble_eq_true rfl), (Nat.le_of_ble_eq_true rfl)⟩) hS (fun q9 _ h9 => hF1344 q9 h9) hF1344 (fun u1348 r1349 t1348 H1348 L1348 ht1348 hvm1348 hw1348 hB1348 hz1348 hk1348 hS => ?_)
  obtain ⟨hr1348, hB1348⟩ := hB1348
  obtain ⟨hP, hD, hK⟩ := pq_jn (wz := [(h0, ce21 h1 h2 h3 h4), (h1, ce201 h5), (h2, ce3 z.1), (h4, ce226 h7), (h5, ce200 kc0 h8 h9 h10 h11 h12), (h7, ce200 kc2 (z.2.2.1 128) (z.2.2.1 129) (z.2.2.1 130) (z.2.2.1 131) (z.2.2.1 132)), (h8, ce49), (h9, ce49), (h10, ce49), (h11, ce49), (h12, ce49), (a1313, ce310 h3), (h3, ce276 h6), (h6, ce275 kc1 (z.2.2.1 128) (z.2.2.1 128) (z.2.2.1 128) (z.2.2.1 128) (z.2.2.1 128) (z.2.2.1 128) (z.2.2.1 128))]) (tz := [(kc0, .object "java/lang/Object"), (kc2, .object "java/lang/Object"), (kc1, .object "java/lang/Object")]) hP hD hK [11, 12, 13] [0, 1] rfl hk1348 hF1344 hB1348.1 ht1348 hvm1348 rfl rfl
  have hG : s.heap.size + 1058 ≤ H1348.size := Nat.le_trans hG hz1348
  refine W.eq (g2 := F0 m 58 ls [.ref (z.2.2.1 128)]) (by rw [hr1348]) ?_
  refine va_castE (nm := "java/lang/Integer") hx hb hown (hts _ q_320) (va_Orecv (hX.2.2.1.1.1 128 (by decide)) hS) dX9_shown_58 ?_
  have hM1352 := k74_intValue l hl9 dC dI z H1348.size
  obtain ⟨hF1350, hC1353⟩ := pc_M hM1352 hP hD hK hS hX hT hA [] [] rfl rfl rfl
  refine va_calli (va_runV (As := []) (rest := []) ⟨hx, hb, hml, hown, hts⟩ hM1352 (cwV 0 hts (gV q_323 q_324 q_325 q_297 q_322) rfl rfl rfl hV_J6_intValue_8abf5 ⟨Nat.le_of_ble_eq_true rfl, Nat.le_of_ble_eq_true rfl⟩) ⟨pc_blind, va_Orecv (hX.2.2.1.1.1 128 (by decide)) hS, fun U hU hW => ⟨rfl, hC1353 U hU hW⟩⟩ rfl rfl hl.1 rfl (lv_room (Nat.le_of_ble_eq_true rfl)) dX9_shown_61 ⟨(Nat.le_of_ble_eq_true rfl), (Nat.le_of_ble_eq_true rfl)⟩) hS (fun q9 _ h9 => hF1350 q9 h9) hF1350 (fun r1355 u1354 t1354 H1354 L1354 ht1354 hvm1354 hw1354 hB1354 hz1354 hk1354 hS => ?_)
  have hP := pq_keep hP hD [] rfl hk1354 hB1354.1 ht1354
  have hG : s.heap.size + 1058 ≤ H1354.size := Nat.le_trans hG hz1354
  refine W.eq (g2 := F0 m 64 ls [.int 0]) (by rw [hw1354]) ?_
  refine lv_istore (lv' := [(6, .int 0), (4, .int 0), (5, .ref a1313), (3, .int 49), (1, .int 0), (2, .int 3), (0, .ref h0)]) hx hb dX9_shown_64 hl (by decide) rfl (fun ls hl => ?_)
  refine lv_iload hx hb dX9_shown_66 (lv_at hl 1 rfl) ?_
  refine lv_if_ne (tgt := 82) hx hb dX9_shown_68 (by decide) (fun cz => absurd (by decide) cz) (fun _ => ?_)
  refine lv_aload_n hx hb dX9_shown_71 rfl (lv_at hl 6 rfl) ?_
  refine lv_iload_n hx hb dX9_shown_72 rfl (lv_at hl 5 rfl) ?_
  refine lv_iload_n hx hb dX9_shown_73 rfl (lv_at hl 3 rfl) ?_
  refine lv_iload hx hb dX9_shown_74 (lv_at hl 0 rfl) ?_
  have hM1358 := k664_showsIt l hl9 dC dI z h0 h1 h2 h4 h5 h7 h8 h9 h10 h11 h12 h3 H1354.size kc0 kc2
  obtain ⟨hF1356, hC1359⟩ := pc_M hM1358 hP hD hK hS hX hT hA [0, 1, 2, 3, 4, 5, 6, 7, 8, 9, 10] [0, 1] rfl rfl rfl
  refine va_calli (va_runV (As := [.int 3, .int 49, .int 0]) (rest := []) ⟨hx, hb, hml, hown, hts⟩ hM1358 (cwV 3 hts (gV q_429 q_430 q_431 q_60 q_428) rfl rfl rfl hV_X9_showsIt ⟨Nat.le_of_ble_eq_true rfl, Nat.le_of_ble_eq_true rfl⟩) ⟨pc_blind, va_recv hK hP (ci := 8) (q0 := 0) rfl rfl, fun U hU hW => ⟨rfl, hC1359 U hU hW⟩⟩ rfl rfl hl.1 rfl (lv_room (Nat.le_of_ble_eq_true rfl)) dX9_shown_76 ⟨(Nat.le_of_ble_eq_true rfl), (Nat.le_of_ble_eq_true rfl)⟩) hS (fun q9 _ h9 => hF1356 q9 h9) hF1356 (fun r1361 u1360 t1360 H1360 L1360 ht1360 hvm1360 hw1360 hB1360 hz1360 hk1360 hS => ?_)
  have hP := pq_keep hP hD [0, 1, 2, 3, 4, 5, 6, 7, 8, 9, 10] rfl hk1360 hB1360.1 ht1360
  have hG : s.heap.size + 1079 ≤ H1360.size := va_gr (g := 1058) (g1 := 21) hG (by rw [← ht1360]; exact hB1360.2)
  refine W.eq (g2 := F0 m 79 ls [.int 0]) (by rw [hw1360]) ?_
  refine W.widen (k := 1079) (n := 11660) (by decide) (by decide) ?_
  refine lv_if_eq (tgt := 86) hx hb dX9_shown_79 (by decide) (fun _ => ?_) (fun cz => absurd (by decide) cz)
  refine lv_iconst (v := 0) hx hb dX9_shown_86 (by decide) ?_
  refine lv_istore (lv' := [(4, .int 0), (6, .int 0), (5, .ref a1313), (3, .int 49), (1, .int 0), (2, .int 3), (0, .ref h0)]) hx hb dX9_shown_87 hl (by decide) rfl (fun ls hl => ?_)
  refine lv_goto (tgt := 41) hx hb dX9_shown_89 (by decide) ?_
  refine lv_aload hx hb dX9_shown_41 (lv_at hl 2 rfl) ?_
  have hM1364 := k635_hasNext l hl9 dC dI z a1313 h3 h6 H1360.size
  obtain ⟨hF1362, hC1365⟩ := pc_M hM1364 hP hD hK hS hX hT hA [11, 12] [] rfl rfl rfl
  refine va_callFi (va_runF (As := []) (rest := []) (hK.1 1 _ rfl).2 ⟨hx, hb, hml, hown, hts⟩ hM1364 (va_cwF 0 hts (gF q_261 q_262 q_263 q_246 q_260) rfl rfl rfl hT.2.2.2.2.2.2.1 hF_xIh ⟨Nat.le_of_ble_eq_true rfl, Nat.le_of_ble_eq_true rfl⟩) ⟨pc_blind, va_recv hK hP (ci := 1) (q0 := 11) rfl rfl, fun U hU hW => ⟨rfl, hC1365 U hU hW⟩⟩ rfl rfl hl.1 rfl (lv_room (Nat.le_of_ble_eq_true rfl)) dX9_shown_43 ⟨(Nat.le_of_ble_eq_true rfl), (Nat.le_of_ble_eq_true rfl)⟩) hS (fun q9 _ h9 => hF1362 q9 h9) hF1362 (fun r1367 u1366 t1366 H1366 L1366 ht1366 hvm1366 hw1366 hB1366 hz1366 hk1366 hS => ?_)
  have hP := pq_keep hP hD [11, 12] rfl hk1366 hB1366.1 ht1366
  have hG : s.heap.size + 1079 ≤ H1366.size := Nat.le_trans hG hz1366
  refine W.eq (g2 := F0 m 48 ls [.int 1]) (by rw [hw1366]) ?_
  refine lv_if_eq (tgt := 92) hx hb dX9_shown_48 (by decide) (fun cz => absurd cz (by decide)) (fun _ => ?_)
  refine lv_aload hx hb dX9_shown_51 (lv_at hl 2 rfl) ?_
  have hM1370 := k637_next l hl9 dC dI z a1313 h3 h6 H1366.size kc1
  obtain ⟨hF1368, hC1371⟩ := pc_M hM1370 hP hD hK hS hX hT hA [11, 12, 13] [2] rfl rfl rfl
  refine va_callFr (va_runF (As := []) (rest := []) (hK.1 1 _ rfl).2 ⟨hx, hb, hml, hown, hts⟩ hM1370 (va_cwF 0 hts (gF q_308 q_309 q_310 q_246 q_307) rfl rfl rfl hT.2.2.2.2.2.2.2.1 hF_xIn ⟨Nat.le_of_ble_eq_true rfl, Nat.le_of_ble_eq_true rfl⟩) ⟨pc_blind, va_recv hK hP (ci := 1) (q0 := 11) rfl rfl, fun U hU hW => ⟨rfl, hC1371 U hU hW⟩⟩ rfl rfl hl.1 rfl (lv_room (Nat.le_of_ble_eq_true rfl)) dX9_shown_53 ⟨(Nat.le_of_ble_eq_true rfl), (Nat.le_of_ble_eq_true rfl)⟩) hS (fun q9 _ h9 => hF1368 q9 h9) hF1368 (fun u1372 r1373 t1372 H1372 L1372 ht1372 hvm1372 hw1372 hB1372 hz1372 hk1372 hS => ?_)
  obtain ⟨hr1372, hB1372⟩ := hB1372
  obtain ⟨hP, hD, hK⟩ := pq_jn (wz := [(h0, ce21 h1 h2 h3 h4), (h1, ce201 h5), (h2, ce3 z.1), (h4, ce226 h7), (h5, ce200 kc0 h8 h9 h10 h11 h12), (h7, ce200 kc2 (z.2.2.1 128) (z.2.2.1 129) (z.2.2.1 130) (z.2.2.1 131) (z.2.2.1 132)), (h8, ce49), (h9, ce49), (h10, ce49), (h11, ce49), (h12, ce49), (a1313, ce312 h3), (h3, ce276 h6), (h6, ce275 kc1 (z.2.2.1 128) (z.2.2.1 128) (z.2.2.1 128) (z.2.2.1 128) (z.2.2.1 128) (z.2.2.1 128) (z.2.2.1 128))]) (tz := [(kc0, .object "java/lang/Object"), (kc2, .object "java/lang/Object"), (kc1, .object "java/lang/Object")]) hP hD hK [11, 12, 13] [0, 1] rfl hk1372 hF1368 hB1372.1 ht1372 hvm1372 rfl rfl
  have hG : s.heap.size + 1079 ≤ H1372.size := Nat.le_trans hG hz1372
  refine W.eq (g2 := F0 m 58 ls [.ref (z.2.2.1 128)]) (by rw [hr1372]) ?_
  refine va_castE (nm := "java/lang/Integer") hx hb hown (hts _ q_320) (va_Orecv (hX.2.2.1.1.1 128 (by decide)) hS) dX9_shown_58 ?_
  have hM1376 := k74_intValue l hl9 dC dI z H1372.size
  obtain ⟨hF1374, hC1377⟩ := pc_M hM1376 hP hD hK hS hX hT hA [] [] rfl rfl rfl
  refine va_calli (va_runV (As := []) (rest := []) ⟨hx, hb, hml, hown, hts⟩ hM1376 (cwV 0 hts (gV q_323 q_324 q_325 q_297 q_322) rfl rfl rfl hV_J6_intValue_8abf5 ⟨Nat.le_of_ble_eq_true rfl, Nat.le_of_ble_eq_true rfl⟩) ⟨pc_blind, va_Orecv (hX.2.2.1.1.1 128 (by decide)) hS, fun U hU hW => ⟨rfl, hC1377 U hU hW⟩⟩ rfl rfl hl.1 rfl (lv_room (Nat.le_of_ble_eq_true rfl)) dX9_shown_61 ⟨(Nat.le_of_ble_eq_true rfl), (Nat.le_of_ble_eq_true rfl)⟩) hS (fun q9 _ h9 => hF1374 q9 h9) hF1374 (fun r1379 u1378 t1378 H1378 L1378 ht1378 hvm1378 hw1378 hB1378 hz1378 hk1378 hS => ?_)
  have hP := pq_keep hP hD [] rfl hk1378 hB1378.1 ht1378
  have hG : s.heap.size + 1079 ≤ H1378.size := Nat.le_trans hG hz1378
  refine W.eq (g2 := F0 m 64 ls [.int 0]) (by rw [hw1378]) ?_
  refine lv_istore (lv' := [(6, .int 0), (4, .int 0), (5, .ref a1313), (3, .int 49), (1, .int 0), (2, .int 3), (0, .ref h0)]) hx hb dX9_shown_64 hl (by decide) rfl (fun ls hl => ?_)
  refine lv_iload hx hb dX9_shown_66 (lv_at hl 1 rfl) ?_
  refine lv_if_ne (tgt := 82) hx hb dX9_shown_68 (by decide) (fun cz => absurd (by decide) cz) (fun _ => ?_)
  refine lv_aload_n hx hb dX9_shown_71 rfl (lv_at hl 6 rfl) ?_
  refine lv_iload_n hx hb dX9_shown_72 rfl (lv_at hl 5 rfl) ?_
  refine lv_iload_n hx hb dX9_shown_73 rfl (lv_at hl 3 rfl) ?_
  refine lv_iload hx hb dX9_shown_74 (lv_at hl 0 rfl) ?_
  have hM1382 := k664_showsIt l hl9 dC dI z h0 h1 h2 h4 h5 h7 h8 h9 h10 h11 h12 h3 H1378.size kc0 kc2
  obtain ⟨hF1380, hC1383⟩ := pc_M hM1382 hP hD hK hS hX hT hA [0, 1, 2, 3, 4, 5, 6, 7, 8, 9, 10] [0, 1] rfl rfl rfl
  refine va_calli (va_runV (As := [.int 3, .int 49, .int 0]) (rest := []) ⟨hx, hb, hml, hown, hts⟩ hM1382 (cwV 3 hts (gV q_429 q_430 q_431 q_60 q_428) rfl rfl rfl hV_X9_showsIt ⟨Nat.le_of_ble_eq_true rfl, Nat.le_of_ble_eq_true rfl⟩) ⟨pc_blind, va_recv hK hP (ci := 8) (q0 := 0) rfl rfl, fun U hU hW => ⟨rfl, hC1383 U hU hW⟩⟩ rfl rfl hl.1 rfl (lv_room (Nat.le_of_ble_eq_true rfl)) dX9_shown_76 ⟨(Nat.le_of_ble_eq_true rfl), (Nat.le_of_ble_eq_true rfl)⟩) hS (fun q9 _ h9 => hF1380 q9 h9) hF1380 (fun r1385 u1384 t1384 H1384 L1384 ht1384 hvm1384 hw1384 hB1384 hz1384 hk1384 hS => ?_)
  have hP := pq_keep hP hD [0, 1, 2, 3, 4, 5, 6, 7, 8, 9, 10] rfl hk1384 hB1384.1 ht1384
  have hG : s.heap.size + 1100 ≤ H1384.size := va_gr (g := 1079) (g1 := 21) hG (by rw [← ht1384]; exact hB1384.2)
  refine W.eq (g2 := F0 m 79 ls [.int 0]) (by rw [hw1384]) ?_
  refine W.widen (k := 1100) (n := 11888) (by decide) (by decide) ?_
  refine lv_if_eq (tgt := 86) hx hb dX9_shown_79 (by decide) (fun _ => ?_) (fun cz => absurd (by decide) cz)
  refine lv_iconst (v := 0) hx hb dX9_shown_86 (by decide) ?_
  refine lv_istore (lv' := [(4, .int 0), (6, .int 0), (5, .ref a1313), (3, .int 49), (1, .int 0), (2, .int 3), (0, .ref h0)]) hx hb dX9_shown_87 hl (by decide) rfl (fun ls hl => ?_)
  refine lv_goto (tgt := 41) hx hb dX9_shown_89 (by decide) ?_
  refine lv_aload hx hb dX9_shown_41 (lv_at hl 2 rfl) ?_
  have hM1388 := k638_hasNext l hl9 dC dI z a1313 h3 h6 H1384.size
  obtain ⟨hF1386, hC1389⟩ := pc_M hM1388 hP hD hK hS hX hT hA [11, 12] [] rfl rfl rfl
  refine va_callFi (va_runF (As := []) (rest := []) (hK.1 1 _ rfl).2 ⟨hx, hb, hml, hown, hts⟩ hM1388 (va_cwF 0 hts (gF q_261 q_262 q_263 q_246 q_260) rfl rfl rfl hT.2.2.2.2.2.2.1 hF_xIh ⟨Nat.le_of_ble_eq_true rfl, Nat.le_of_ble_eq_true rfl⟩) ⟨pc_blind, va_recv hK hP (ci := 1) (q0 := 11) rfl rfl, fun U hU hW => ⟨rfl, hC1389 U hU hW⟩⟩ rfl rfl hl.1 rfl (lv_room (Nat.le_of_ble_eq_true rfl)) dX9_shown_43 ⟨(Nat.le_of_ble_eq_true rfl), (Nat.le_of_ble_eq_true rfl)⟩) hS (fun q9 _ h9 => hF1386 q9 h9) hF1386 (fun r1391 u1390 t1390 H1390 L1390 ht1390 hvm1390 hw1390 hB1390 hz1390 hk1390 hS => ?_)
  have hP := pq_keep hP hD [11, 12] rfl hk1390 hB1390.1 ht1390
  have hG : s.heap.size + 1100 ≤ H1390.size := Nat.le_trans hG hz1390
  refine W.eq (g2 := F0 m 48 ls [.int 1]) (by rw [hw1390]) ?_
  refine lv_if_eq (tgt := 92) hx hb dX9_shown_48 (by decide) (fun cz => absurd cz (by decide)) (fun _ => ?_)
  refine lv_aload hx hb dX9_shown_51 (lv_at hl 2 rfl) ?_
  have hM1394 := k640_next l hl9 dC dI z a1313 h3 h6 H1390.size kc1
  obtain ⟨hF1392, hC1395⟩ := pc_M hM1394 hP hD hK hS hX hT hA [11, 12, 13] [2] rfl rfl rfl
  refine va_callFr (va_runF (As := []) (rest := []) (hK.1 1 _ rfl).2 ⟨hx, hb, hml, hown, hts⟩ hM1394 (va_cwF 0 hts (gF q_308 q_309 q_310 q_246 q_307) rfl rfl rfl hT.2.2.2.2.2.2.2.1 hF_xIn ⟨Nat.le_of_ble_eq_true rfl, Nat.le_of_ble_eq_true rfl⟩) ⟨pc_blind, va_recv hK hP (ci := 1) (q0 := 11) rfl rfl, fun U hU hW => ⟨rfl, hC1395 U hU hW⟩⟩ rfl rfl hl.1 rfl (lv_room (Nat.le_of_ble_eq_true rfl)) dX9_shown_53 ⟨(Nat.le_of_ble_eq_true rfl), (Nat.le_of_ble_eq_true rfl)⟩) hS (fun q9 _ h9 => hF1392 q9 h9) hF1392 (fun u1396 r1397 t1396 H1396 L1396 ht1396 hvm1396 hw1396 hB1396 hz1396 hk1396 hS => ?_)
  obtain ⟨hr1396, hB1396⟩ := hB1396
  obtain ⟨hP, hD, hK⟩ := pq_jn (wz := [(h0, ce21 h1 h2 h3 h4), (h1, ce201 h5), (h2, ce3 z.1), (h4, ce226 h7), (h5, ce200 kc0 h8 h9 h10 h11 h12), (h7, ce200 kc2 (z.2.2.1 128) (z.2.2.1 129) (z.2.2.1 130) (z.2.2.1 131) (z.2.2.1 132)), (h8, ce49), (h9, ce49), (h10, ce49), (h11, ce49), (h12, ce49), (a1313, ce314 h3), (h3, ce276 h6), (h6, ce275 kc1 (z.2.2.1 128) (z.2.2.1 128) (z.2.2.1 128) (z.2.2.1 128) (z.2.2.1 128) (z.2.2.1 128) (z.2.2.1 128))]) (tz := [(kc0, .object "java/lang/Object"), (kc2, .object "java/lang/Object"), (kc1, .object "java/lang/Object")]) hP hD hK [11, 12, 13] [0, 1] rfl hk1396 hF1392 hB1396.1 ht1396 hvm1396 rfl rfl
  have hG : s.heap.size + 1100 ≤ H1396.size := Nat.le_trans hG hz1396
  refine W.eq (g2 := F0 m 58 ls [.ref (z.2.2.1 128)]) (by rw [hr1396]) ?_
  refine va_castE (nm := "java/lang/Integer") hx hb hown (hts _ q_320) (va_Orecv (hX.2.2.1.1.1 128 (by decide)) hS) dX9_shown_58 ?_
  have hM1400 := k74_intValue l hl9 dC dI z H1396.size
  obtain ⟨hF1398, hC1401⟩ := pc_M hM1400 hP hD hK hS hX hT hA [] [] rfl rfl rfl
  refine va_calli (va_runV (As := []) (rest := []) ⟨hx, hb, hml, hown, hts⟩ hM1400 (cwV 0 hts (gV q_323 q_324 q_325 q_297 q_322) rfl rfl rfl hV_J6_intValue_8abf5 ⟨Nat.le_of_ble_eq_true rfl, Nat.le_of_ble_eq_true rfl⟩) ⟨pc_blind, va_Orecv (hX.2.2.1.1.1 128 (by decide)) hS, fun U hU hW => ⟨rfl, hC1401 U hU hW⟩⟩ rfl rfl hl.1 rfl (lv_room (Nat.le_of_ble_eq_true rfl)) dX9_shown_61 ⟨(Nat.le_of_ble_eq_true rfl), (Nat.le_of_ble_eq_true rfl)⟩) hS (fun q9 _ h9 => hF1398 q9 h9) hF1398 (fun r1403 u1402 t1402 H1402 L1402 ht1402 hvm1402 hw1402 hB1402 hz1402 hk1402 hS => ?_)
  have hP := pq_keep hP hD [] rfl hk1402 hB1402.1 ht1402
  have hG : s.heap.size + 1100 ≤ H1402.size := Nat.le_trans hG hz1402
  refine W.eq (g2 := F0 m 64 ls [.int 0]) (by rw [hw1402]) ?_
  refine lv_istore (lv' := [(6, .int 0), (4, .int 0), (5, .ref a1313), (3, .int 49), (1, .int 0), (2, .int 3), (0, .ref h0)]) hx hb dX9_shown_64 hl (by decide) rfl (fun ls hl => ?_)
  refine lv_iload hx hb dX9_shown_66 (lv_at hl 1 rfl) ?_
  refine lv_if_ne (tgt := 82) hx hb dX9_shown_68 (by decide) (fun cz => absurd (by decide) cz) (fun _ => ?_)
  refine lv_aload_n hx hb dX9_shown_71 rfl (lv_at hl 6 rfl) ?_
  refine lv_iload_n hx hb dX9_shown_72 rfl (lv_at hl 5 rfl) ?_
  refine lv_iload_n hx hb dX9_shown_73 rfl (lv_at hl 3 rfl) ?_
  refine lv_iload hx hb dX9_shown_74 (lv_at hl 0 rfl) ?_
  have hM1406 := k664_showsIt l hl9 dC dI z h0 h1 h2 h4 h5 h7 h8 h9 h10 h11 h12 h3 H1402.size kc0 kc2
  obtain ⟨hF1404, hC1407⟩ := pc_M hM1406 hP hD hK hS hX hT hA [0, 1, 2, 3, 4, 5, 6, 7, 8, 9, 10] [0, 1] rfl rfl rfl
  refine va_calli (va_runV (As := [.int 3, .int 49, .int 0]) (rest := []) ⟨hx, hb, hml, hown, hts⟩ hM1406 (cwV 3 hts (gV q_429 q_430 q_431 q_60 q_428) rfl rfl rfl hV_X9_showsIt ⟨Nat.le_of_ble_eq_true rfl, Nat.le_of_ble_eq_true rfl⟩) ⟨pc_blind, va_recv hK hP (ci := 8) (q0 := 0) rfl rfl, fun U hU hW => ⟨rfl, hC1407 U hU hW⟩⟩ rfl rfl hl.1 rfl (lv_room (Nat.le_of_ble_eq_true rfl)) dX9_shown_76 ⟨(Nat.le_of_ble_eq_true rfl), (Nat.le_of_ble_eq_true rfl)⟩) hS (fun q9 _ h9 => hF1404 q9 h9) hF1404 (fun r1409 u1408 t1408 H1408 L1408 ht1408 hvm1408 hw1408 hB1408 hz1408 hk1408 hS => ?_)
  have hP := pq_keep hP hD [0, 1, 2, 3, 4, 5, 6, 7, 8, 9, 10] rfl hk1408 hB1408.1 ht1408
  have hG : s.heap.size + 1121 ≤ H1408.size := va_gr (g := 1100) (g1 := 21) hG (by rw [← ht1408]; exact hB1408.2)
  refine W.eq (g2 := F0 m 79 ls [.int 0]) (by rw [hw1408]) ?_
  refine W.widen (k := 1121) (n := 12116) (by decide) (by decide) ?_
  refine lv_if_eq (tgt := 86) hx hb dX9_shown_79 (by decide) (fun _ => ?_) (fun cz => absurd (by decide) cz)
  refine lv_iconst (v := 0) hx hb dX9_shown_86 (by decide) ?_
  refine lv_istore (lv' := [(4, .int 0), (6, .int 0), (5, .ref a1313), (3, .int 49), (1, .int 0), (2, .int 3), (0, .ref h0)]) hx hb dX9_shown_87 hl (by decide) rfl (fun ls hl => ?_)
  refine lv_goto (tgt := 41) hx hb dX9_shown_89 (by decide) ?_
  refine lv_aload hx hb dX9_shown_41 (lv_at hl 2 rfl) ?_
  have hM1412 := k641_hasNext l hl9 dC dI z a1313 h3 h6 H1408.size
  obtain ⟨hF1410, hC1413⟩ := pc_M hM1412 hP hD hK hS hX hT hA [11, 12] [] rfl rfl rfl
  refine va_callFi (va_runF (As := []) (rest := []) (hK.1 1 _ rfl).2 ⟨hx, hb, hml, hown, hts⟩ hM1412 (va_cwF 0 hts (gF q_261 q_262 q_263 q_246 q_260) rfl rfl rfl hT.2.2.2.2.2.2.1 hF_xIh ⟨Nat.le_of_ble_eq_true rfl, Nat.le_of_ble_eq_true rfl⟩) ⟨pc_blind, va_recv hK hP (ci := 1) (q0 := 11) rfl rfl, fun U hU hW => ⟨rfl, hC1413 U hU hW⟩⟩ rfl rfl hl.1 rfl (lv_room (Nat.le_of_ble_eq_true rfl)) dX9_shown_43 ⟨(Nat.le_of_ble_eq_true rfl), (Nat.le_of_ble_eq_true rfl)⟩) hS (fun q9 _ h9 => hF1410 q9 h9) hF1410 (fun r1415 u1414 t1414 H1414 L1414 ht1414 hvm1414 hw1414 hB1414 hz1414 hk1414 hS => ?_)
  have hP := pq_keep hP hD [11, 12] rfl hk1414 hB1414.1 ht1414
  have hG : s.heap.size + 1121 ≤ H1414.size := Nat.le_trans hG hz1414
  refine W.eq (g2 := F0 m 48 ls [.int 1]) (by rw [hw1414]) ?_
  refine lv_if_eq (tgt := 92) hx hb dX9_shown_48 (by decide) (fun cz => absurd cz (by decide)) (fun _ => ?_)
  refine lv_aload hx hb dX9_shown_51 (lv_at hl 2 rfl) ?_
  have hM1418 := k643_next l hl9 dC dI z a1313 h3 h6 H1414.size kc1
  obtain ⟨hF1416, hC1419⟩ := pc_M hM1418 hP hD hK hS hX hT hA [11, 12, 13] [2] rfl rfl rfl
  refine va_callFr (va_runF (As := []) (rest := []) (hK.1 1 _ rfl).2 ⟨hx, hb, hml, hown, hts⟩ hM1418 (va_cwF 0 hts (gF q_308 q_309 q_310 q_246 q_307) rfl rfl rfl hT.2.2.2.2.2.2.2.1 hF_xIn ⟨Nat.le_of_ble_eq_true rfl, Nat.le_of_ble_eq_true rfl⟩) ⟨pc_blind, va_recv hK hP (ci := 1) (q0 := 11) rfl rfl, fun U hU hW => ⟨rfl, hC1419 U hU hW⟩⟩ rfl rfl hl.1 rfl (lv_room (Nat.le_of_ble_eq_true rfl)) dX9_shown_53 ⟨(Nat.le_of_ble_eq_true rfl), (Nat.le_of_ble_eq_true rfl)⟩) hS (fun q9 _ h9 => hF1416 q9 h9) hF1416 (fun u1420 r1421 t1420 H1420 L1420 ht1420 hvm1420 hw1420 hB1420 hz1420 hk1420 hS => ?_)
  obtain ⟨hr1420, hB1420⟩ := hB1420
  obtain ⟨hP, hD, hK⟩ := pq_jn (wz := [(h0, ce21 h1 h2 h3 h4), (h1, ce201 h5), (h2, ce3 z.1), (h4, ce226 h7), (h5, ce200 kc0 h8 h9 h10 h11 h12), (h7, ce200 kc2 (z.2.2.1 128) (z.2.2.1 129) (z.2.2.1 130) (z.2.2.1 131) (z.2.2.1 132)), (h8, ce49), (h9, ce49), (h10, ce49), (h11, ce49), (h12, ce49), (a1313, ce316 h3), (h3, ce276 h6), (h6, ce275 kc1 (z.2.2.1 128) (z.2.2.1 128) (z.2.2.1 128) (z.2.2.1 128) (z.2.2.1 128) (z.2.2.1 128) (z.2.2.1 128))]) (tz := [(kc0, .object "java/lang/Object"), (kc2, .object "java/lang/Object"), (kc1, .object "java/lang/Object")]) hP hD hK [11, 12, 13] [0, 1] rfl hk1420 hF1416 hB1420.1 ht1420 hvm1420 rfl rfl
  have hG : s.heap.size + 1121 ≤ H1420.size := Nat.le_trans hG hz1420
  refine W.eq (g2 := F0 m 58 ls [.ref (z.2.2.1 128)]) (by rw [hr1420]) ?_
  refine va_castE (nm := "java/lang/Integer") hx hb hown (hts _ q_320) (va_Orecv (hX.2.2.1.1.1 128 (by decide)) hS) dX9_shown_58 ?_
  have hM1424 := k74_intValue l hl9 dC dI z H1420.size
  obtain ⟨hF1422, hC1425⟩ := pc_M hM1424 hP hD hK hS hX hT hA [] [] rfl rfl rfl
  refine va_calli (va_runV (As := []) (rest := []) ⟨hx, hb, hml, hown, hts⟩ hM1424 (cwV 0 hts (gV q_323 q_324 q_325 q_297 q_322) rfl rfl rfl hV_J6_intValue_8abf5 ⟨Nat.le_of_ble_eq_true rfl, Nat.le_of_ble_eq_true rfl⟩) ⟨pc_blind, va_Orecv (hX.2.2.1.1.1 128 (by decide)) hS, fun U hU hW => ⟨rfl, hC1425 U hU hW⟩⟩ rfl rfl hl.1 rfl (lv_room (Nat.le_of_ble_eq_true rfl)) dX9_shown_61 ⟨(Nat.le_of_ble_eq_true rfl), (Nat.le_of_ble_eq_true rfl)⟩) hS (fun q9 _ h9 => hF1422 q9 h9) hF1422 (fun r1427 u1426 t1426 H1426 L1426 ht1426 hvm1426 hw1426 hB1426 hz1426 hk1426 hS => ?_)
  have hP := pq_keep hP hD [] rfl hk1426 hB1426.1 ht1426
  have hG : s.heap.size + 1121 ≤ H1426.size := Nat.le_trans hG hz1426
  refine W.eq (g2 := F0 m 64 ls [.int 0]) (by rw [hw1426]) ?_
  refine lv_istore (lv' := [(6, .int 0), (4, .int 0), (5, .ref a1313), (3, .int 49), (1, .int 0), (2, .int 3), (0, .ref h0)]) hx hb dX9_shown_64 hl (by decide) rfl (fun ls hl => ?_)
  refine lv_iload hx hb dX9_shown_66 (lv_at hl 1 rfl) ?_
  refine lv_if_ne (tgt := 82) hx hb dX9_shown_68 (by decide) (fun cz => absurd (by decide) cz) (fun _ => ?_)
  refine lv_aload_n hx hb dX9_shown_71 rfl (lv_at hl 6 rfl) ?_
  refine lv_iload_n hx hb dX9_shown_72 rfl (lv_at hl 5 rfl) ?_
  refine lv_iload_n hx hb dX9_shown_73 rfl (lv_at hl 3 rfl) ?_
  refine lv_iload hx hb dX9_shown_74 (lv_at hl 0 rfl) ?_
  have hM1430 := k664_showsIt l hl9 dC dI z h0 h1 h2 h4 h5 h7 h8 h9 h10 h11 h12 h3 H1426.size kc0 kc2
  obtain ⟨hF1428, hC1431⟩ := pc_M hM1430 hP hD hK hS hX hT hA [0, 1, 2, 3, 4, 5, 6, 7, 8, 9, 10] [0, 1] rfl rfl rfl
  refine va_calli (va_runV (As := [.int 3, .int 49, .int 0]) (rest := []) ⟨hx, hb, hml, hown, hts⟩ hM1430 (cwV 3 hts (gV q_429 q_430 q_431 q_60 q_428) rfl rfl rfl hV_X9_showsIt ⟨Nat.le_of_ble_eq_true rfl, Nat.le_of_ble_eq_true rfl⟩) ⟨pc_blind, va_recv hK hP (ci := 8) (q0 := 0) rfl rfl, fun U hU hW => ⟨rfl, hC1431 U hU hW⟩⟩ rfl rfl hl.1 rfl (lv_room (Nat.le_of_ble_eq_true rfl)) dX9_shown_76 ⟨(Nat.le_of_ble_eq_true rfl), (Nat.le_of_ble_eq_true rfl)⟩) hS (fun q9 _ h9 => hF1428 q9 h9) hF1428 (fun r1433 u1432 t1432 H1432 L1432 ht1432 hvm1432 hw1432 hB1432 hz1432 hk1432 hS => ?_)
  have hP := pq_keep hP hD [0, 1, 2, 3, 4, 5, 6, 7, 8, 9, 10] rfl hk1432 hB1432.1 ht1432
  have hG : s.heap.size + 1142 ≤ H1432.size := va_gr (g := 1121) (g1 := 21) hG (by rw [← ht1432]; exact hB1432.2)
  refine W.eq (g2 := F0 m 79 ls [.int 0]) (by rw [hw1432]) ?_
  refine W.widen (k := 1142) (n := 12344) (by decide) (by decide) ?_
  refine lv_if_eq (tgt := 86) hx hb dX9_shown_79 (by decide) (fun _ => ?_) (fun cz => absurd (by decide) cz)
  refine lv_iconst (v := 0) hx hb dX9_shown_86 (by decide) ?_
  refine lv_istore (lv' := [(4, .int 0), (6, .int 0), (5, .ref a1313), (3, .int 49), (1, .int 0), (2, .int 3), (0, .ref h0)]) hx hb dX9_shown_87 hl (by decide) rfl (fun ls hl => ?_)
  refine lv_goto (tgt := 41) hx hb dX9_shown_89 (by decide) ?_
  refine lv_aload hx hb dX9_shown_41 (lv_at hl 2 rfl) ?_
  have hM1436 := k644_hasNext l hl9 dC dI z a1313 h3 h6 H1432.size
  obtain ⟨hF1434, hC1437⟩ := pc_M hM1436 hP hD hK hS hX hT hA [11, 12] [] rfl rfl rfl
  refine va_callFi (va_runF (As := []) (rest := []) (hK.1 1 _ rfl).2 ⟨hx, hb, hml, hown, hts⟩ hM1436 (va_cwF 0 hts (gF q_261 q_262 q_263 q_246 q_260) rfl rfl rfl hT.2.2.2.2.2.2.1 hF_xIh ⟨Nat.le_of_ble_eq_true rfl, Nat.le_of_ble_eq_true rfl⟩) ⟨pc_blind, va_recv hK hP (ci := 1) (q0 := 11) rfl rfl, fun U hU hW => ⟨rfl, hC1437 U hU hW⟩⟩ rfl rfl hl.1 rfl (lv_room (Nat.le_of_ble_eq_true rfl)) dX9_shown_43 ⟨(Nat.le_of_ble_eq_true rfl), (Nat.le_of_ble_eq_true rfl)⟩) hS (fun q9 _ h9 => hF1434 q9 h9) hF1434 (fun r1439 u1438 t1438 H1438 L1438 ht1438 hvm1438 hw1438 hB1438 hz1438 hk1438 hS => ?_)
  have hP := pq_keep hP hD [11, 12] rfl hk1438 hB1438.1 ht1438
  have hG : s.heap.size + 1142 ≤ H1438.size := Nat.le_trans hG hz1438
  refine W.eq (g2 := F0 m 48 ls [.int 1]) (by rw [hw1438]) ?_
  refine lv_if_eq (tgt := 92) hx hb dX9_shown_48 (by decide) (fun cz => absurd cz (by decide)) (fun _ => ?_)
  refine lv_aload hx hb dX9_shown_51 (lv_at hl 2 rfl) ?_
  have hM1442 := k646_next l hl9 dC dI z a1313 h3 h6 H1438.size kc1
  obtain ⟨hF1440, hC1443⟩ := pc_M hM1442 hP hD hK hS hX hT hA [11, 12, 13] [2] rfl rfl rfl
  refine va_callFr (va_runF (As := []) (rest := []) (hK.1 1 _ rfl).2 ⟨hx, hb, hml, hown, hts⟩ hM1442 (va_cwF 0 hts (gF q_308 q_309 q_310 q_246 q_307) rfl rfl rfl hT.2.2.2.2.2.2.2.1 hF_xIn ⟨Nat.le_of_ble_eq_true rfl, Nat.le_of_ble_eq_true rfl⟩) ⟨pc_blind, va_recv hK hP (ci := 1) (q0 := 11) rfl rfl, fun U hU hW => ⟨rfl, hC1443 U hU hW⟩⟩ rfl rfl hl.1 rfl (lv_room (Nat.le_of_ble_eq_true rfl)) dX9_shown_53 ⟨(Nat.le_of_ble_eq_true rfl), (Nat.le_of_ble_eq_true rfl)⟩) hS (fun q9 _ h9 => hF1440 q9 h9) hF1440 (fun u1444 r1445 t1444 H1444 L1444 ht1444 hvm1444 hw1444 hB1444 hz1444 hk1444 hS => ?_)
  obtain ⟨hr1444, hB1444⟩ := hB1444
  obtain ⟨hP, hD, hK⟩ := pq_jn (wz := [(h0, ce21 h1 h2 h3 h4), (h1, ce201 h5), (h2, ce3 z.1), (h4, ce226 h7), (h5, ce200 kc0 h8 h9 h10 h11 h12), (h7, ce200 kc2 (z.2.2.1 128) (z.2.2.1 129) (z.2.2.1 130) (z.2.2.1 131) (z.2.2.1 132)), (h8, ce49), (h9, ce49), (h10, ce49), (h11, ce49), (h12, ce49), (a1313, ce318 h3), (h3, ce276 h6), (h6, ce275 kc1 (z.2.2.1 128) (z.2.2.1 128) (z.2.2.1 128) (z.2.2.1 128) (z.2.2.1 128) (z.2.2.1 128) (z.2.2.1 128))]) (tz := [(kc0, .object "java/lang/Object"), (kc2, .object "java/lang/Object"), (kc1, .object "java/lang/Object")]) hP hD hK [11, 12, 13] [0, 1] rfl hk1444 hF1440 hB1444.1 ht1444 hvm1444 rfl rfl
  have hG : s.heap.size + 1142 ≤ H1444.size := Nat.le_trans hG hz1444
  refine W.eq (g2 := F0 m 58 ls [.ref (z.2.2.1 128)]) (by rw [hr1444]) ?_
  refine va_castE (nm := "java/lang/Integer") hx hb hown (hts _ q_320) (va_Orecv (hX.2.2.1.1.1 128 (by decide)) hS) dX9_shown_58 ?_
  have hM1448 := k74_intValue l hl9 dC dI z H1444.size
  obtain ⟨hF1446, hC1449⟩ := pc_M hM1448 hP hD hK hS hX hT hA [] [] rfl rfl rfl
  refine va_calli (va_runV (As := []) (rest := []) ⟨hx, hb, hml, hown, hts⟩ hM1448 (cwV 0 hts (gV q_323 q_324 q_325 q_297 q_322) rfl rfl rfl hV_J6_intValue_8abf5 ⟨Nat.le_of_ble_eq_true rfl, Nat.le_of_ble_eq_true rfl⟩) ⟨pc_blind, va_Orecv (hX.2.2.1.1.1 128 (by decide)) hS, fun U hU hW => ⟨rfl, hC1449 U hU hW⟩⟩ rfl rfl hl.1 rfl (lv_room (Nat.le_of_ble_eq_true rfl)) dX9_shown_61 ⟨(Nat.le_of_ble_eq_true rfl), (Nat.le_of_ble_eq_true rfl)⟩) hS (fun q9 _ h9 => hF1446 q9 h9) hF1446 (fun r1451 u1450 t1450 H1450 L1450 ht1450 hvm1450 hw1450 hB1450 hz1450 hk1450 hS => ?_)
  have hP := pq_keep hP hD [] rfl hk1450 hB1450.1 ht1450
  have hG : s.heap.size + 1142 ≤ H1450.size := Nat.le_trans hG hz1450
  refine W.eq (g2 := F0 m 64 ls [.int 0]) (by rw [hw1450]) ?_
  refine lv_istore (lv' := [(6, .int 0), (4, .int 0), (5, .ref a1313), (3, .int 49), (1, .int 0), (2, .int 3), (0, .ref h0)]) hx hb dX9_shown_64 hl (by decide) rfl (fun ls hl => ?_)
  refine lv_iload hx hb dX9_shown_66 (lv_at hl 1 rfl) ?_
  refine lv_if_ne (tgt := 82) hx hb dX9_shown_68 (by decide) (fun cz => absurd (by decide) cz) (fun _ => ?_)
  refine lv_aload_n hx hb dX9_shown_71 rfl (lv_at hl 6 rfl) ?_
  refine lv_iload_n hx hb dX9_shown_72 rfl (lv_at hl 5 rfl) ?_
  refine lv_iload_n hx hb dX9_shown_73 rfl (lv_at hl 3 rfl) ?_
  refine lv_iload hx hb dX9_shown_74 (lv_at hl 0 rfl) ?_
  have hM1454 := k664_showsIt l hl9 dC dI z h0 h1 h2 h4 h5 h7 h8 h9 h10 h11 h12 h3 H1450.size kc0 kc2
  obtain ⟨hF1452, hC1455⟩ := pc_M hM1454 hP hD hK hS hX hT hA [0, 1, 2, 3, 4, 5, 6, 7, 8, 9, 10] [0, 1] rfl rfl rfl
  refine va_calli (va_runV (As := [.int 3, .int 49, .int 0]) (rest := []) ⟨hx, hb, hml, hown, hts⟩ hM1454 (cwV 3 hts (gV q_429 q_430 q_431 q_60 q_428) rfl rfl rfl hV_X9_showsIt ⟨Nat.le_of_ble_eq_true rfl, Nat.le_of_ble_eq_true rfl⟩) ⟨pc_blind, va_recv hK hP (ci := 8) (q0 := 0) rfl rfl, fun U hU hW => ⟨rfl, hC1455 U hU hW⟩⟩ rfl rfl hl.1 rfl (lv_room (Nat.le_of_ble_eq_true rfl)) dX9_shown_76 ⟨(Nat.le_of_ble_eq_true rfl), (Nat.le_of_ble_eq_true rfl)⟩) hS (fun q9 _ h9 => hF1452 q9 h9) hF1452 (fun r1457 u1456 t1456 H1456 L1456 ht1456 hvm1456 hw1456 hB1456 hz1456 hk1456 hS => ?_)
  have hP := pq_keep hP hD [0, 1, 2, 3, 4, 5, 6, 7, 8, 9, 10] rfl hk1456 hB1456.1 ht1456
  have hG : s.heap.size + 1163 ≤ H1456.size := va_gr (g := 1142) (g1 := 21) hG (by rw [← ht1456]; exact hB1456.2)
  refine W.eq (g2 := F0 m 79 ls [.int 0]) (by rw [hw1456]) ?_
  refine W.widen (k := 1163) (n := 12572) (by decide) (by decide) ?_
  refine lv_if_eq (tgt := 86) hx hb dX9_shown_79 (by decide) (fun _ => ?_) (fun cz => absurd (by decide) cz)
  refine lv_iconst (v := 0) hx hb dX9_shown_86 (by decide) ?_
  refine lv_istore (lv' := [(4, .int 0), (6, .int 0), (5, .ref a1313), (3, .int 49), (1, .int 0), (2, .int 3), (0, .ref h0)]) hx hb dX9_shown_87 hl (by decide) rfl (fun ls hl => ?_)
  refine lv_goto (tgt := 41) hx hb dX9_shown_89 (by decide) ?_
  refine lv_aload hx hb dX9_shown_41 (lv_at hl 2 rfl) ?_
  have hM1460 := k647_hasNext l hl9 dC dI z a1313 h3 h6 H1456.size
  obtain ⟨hF1458, hC1461⟩ := pc_M hM1460 hP hD hK hS hX hT hA [11, 12] [] rfl rfl rfl
  refine va_callFi (va_runF (As := []) (rest := []) (hK.1 1 _ rfl).2 ⟨hx, hb, hml, hown, hts⟩ hM1460 (va_cwF 0 hts (gF q_261 q_262 q_263 q_246 q_260) rfl rfl rfl hT.2.2.2.2.2.2.1 hF_xIh ⟨Nat.le_of_ble_eq_true rfl, Nat.le_of_ble_eq_true rfl⟩) ⟨pc_blind, va_recv hK hP (ci := 1) (q0 := 11) rfl rfl, fun U hU hW => ⟨rfl, hC1461 U hU hW⟩⟩ rfl rfl hl.1 rfl (lv_room (Nat.le_of_ble_eq_true rfl)) dX9_shown_43 ⟨(Nat.le_of_ble_eq_true rfl), (Nat.le_of_ble_eq_true rfl)⟩) hS (fun q9 _ h9 => hF1458 q9 h9) hF1458 (fun r1463 u1462 t1462 H1462 L1462 ht1462 hvm1462 hw1462 hB1462 hz1462 hk1462 hS => ?_)
  have hP := pq_keep hP hD [11, 12] rfl hk1462 hB1462.1 ht1462
  have hG : s.heap.size + 1163 ≤ H1462.size := Nat.le_trans hG hz1462
  refine W.eq (g2 := F0 m 48 ls [.int 1]) (by rw [hw1462]) ?_
  refine lv_if_eq (tgt := 92) hx hb dX9_shown_48 (by decide) (fun cz => absurd cz (by decide)) (fun _ => ?_)
  refine lv_aload hx hb dX9_shown_51 (lv_at hl 2 rfl) ?_
  have hM1466 := k649_next l hl9 dC dI z a1313 h3 h6 H1462.size kc1
  obtain ⟨hF1464, hC1467⟩ := pc_M hM1466 hP hD hK hS hX hT hA [11, 12, 13] [2] rfl rfl rfl
  refine va_callFr (va_runF (As := []) (rest := []) (hK.1 1 _ rfl).2 ⟨hx, hb, hml, hown, hts⟩ hM1466 (va_cwF 0 hts (gF q_308 q_309 q_310 q_246 q_307) rfl rfl rfl hT.2.2.2.2.2.2.2.1 hF_xIn ⟨Nat.le_of_ble_eq_true rfl, Nat.le_of_ble_eq_true rfl⟩) ⟨pc_blind, va_recv hK hP (ci := 1) (q0 := 11) rfl rfl, fun U hU hW => ⟨rfl, hC1467 U hU hW⟩⟩ rfl rfl hl.1 rfl (lv_room (Nat.le_of_ble_eq_true rfl)) dX9_shown_53 ⟨(Nat.le_of_ble_eq_true rfl), (Nat.le_of_ble_eq_true rfl)⟩) hS (fun q9 _ h9 => hF1464 q9 h9) hF1464 (fun u1468 r1469 t1468 H1468 L1468 ht1468 hvm1468 hw1468 hB1468 hz1468 hk1468 hS => ?_)
  obtain ⟨hr1468, hB1468⟩ := hB1468
  obtain ⟨hP, hD, hK⟩ := pq_jn (wz := [(h0, ce21 h1 h2 h3 h4), (h1, ce201 h5), (h2, ce3 z.1), (h4, ce226 h7), (h5, ce200 kc0 h8 h9 h10 h11 h12), (h7, ce200 kc2 (z.2.2.1 128) (z.2.2.1 129) (z.2.2.1 130) (z.2.2.1 131) (z.2.2.1 132)), (h8, ce49), (h9, ce49), (h10, ce49), (h11, ce49), (h12, ce49), (a1313, ce320 h3), (h3, ce276 h6), (h6, ce275 kc1 (z.2.2.1 128) (z.2.2.1 128) (z.2.2.1 128) (z.2.2.1 128) (z.2.2.1 128) (z.2.2.1 128) (z.2.2.1 128))]) (tz := [(kc0, .object "java/lang/Object"), (kc2, .object "java/lang/Object"), (kc1, .object "java/lang/Object")]) hP hD hK [11, 12, 13] [0, 1] rfl hk1468 hF1464 hB1468.1 ht1468 hvm1468 rfl rfl
  have hG : s.heap.size + 1163 ≤ H1468.size := Nat.le_trans hG hz1468
  refine W.eq (g2 := F0 m 58 ls [.ref (z.2.2.1 128)]) (by rw [hr1468]) ?_
  refine va_castE (nm := "java/lang/Integer") hx hb hown (hts _ q_320) (va_Orecv (hX.2.2.1.1.1 128 (by decide)) hS) dX9_shown_58 ?_
  have hM1472 := k74_intValue l hl9 dC dI z H1468.size
  obtain ⟨hF1470, hC1473⟩ := pc_M hM1472 hP hD hK hS hX hT hA [] [] rfl rfl rfl
  refine va_calli (va_runV (As := []) (rest := []) ⟨hx, hb, hml, hown, hts⟩ hM1472 (cwV 0 hts (gV q_323 q_324 q_325 q_297 q_322) rfl rfl rfl hV_J6_intValue_8abf5 ⟨Nat.le_of_ble_eq_true rfl, Nat.le_of_ble_eq_true rfl⟩) ⟨pc_blind, va_Orecv (hX.2.2.1.1.1 128 (by decide)) hS, fun U hU hW => ⟨rfl, hC1473 U hU hW⟩⟩ rfl rfl hl.1 rfl (lv_room (Nat.le_of_ble_eq_true rfl)) dX9_shown_61 ⟨(Nat.le_of_ble_eq_true rfl), (Nat.le_of_ble_eq_true rfl)⟩) hS (fun q9 _ h9 => hF1470 q9 h9) hF1470 (fun r1475 u1474 t1474 H1474 L1474 ht1474 hvm1474 hw1474 hB1474 hz1474 hk1474 hS => ?_)
  have hP := pq_keep hP hD [] rfl hk1474 hB1474.1 ht1474
  have hG : s.heap.size + 1163 ≤ H1474.size := Nat.le_trans hG hz1474
  refine W.eq (g2 := F0 m 64 ls [.int 0]) (by rw [hw1474]) ?_
  refine lv_istore (lv' := [(6, .int 0), (4, .int 0), (5, .ref a1313), (3, .int 49), (1, .int 0), (2, .int 3), (0, .ref h0)]) hx hb dX9_shown_64 hl (by decide) rfl (fun ls hl => ?_)
  refine lv_iload hx hb dX9_shown_66 (lv_at hl 1 rfl) ?_
  refine lv_if_ne (tgt := 82) hx hb dX9_shown_68 (by decide) (fun cz => absurd (by decide) cz) (fun _ => ?_)
  refine lv_aload_n hx hb dX9_shown_71 rfl (lv_at hl 6 rfl) ?_
  refine lv_iload_n hx hb dX9_shown_72 rfl (lv_at hl 5 rfl) ?_
  refine lv_iload_n hx hb dX9_shown_73 rfl (lv_at hl 3 rfl) ?_
  refine lv_iload hx hb dX9_shown_74 (lv_at hl 0 rfl) ?_
  have hM1478 := k664_showsIt l hl9 dC dI z h0 h1 h2 h4 h5 h7 h8 h9 h10 h11 h12 h3 H1474.size kc0 kc2
  obtain ⟨hF1476, hC1479⟩ := pc_M hM1478 hP hD hK hS hX hT hA [0, 1, 2, 3, 4, 5, 6, 7, 8, 9, 10] [0, 1] rfl rfl rfl
  refine va_calli (va_runV (As := [.int 3, .int 49, .int 0]) (rest := []) ⟨hx, hb, hml, hown, hts⟩ hM1478 (cwV 3 hts (gV q_429 q_430 q_431 q_60 q_428) rfl rfl rfl hV_X9_showsIt ⟨Nat.le_of_ble_eq_true rfl, Nat.le_of_ble_eq_true rfl⟩) ⟨pc_blind, va_recv hK hP (ci := 8) (q0 := 0) rfl rfl, fun U hU hW => ⟨rfl, hC1479 U hU hW⟩⟩ rfl rfl hl.1 rfl (lv_room (Nat.le_of_ble_eq_true rfl)) dX9_shown_76 ⟨(Nat.le_of_ble_eq_true rfl), (Nat.le_of_ble_eq_true rfl)⟩) hS (fun q9 _ h9 => hF1476 q9 h9) hF1476 (fun r1481 u1480 t1480 H1480 L1480 ht1480 hvm1480 hw1480 hB1480 hz1480 hk1480 hS => ?_)
  have hP := pq_keep hP hD [0, 1, 2, 3, 4, 5, 6, 7, 8, 9, 10] rfl hk1480 hB1480.1 ht1480
  have hG : s.heap.size + 1184 ≤ H1480.size := va_gr (g := 1163) (g1 := 21) hG (by rw [← ht1480]; exact hB1480.2)
  refine W.eq (g2 := F0 m 79 ls [.int 0]) (by rw [hw1480]) ?_
  refine W.widen (k := 1184) (n := 12800) (by decide) (by decide) ?_
  refine lv_if_eq (tgt := 86) hx hb dX9_shown_79 (by decide) (fun _ => ?_) (fun cz => absurd (by decide) cz)
  refine lv_iconst (v := 0) hx hb dX9_shown_86 (by decide) ?_
  refine lv_istore (lv' := [(4, .int 0), (6, .int 0), (5, .ref a1313), (3, .int 49), (1, .int 0), (2, .int 3), (0, .ref h0)]) hx hb dX9_shown_87 hl (by decide) rfl (fun ls hl => ?_)
  refine lv_goto (tgt := 41) hx hb dX9_shown_89 (by decide) ?_
  refine lv_aload hx hb dX9_shown_41 (lv_at hl 2 rfl) ?_
  have hM1484 := k650_hasNext l hl9 dC dI z a1313 h3 h6 H1480.size
  obtain ⟨hF1482, hC1485⟩ := pc_M hM1484 hP hD hK hS hX hT hA [11, 12] [] rfl rfl rfl
  refine va_callFi (va_runF (As := []) (rest := []) (hK.1 1 _ rfl).2 ⟨hx, hb, hml, hown, hts⟩ hM1484 (va_cwF 0 hts (gF q_261 q_262 q_263 q_246 q_260) rfl rfl rfl hT.2.2.2.2.2.2.1 hF_xIh ⟨Nat.le_of_ble_eq_true rfl, Nat.le_of_ble_eq_true rfl⟩) ⟨pc_blind, va_recv hK hP (ci := 1) (q0 := 11) rfl rfl, fun U hU hW => ⟨rfl, hC1485 U hU hW⟩⟩ rfl rfl hl.1 rfl (lv_room (Nat.le_of_ble_eq_true rfl)) dX9_shown_43 ⟨(Nat.le_of_ble_eq_true rfl), (Nat.le_of_ble_eq_true rfl)⟩) hS (fun q9 _ h9 => hF1482 q9 h9) hF1482 (fun r1487 u1486 t1486 H1486 L1486 ht1486 hvm1486 hw1486 hB1486 hz1486 hk1486 hS => ?_)
  have hP := pq_keep hP hD [11, 12] rfl hk1486 hB1486.1 ht1486
  have hG : s.heap.size + 1184 ≤ H1486.size := Nat.le_trans hG hz1486
  refine W.eq (g2 := F0 m 48 ls [.int 0]) (by rw [hw1486]) ?_
  refine lv_if_eq (tgt := 92) hx hb dX9_shown_48 (by decide) (fun _ => ?_) (fun cz => absurd (by decide) cz)
  refine lv_iload_n hx hb dX9_shown_92 rfl (lv_at hl 4 rfl) ?_
  refine lv_iload hx hb dX9_shown_93 (lv_at hl 0 rfl) ?_
  refine lv_if_eq (tgt := 102) hx hb dX9_shown_95 (by decide) (fun _ => ?_) (fun cz => absurd (by decide) cz)
  refine lv_iconst (v := 0) hx hb dX9_shown_102 (by decide) ?_
  refine lv_iadd hx hb dX9_shown_103 ?_
  refine lv_topi (fun y1488 ey1488 => ?_)
  obtain rfl : y1488 = 0 := ey1488.trans (by decide)
  refine lv_istore_n (lv' := [(1, .int 0), (4, .int 0), (6, .int 0), (5, .ref a1313), (3, .int 49), (2, .int 3), (0, .ref h0)]) hx hb dX9_shown_104 rfl hl (by decide) rfl (fun ls hl => ?_)
  refine lv_iload_n hx hb dX9_shown_105 rfl (lv_at hl 4 rfl) ?_
  refine lv_iconst (v := 1) hx hb dX9_shown_106 (by decide) ?_
  refine lv_iadd hx hb dX9_shown_107 ?_
  refine lv_topi (fun y1489 ey1489 => ?_)
  obtain rfl : y1489 = 50 := ey1489.trans (by decide)
  refine lv_i2c (v := 50) hx hb dX9_shown_108 (by decide) ?_
  refine lv_istore_n (lv' := [(3, .int 50), (1, .int 0), (4, .int 0), (6, .int 0), (5, .ref a1313), (2, .int 3), (0, .ref h0)]) hx hb dX9_shown_109 rfl hl (by decide) rfl (fun ls hl => ?_)
  refine lv_goto (tgt := 23) hx hb dX9_shown_110 (by decide) ?_
  exact hend _ _ _ hS (hP.sub [0, 1, 2, 12, 3, 4, 13, 5, 6, 7, 8, 9, 10] rfl) (hD.sub [0, 1, 2, 12, 3, 4, 13, 5, 6, 7, 8, 9, 10] rfl rfl) (lv_sub hl [0, 1, 5, 6] rfl) hG

set_option maxHeartbeats 8000000 in
set_option maxRecDepth 100000 in
theorem k669_shown_g12 {p : Program} {l : Launch} {e : Env} {s : State} {m : MethodId} {args : Array Value} {below : List Frame} {meth : Method} {c : Code} {Q : State → Prop} {A : Nat → Prop} {H : Heap} {locs : List Loc} {ls : Array Slot} {dC : Nat → ClassId} {dI : Nat → Nat → Nat} {z : XZ} {h0 h1 h2 h3 h4 h5 h6 h7 h8 h9 h10 h11 h12 : Nat} {kc0 kc1 kc2 : ClassId} (hl9 : l.stackTraces = false) (hx : p.tables.exec = Jvm.exec) (hb : c.code = cX9_shown) (hml : c.maxLocals = 7) (hown : s.vm.findClass RX9 = some m.cls) (hts : ∀ w ∈ wsL_law, w.before args s = true) (hA : ∀ q : Nat, s.heap.size ≤ q → A q) (hX : XE z A s s.heap) (hT : XT s) (hS : va_S A s.heap H locs) (hP : va_P (dC, dI) xCl [(h0, ce21 h1 h2 h3 h4), (h1, ce201 h5), (h2, ce3 z.1), (h3, ce276 h6), (h4, ce226 h7), (h5, ce200 kc0 h8 h9 h10 h11 h12), (h6, ce275 kc1 (z.2.2.1 128) (z.2.2.1 128) (z.2.2.1 128) (z.2.2.1 128) (z.2.2.1 128) (z.2.2.1 128) (z.2.2.1 128)), (h7, ce200 kc2 (z.2.2.1 128) (z.2.2.1 129) (z.2.2.1 130) (z.2.2.1 131) (z.2.2.1 132)), (h8, ce49), (h9, ce49), (h10, ce49), (h11, ce49), (h12, ce49)] H) (hD : va_D A [(h0, ce21 h1 h2 h3 h4), (h1, ce201 h5), (h2, ce3 z.1), (h3, ce276 h6), (h4, ce226 h7), (h5, ce200 kc0 h8 h9 h10 h11 h12), (h6, ce275 kc1 (z.2.2.1 128) (z.2.2.1 128) (z.2.2.1 128) (z.2.2.1 128) (z.2.2.1 128) (z.2.2.1 128) (z.2.2.1 128)), (h7, ce200 kc2 (z.2.2.1 128) (z.2.2.1 129) (z.2.2.1 130) (z.2.2.1 131) (z.2.2.1 132)), (h8, ce49), (h9, ce49), (h10, ce49), (h11, ce49), (h12, ce49)]) (hK : va_K (dC, dI) xCl [(kc0, .object "java/lang/Object"), (kc1, .object "java/lang/Object"), (kc2, .object "java/lang/Object")] s) (hl : lv_has ls 7 [(3, .int 50), (1, .int 0), (2, .int 3), (0, .ref h0)]) (hG : s.heap.size + 1184 ≤ H.size) (hend : ∀ (H' : Heap) (locs' : List Loc) (ls' : Array Slot), va_S A s.heap H' locs' → va_P (dC, dI) xCl [(h0, ce21 h1 h2 h3 h4), (h1, ce201 h5), (h2, ce3 z.1), (h3, ce276 h6), (h4, ce226 h7), (h5, ce200 kc0 h8 h9 h10 h11 h12), (h6, ce275 kc1 (z.2.2.1 128) (z.2.2.1 128) (z.2.2.1 128) (z.2.2.1 128) (z.2.2.1 128) (z.2.2.1 128) (z.2.2.1 128)), (h7, ce200 kc2 (z.2.2.1 128) (z.2.2.1 129) (z.2.2.1 130) (z.2.2.1 131) (z.2.2.1 132)), (h8, ce49), (h9, ce49), (h10, ce49), (h11, ce49), (h12, ce49)] H' → va_D A [(h0, ce21 h1 h2 h3 h4), (h1, ce201 h5), (h2, ce3 z.1), (h3, ce276 h6), (h4, ce226 h7), (h5, ce200 kc0 h8 h9 h10 h11 h12), (h6, ce275 kc1 (z.2.2.1 128) (z.2.2.1 128) (z.2.2.1 128) (z.2.2.1 128) (z.2.2.1 128) (z.2.2.1 128) (z.2.2.1 128)), (h7, ce200 kc2 (z.2.2.1 128) (z.2.2.1 129) (z.2.2.1 130) (z.2.2.1 131) (z.2.2.1 132)), (h8, ce49), (h9, ce49), (h10, ce49), (h11, ce49), (h12, ce49)] → lv_has ls' 7 [(3, .int 48), (2, .int 4), (1, .int 0), (0, .ref h0)] → s.heap.size + 1184 ≤ H'.size → W p l e ({ frames := 5, cells := 1480, slots := 16000, locals := 121 } : Room) s m args below meth c H' locs' 1184 12800 Q (F0 m 23 ls' [])) : W p l e ({ frames := 5, cells := 1480, slots := 16000, locals := 121 } : Room) s m args below meth c H locs 1184 12800 Q (F0 m 23 ls []) := by
  refine lv_iload_n hx hb dX9_shown_23 rfl (lv_at hl 0 rfl) ?_
  refine lv_bipush (v := 49) hx hb dX9_shown_24 (by decide) ?_
  refine lv_icmp_gt (tgt := 113) hx hb dX9_shown_26 (by decide) (fun _ => ?_) (fun cz => absurd (by decide) cz)
  refine lv_iinc (v := 4) (lv' := [(2, .int 4), (3, .int 50), (1, .int 0), (0, .ref h0)]) hx hb dX9_shown_113 hl (k := 2) rfl (by decide) (by decide) rfl (fun ls hl => ?_)
  refine lv_goto (tgt := 9) hx hb dX9_shown_116 (by decide) ?_
  refine lv_iload_n hx hb dX9_shown_9 rfl (lv_at hl 0 rfl) ?_
  refine lv_aload_n hx hb dX9_shown_10 rfl (lv_at hl 3 rfl) ?_
  refine va_get (D := (dC, dI)) (ci := 8) (v := .ref h1) (C := RX9) (T := TX9) (N := 6) hx hb hts in_X9 hown hK hP 0 rfl rfl 1 (by decide) (hts _ q_64) (fun _ h9 => h9) rfl dX9_shown_11 ?_
  have hM1492 := k20_size l hl9 dC dI z h1 h5 H.size 5 5
  obtain ⟨hF1490, hC1493⟩ := pc_M hM1492 hP hD hK hS hX hT hA [1] [] rfl rfl rfl
  refine va_calli (va_runV (As := []) (rest := [.int 4]) ⟨hx, hb, hml, hown, hts⟩ hM1492 (cwV 0 hts (gV q_272 q_77 q_78 q_12 q_75) rfl rfl rfl hV_Jx4a65c_size_8abf5 ⟨Nat.le_of_ble_eq_true rfl, Nat.le_of_ble_eq_true rfl⟩) ⟨pc_blind, va_recv hK hP (ci := 0) (q0 := 1) rfl rfl, fun U hU hW => ⟨rfl, hC1493 U hU hW⟩⟩ rfl rfl hl.1 rfl (lv_room (Nat.le_of_ble_eq_true rfl)) dX9_shown_14 ⟨(Nat.le_of_ble_eq_true rfl), (Nat.le_of_ble_eq_true rfl)⟩) hS (fun q9 _ h9 => hF1490 q9 h9) hF1490 (fun r1495 u1494 t1494 H1494 L1494 ht1494 hvm1494 hw1494 hB1494 hz1494 hk1494 hS => ?_)
  have hP := pq_keep hP hD [1] rfl hk1494 hB1494.1 ht1494
  have hG : s.heap.size + 1184 ≤ H1494.size := Nat.le_trans hG hz1494
  refine W.eq (g2 := F0 m 17 ls [.int 5, .int 4]) (by rw [hw1494]) ?_
  refine lv_icmp_ge (tgt := 119) hx hb dX9_shown_17 (by decide) (fun cz => absurd cz (by decide)) (fun _ => ?_)
  refine lv_bipush (v := 48) hx hb dX9_shown_20 (by decide) ?_
  refine lv_istore_n (lv' := [(3, .int 48), (2, .int 4), (1, .int 0), (0, .ref h0)]) hx hb dX9_shown_22 rfl hl (by decide) rfl (fun ls hl => ?_)
  exact hend _ _ _ hS (hP.sub [0, 1, 2, 3, 4, 5, 6, 7, 8, 9, 10, 11, 12] rfl) (hD.sub [0, 1, 2, 3, 4, 5, 6, 7, 8, 9, 10, 11, 12] rfl rfl) (lv_sub hl [0, 1, 2, 3] rfl) hG

set_option maxHeartbeats 8000000 in
set_option maxRecDepth 100000 in
theorem k669_shown_g13 {p : Program} {l : Launch} {e : Env} {s : State} {m : MethodId} {args : Array Value} {below : List Frame} {meth : Method} {c : Code} {Q : State → Prop} {A : Nat → Prop} {H : Heap} {locs : List Loc} {ls : Array Slot} {dC : Nat → ClassId} {dI : Nat → Nat → Nat} {z : XZ} {h0 h1 h2 h3 h4 h5 h6 h7 h8 h9 h10 h11 h12 : Nat} {kc0 kc1 kc2 : ClassId} (hl9 : l.stackTraces = false) (hx : p.tables.exec = Jvm.exec) (hb : c.code = cX9_shown) (hml : c.maxLocals = 7) (hown : s.vm.findClass RX9 = some m.cls) (hts : ∀ w ∈ wsL_law, w.before args s = true) (hA : ∀ q : Nat, s.heap.size ≤ q → A q) (hX : XE z A s s.heap) (hT : XT s) (hS : va_S A s.heap H locs) (hP : va_P (dC, dI) xCl [(h0, ce21 h1 h2 h3 h4), (h1, ce201 h5), (h2, ce3 z.1), (h3, ce276 h6), (h4, ce226 h7), (h5, ce200 kc0 h8 h9 h10 h11 h12), (h6, ce275 kc1 (z.2.2.1 128) (z.2.2.1 128) (z.2.2.1 128) (z.2.2.1 128) (z.2.2.1 128) (z.2.2.1 128) (z.2.2.1 128)), (h7, ce200 kc2 (z.2.2.1 128) (z.2.2.1 129) (z.2.2.1 130) (z.2.2.1 131) (z.2.2.1 132)), (h8, ce49), (h9, ce49), (h10, ce49), (h11, ce49), (h12, ce49)] H) (hD : va_D A [(h0, ce21 h1 h2 h3 h4), (h1, ce201 h5), (h2, ce3 z.1), (h3, ce276 h6), (h4, ce226 h7), (h5, ce200 kc0 h8 h9 h10 h11 h12), (h6, ce275 kc1 (z.2.2.1 128) (z.2.2.1 128) (z.2.2.1 128) (z.2.2.1 128) (z.2.2.1 128) (z.2.2.1 128) (z.2.2.1 128)), (h7, ce200 kc2 (z.2.2.1 128) (z.2.2.1 129) (z.2.2.1 130) (z.2.2.1 131) (z.2.2.1 132)), (h8, ce49), (h9, ce49), (h10, ce49), (h11, ce49), (h12, ce49)]) (hK : va_K (dC, dI) xCl [(kc0, .object "java/lang/Object"), (kc1, .object "java/lang/Object"), (kc2, .object "java/lang/Object")] s) (hl : lv_has ls 7 [(3, .int 48), (2, .int 4), (1, .int 0), (0, .ref h0)]) (hG : s.heap.size + 1184 ≤ H.size) (hend : ∀ (H' : Heap) (locs' : List Loc) (ls' : Array Slot), va_S A s.heap H' locs' → va_P (dC, dI) xCl [(h0, ce21 h1 h2 h3 h4), (h1, ce201 h5), (h2, ce3 z.1), (h3, ce276 h6), (h4, ce226 h7), (h5, ce200 kc0 h8 h9 h10 h11 h12), (h6, ce275 kc1 (z.2.2.1 128) (z.2.2.1 128) (z.2.2.1 128) (z.2.2.1 128) (z.2.2.1 128) (z.2.2.1 128) (z.2.2.1 128)), (h7, ce200 kc2 (z.2.2.1 128) (z.2.2.1 129) (z.2.2.1 130) (z.2.2.1 131) (z.2.2.1 132)), (h8, ce49), (h9, ce49), (h10, ce49), (h11, ce49), (h12, ce49)] H' → va_D A [(h0, ce21 h1 h2 h3 h4), (h1, ce201 h5), (h2, ce3 z.1), (h3, ce276 h6), (h4, ce226 h7), (h5, ce200 kc0 h8 h9 h10 h11 h12), (h6, ce275 kc1 (z.2.2.1 128) (z.2.2.1 128) (z.2.2.1 128) (z.2.2.1 128) (z.2.2.1 128) (z.2.2.1 128) (z.2.2.1 128)), (h7, ce200 kc2 (z.2.2.1 128) (z.2.2.1 129) (z.2.2.1 130) (z.2.2.1 131) (z.2.2.1 132)), (h8, ce49), (h9, ce49), (h10, ce49), (h11, ce49), (h12, ce49)] → lv_has ls' 7 [(3, .int 49), (1, .int 0), (2, .int 4), (0, .ref h0)] → s.heap.size + 1332 ≤ H'.size → W p l e ({ frames := 5, cells := 1480, slots := 16000, locals := 121 } : Room) s m args below meth c H' locs' 1332 14400 Q (F0 m 23 ls' [])) : W p l e ({ frames := 5, cells := 1480, slots := 16000, locals := 121 } : Room) s m args below meth c H locs 1184 12800 Q (F0 m 23 ls []) := by
  refine lv_iload_n hx hb dX9_shown_23 rfl (lv_at hl 0 rfl) ?_
  refine lv_bipush (v := 49) hx hb dX9_shown_24 (by decide) ?_
  refine lv_icmp_gt (tgt := 113) hx hb dX9_shown_26 (by decide) (fun cz => absurd cz (by decide)) (fun _ => ?_)
  refine lv_iconst (v := 0) hx hb dX9_shown_29 (by decide) ?_
  refine lv_istore (lv' := [(4, .int 0), (3, .int 48), (2, .int 4), (1, .int 0), (0, .ref h0)]) hx hb dX9_shown_30 hl (by decide) rfl (fun ls hl => ?_)
  refine lv_aload_n hx hb dX9_shown_32 rfl (lv_at hl 4 rfl) ?_
  refine va_get (D := (dC, dI)) (ci := 8) (v := .ref h3) (C := RX9) (T := TX9) (N := 6) hx hb hts in_X9 hown hK hP 0 rfl rfl 3 (by decide) (hts _ q_66) (fun _ h9 => h9) rfl dX9_shown_33 ?_
  have hM1498 := k619_iterator l hl9 dC dI z h3 h6 H.size
  obtain ⟨hF1496, hC1499⟩ := pc_M hM1498 hP hD hK hS hX hT hA [3] [] rfl rfl rfl
  refine va_callr (va_runV (As := []) (rest := []) ⟨hx, hb, hml, hown, hts⟩ hM1498 (cwV 0 hts (gV q_256 q_257 q_258 q_12 q_255) rfl rfl rfl hV_Jx4a65c_iterator_32c93 ⟨Nat.le_of_ble_eq_true rfl, Nat.le_of_ble_eq_true rfl⟩) ⟨pc_blind, va_recv hK hP (ci := 0) (q0 := 3) rfl rfl, fun U hU hW => ⟨rfl, hC1499 U hU hW⟩⟩ rfl rfl hl.1 rfl (lv_room (Nat.le_of_ble_eq_true rfl)) dX9_shown_36 ⟨(Nat.le_of_ble_eq_true rfl), (Nat.le_of_ble_eq_true rfl)⟩) hS (fun q9 _ h9 => hF1496 q9 h9) hF1496 (fun u1500 r1501 t1500 H1500 L1500 ht1500 hvm1500 hw1500 hB1500 hz1500 hk1500 hS => ?_)
  obtain ⟨a1502, hr1500, hB1500⟩ := hB1500
  obtain ⟨hP, hD, hK⟩ := pq_jn (wz := [(h0, ce21 h1 h2 h3 h4), (h1, ce201 h5), (h2, ce3 z.1), (h4, ce226 h7), (h5, ce200 kc0 h8 h9 h10 h11 h12), (h6, ce275 kc1 (z.2.2.1 128) (z.2.2.1 128) (z.2.2.1 128) (z.2.2.1 128) (z.2.2.1 128) (z.2.2.1 128) (z.2.2.1 128)), (h7, ce200 kc2 (z.2.2.1 128) (z.2.2.1 129) (z.2.2.1 130) (z.2.2.1 131) (z.2.2.1 132)), (h8, ce49), (h9, ce49), (h10, ce49), (h11, ce49), (h12, ce49), (h3, ce276 h6), (a1502, ce292 h3)]) (tz := [(kc0, .object "java/lang/Object"), (kc1, .object "java/lang/Object"), (kc2, .object "java/lang/Object")]) hP hD hK [3] [0, 1, 2] rfl hk1500 hF1496 hB1500.1 ht1500 hvm1500 rfl rfl
  have hG : s.heap.size + 1185 ≤ H1500.size := va_gr (g := 1184) (g1 := 1) hG (by rw [← ht1500]; exact hB1500.2)
  refine W.eq (g2 := F0 m 39 ls [.ref a1502]) (by rw [hr1500]) ?_
  refine W.widen (k := 1185) (n := 12804) (by decide) (by decide) ?_
  refine lv_astore (lv' := [(5, .ref a1502), (4, .int 0), (3, .int 48), (2, .int 4), (1, .int 0), (0, .ref h0)]) hx hb dX9_shown_39 hl (by decide) rfl (fun ls hl => ?_)
  refine lv_aload hx hb dX9_shown_41 (lv_at hl 0 rfl) ?_
  have hM1505 := k620_hasNext l hl9 dC dI z a1502 h3 h6 H1500.size
  obtain ⟨hF1503, hC1506⟩ := pc_M hM1505 hP hD hK hS hX hT hA [13, 12] [] rfl rfl rfl
  refine va_callFi (va_runF (As := []) (rest := []) (hK.1 1 _ rfl).2 ⟨hx, hb, hml, hown, hts⟩ hM1505 (va_cwF 0 hts (gF q_261 q_262 q_263 q_246 q_260) rfl rfl rfl hT.2.2.2.2.2.2.1 hF_xIh ⟨Nat.le_of_ble_eq_true rfl, Nat.le_of_ble_eq_true rfl⟩) ⟨pc_blind, va_recv hK hP (ci := 1) (q0 := 13) rfl rfl, fun U hU hW => ⟨rfl, hC1506 U hU hW⟩⟩ rfl rfl hl.1 rfl (lv_room (Nat.le_of_ble_eq_true rfl)) dX9_shown_43 ⟨(Nat.le_of_ble_eq_true rfl), (Nat.le_of_ble_eq_true rfl)⟩) hS (fun q9 _ h9 => hF1503 q9 h9) hF1503 (fun r1508 u1507 t1507 H1507 L1507 ht1507 hvm1507 hw1507 hB1507 hz1507 hk1507 hS => ?_)
  have hP := pq_keep hP hD [13, 12] rfl hk1507 hB1507.1 ht1507
  have hG : s.heap.size + 1185 ≤ H1507.size := Nat.le_trans hG hz1507
  refine W.eq (g2 := F0 m 48 ls [.int 1]) (by rw [hw1507]) ?_
  refine lv_if_eq (tgt := 92) hx hb dX9_shown_48 (by decide) (fun cz => absurd cz (by decide)) (fun _ => ?_)
  refine lv_aload hx hb dX9_shown_51 (lv_at hl 0 rfl) ?_
  have hM1511 := k622_next l hl9 dC dI z a1502 h3 h6 H1507.size kc1
  obtain ⟨hF1509, hC1512⟩ := pc_M hM1511 hP hD hK hS hX hT hA [13, 12, 5] [1] rfl rfl rfl
  refine va_callFr (va_runF (As := []) (rest := []) (hK.1 1 _ rfl).2 ⟨hx, hb, hml, hown, hts⟩ hM1511 (va_cwF 0 hts (gF q_308 q_309 q_310 q_246 q_307) rfl rfl rfl hT.2.2.2.2.2.2.2.1 hF_xIn ⟨Nat.le_of_ble_eq_true rfl, Nat.le_of_ble_eq_true rfl⟩) ⟨pc_blind, va_recv hK hP (ci := 1) (q0 := 13) rfl rfl, fun U hU hW => ⟨rfl, hC1512 U hU hW⟩⟩ rfl rfl hl.1 rfl (lv_room (Nat.le_of_ble_eq_true rfl)) dX9_shown_53 ⟨(Nat.le_of_ble_eq_true rfl), (Nat.le_of_ble_eq_true rfl)⟩) hS (fun q9 _ h9 => hF1509 q9 h9) hF1509 (fun u1513 r1514 t1513 H1513 L1513 ht1513 hvm1513 hw1513 hB1513 hz1513 hk1513 hS => ?_)
  obtain ⟨hr1513, hB1513⟩ := hB1513
  obtain ⟨hP, hD, hK⟩ := pq_jn (wz := [(h0, ce21 h1 h2 h3 h4), (h1, ce201 h5), (h2, ce3 z.1), (h4, ce226 h7), (h5, ce200 kc0 h8 h9 h10 h11 h12), (h7, ce200 kc2 (z.2.2.1 128) (z.2.2.1 129) (z.2.2.1 130) (z.2.2.1 131) (z.2.2.1 132)), (h8, ce49), (h9, ce49), (h10, ce49), (h11, ce49), (h12, ce49), (a1502, ce294 h3), (h3, ce276 h6), (h6, ce275 kc1 (z.2.2.1 128) (z.2.2.1 128) (z.2.2.1 128) (z.2.2.1 128) (z.2.2.1 128) (z.2.2.1 128) (z.2.2.1 128))]) (tz := [(kc0, .object "java/lang/Object"), (kc2, .object "java/lang/Object"), (kc1, .object "java/lang/Object")]) hP hD hK [13, 12, 5] [0, 2] rfl hk1513 hF1509 hB1513.1 ht1513 hvm1513 rfl rfl
  have hG : s.heap.size + 1185 ≤ H1513.size := Nat.le_trans hG hz1513
  refine W.eq (g2 := F0 m 58 ls [.ref (z.2.2.1 128)]) (by rw [hr1513]) ?_
  refine va_castE (nm := "java/lang/Integer") hx hb hown (hts _ q_320) (va_Orecv (hX.2.2.1.1.1 128 (by decide)) hS) dX9_shown_58 ?_
  have hM1517 := k74_intValue l hl9 dC dI z H1513.size
  obtain ⟨hF1515, hC1518⟩ := pc_M hM1517 hP hD hK hS hX hT hA [] [] rfl rfl rfl
  refine va_calli (va_runV (As := []) (rest := []) ⟨hx, hb, hml, hown, hts⟩ hM1517 (cwV 0 hts (gV q_323 q_324 q_325 q_297 q_322) rfl rfl rfl hV_J6_intValue_8abf5 ⟨Nat.le_of_ble_eq_true rfl, Nat.le_of_ble_eq_true rfl⟩) ⟨pc_blind, va_Orecv (hX.2.2.1.1.1 128 (by decide)) hS, fun U hU hW => ⟨rfl, hC1518 U hU hW⟩⟩ rfl rfl hl.1 rfl (lv_room (Nat.le_of_ble_eq_true rfl)) dX9_shown_61 ⟨(Nat.le_of_ble_eq_true rfl), (Nat.le_of_ble_eq_true rfl)⟩) hS (fun q9 _ h9 => hF1515 q9 h9) hF1515 (fun r1520 u1519 t1519 H1519 L1519 ht1519 hvm1519 hw1519 hB1519 hz1519 hk1519 hS => ?_)
  have hP := pq_keep hP hD [] rfl hk1519 hB1519.1 ht1519
  have hG : s.heap.size + 1185 ≤ H1519.size := Nat.le_trans hG hz1519
  refine W.eq (g2 := F0 m 64 ls [.int 0]) (by rw [hw1519]) ?_
  refine lv_istore (lv' := [(6, .int 0), (5, .ref a1502), (4, .int 0), (3, .int 48), (2, .int 4), (1, .int 0), (0, .ref h0)]) hx hb dX9_shown_64 hl (by decide) rfl (fun ls hl => ?_)
  refine lv_iload hx hb dX9_shown_66 (lv_at hl 2 rfl) ?_
  refine lv_if_ne (tgt := 82) hx hb dX9_shown_68 (by decide) (fun cz => absurd (by decide) cz) (fun _ => ?_)
  refine lv_aload_n hx hb dX9_shown_71 rfl (lv_at hl 6 rfl) ?_
  refine lv_iload_n hx hb dX9_shown_72 rfl (lv_at hl 4 rfl) ?_
  refine lv_iload_n hx hb dX9_shown_73 rfl (lv_at hl 3 rfl) ?_
  refine lv_iload hx hb dX9_shown_74 (lv_at hl 0 rfl) ?_
  have hM1523 := k666_showsIt l hl9 dC dI z h0 h1 h2 h4 h5 h7 h8 h9 h10 h11 h12 h3 H1519.size kc0 kc2
  obtain ⟨hF1521, hC1524⟩ := pc_M hM1523 hP hD hK hS hX hT hA [0, 1, 2, 3, 4, 5, 6, 7, 8, 9, 10] [0, 1] rfl rfl rfl
  refine va_calli (va_runV (As := [.int 4, .int 48, .int 0]) (rest := []) ⟨hx, hb, hml, hown, hts⟩ hM1523 (cwV 3 hts (gV q_429 q_430 q_431 q_60 q_428) rfl rfl rfl hV_X9_showsIt ⟨Nat.le_of_ble_eq_true rfl, Nat.le_of_ble_eq_true rfl⟩) ⟨pc_blind, va_recv hK hP (ci := 8) (q0 := 0) rfl rfl, fun U hU hW => ⟨rfl, hC1524 U hU hW⟩⟩ rfl rfl hl.1 rfl (lv_room (Nat.le_of_ble_eq_true rfl)) dX9_shown_76 ⟨(Nat.le_of_ble_eq_true rfl), (Nat.le_of_ble_eq_true rfl)⟩) hS (fun q9 _ h9 => hF1521 q9 h9) hF1521 (fun r1526 u1525 t1525 H1525 L1525 ht1525 hvm1525 hw1525 hB1525 hz1525 hk1525 hS => ?_)
  have hP := pq_keep hP hD [0, 1, 2, 3, 4, 5, 6, 7, 8, 9, 10] rfl hk1525 hB1525.1 ht1525
  have hG : s.heap.size + 1206 ≤ H1525.size := va_gr (g := 1185) (g1 := 21) hG (by rw [← ht1525]; exact hB1525.2)
  refine W.eq (g2 := F0 m 79 ls [.int 0]) (by rw [hw1525]) ?_
  refine W.widen (k := 1206) (n := 13032) (by decide) (by decide) ?_
  refine lv_if_eq (tgt := 86) hx hb dX9_shown_79 (by decide) (fun _ => ?_) (fun cz => absurd (by decide) cz)
  refine lv_iconst (v := 0) hx hb dX9_shown_86 (by decide) ?_
  refine lv_istore (lv' := [(4, .int 0), (6, .int 0), (5, .ref a1502), (3, .int 48), (2, .int 4), (1, .int 0), (0, .ref h0)]) hx hb dX9_shown_87 hl (by decide) rfl (fun ls hl => ?_)
  refine lv_goto (tgt := 41) hx hb dX9_shown_89 (by decide) ?_
  refine lv_aload hx hb dX9_shown_41 (lv_at hl 2 rfl) ?_
  have hM1529 := k632_hasNext l hl9 dC dI z a1502 h3 h6 H1525.size
  obtain ⟨hF1527, hC1530⟩ := pc_M hM1529 hP hD hK hS hX hT hA [11, 12] [] rfl rfl rfl
  refine va_callFi (va_runF (As := []) (rest := []) (hK.1 1 _ rfl).2 ⟨hx, hb, hml, hown, hts⟩ hM1529 (va_cwF 0 hts (gF q_261 q_262 q_263 q_246 q_260) rfl rfl rfl hT.2.2.2.2.2.2.1 hF_xIh ⟨Nat.le_of_ble_eq_true rfl, Nat.le_of_ble_eq_true rfl⟩) ⟨pc_blind, va_recv hK hP (ci := 1) (q0 := 11) rfl rfl, fun U hU hW => ⟨rfl, hC1530 U hU hW⟩⟩ rfl rfl hl.1 rfl (lv_room (Nat.le_of_ble_eq_true rfl)) dX9_shown_43 ⟨(Nat.le_of_ble_eq_true rfl), (Nat.le_of_ble_eq_true rfl)⟩) hS (fun q9 _ h9 => hF1527 q9 h9) hF1527 (fun r1532 u1531 t1531 H1531 L1531 ht1531 hvm1531 hw1531 hB1531 hz1531 hk1531 hS => ?_)
  have hP := pq_keep hP hD [11, 12] rfl hk1531 hB1531.1 ht1531
  have hG : s.heap.size + 1206 ≤ H1531.size := Nat.le_trans hG hz1531
  refine W.eq (g2 := F0 m 48 ls [.int 1]) (by rw [hw1531]) ?_
  refine lv_if_eq (tgt := 92) hx hb dX9_shown_48 (by decide) (fun cz => absurd cz (by decide)) (fun _ => ?_)
  refine lv_aload hx hb dX9_shown_51 (lv_at hl 2 rfl) ?_
  have hM1535 := k634_next l hl9 dC dI z a1502 h3 h6 H1531.size kc1
  obtain ⟨hF1533, hC1536⟩ := pc_M hM1535 hP hD hK hS hX hT hA [11, 12, 13] [2] rfl rfl rfl
  refine va_callFr (va_runF (As := []) (rest := []) (hK.1 1 _ rfl).2 ⟨hx, hb, hml, hown, hts⟩ hM1535 (va_cwF 0 hts (gF q_308 q_309 q_310 q_246 q_307) rfl rfl rfl hT.2.2.2.2.2.2.2.1 hF_xIn ⟨Nat.le_of_ble_eq_true rfl, Nat.le_of_ble_eq_true rfl⟩) ⟨pc_blind, va_recv hK hP (ci := 1) (q0 := 11) rfl rfl, fun U hU hW => ⟨rfl, hC1536 U hU hW⟩⟩ rfl rfl hl.1 rfl (lv_room (Nat.le_of_ble_eq_true rfl)) dX9_shown_53 ⟨(Nat.le_of_ble_eq_true rfl), (Nat.le_of_ble_eq_true rfl)⟩) hS (fun q9 _ h9 => hF1533 q9 h9) hF1533 (fun u1537 r1538 t1537 H1537 L1537 ht1537 hvm1537 hw1537 hB1537 hz1537 hk1537 hS => ?_)
  obtain ⟨hr1537, hB1537⟩ := hB1537
  obtain ⟨hP, hD, hK⟩ := pq_jn (wz := [(h0, ce21 h1 h2 h3 h4), (h1, ce201 h5), (h2, ce3 z.1), (h4, ce226 h7), (h5, ce200 kc0 h8 h9 h10 h11 h12), (h7, ce200 kc2 (z.2.2.1 128) (z.2.2.1 129) (z.2.2.1 130) (z.2.2.1 131) (z.2.2.1 132)), (h8, ce49), (h9, ce49), (h10, ce49), (h11, ce49), (h12, ce49), (a1502, ce310 h3), (h3, ce276 h6), (h6, ce275 kc1 (z.2.2.1 128) (z.2.2.1 128) (z.2.2.1 128) (z.2.2.1 128) (z.2.2.1 128) (z.2.2.1 128) (z.2.2.1 128))]) (tz := [(kc0, .object "java/lang/Object"), (kc2, .object "java/lang/Object"), (kc1, .object "java/lang/Object")]) hP hD hK [11, 12, 13] [0, 1] rfl hk1537 hF1533 hB1537.1 ht1537 hvm1537 rfl rfl
  have hG : s.heap.size + 1206 ≤ H1537.size := Nat.le_trans hG hz1537
  refine W.eq (g2 := F0 m 58 ls [.ref (z.2.2.1 128)]) (by rw [hr1537]) ?_
  refine va_castE (nm := "java/lang/Integer") hx hb hown (hts _ q_320) (va_Orecv (hX.2.2.1.1.1 128 (by decide)) hS) dX9_shown_58 ?_
  have hM1541 := k74_intValue l hl9 dC dI z H1537.size
  obtain ⟨hF1539, hC1542⟩ := pc_M hM1541 hP hD hK hS hX hT hA [] [] rfl rfl rfl
  refine va_calli (va_runV (As := []) (rest := []) ⟨hx, hb, hml, hown, hts⟩ hM1541 (cwV 0 hts (gV q_323 q_324 q_325 q_297 q_322) rfl rfl rfl hV_J6_intValue_8abf5 ⟨Nat.le_of_ble_eq_true rfl, Nat.le_of_ble_eq_true rfl⟩) ⟨pc_blind, va_Orecv (hX.2.2.1.1.1 128 (by decide)) hS, fun U hU hW => ⟨rfl, hC1542 U hU hW⟩⟩ rfl rfl hl.1 rfl (lv_room (Nat.le_of_ble_eq_true rfl)) dX9_shown_61 ⟨(Nat.le_of_ble_eq_true rfl), (Nat.le_of_ble_eq_true rfl)⟩) hS (fun q9 _ h9 => hF1539 q9 h9) hF1539 (fun r1544 u1543 t1543 H1543 L1543 ht1543 hvm1543 hw1543 hB1543 hz1543 hk1543 hS => ?_)
  have hP := pq_keep hP hD [] rfl hk1543 hB1543.1 ht1543
  have hG : s.heap.size + 1206 ≤ H1543.size := Nat.le_trans hG hz1543
  refine W.eq (g2 := F0 m 64 ls [.int 0]) (by rw [hw1543]) ?_
  refine lv_istore (lv' := [(6, .int 0), (4, .int 0), (5, .ref a1502), (3, .int 48), (2, .int 4), (1, .int 0), (0, .ref h0)]) hx hb dX9_shown_64 hl (by decide) rfl (fun ls hl => ?_)
  refine lv_iload hx hb dX9_shown_66 (lv_at hl 1 rfl) ?_
  refine lv_if_ne (tgt := 82) hx hb dX9_shown_68 (by decide) (fun cz => absurd (by decide) cz) (fun _ => ?_)
  refine lv_aload_n hx hb dX9_shown_71 rfl (lv_at hl 6 rfl) ?_
  refine lv_iload_n hx hb dX9_shown_72 rfl (lv_at hl 4 rfl) ?_
  refine lv_iload_n hx hb dX9_shown_73 rfl (lv_at hl 3 rfl) ?_
  refine lv_iload hx hb dX9_shown_74 (lv_at hl 0 rfl) ?_
  have hM1547 := k666_showsIt l hl9 dC dI z h0 h1 h2 h4 h5 h7 h8 h9 h10 h11 h12 h3 H1543.size kc0 kc2
  obtain ⟨hF1545, hC1548⟩ := pc_M hM1547 hP hD hK hS hX hT hA [0, 1, 2, 3, 4, 5, 6, 7, 8, 9, 10] [0, 1] rfl rfl rfl
  refine va_calli (va_runV (As := [.int 4, .int 48, .int 0]) (rest := []) ⟨hx, hb, hml, hown, hts⟩ hM1547 (cwV 3 hts (gV q_429 q_430 q_431 q_60 q_428) rfl rfl rfl hV_X9_showsIt ⟨Nat.le_of_ble_eq_true rfl, Nat.le_of_ble_eq_true rfl⟩) ⟨pc_blind, va_recv hK hP (ci := 8) (q0 := 0) rfl rfl, fun U hU hW => ⟨rfl, hC1548 U hU hW⟩⟩ rfl rfl hl.1 rfl (lv_room (Nat.le_of_ble_eq_true rfl)) dX9_shown_76 ⟨(Nat.le_of_ble_eq_true rfl), (Nat.le_of_ble_eq_true rfl)⟩) hS (fun q9 _ h9 => hF1545 q9 h9) hF1545 (fun r1550 u1549 t1549 H1549 L1549 ht1549 hvm1549 hw1549 hB1549 hz1549 hk1549 hS => ?_)
  have hP := pq_keep hP hD [0, 1, 2, 3, 4, 5, 6, 7, 8, 9, 10] rfl hk1549 hB1549.1 ht1549
  have hG : s.heap.size + 1227 ≤ H1549.size := va_gr (g := 1206) (g1 := 21) hG (by rw [← ht1549]; exact hB1549.2)
  refine W.eq (g2 := F0 m 79 ls [.int 0]) (by rw [hw1549]) ?_
  refine W.widen (k := 1227) (n := 13260) (by decide) (by decide) ?_
  refine lv_if_eq (tgt := 86) hx hb dX9_shown_79 (by decide) (fun _ => ?_) (fun cz => absurd (by decide) cz)
  refine lv_iconst (v := 0) hx hb dX9_shown_86 (by decide) ?_
  refine lv_istore (lv' := [(4, .int 0), (6, .int 0), (5, .ref a1502), (3, .int 48), (2, .int 4), (1, .int 0), (0, .ref h0)]) hx hb dX9_shown_87 hl (by decide) rfl (fun ls hl => ?_)
  refine lv_goto (tgt := 41) hx hb dX9_shown_89 (by decide) ?_
  refine lv_aload hx hb dX9_shown_41 (lv_at hl 2 rfl) ?_
  have hM1553 := k635_hasNext l hl9 dC dI z a1502 h3 h6 H1549.size
  obtain ⟨hF1551, hC1554⟩ := pc_M hM1553 hP hD hK hS hX hT hA [11, 12] [] rfl rfl rfl
  refine va_callFi (va_runF (As := []) (rest := []) (hK.1 1 _ rfl).2 ⟨hx, hb, hml, hown, hts⟩ hM1553 (va_cwF 0 hts (gF q_261 q_262 q_263 q_246 q_260) rfl rfl rfl hT.2.2.2.2.2.2.1 hF_xIh ⟨Nat.le_of_ble_eq_true rfl, Nat.le_of_ble_eq_true rfl⟩) ⟨pc_blind, va_recv hK hP (ci := 1) (q0 := 11) rfl rfl, fun U hU hW => ⟨rfl, hC1554 U hU hW⟩⟩ rfl rfl hl.1 rfl (lv_room (Nat.le_of_ble_eq_true rfl)) dX9_shown_43 ⟨(Nat.le_of_ble_eq_true rfl), (Nat.le_of_ble_eq_true rfl)⟩) hS (fun q9 _ h9 => hF1551 q9 h9) hF1551 (fun r1556 u1555 t1555 H1555 L1555 ht1555 hvm1555 hw1555 hB1555 hz1555 hk1555 hS => ?_)
  have hP := pq_keep hP hD [11, 12] rfl hk1555 hB1555.1 ht1555
  have hG : s.heap.size + 1227 ≤ H1555.size := Nat.le_trans hG hz1555
  refine W.eq (g2 := F0 m 48 ls [.int 1]) (by rw [hw1555]) ?_
  refine lv_if_eq (tgt := 92) hx hb dX9_shown_48 (by decide) (fun cz => absurd cz (by decide)) (fun _ => ?_)
  refine lv_aload hx hb dX9_shown_51 (lv_at hl 2 rfl) ?_
  have hM1559 := k637_next l hl9 dC dI z a1502 h3 h6 H1555.size kc1
  obtain ⟨hF1557, hC1560⟩ := pc_M hM1559 hP hD hK hS hX hT hA [11, 12, 13] [2] rfl rfl rfl
  refine va_callFr (va_runF (As := []) (rest := []) (hK.1 1 _ rfl).2 ⟨hx, hb, hml, hown, hts⟩ hM1559 (va_cwF 0 hts (gF q_308 q_309 q_310 q_246 q_307) rfl rfl rfl hT.2.2.2.2.2.2.2.1 hF_xIn ⟨Nat.le_of_ble_eq_true rfl, Nat.le_of_ble_eq_true rfl⟩) ⟨pc_blind, va_recv hK hP (ci := 1) (q0 := 11) rfl rfl, fun U hU hW => ⟨rfl, hC1560 U hU hW⟩⟩ rfl rfl hl.1 rfl (lv_room (Nat.le_of_ble_eq_true rfl)) dX9_shown_53 ⟨(Nat.le_of_ble_eq_true rfl), (Nat.le_of_ble_eq_true rfl)⟩) hS (fun q9 _ h9 => hF1557 q9 h9) hF1557 (fun u1561 r1562 t1561 H1561 L1561 ht1561 hvm1561 hw1561 hB1561 hz1561 hk1561 hS => ?_)
  obtain ⟨hr1561, hB1561⟩ := hB1561
  obtain ⟨hP, hD, hK⟩ := pq_jn (wz := [(h0, ce21 h1 h2 h3 h4), (h1, ce201 h5), (h2, ce3 z.1), (h4, ce226 h7), (h5, ce200 kc0 h8 h9 h10 h11 h12), (h7, ce200 kc2 (z.2.2.1 128) (z.2.2.1 129) (z.2.2.1 130) (z.2.2.1 131) (z.2.2.1 132)), (h8, ce49), (h9, ce49), (h10, ce49), (h11, ce49), (h12, ce49), (a1502, ce312 h3), (h3, ce276 h6), (h6, ce275 kc1 (z.2.2.1 128) (z.2.2.1 128) (z.2.2.1 128) (z.2.2.1 128) (z.2.2.1 128) (z.2.2.1 128) (z.2.2.1 128))]) (tz := [(kc0, .object "java/lang/Object"), (kc2, .object "java/lang/Object"), (kc1, .object "java/lang/Object")]) hP hD hK [11, 12, 13] [0, 1] rfl hk1561 hF1557 hB1561.1 ht1561 hvm1561 rfl rfl
  have hG : s.heap.size + 1227 ≤ H1561.size := Nat.le_trans hG hz1561
  refine W.eq (g2 := F0 m 58 ls [.ref (z.2.2.1 128)]) (by rw [hr1561]) ?_
  refine va_castE (nm := "java/lang/Integer") hx hb hown (hts _ q_320) (va_Orecv (hX.2.2.1.1.1 128 (by decide)) hS) dX9_shown_58 ?_
  have hM1565 := k74_intValue l hl9 dC dI z H1561.size
  obtain ⟨hF1563, hC1566⟩ := pc_M hM1565 hP hD hK hS hX hT hA [] [] rfl rfl rfl
  refine va_calli (va_runV (As := []) (rest := []) ⟨hx, hb, hml, hown, hts⟩ hM1565 (cwV 0 hts (gV q_323 q_324 q_325 q_297 q_322) rfl rfl rfl hV_J6_intValue_8abf5 ⟨Nat.le_of_ble_eq_true rfl, Nat.le_of_ble_eq_true rfl⟩) ⟨pc_blind, va_Orecv (hX.2.2.1.1.1 128 (by decide)) hS, fun U hU hW => ⟨rfl, hC1566 U hU hW⟩⟩ rfl rfl hl.1 rfl (lv_room (Nat.le_of_ble_eq_true rfl)) dX9_shown_61 ⟨(Nat.le_of_ble_eq_true rfl), (Nat.le_of_ble_eq_true rfl)⟩) hS (fun q9 _ h9 => hF1563 q9 h9) hF1563 (fun r1568 u1567 t1567 H1567 L1567 ht1567 hvm1567 hw1567 hB1567 hz1567 hk1567 hS => ?_)
  have hP := pq_keep hP hD [] rfl hk1567 hB1567.1 ht1567
  have hG : s.heap.size + 1227 ≤ H1567.size := Nat.le_trans hG hz1567
  refine W.eq (g2 := F0 m 64 ls [.int 0]) (by rw [hw1567]) ?_
  refine lv_istore (lv' := [(6, .int 0), (4, .int 0), (5, .ref a1502), (3, .int 48), (2, .int 4), (1, .int 0), (0, .ref h0)]) hx hb dX9_shown_64 hl (by decide) rfl (fun ls hl => ?_)
  refine lv_iload hx hb dX9_shown_66 (lv_at hl 1 rfl) ?_
  refine lv_if_ne (tgt := 82) hx hb dX9_shown_68 (by decide) (fun cz => absurd (by decide) cz) (fun _ => ?_)
  refine lv_aload_n hx hb dX9_shown_71 rfl (lv_at hl 6 rfl) ?_
  refine lv_iload_n hx hb dX9_shown_72 rfl (lv_at hl 4 rfl) ?_
  refine lv_iload_n hx hb dX9_shown_73 rfl (lv_at hl 3 rfl) ?_
  refine lv_iload hx hb dX9_shown_74 (lv_at hl 0 rfl) ?_
  have hM1571 := k666_showsIt l hl9 dC dI z h0 h1 h2 h4 h5 h7 h8 h9 h10 h11 h12 h3 H1567.size kc0 kc2
  obtain ⟨hF1569, hC1572⟩ := pc_M hM1571 hP hD hK hS hX hT hA [0, 1, 2, 3, 4, 5, 6, 7, 8, 9, 10] [0, 1] rfl rfl rfl
  refine va_calli (va_runV (As := [.int 4, .int 48, .int 0]) (rest := []) ⟨hx, hb, hml, hown, hts⟩ hM1571 (cwV 3 hts (gV q_429 q_430 q_431 q_60 q_428) rfl rfl rfl hV_X9_showsIt ⟨Nat.le_of_ble_eq_true rfl, Nat.le_of_ble_eq_true rfl⟩) ⟨pc_blind, va_recv hK hP (ci := 8) (q0 := 0) rfl rfl, fun U hU hW => ⟨rfl, hC1572 U hU hW⟩⟩ rfl rfl hl.1 rfl (lv_room (Nat.le_of_ble_eq_true rfl)) dX9_shown_76 ⟨(Nat.le_of_ble_eq_true rfl), (Nat.le_of_ble_eq_true rfl)⟩) hS (fun q9 _ h9 => hF1569 q9 h9) hF1569 (fun r1574 u1573 t1573 H1573 L1573 ht1573 hvm1573 hw1573 hB1573 hz1573 hk1573 hS => ?_)
  have hP := pq_keep hP hD [0, 1, 2, 3, 4, 5, 6, 7, 8, 9, 10] rfl hk1573 hB1573.1 ht1573
  have hG : s.heap.size + 1248 ≤ H1573.size := va_gr (g := 1227) (g1 := 21) hG (by rw [← ht1573]; exact hB1573.2)
  refine W.eq (g2 := F0 m 79 ls [.int 0]) (by rw [hw1573]) ?_
  refine W.widen (k := 1248) (n := 13488) (by decide) (by decide) ?_
  refine lv_if_eq (tgt := 86) hx hb dX9_shown_79 (by decide) (fun _ => ?_) (fun cz => absurd (by decide) cz)
  refine lv_iconst (v := 0) hx hb dX9_shown_86 (by decide) ?_
  refine lv_istore (lv' := [(4, .int 0), (6, .int 0), (5, .ref a1502), (3, .int 48), (2, .int 4), (1, .int 0), (0, .ref h0)]) hx hb dX9_shown_87 hl (by decide) rfl (fun ls hl => ?_)
  refine lv_goto (tgt := 41) hx hb dX9_shown_89 (by decide) ?_
  refine lv_aload hx hb dX9_shown_41 (lv_at hl 2 rfl) ?_
  have hM1577 := k638_hasNext l hl9 dC dI z a1502 h3 h6 H1573.size
  obtain ⟨hF1575, hC1578⟩ := pc_M hM1577 hP hD hK hS hX hT hA [11, 12] [] rfl rfl rfl
  refine va_callFi (va_runF (As := []) (rest := []) (hK.1 1 _ rfl).2 ⟨hx, hb, hml, hown, hts⟩ hM1577 (va_cwF 0 hts (gF q_261 q_262 q_263 q_246 q_260) rfl rfl rfl hT.2.2.2.2.2.2.1 hF_xIh ⟨Nat.le_of_ble_eq_true rfl, Nat.le_of_ble_eq_true rfl⟩) ⟨pc_blind, va_recv hK hP (ci := 1) (q0 := 11) rfl rfl, fun U hU hW => ⟨rfl, hC1578 U hU hW⟩⟩ rfl rfl hl.1 rfl (lv_room (Nat.le_of_ble_eq_true rfl)) dX9_shown_43 ⟨(Nat.le_of_ble_eq_true rfl), (Nat.le_of_ble_eq_true rfl)⟩) hS (fun q9 _ h9 => hF1575 q9 h9) hF1575 (fun r1580 u1579 t1579 H1579 L1579 ht1579 hvm1579 hw1579 hB1579 hz1579 hk1579 hS => ?_)
  have hP := pq_keep hP hD [11, 12] rfl hk1579 hB1579.1 ht1579
  have hG : s.heap.size + 1248 ≤ H1579.size := Nat.le_trans hG hz1579
  refine W.eq (g2 := F0 m 48 ls [.int 1]) (by rw [hw1579]) ?_
  refine lv_if_eq (tgt := 92) hx hb dX9_shown_48 (by decide) (fun cz => absurd cz (by decide)) (fun _ => ?_)
  refine lv_aload hx hb dX9_shown_51 (lv_at hl 2 rfl) ?_
  have hM1583 := k640_next l hl9 dC dI z a1502 h3 h6 H1579.size kc1
  obtain ⟨hF1581, hC1584⟩ := pc_M hM1583 hP hD hK hS hX hT hA [11, 12, 13] [2] rfl rfl rfl
  refine va_callFr (va_runF (As := []) (rest := []) (hK.1 1 _ rfl).2 ⟨hx, hb, hml, hown, hts⟩ hM1583 (va_cwF 0 hts (gF q_308 q_309 q_310 q_246 q_307) rfl rfl rfl hT.2.2.2.2.2.2.2.1 hF_xIn ⟨Nat.le_of_ble_eq_true rfl, Nat.le_of_ble_eq_true rfl⟩) ⟨pc_blind, va_recv hK hP (ci := 1) (q0 := 11) rfl rfl, fun U hU hW => ⟨rfl, hC1584 U hU hW⟩⟩ rfl rfl hl.1 rfl (lv_room (Nat.le_of_ble_eq_true rfl)) dX9_shown_53 ⟨(Nat.le_of_ble_eq_true rfl), (Nat.le_of_ble_eq_true rfl)⟩) hS (fun q9 _ h9 => hF1581 q9 h9) hF1581 (fun u1585 r1586 t1585 H1585 L1585 ht1585 hvm1585 hw1585 hB1585 hz1585 hk1585 hS => ?_)
  obtain ⟨hr1585, hB1585⟩ := hB1585
  obtain ⟨hP, hD, hK⟩ := pq_jn (wz := [(h0, ce21 h1 h2 h3 h4), (h1, ce201 h5), (h2, ce3 z.1), (h4, ce226 h7), (h5, ce200 kc0 h8 h9 h10 h11 h12), (h7, ce200 kc2 (z.2.2.1 128) (z.2.2.1 129) (z.2.2.1 130) (z.2.2.1 131) (z.2.2.1 132)), (h8, ce49), (h9, ce49), (h10, ce49), (h11, ce49), (h12, ce49), (a1502, ce314 h3), (h3, ce276 h6), (h6, ce275 kc1 (z.2.2.1 128) (z.2.2.1 128) (z.2.2.1 128) (z.2.2.1 128) (z.2.2.1 128) (z.2.2.1 128) (z.2.2.1 128))]) (tz := [(kc0, .object "java/lang/Object"), (kc2, .object "java/lang/Object"), (kc1, .object "java/lang/Object")]) hP hD hK [11, 12, 13] [0, 1] rfl hk1585 hF1581 hB1585.1 ht1585 hvm1585 rfl rfl
  have hG : s.heap.size + 1248 ≤ H1585.size := Nat.le_trans hG hz1585
  refine W.eq (g2 := F0 m 58 ls [.ref (z.2.2.1 128)]) (by rw [hr1585]) ?_
  refine va_castE (nm := "java/lang/Integer") hx hb hown (hts _ q_320) (va_Orecv (hX.2.2.1.1.1 128 (by decide)) hS) dX9_shown_58 ?_
  have hM1589 := k74_intValue l hl9 dC dI z H1585.size
  obtain ⟨hF1587, hC1590⟩ := pc_M hM1589 hP hD hK hS hX hT hA [] [] rfl rfl rfl
  refine va_calli (va_runV (As := []) (rest := []) ⟨hx, hb, hml, hown, hts⟩ hM1589 (cwV 0 hts (gV q_323 q_324 q_325 q_297 q_322) rfl rfl rfl hV_J6_intValue_8abf5 ⟨Nat.le_of_ble_eq_true rfl, Nat.le_of_ble_eq_true rfl⟩) ⟨pc_blind, va_Orecv (hX.2.2.1.1.1 128 (by decide)) hS, fun U hU hW => ⟨rfl, hC1590 U hU hW⟩⟩ rfl rfl hl.1 rfl (lv_room (Nat.le_of_ble_eq_true rfl)) dX9_shown_61 ⟨(Nat.le_of_ble_eq_true rfl), (Nat.le_of_ble_eq_true rfl)⟩) hS (fun q9 _ h9 => hF1587 q9 h9) hF1587 (fun r1592 u1591 t1591 H1591 L1591 ht1591 hvm1591 hw1591 hB1591 hz1591 hk1591 hS => ?_)
  have hP := pq_keep hP hD [] rfl hk1591 hB1591.1 ht1591
  have hG : s.heap.size + 1248 ≤ H1591.size := Nat.le_trans hG hz1591
  refine W.eq (g2 := F0 m 64 ls [.int 0]) (by rw [hw1591]) ?_
  refine lv_istore (lv' := [(6, .int 0), (4, .int 0), (5, .ref a1502), (3, .int 48), (2, .int 4), (1, .int 0), (0, .ref h0)]) hx hb dX9_shown_64 hl (by decide) rfl (fun ls hl => ?_)
  refine lv_iload hx hb dX9_shown_66 (lv_at hl 1 rfl) ?_
  refine lv_if_ne (tgt := 82) hx hb dX9_shown_68 (by decide) (fun cz => absurd (by decide) cz) (fun _ => ?_)
  refine lv_aload_n hx hb dX9_shown_71 rfl (lv_at hl 6 rfl) ?_
  refine lv_iload_n hx hb dX9_shown_72 rfl (lv_at hl 4 rfl) ?_
  refine lv_iload_n hx hb dX9_shown_73 rfl (lv_at hl 3 rfl) ?_
  refine lv_iload hx hb dX9_shown_74 (lv_at hl 0 rfl) ?_
  have hM1595 := k666_showsIt l hl9 dC dI z h0 h1 h2 h4 h5 h7 h8 h9 h10 h11 h12 h3 H1591.size kc0 kc2
  obtain ⟨hF1593, hC1596⟩ := pc_M hM1595 hP hD hK hS hX hT hA [0, 1, 2, 3, 4, 5, 6, 7, 8, 9, 10] [0, 1] rfl rfl rfl
  refine va_calli (va_runV (As := [.int 4, .int 48, .int 0]) (rest := []) ⟨hx, hb, hml, hown, hts⟩ hM1595 (cwV 3 hts (gV q_429 q_430 q_431 q_60 q_428) rfl rfl rfl hV_X9_showsIt ⟨Nat.le_of_ble_eq_true rfl, Nat.le_of_ble_eq_true rfl⟩) ⟨pc_blind, va_recv hK hP (ci := 8) (q0 := 0) rfl rfl, fun U hU hW => ⟨rfl, hC1596 U hU hW⟩⟩ rfl rfl hl.1 rfl (lv_room (Nat.le_of_ble_eq_true rfl)) dX9_shown_76 ⟨(Nat.le_of_ble_eq_true rfl), (Nat.le_of_ble_eq_true rfl)⟩) hS (fun q9 _ h9 => hF1593 q9 h9) hF1593 (fun r1598 u1597 t1597 H1597 L1597 ht1597 hvm1597 hw1597 hB1597 hz1597 hk1597 hS => ?_)
  have hP := pq_keep hP hD [0, 1, 2, 3, 4, 5, 6, 7, 8, 9, 10] rfl hk1597 hB1597.1 ht1597
  have hG : s.heap.size + 1269 ≤ H1597.size := va_gr (g := 1248) (g1 := 21) hG (by rw [← ht1597]; exact hB1597.2)
  refine W.eq (g2 := F0 m 79 ls [.int 0]) (by rw [hw1597]) ?_
  refine W.widen (k := 1269) (n := 13716) (by decide) (by decide) ?_
  refine lv_if_eq (tgt := 86) hx hb dX9_shown_79 (by decide) (fun _ => ?_) (fun cz => absurd (by decide) cz)
  refine lv_iconst (v := 0) hx hb dX9_shown_86 (by decide) ?_
  refine lv_istore (lv' := [(4, .int 0), (6, .int 0), (5, .ref a1502), (3, .int 48), (2, .int 4), (1, .int 0), (0, .ref h0)]) hx hb dX9_shown_87 hl (by decide) rfl (fun ls hl => ?_)
  refine lv_goto (tgt := 41) hx hb dX9_shown_89 (by decide) ?_
  refine lv_aload hx hb dX9_shown_41 (lv_at hl 2 rfl) ?_
  have hM1601 := k641_hasNext l hl9 dC dI z a1502 h3 h6 H1597.size
  obtain ⟨hF1599, hC1602⟩ := pc_M hM1601 hP hD hK hS hX hT hA [11, 12] [] rfl rfl rfl
  refine va_callFi (va_runF (As := []) (rest := []) (hK.1 1 _ rfl).2 ⟨hx, hb, hml, hown, hts⟩ hM1601 (va_cwF 0 hts (gF q_261 q_262 q_263 q_246 q_260) rfl rfl rfl hT.2.2.2.2.2.2.1 hF_xIh ⟨Nat.le_of_ble_eq_true rfl, Nat.le_of_ble_eq_true rfl⟩) ⟨pc_blind, va_recv hK hP (ci := 1) (q0 := 11) rfl rfl, fun U hU hW => ⟨rfl, hC1602 U hU hW⟩⟩ rfl rfl hl.1 rfl (lv_room (Nat.le_of_ble_eq_true rfl)) dX9_shown_43 ⟨(Nat.le_of_ble_eq_true rfl), (Nat.le_of_ble_eq_true rfl)⟩) hS (fun q9 _ h9 => hF1599 q9 h9) hF1599 (fun r1604 u1603 t1603 H1603 L1603 ht1603 hvm1603 hw1603 hB1603 hz1603 hk1603 hS => ?_)
  have hP := pq_keep hP hD [11, 12] rfl hk1603 hB1603.1 ht1603
  have hG : s.heap.size + 1269 ≤ H1603.size := Nat.le_trans hG hz1603
  refine W.eq (g2 := F0 m 48 ls [.int 1]) (by rw [hw1603]) ?_
  refine lv_if_eq (tgt := 92) hx hb dX9_shown_48 (by decide) (fun cz => absurd cz (by decide)) (fun _ => ?_)
  refine lv_aload hx hb dX9_shown_51 (lv_at hl 2 rfl) ?_
  have hM1607 := k643_next l hl9 dC dI z a1502 h3 h6 H1603.size kc1
  obtain ⟨hF1605, hC1608⟩ := pc_M hM1607 hP hD hK hS hX hT hA [11, 12, 13] [2] rfl rfl rfl
  refine va_callFr (va_runF (As := []) (rest := []) (hK.1 1 _ rfl).2 ⟨hx, hb, hml, hown, hts⟩ hM1607 (va_cwF 0 hts (gF q_308 q_309 q_310 q_246 q_307) rfl rfl rfl hT.2.2.2.2.2.2.2.1 hF_xIn ⟨Nat.le_of_ble_eq_true rfl, Nat.le_of_ble_eq_true rfl⟩) ⟨pc_blind, va_recv hK hP (ci := 1) (q0 := 11) rfl rfl, fun U hU hW => ⟨rfl, hC1608 U hU hW⟩⟩ rfl rfl hl.1 rfl (lv_room (Nat.le_of_ble_eq_true rfl)) dX9_shown_53 ⟨(Nat.le_of_ble_eq_true rfl), (Nat.le_of_ble_eq_true rfl)⟩) hS (fun q9 _ h9 => hF1605 q9 h9) hF1605 (fun u1609 r1610 t1609 H1609 L1609 ht1609 hvm1609 hw1609 hB1609 hz1609 hk1609 hS => ?_)
  obtain ⟨hr1609, hB1609⟩ := hB1609
  obtain ⟨hP, hD, hK⟩ := pq_jn (wz := [(h0, ce21 h1 h2 h3 h4), (h1, ce201 h5), (h2, ce3 z.1), (h4, ce226 h7), (h5, ce200 kc0 h8 h9 h10 h11 h12), (h7, ce200 kc2 (z.2.2.1 128) (z.2.2.1 129) (z.2.2.1 130) (z.2.2.1 131) (z.2.2.1 132)), (h8, ce49), (h9, ce49), (h10, ce49), (h11, ce49), (h12, ce49), (a1502, ce316 h3), (h3, ce276 h6), (h6, ce275 kc1 (z.2.2.1 128) (z.2.2.1 128) (z.2.2.1 128) (z.2.2.1 128) (z.2.2.1 128) (z.2.2.1 128) (z.2.2.1 128))]) (tz := [(kc0, .object "java/lang/Object"), (kc2, .object "java/lang/Object"), (kc1, .object "java/lang/Object")]) hP hD hK [11, 12, 13] [0, 1] rfl hk1609 hF1605 hB1609.1 ht1609 hvm1609 rfl rfl
  have hG : s.heap.size + 1269 ≤ H1609.size := Nat.le_trans hG hz1609
  refine W.eq (g2 := F0 m 58 ls [.ref (z.2.2.1 128)]) (by rw [hr1609]) ?_
  refine va_castE (nm := "java/lang/Integer") hx hb hown (hts _ q_320) (va_Orecv (hX.2.2.1.1.1 128 (by decide)) hS) dX9_shown_58 ?_
  have hM1613 := k74_intValue l hl9 dC dI z H1609.size
  obtain ⟨hF1611, hC1614⟩ := pc_M hM1613 hP hD hK hS hX hT hA [] [] rfl rfl rfl
  refine va_calli (va_runV (As := []) (rest := []) ⟨hx, hb, hml, hown, hts⟩ hM1613 (cwV 0 hts (gV q_323 q_324 q_325 q_297 q_322) rfl rfl rfl hV_J6_intValue_8abf5 ⟨Nat.le_of_ble_eq_true rfl, Nat.le_of_ble_eq_true rfl⟩) ⟨pc_blind, va_Orecv (hX.2.2.1.1.1 128 (by decide)) hS, fun U hU hW => ⟨rfl, hC1614 U hU hW⟩⟩ rfl rfl hl.1 rfl (lv_room (Nat.le_of_ble_eq_true rfl)) dX9_shown_61 ⟨(Nat.le_of_ble_eq_true rfl), (Nat.le_of_ble_eq_true rfl)⟩) hS (fun q9 _ h9 => hF1611 q9 h9) hF1611 (fun r1616 u1615 t1615 H1615 L1615 ht1615 hvm1615 hw1615 hB1615 hz1615 hk1615 hS => ?_)
  have hP := pq_keep hP hD [] rfl hk1615 hB1615.1 ht1615
  have hG : s.heap.size + 1269 ≤ H1615.size := Nat.le_trans hG hz1615
  refine W.eq (g2 := F0 m 64 ls [.int 0]) (by rw [hw1615]) ?_
  refine lv_istore (lv' := [(6, .int 0), (4, .int 0), (5, .ref a1502), (3, .int 48), (2, .int 4), (1, .int 0), (0, .ref h0)]) hx hb dX9_shown_64 hl (by decide) rfl (fun ls hl => ?_)
  refine lv_iload hx hb dX9_shown_66 (lv_at hl 1 rfl) ?_
  refine lv_if_ne (tgt := 82) hx hb dX9_shown_68 (by decide) (fun cz => absurd (by decide) cz) (fun _ => ?_)
  refine lv_aload_n hx hb dX9_shown_71 rfl (lv_at hl 6 rfl) ?_
  refine lv_iload_n hx hb dX9_shown_72 rfl (lv_at hl 4 rfl) ?_
  refine lv_iload_n hx hb dX9_shown_73 rfl (lv_at hl 3 rfl) ?_
  refine lv_iload hx hb dX9_shown_74 (lv_at hl 0 rfl) ?_
  have hM1619 := k666_showsIt l hl9 dC dI z h0 h1 h2 h4 h5 h7 h8 h9 h10 h11 h12 h3 H1615.size kc0 kc2
  obtain ⟨hF1617, hC1620⟩ := pc_M hM1619 hP hD hK hS hX hT hA [0, 1, 2, 3, 4, 5, 6, 7, 8, 9, 10] [0, 1] rfl rfl rfl
  refine va_calli (va_runV (As := [.int 4, .int 48, .int 0]) (rest := []) ⟨hx, hb, hml, hown, hts⟩ hM1619 (cwV 3 hts (gV q_429 q_430 q_431 q_60 q_428) rfl rfl rfl hV_X9_showsIt ⟨Nat.le_of_ble_eq_true rfl, Nat.le_of_ble_eq_true rfl⟩) ⟨pc_blind, va_recv hK hP (ci := 8) (q0 := 0) rfl rfl, fun U hU hW => ⟨rfl, hC1620 U hU hW⟩⟩ rfl rfl hl.1 rfl (lv_room (Nat.le_of_ble_eq_true rfl)) dX9_shown_76 ⟨(Nat.le_of_ble_eq_true rfl), (Nat.le_of_ble_eq_true rfl)⟩) hS (fun q9 _ h9 => hF1617 q9 h9) hF1617 (fun r1622 u1621 t1621 H1621 L1621 ht1621 hvm1621 hw1621 hB1621 hz1621 hk1621 hS => ?_)
  have hP := pq_keep hP hD [0, 1, 2, 3, 4, 5, 6, 7, 8, 9, 10] rfl hk1621 hB1621.1 ht1621
  have hG : s.heap.size + 1290 ≤ H1621.size := va_gr (g := 1269) (g1 := 21) hG (by rw [← ht1621]; exact hB1621.2)
  refine W.eq (g2 := F0 m 79 ls [.int 0]) (by rw [hw1621]) ?_
  refine W.widen (k := 1290) (n := 13944) (by decide) (by decide) ?_
  refine lv_if_eq (tgt := 86) hx hb dX9_shown_79 (by decide) (fun _ => ?_) (fun cz => absurd (by decide) cz)
  refine lv_iconst (v := 0) hx hb dX9_shown_86 (by decide) ?_
  refine lv_istore (lv' := [(4, .int 0), (6, .int 0), (5, .ref a1502), (3, .int 48), (2, .int 4), (1, .int 0), (0, .ref h0)]) hx hb dX9_shown_87 hl (by decide) rfl (fun ls hl => ?_)
  refine lv_goto (tgt := 41) hx hb dX9_shown_89 (by decide) ?_
  refine lv_aload hx hb dX9_shown_41 (lv_at hl 2 rfl) ?_
  have hM1625 := k644_hasNext l hl9 dC dI z a1502 h3 h6 H1621.size
  obtain ⟨hF1623, hC1626⟩ := pc_M hM1625 hP hD hK hS hX hT hA [11, 12] [] rfl rfl rfl
  refine va_callFi (va_runF (As := []) (rest := []) (hK.1 1 _ rfl).2 ⟨hx, hb, hml, hown, hts⟩ hM1625 (va_cwF 0 hts (gF q_261 q_262 q_263 q_246 q_260) rfl rfl rfl hT.2.2.2.2.2.2.1 hF_xIh ⟨Nat.le_of_ble_eq_true rfl, Nat.le_of_ble_eq_true rfl⟩) ⟨pc_blind, va_recv hK hP (ci := 1) (q0 := 11) rfl rfl, fun U hU hW => ⟨rfl, hC1626 U hU hW⟩⟩ rfl rfl hl.1 rfl (lv_room (Nat.le_of_ble_eq_true rfl)) dX9_shown_43 ⟨(Nat.le_of_ble_eq_true rfl), (Nat.le_of_ble_eq_true rfl)⟩) hS (fun q9 _ h9 => hF1623 q9 h9) hF1623 (fun r1628 u1627 t1627 H1627 L1627 ht1627 hvm1627 hw1627 hB1627 hz1627 hk1627 hS => ?_)
  have hP := pq_keep hP hD [11, 12] rfl hk1627 hB1627.1 ht1627
  have hG : s.heap.size + 1290 ≤ H1627.size := Nat.le_trans hG hz1627
  refine W.eq (g2 := F0 m 48 ls [.int 1]) (by rw [hw1627]) ?_
  refine lv_if_eq (tgt := 92) hx hb dX9_shown_48 (by decide) (fun cz => absurd cz (by decide)) (fun _ => ?_)
  refine lv_aload hx hb dX9_shown_51 (lv_at hl 2 rfl) ?_
  have hM1631 := k646_next l hl9 dC dI z a1502 h3 h6 H1627.size kc1
  obtain ⟨hF1629, hC1632⟩ := pc_M hM1631 hP hD hK hS hX hT hA [11, 12, 13] [2] rfl rfl rfl
  refine va_callFr (va_runF (As := []) (rest := []) (hK.1 1 _ rfl).2 ⟨hx, hb, hml, hown, hts⟩ hM1631 (va_cwF 0 hts (gF q_308 q_309 q_310 q_246 q_307) rfl rfl rfl hT.2.2.2.2.2.2.2.1 hF_xIn ⟨Nat.le_of_ble_eq_true rfl, Nat.le_of_ble_eq_true rfl⟩) ⟨pc_blind, va_recv hK hP (ci := 1) (q0 := 11) rfl rfl, fun U hU hW => ⟨rfl, hC1632 U hU hW⟩⟩ rfl rfl hl.1 rfl (lv_room (Nat.le_of_ble_eq_true rfl)) dX9_shown_53 ⟨(Nat.le_of_ble_eq_true rfl), (Nat.le_of_ble_eq_true rfl)⟩) hS (fun q9 _ h9 => hF1629 q9 h9) hF1629 (fun u1633 r1634 t1633 H1633 L1633 ht1633 hvm1633 hw1633 hB1633 hz1633 hk1633 hS => ?_)
  obtain ⟨hr1633, hB1633⟩ := hB1633
  obtain ⟨hP, hD, hK⟩ := pq_jn (wz := [(h0, ce21 h1 h2 h3 h4), (h1, ce201 h5), (h2, ce3 z.1), (h4, ce226 h7), (h5, ce200 kc0 h8 h9 h10 h11 h12), (h7, ce200 kc2 (z.2.2.1 128) (z.2.2.1 129) (z.2.2.1 130) (z.2.2.1 131) (z.2.2.1 132)), (h8, ce49), (h9, ce49), (h10, ce49), (h11, ce49), (h12, ce49), (a1502, ce318 h3), (h3, ce276 h6), (h6, ce275 kc1 (z.2.2.1 128) (z.2.2.1 128) (z.2.2.1 128) (z.2.2.1 128) (z.2.2.1 128) (z.2.2.1 128) (z.2.2.1 128))]) (tz := [(kc0, .object "java/lang/Object"), (kc2, .object "java/lang/Object"), (kc1, .object "java/lang/Object")]) hP hD hK [11, 12, 13] [0, 1] rfl hk1633 hF1629 hB1633.1 ht1633 hvm1633 rfl rfl
  have hG : s.heap.size + 1290 ≤ H1633.size := Nat.le_trans hG hz1633
  refine W.eq (g2 := F0 m 58 ls [.ref (z.2.2.1 128)]) (by rw [hr1633]) ?_
  refine va_castE (nm := "java/lang/Integer") hx hb hown (hts _ q_320) (va_Orecv (hX.2.2.1.1.1 128 (by decide)) hS) dX9_shown_58 ?_
  have hM1637 := k74_intValue l hl9 dC dI z H1633.size
  obtain ⟨hF1635, hC1638⟩ := pc_M hM1637 hP hD hK hS hX hT hA [] [] rfl rfl rfl
  refine va_calli (va_runV (As := []) (rest := []) ⟨hx, hb, hml, hown, hts⟩ hM1637 (cwV 0 hts (gV q_323 q_324 q_325 q_297 q_322) rfl rfl rfl hV_J6_intValue_8abf5 ⟨Nat.le_of_ble_eq_true rfl, Nat.le_of_ble_eq_true rfl⟩) ⟨pc_blind, va_Orecv (hX.2.2.1.1.1 128 (by decide)) hS, fun U hU hW => ⟨rfl, hC1638 U hU hW⟩⟩ rfl rfl hl.1 rfl (lv_room (Nat.le_of_ble_eq_true rfl)) dX9_shown_61 ⟨(Nat.le_of_ble_eq_true rfl), (Nat.le_of_ble_eq_true rfl)⟩) hS (fun q9 _ h9 => hF1635 q9 h9) hF1635 (fun r1640 u1639 t1639 H1639 L1639 ht1639 hvm1639 hw1639 hB1639 hz1639 hk1639 hS => ?_)
  have hP := pq_keep hP hD [] rfl hk1639 hB1639.1 ht1639
  have hG : s.heap.size + 1290 ≤ H1639.size := Nat.le_trans hG hz1639
  refine W.eq (g2 := F0 m 64 ls [.int 0]) (by rw [hw1639]) ?_
  refine lv_istore (lv' := [(6, .int 0), (4, .int 0), (5, .ref a1502), (3, .int 48), (2, .int 4), (1, .int 0), (0, .ref h0)]) hx hb dX9_shown_64 hl (by decide) rfl (fun ls hl => ?_)
  refine lv_iload hx hb dX9_shown_66 (lv_at hl 1 rfl) ?_
  refine lv_if_ne (tgt := 82) hx hb dX9_shown_68 (by decide) (fun cz => absurd (by decide) cz) (fun _ => ?_)
  refine lv_aload_n hx hb dX9_shown_71 rfl (lv_at hl 6 rfl) ?_
  refine lv_iload_n hx hb dX9_shown_72 rfl (lv_at hl 4 rfl) ?_
  refine lv_iload_n hx hb dX9_shown_73 rfl (lv_at hl 3 rfl) ?_
  refine lv_iload hx hb dX9_shown_74 (lv_at hl 0 rfl) ?_
  have hM1643 := k666_showsIt l hl9 dC dI z h0 h1 h2 h4 h5 h7 h8 h9 h10 h11 h12 h3 H1639.size kc0 kc2
  obtain ⟨hF1641, hC1644⟩ := pc_M hM1643 hP hD hK hS hX hT hA [0, 1, 2, 3, 4, 5, 6, 7, 8, 9, 10] [0, 1] rfl rfl rfl
  refine va_calli (va_runV (As := [.int 4, .int 48, .int 0]) (rest := []) ⟨hx, hb, hml, hown, hts⟩ hM1643 (cwV 3 hts (gV q_429 q_430 q_431 q_60 q_428) rfl rfl rfl hV_X9_showsIt ⟨Nat.le_of_ble_eq_true rfl, Nat.le_of_ble_eq_true rfl⟩) ⟨pc_blind, va_recv hK hP (ci := 8) (q0 := 0) rfl rfl, fun U hU hW => ⟨rfl, hC1644 U hU hW⟩⟩ rfl rfl hl.1 rfl (lv_room (Nat.le_of_ble_eq_true rfl)) dX9_shown_76 ⟨(Nat.le_of_ble_eq_true rfl), (Nat.le_of_ble_eq_true rfl)⟩) hS (fun q9 _ h9 => hF1641 q9 h9) hF1641 (fun r1646 u1645 t1645 H1645 L1645 ht1645 hvm1645 hw1645 hB1645 hz1645 hk1645 hS => ?_)
  have hP := pq_keep hP hD [0, 1, 2, 3, 4, 5, 6, 7, 8, 9, 10] rfl hk1645 hB1645.1 ht1645
  have hG : s.heap.size + 1311 ≤ H1645.size := va_gr (g := 1290) (g1 := 21) hG (by rw [← ht1645]; exact hB1645.2)
  refine W.eq (g2 := F0 m 79 ls [.int 0]) (by rw [hw1645]) ?_
  refine W.widen (k := 1311) (n := 14172) (by decide) (by decide) ?_
  refine lv_if_eq (tgt := 86) hx hb dX9_shown_79 (by decide) (fun _ => ?_) (fun cz => absurd (by decide) cz)
  refine lv_iconst (v := 0) hx hb dX9_shown_86 (by decide) ?_
  refine lv_istore (lv' := [(4, .int 0), (6, .int 0), (5, .ref a1502), (3, .int 48), (2, .int 4), (1, .int 0), (0, .ref h0)]) hx hb dX9_shown_87 hl (by decide) rfl (fun ls hl => ?_)
  refine lv_goto (tgt := 41) hx hb dX9_shown_89 (by decide) ?_
  refine lv_aload hx hb dX9_shown_41 (lv_at hl 2 rfl) ?_
  have hM1649 := k647_hasNext l hl9 dC dI z a1502 h3 h6 H1645.size
  obtain ⟨hF1647, hC1650⟩ := pc_M hM1649 hP hD hK hS hX hT hA [11, 12] [] rfl rfl rfl
  refine va_callFi (va_runF (As := []) (rest := []) (hK.1 1 _ rfl).2 ⟨hx, hb, hml, hown, hts⟩ hM1649 (va_cwF 0 hts (gF q_261 q_262 q_263 q_246 q_260) rfl rfl rfl hT.2.2.2.2.2.2.1 hF_xIh ⟨Nat.le_of_ble_eq_true rfl, Nat.le_of_ble_eq_true rfl⟩) ⟨pc_blind, va_recv hK hP (ci := 1) (q0 := 11) rfl rfl, fun U hU hW => ⟨rfl, hC1650 U hU hW⟩⟩ rfl rfl hl.1 rfl (lv_room (Nat.le_of_ble_eq_true rfl)) dX9_shown_43 ⟨(Nat.le_of_ble_eq_true rfl), (Nat.le_of_ble_eq_true rfl)⟩) hS (fun q9 _ h9 => hF1647 q9 h9) hF1647 (fun r1652 u1651 t1651 H1651 L1651 ht1651 hvm1651 hw1651 hB1651 hz1651 hk1651 hS => ?_)
  have hP := pq_keep hP hD [11, 12] rfl hk1651 hB1651.1 ht1651
  have hG : s.heap.size + 1311 ≤ H1651.size := Nat.le_trans hG hz1651
  refine W.eq (g2 := F0 m 48 ls [.int 1]) (by rw [hw1651]) ?_
  refine lv_if_eq (tgt := 92) hx hb dX9_shown_48 (by decide) (fun cz => absurd cz (by decide)) (fun _ => ?_)
  refine lv_aload hx hb dX9_shown_51 (lv_at hl 2 rfl) ?_
  have hM1655 := k649_next l hl9 dC dI z a1502 h3 h6 H1651.size kc1
  obtain ⟨hF1653, hC1656⟩ := pc_M hM1655 hP hD hK hS hX hT hA [11, 12, 13] [2] rfl rfl rfl
  refine va_callFr (va_runF (As := []) (rest := []) (hK.1 1 _ rfl).2 ⟨hx, hb, hml, hown, hts⟩ hM1655 (va_cwF 0 hts (gF q_308 q_309 q_310 q_246 q_307) rfl rfl rfl hT.2.2.2.2.2.2.2.1 hF_xIn ⟨Nat.le_of_ble_eq_true rfl, Nat.le_of_ble_eq_true rfl⟩) ⟨pc_blind, va_recv hK hP (ci := 1) (q0 := 11) rfl rfl, fun U hU hW => ⟨rfl, hC1656 U hU hW⟩⟩ rfl rfl hl.1 rfl (lv_room (Nat.le_of_ble_eq_true rfl)) dX9_shown_53 ⟨(Nat.le_of_ble_eq_true rfl), (Nat.le_of_ble_eq_true rfl)⟩) hS (fun q9 _ h9 => hF1653 q9 h9) hF1653 (fun u1657 r1658 t1657 H1657 L1657 ht1657 hvm1657 hw1657 hB1657 hz1657 hk1657 hS => ?_)
  obtain ⟨hr1657, hB1657⟩ := hB1657
  obtain ⟨hP, hD, hK⟩ := pq_jn (wz := [(h0, ce21 h1 h2 h3 h4), (h1, ce201 h5), (h2, ce3 z.1), (h4, ce226 h7), (h5, ce200 kc0 h8 h9 h10 h11 h12), (h7, ce200 kc2 (z.2.2.1 128) (z.2.2.1 129) (z.2.2.1 130) (z.2.2.1 131) (z.2.2.1 132)), (h8, ce49), (h9, ce49), (h10, ce49), (h11, ce49), (h12, ce49), (a1502, ce320 h3), (h3, ce276 h6), (h6, ce275 kc1 (z.2.2.1 128) (z.2.2.1 128) (z.2.2.1 128) (z.2.2.1 128) (z.2.2.1 128) (z.2.2.1 128) (z.2.2.1 128))]) (tz := [(kc0, .object "java/lang/Object"), (kc2, .object "java/lang/Object"), (kc1, .object "java/lang/Object")]) hP hD hK [11, 12, 13] [0, 1] rfl hk1657 hF1653 hB1657.1 ht1657 hvm1657 rfl rfl
  have hG : s.heap.size + 1311 ≤ H1657.size := Nat.le_trans hG hz1657
  refine W.eq (g2 := F0 m 58 ls [.ref (z.2.2.1 128)]) (by rw [hr1657]) ?_
  refine va_castE (nm := "java/lang/Integer") hx hb hown (hts _ q_320) (va_Orecv (hX.2.2.1.1.1 128 (by decide)) hS) dX9_shown_58 ?_
  have hM1661 := k74_intValue l hl9 dC dI z H1657.size
  obtain ⟨hF1659, hC1662⟩ := pc_M hM1661 hP hD hK hS hX hT hA [] [] rfl rfl rfl
  refine va_calli (va_runV (As := []) (rest := []) ⟨hx, hb, hml, hown, hts⟩ hM1661 (cwV 0 hts (gV q_323 q_324 q_325 q_297 q_322) rfl rfl rfl hV_J6_intValue_8abf5 ⟨Nat.le_of_ble_eq_true rfl, Nat.le_of_ble_eq_true rfl⟩) ⟨pc_blind, va_Orecv (hX.2.2.1.1.1 128 (by decide)) hS, fun U hU hW => ⟨rfl, hC1662 U hU hW⟩⟩ rfl rfl hl.1 rfl (lv_room (Nat.le_of_ble_eq_true rfl)) dX9_shown_61 ⟨(Nat.le_of_ble_eq_true rfl), (Nat.le_of_ble_eq_true rfl)⟩) hS (fun q9 _ h9 => hF1659 q9 h9) hF1659 (fun r1664 u1663 t1663 H1663 L1663 ht1663 hvm1663 hw1663 hB1663 hz1663 hk1663 hS => ?_)
  have hP := pq_keep hP hD [] rfl hk1663 hB1663.1 ht1663
  have hG : s.heap.size + 1311 ≤ H1663.size := Nat.le_trans hG hz1663
  refine W.eq (g2 := F0 m 64 ls [.int 0]) (by rw [hw1663]) ?_
  refine lv_istore (lv' := [(6, .int 0), (4, .int 0), (5, .ref a1502), (3, .int 48), (2, .int 4), (1, .int 0), (0, .ref h0)]) hx hb dX9_shown_64 hl (by decide) rfl (fun ls hl => ?_)
  refine lv_iload hx hb dX9_shown_66 (lv_at hl 1 rfl) ?_
  refine lv_if_ne (tgt := 82) hx hb dX9_shown_68 (by decide) (fun cz => absurd (by decide) cz) (fun _ => ?_)
  refine lv_aload_n hx hb dX9_shown_71 rfl (lv_at hl 6 rfl) ?_
  refine lv_iload_n hx hb dX9_shown_72 rfl (lv_at hl 4 rfl) ?_
  refine lv_iload_n hx hb dX9_shown_73 rfl (lv_at hl 3 rfl) ?_
  refine lv_iload hx hb dX9_shown_74 (lv_at hl 0 rfl) ?_
  have hM1667 := k666_showsIt l hl9 dC dI z h0 h1 h2 h4 h5 h7 h8 h9 h10 h11 h12 h3 H1663.size kc0 kc2
  obtain ⟨hF1665, hC1668⟩ := pc_M hM1667 hP hD hK hS hX hT hA [0, 1, 2, 3, 4, 5, 6, 7, 8, 9, 10] [0, 1] rfl rfl rfl
  refine va_calli (va_runV (As := [.int 4, .int 48, .int 0]) (rest := []) ⟨hx, hb, hml, hown, hts⟩ hM1667 (cwV 3 hts (gV q_429 q_430 q_431 q_60 q_428) rfl rfl rfl hV_X9_showsIt ⟨Nat.le_of_ble_eq_true rfl, Nat.le_of_ble_eq_true rfl⟩) ⟨pc_blind, va_recv hK hP (ci := 8) (q0 := 0) rfl rfl, fun U hU hW => ⟨rfl, hC1668 U hU hW⟩⟩ rfl rfl hl.1 rfl (lv_room (Nat.le_of_ble_eq_true rfl)) dX9_shown_76 ⟨(Nat.le_of_ble_eq_true rfl), (Nat.le_of_ble_eq_true rfl)⟩) hS (fun q9 _ h9 => hF1665 q9 h9) hF1665 (fun r1670 u1669 t1669 H1669 L1669 ht1669 hvm1669 hw1669 hB1669 hz1669 hk1669 hS => ?_)
  have hP := pq_keep hP hD [0, 1, 2, 3, 4, 5, 6, 7, 8, 9, 10] rfl hk1669 hB1669.1 ht1669
  have hG : s.heap.size + 1332 ≤ H1669.size := va_gr (g := 1311) (g1 := 21) hG (by rw [← ht1669]; exact hB1669.2)
  refine W.eq (g2 := F0 m 79 ls [.int 0]) (by rw [hw1669]) ?_
  refine W.widen (k := 1332) (n := 14400) (by decide) (by decide) ?_
  refine lv_if_eq (tgt := 86) hx hb dX9_shown_79 (by decide) (fun _ => ?_) (fun cz => absurd (by decide) cz)
  refine lv_iconst (v := 0) hx hb dX9_shown_86 (by decide) ?_
  refine lv_istore (lv' := [(4, .int 0), (6, .int 0), (5, .ref a1502), (3, .int 48), (2, .int 4), (1, .int 0), (0, .ref h0)]) hx hb dX9_shown_87 hl (by decide) rfl (fun ls hl => ?_)
  refine lv_goto (tgt := 41) hx hb dX9_shown_89 (by decide) ?_
  refine lv_aload hx hb dX9_shown_41 (lv_at hl 2 rfl) ?_
  have hM1673 := k650_hasNext l hl9 dC dI z a1502 h3 h6 H1669.size
  obtain ⟨hF1671, hC1674⟩ := pc_M hM1673 hP hD hK hS hX hT hA [11, 12] [] rfl rfl rfl
  refine va_callFi (va_runF (As := []) (rest := []) (hK.1 1 _ rfl).2 ⟨hx, hb, hml, hown, hts⟩ hM1673 (va_cwF 0 hts (gF q_261 q_262 q_263 q_246 q_260) rfl rfl rfl hT.2.2.2.2.2.2.1 hF_xIh ⟨Nat.le_of_ble_eq_true rfl, Nat.le_of_ble_eq_true rfl⟩) ⟨pc_blind, va_recv hK hP (ci := 1) (q0 := 11) rfl rfl, fun U hU hW => ⟨rfl, hC1674 U hU hW⟩⟩ rfl rfl hl.1 rfl (lv_room (Nat.le_of_ble_eq_true rfl)) dX9_shown_43 ⟨(Nat.le_of_ble_eq_true rfl), (Nat.le_of_ble_eq_true rfl)⟩) hS (fun q9 _ h9 => hF1671 q9 h9) hF1671 (fun r1676 u1675 t1675 H1675 L1675 ht1675 hvm1675 hw1675 hB1675 hz1675 hk1675 hS => ?_)
  have hP := pq_keep hP hD [11, 12] rfl hk1675 hB1675.1 ht1675
  have hG : s.heap.size + 1332 ≤ H1675.size := Nat.le_trans hG hz1675
  refine W.eq (g2 := F0 m 48 ls [.int 0]) (by rw [hw1675]) ?_
  refine lv_if_eq (tgt := 92) hx hb dX9_shown_48 (by decide) (fun _ => ?_) (fun cz => absurd (by decide) cz)
  refine lv_iload_n hx hb dX9_shown_92 rfl (lv_at hl 5 rfl) ?_
  refine lv_iload hx hb dX9_shown_93 (lv_at hl 0 rfl) ?_
  refine lv_if_eq (tgt := 102) hx hb dX9_shown_95 (by decide) (fun _ => ?_) (fun cz => absurd (by decide) cz)
  refine lv_iconst (v := 0) hx hb dX9_shown_102 (by decide) ?_
  refine lv_iadd hx hb dX9_shown_103 ?_
  refine lv_topi (fun y1677 ey1677 => ?_)
  obtain rfl : y1677 = 0 := ey1677.trans (by decide)
  refine lv_istore_n (lv' := [(1, .int 0), (4, .int 0), (6, .int 0), (5, .ref a1502), (3, .int 48), (2, .int 4), (0, .ref h0)]) hx hb dX9_shown_104 rfl hl (by decide) rfl (fun ls hl => ?_)
  refine lv_iload_n hx hb dX9_shown_105 rfl (lv_at hl 4 rfl) ?_
  refine lv_iconst (v := 1) hx hb dX9_shown_106 (by decide) ?_
  refine lv_iadd hx hb dX9_shown_107 ?_
  refine lv_topi (fun y1678 ey1678 => ?_)
  obtain rfl : y1678 = 49 := ey1678.trans (by decide)
  refine lv_i2c (v := 49) hx hb dX9_shown_108 (by decide) ?_
  refine lv_istore_n (lv' := [(3, .int 49), (1, .int 0), (4, .int 0), (6, .int 0), (5, .ref a1502), (2, .int 4), (0, .ref h0)]) hx hb dX9_shown_109 rfl hl (by decide) rfl (fun ls hl => ?_)
  refine lv_goto (tgt := 23) hx hb dX9_shown_110 (by decide) ?_
  exact hend _ _ _ hS (hP.sub [0, 1, 2, 12, 3, 4, 13, 5, 6, 7, 8, 9, 10] rfl) (hD.sub [0, 1, 2, 12, 3, 4, 13, 5, 6, 7, 8, 9, 10] rfl rfl) (lv_sub hl [0, 1, 5, 6] rfl) hG
