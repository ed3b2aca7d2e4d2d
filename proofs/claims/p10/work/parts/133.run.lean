set_option maxHeartbeats 8000000 in
set_option maxRecDepth 100000 in
theorem k669_shown_g7 {p : Program} {l : Launch} {e : Env} {s : State} {m : MethodId} {args : Array Value} {below : List Frame} {meth : Method} {c : Code} {Q : State → Prop} {A : Nat → Prop} {H : Heap} {locs : List Loc} {ls : Array Slot} {dC : Nat → ClassId} {dI : Nat → Nat → Nat} {z : XZ} {h0 h1 h2 h3 h4 h5 h6 h7 h8 h9 h10 h11 h12 : Nat} {kc0 kc1 kc2 : ClassId} (hl9 : l.stackTraces = false) (hx : p.tables.exec = Jvm.exec) (hb : c.code = cX9_shown) (hml : c.maxLocals = 7) (hown : s.vm.findClass RX9 = some m.cls) (hts : ∀ w ∈ wsL_law, w.before args s = true) (hA : ∀ q : Nat, s.heap.size ≤ q → A q) (hX : XE z A s s.heap) (hT : XT s) (hS : va_S A s.heap H locs) (hP : va_P (dC, dI) xCl [(h0, ce21 h1 h2 h3 h4), (h1, ce201 h5), (h2, ce3 z.1), (h3, ce276 h6), (h4, ce226 h7), (h5, ce200 kc0 h8 h9 h10 h11 h12), (h6, ce275 kc1 (z.2.2.1 128) (z.2.2.1 128) (z.2.2.1 128) (z.2.2.1 128) (z.2.2.1 128) (z.2.2.1 128) (z.2.2.1 128)), (h7, ce200 kc2 (z.2.2.1 128) (z.2.2.1 129) (z.2.2.1 130) (z.2.2.1 131) (z.2.2.1 132)), (h8, ce49), (h9, ce49), (h10, ce49), (h11, ce49), (h12, ce49)] H) (hD : va_D A [(h0, ce21 h1 h2 h3 h4), (h1, ce201 h5), (h2, ce3 z.1), (h3, ce276 h6), (h4, ce226 h7), (h5, ce200 kc0 h8 h9 h10 h11 h12), (h6, ce275 kc1 (z.2.2.1 128) (z.2.2.1 128) (z.2.2.1 128) (z.2.2.1 128) (z.2.2.1 128) (z.2.2.1 128) (z.2.2.1 128)), (h7, ce200 kc2 (z.2.2.1 128) (z.2.2.1 129) (z.2.2.1 130) (z.2.2.1 131) (z.2.2.1 132)), (h8, ce49), (h9, ce49), (h10, ce49), (h11, ce49), (h12, ce49)]) (hK : va_K (dC, dI) xCl [(kc0, .object "java/lang/Object"), (kc1, .object "java/lang/Object"), (kc2, .object "java/lang/Object")] s) (hl : lv_has ls 7 [(3, .int 48), (2, .int 2), (1, .int 0), (0, .ref h0)]) (hG : s.heap.size + 592 ≤ H.size) (hend : ∀ (H' : Heap) (locs' : List Loc) (ls' : Array Slot), va_S A s.heap H' locs' → va_P (dC, dI) xCl [(h0, ce21 h1 h2 h3 h4), (h1, ce201 h5), (h2, ce3 z.1), (h3, ce276 h6), (h4, ce226 h7), (h5, ce200 kc0 h8 h9 h10 h11 h12), (h6, ce275 kc1 (z.2.2.1 128) (z.2.2.1 128) (z.2.2.1 128) (z.2.2.1 128) (z.2.2.1 128) (z.2.2.1 128) (z.2.2.1 128)), (h7, ce200 kc2 (z.2.2.1 128) (z.2.2.1 129) (z.2.2.1 130) (z.2.2.1 131) (z.2.2.1 132)), (h8, ce49), (h9, ce49), (h10, ce49), (h11, ce49), (h12, ce49)] H' → va_D A [(h0, ce21 h1 h2 h3 h4), (h1, ce201 h5), (h2, ce3 z.1), (h3, ce276 h6), (h4, ce226 h7), (h5, ce200 kc0 h8 h9 h10 h11 h12), (h6, ce275 kc1 (z.2.2.1 128) (z.2.2.1 128) (z.2.2.1 128) (z.2.2.1 128) (z.2.2.1 128) (z.2.2.1 128) (z.2.2.1 128)), (h7, ce200 kc2 (z.2.2.1 128) (z.2.2.1 129) (z.2.2.1 130) (z.2.2.1 131) (z.2.2.1 132)), (h8, ce49), (h9, ce49), (h10, ce49), (h11, ce49), (h12, ce49)] → lv_has ls' 7 [(3, .int 49), (1, .int 0), (2, .int 2), (0, .ref h0)] → s.heap.size + 740 ≤ H'.size → W p l e ({ frames := 5, cells := 1480, slots := 16000, locals := 121 } : Room) s m args below meth c H' locs' 740 8000 Q (F0 m 23 ls' [])) : W p l e ({ frames := 5, cells := 1480, slots := 16000, locals := 121 } : Room) s m args below meth c H locs 592 6400 Q (F0 m 23 ls []) := by
  refine lv_iload_n hx hb dX9_shown_23 rfl (lv_at hl 0 rfl) ?_
  refine lv_bipush (v := 49) hx hb dX9_shown_24 (by decide) ?_
  refine lv_icmp_gt (tgt := 113) hx hb dX9_shown_26 (by decide) (fun cz => absurd cz (by decide)) (fun _ => ?_)
  refine lv_iconst (v := 0) hx hb dX9_shown_29 (by decide) ?_
  refine lv_istore (lv' := [(4, .int 0), (3, .int 48), (2, .int 2), (1, .int 0), (0, .ref h0)]) hx hb dX9_shown_30 hl (by decide) rfl (fun ls hl => ?_)
  refine lv_aload_n hx hb dX9_shown_32 rfl (lv_at hl 4 rfl) ?_
  refine va_get (D := (dC, dI)) (ci := 8) (v := .ref h3) (C := RX9) (T := TX9) (N := 6) hx hb hts in_X9 hown hK hP 0 rfl rfl 3 (by decide) (hts _ q_66) (fun _ h9 => h9) rfl dX9_shown_33 ?_
  have hM754 := k619_iterator l hl9 dC dI z h3 h6 H.size
  obtain ⟨hF752, hC755⟩ := pc_M hM754 hP hD hK hS hX hT hA [3] [] rfl rfl rfl
  refine va_callr (va_runV (As := []) (rest := []) ⟨hx, hb, hml, hown, hts⟩ hM754 (cwV 0 hts (gV q_256 q_257 q_258 q_12 q_255) rfl rfl rfl hV_Jx4a65c_iterator_32c93 ⟨Nat.le_of_ble_eq_true rfl, Nat.le_of_ble_eq_true rfl⟩) ⟨pc_blind, va_recv hK hP (ci := 0) (q := (RJx4a65c, TJx4a65c, 3)) (q0 := 3) rfl rfl, fun U hU hW => ⟨rfl, hC755 U hU hW⟩⟩ rfl rfl hl.1 rfl (lv_room (Nat.le_of_ble_eq_true rfl)) dX9_shown_36 ⟨(Nat.le_of_ble_eq_true rfl), (Nat.le_of_ble_eq_true rfl)⟩) hS (fun q9 _ h9 => hF752 q9 h9) hF752 (fun u756 r757 t756 H756 L756 ht756 hvm756 hw756 hB756 hz756 hk756 hS => ?_)
  obtain ⟨a758, hr756, hB756⟩ := hB756
  obtain ⟨hP, hD, hK⟩ := pq_jn (wz := [(h0, ce21 h1 h2 h3 h4), (h1, ce201 h5), (h2, ce3 z.1), (h4, ce226 h7), (h5, ce200 kc0 h8 h9 h10 h11 h12), (h6, ce275 kc1 (z.2.2.1 128) (z.2.2.1 128) (z.2.2.1 128) (z.2.2.1 128) (z.2.2.1 128) (z.2.2.1 128) (z.2.2.1 128)), (h7, ce200 kc2 (z.2.2.1 128) (z.2.2.1 129) (z.2.2.1 130) (z.2.2.1 131) (z.2.2.1 132)), (h8, ce49), (h9, ce49), (h10, ce49), (h11, ce49), (h12, ce49), (h3, ce276 h6), (a758, ce292 h3)]) (tz := [(kc0, .object "java/lang/Object"), (kc1, .object "java/lang/Object"), (kc2, .object "java/lang/Object")]) hP hD hK [3] [0, 1, 2] rfl hk756 hF752 hB756.1 ht756 hvm756 rfl rfl
  have hG : s.heap.size + 593 ≤ H756.size := va_gr (g := 592) (g1 := 1) hG (by rw [← ht756]; exact hB756.2)
  refine W.eq (g2 := F0 m 39 ls [.ref a758]) (by rw [hr756]) ?_
  refine W.widen (k := 593) (n := 6404) (by decide) (by decide) ?_
  refine lv_astore (lv' := [(5, .ref a758), (4, .int 0), (3, .int 48), (2, .int 2), (1, .int 0), (0, .ref h0)]) hx hb dX9_shown_39 hl (by decide) rfl (fun ls hl => ?_)
  refine lv_aload hx hb dX9_shown_41 (lv_at hl 0 rfl) ?_
  have hM761 := k620_hasNext l hl9 dC dI z a758 h3 h6 H756.size
  obtain ⟨hF759, hC762⟩ := pc_M hM761 hP hD hK hS hX hT hA [13, 12] [] rfl rfl rfl
  refine va_callFi (va_runF (As := []) (rest := []) (hK.1 1 (RJx35411, TJx35411, 4) rfl).2 ⟨hx, hb, hml, hown, hts⟩ hM761 (va_cwF 0 hts (gF q_261 q_262 q_263 q_246 q_260) rfl rfl rfl hT.2.2.2.2.2.2.1 hF_xIh ⟨Nat.le_of_ble_eq_true rfl, Nat.le_of_ble_eq_true rfl⟩) ⟨pc_blind, va_recv hK hP (ci := 1) (q := (RJx35411, TJx35411, 4)) (q0 := 13) rfl rfl, fun U hU hW => ⟨rfl, hC762 U hU hW⟩⟩ rfl rfl hl.1 rfl (lv_room (Nat.le_of_ble_eq_true rfl)) dX9_shown_43 ⟨(Nat.le_of_ble_eq_true rfl), (Nat.le_of_ble_eq_true rfl)⟩) hS (fun q9 _ h9 => hF759 q9 h9) hF759 (fun r764 u763 t763 H763 L763 ht763 hvm763 hw763 hB763 hz763 hk763 hS => ?_)
  have hP := pq_keep hP hD [13, 12] rfl hk763 hB763.1 ht763
  have hG : s.heap.size + 593 ≤ H763.size := Nat.le_trans hG hz763
  refine W.eq (g2 := F0 m 48 ls [.int 1]) (by rw [hw763]) ?_
  refine lv_if_eq (tgt := 92) hx hb dX9_shown_48 (by decide) (fun cz => absurd cz (by decide)) (fun _ => ?_)
  refine lv_aload hx hb dX9_shown_51 (lv_at hl 0 rfl) ?_
  have hM767 := k622_next l hl9 dC dI z a758 h3 h6 H763.size kc1
  obtain ⟨hF765, hC768⟩ := pc_M hM767 hP hD hK hS hX hT hA [13, 12, 5] [1] rfl rfl rfl
  refine va_callFr (va_runF (As := []) (rest := []) (hK.1 1 (RJx35411, TJx35411, 4) rfl).2 ⟨hx, hb, hml, hown, hts⟩ hM767 (va_cwF 0 hts (gF q_308 q_309 q_310 q_246 q_307) rfl rfl rfl hT.2.2.2.2.2.2.2.1 hF_xIn ⟨Nat.le_of_ble_eq_true rfl, Nat.le_of_ble_eq_true rfl⟩) ⟨pc_blind, va_recv hK hP (ci := 1) (q := (RJx35411, TJx35411, 4)) (q0 := 13) rfl rfl, fun U hU hW => ⟨rfl, hC768 U hU hW⟩⟩ rfl rfl hl.1 rfl (lv_room (Nat.le_of_ble_eq_true rfl)) dX9_shown_53 ⟨(Nat.le_of_ble_eq_true rfl), (Nat.le_of_ble_eq_true rfl)⟩) hS (fun q9 _ h9 => hF765 q9 h9) hF765 (fun u769 r770 t769 H769 L769 ht769 hvm769 hw769 hB769 hz769 hk769 hS => ?_)
  obtain ⟨hr769, hB769⟩ := hB769
  obtain ⟨hP, hD, hK⟩ := pq_jn (wz := [(h0, ce21 h1 h2 h3 h4), (h1, ce201 h5), (h2, ce3 z.1), (h4, ce226 h7), (h5, ce200 kc0 h8 h9 h10 h11 h12), (h7, ce200 kc2 (z.2.2.1 128) (z.2.2.1 129) (z.2.2.1 130) (z.2.2.1 131) (z.2.2.1 132)), (h8, ce49), (h9, ce49), (h10, ce49), (h11, ce49), (h12, ce49), (a758, ce294 h3), (h3, ce276 h6), (h6, ce275 kc1 (z.2.2.1 128) (z.2.2.1 128) (z.2.2.1 128) (z.2.2.1 128) (z.2.2.1 128) (z.2.2.1 128) (z.2.2.1 128))]) (tz := [(kc0, .object "java/lang/Object"), (kc2, .object "java/lang/Object"), (kc1, .object "java/lang/Object")]) hP hD hK [13, 12, 5] [0, 2] rfl hk769 hF765 hB769.1 ht769 hvm769 rfl rfl
  have hG : s.heap.size + 593 ≤ H769.size := Nat.le_trans hG hz769
  refine W.eq (g2 := F0 m 58 ls [.ref (z.2.2.1 128)]) (by rw [hr769]) ?_
  refine va_castE (nm := "java/lang/Integer") hx hb hown (hts _ q_320) (va_Orecv (hX.2.2.1.1.1 128 (by decide)) hS) dX9_shown_58 ?_
  have hM773 := k74_intValue l hl9 dC dI z H769.size
  obtain ⟨hF771, hC774⟩ := pc_M hM773 hP hD hK hS hX hT hA [] [] rfl rfl rfl
  refine va_calli (va_runV (As := []) (rest := []) ⟨hx, hb, hml, hown, hts⟩ hM773 (cwV 0 hts (gV q_323 q_324 q_325 q_297 q_322) rfl rfl rfl hV_J6_intValue_8abf5 ⟨Nat.le_of_ble_eq_true rfl, Nat.le_of_ble_eq_true rfl⟩) ⟨pc_blind, va_Orecv (hX.2.2.1.1.1 128 (by decide)) hS, fun U hU hW => ⟨rfl, hC774 U hU hW⟩⟩ rfl rfl hl.1 rfl (lv_room (Nat.le_of_ble_eq_true rfl)) dX9_shown_61 ⟨(Nat.le_of_ble_eq_true rfl), (Nat.le_of_ble_eq_true rfl)⟩) hS (fun q9 _ h9 => hF771 q9 h9) hF771 (fun r776 u775 t775 H775 L775 ht775 hvm775 hw775 hB775 hz775 hk775 hS => ?_)
  have hP := pq_keep hP hD [] rfl hk775 hB775.1 ht775
  have hG : s.heap.size + 593 ≤ H775.size := Nat.le_trans hG hz775
  refine W.eq (g2 := F0 m 64 ls [.int 0]) (by rw [hw775]) ?_
  refine lv_istore (lv' := [(6, .int 0), (5, .ref a758), (4, .int 0), (3, .int 48), (2, .int 2), (1, .int 0), (0, .ref h0)]) hx hb dX9_shown_64 hl (by decide) rfl (fun ls hl => ?_)
  refine lv_iload hx hb dX9_shown_66 (lv_at hl 2 rfl) ?_
  refine lv_if_ne (tgt := 82) hx hb dX9_shown_68 (by decide) (fun cz => absurd (by decide) cz) (fun _ => ?_)
  refine lv_aload_n hx hb dX9_shown_71 rfl (lv_at hl 6 rfl) ?_
  refine lv_iload_n hx hb dX9_shown_72 rfl (lv_at hl 4 rfl) ?_
  refine lv_iload_n hx hb dX9_shown_73 rfl (lv_at hl 3 rfl) ?_
  refine lv_iload hx hb dX9_shown_74 (lv_at hl 0 rfl) ?_
  have hM779 := k658_showsIt l hl9 dC dI z h0 h1 h2 h4 h5 h7 h8 h9 h10 h11 h12 h3 H775.size kc0 kc2
  obtain ⟨hF777, hC780⟩ := pc_M hM779 hP hD hK hS hX hT hA [0, 1, 2, 3, 4, 5, 6, 7, 8, 9, 10] [0, 1] rfl rfl rfl
  refine va_calli (va_runV (As := [.int 2, .int 48, .int 0]) (rest := []) ⟨hx, hb, hml, hown, hts⟩ hM779 (cwV 3 hts (gV q_429 q_430 q_431 q_60 q_428) rfl rfl rfl hV_X9_showsIt ⟨Nat.le_of_ble_eq_true rfl, Nat.le_of_ble_eq_true rfl⟩) ⟨pc_blind, va_recv hK hP (ci := 8) (q := (RX9, TX9, 6)) (q0 := 0) rfl rfl, fun U hU hW => ⟨rfl, hC780 U hU hW⟩⟩ rfl rfl hl.1 rfl (lv_room (Nat.le_of_ble_eq_true rfl)) dX9_shown_76 ⟨(Nat.le_of_ble_eq_true rfl), (Nat.le_of_ble_eq_true rfl)⟩) hS (fun q9 _ h9 => hF777 q9 h9) hF777 (fun r782 u781 t781 H781 L781 ht781 hvm781 hw781 hB781 hz781 hk781 hS => ?_)
  have hP := pq_keep hP hD [0, 1, 2, 3, 4, 5, 6, 7, 8, 9, 10] rfl hk781 hB781.1 ht781
  have hG : s.heap.size + 614 ≤ H781.size := va_gr (g := 593) (g1 := 21) hG (by rw [← ht781]; exact hB781.2)
  refine W.eq (g2 := F0 m 79 ls [.int 0]) (by rw [hw781]) ?_
  refine W.widen (k := 614) (n := 6632) (by decide) (by decide) ?_
  refine lv_if_eq (tgt := 86) hx hb dX9_shown_79 (by decide) (fun _ => ?_) (fun cz => absurd (by decide) cz)
  refine lv_iconst (v := 0) hx hb dX9_shown_86 (by decide) ?_
  refine lv_istore (lv' := [(4, .int 0), (6, .int 0), (5, .ref a758), (3, .int 48), (2, .int 2), (1, .int 0), (0, .ref h0)]) hx hb dX9_shown_87 hl (by decide) rfl (fun ls hl => ?_)
  refine lv_goto (tgt := 41) hx hb dX9_shown_89 (by decide) ?_
  refine lv_aload hx hb dX9_shown_41 (lv_at hl 2 rfl) ?_
  have hM785 := k632_hasNext l hl9 dC dI z a758 h3 h6 H781.size
  obtain ⟨hF783, hC786⟩ := pc_M hM785 hP hD hK hS hX hT hA [11, 12] [] rfl rfl rfl
  refine va_callFi (va_runF (As := []) (rest := []) (hK.1 1 (RJx35411, TJx35411, 4) rfl).2 ⟨hx, hb, hml, hown, hts⟩ hM785 (va_cwF 0 hts (gF q_261 q_262 q_263 q_246 q_260) rfl rfl rfl hT.2.2.2.2.2.2.1 hF_xIh ⟨Nat.le_of_ble_eq_true rfl, Nat.le_of_ble_eq_true rfl⟩) ⟨pc_blind, va_recv hK hP (ci := 1) (q := (RJx35411, TJx35411, 4)) (q0 := 11) rfl rfl, fun U hU hW => ⟨rfl, hC786 U hU hW⟩⟩ rfl rfl hl.1 rfl (lv_room (Nat.le_of_ble_eq_true rfl)) dX9_shown_43 ⟨(Nat.le_of_ble_eq_true rfl), (Nat.le_of_ble_eq_true rfl)⟩) hS (fun q9 _ h9 => hF783 q9 h9) hF783 (fun r788 u787 t787 H787 L787 ht787 hvm787 hw787 hB787 hz787 hk787 hS => ?_)
  have hP := pq_keep hP hD [11, 12] rfl hk787 hB787.1 ht787
  have hG : s.heap.size + 614 ≤ H787.size := Nat.le_trans hG hz787
  refine W.eq (g2 := F0 m 48 ls [.int 1]) (by rw [hw787]) ?_
  refine lv_if_eq (tgt := 92) hx hb dX9_shown_48 (by decide) (fun cz => absurd cz (by decide)) (fun _ => ?_)
  refine lv_aload hx hb dX9_shown_51 (lv_at hl 2 rfl) ?_
  have hM791 := k634_next l hl9 dC dI z a758 h3 h6 H787.size kc1
  obtain ⟨hF789, hC792⟩ := pc_M hM791 hP hD hK hS hX hT hA [11, 12, 13] [2] rfl rfl rfl
  refine va_callFr (va_runF (As := []) (rest := []) (hK.1 1 (RJx35411, TJx35411, 4) rfl).2 ⟨hx, hb, hml, hown, hts⟩ hM791 (va_cwF 0 hts (gF q_308 q_309 q_310 q_246 q_307) rfl rfl rfl hT.2.2.2.2.2.2.2.1 hF_xIn ⟨Nat.le_of_ble_eq_true rfl, Nat.le_of_ble_eq_true rfl⟩) ⟨pc_blind, va_recv hK hP (ci := 1) (q := (RJx35411, TJx35411, 4)) (q0 := 11) rfl rfl, fun U hU hW => ⟨rfl, hC792 U hU hW⟩⟩ rfl rfl hl.1 rfl (lv_room (Nat.le_of_ble_eq_true rfl)) dX9_shown_53 ⟨(Nat.le_of_ble_eq_true rfl), (Nat.le_of_ble_eq_true rfl)⟩) hS (fun q9 _ h9 => hF789 q9 h9) hF789 (fun u793 r794 t793 H793 L793 ht793 hvm793 hw793 hB793 hz793 hk793 hS => ?_)
  obtain ⟨hr793, hB793⟩ := hB793
  obtain ⟨hP, hD, hK⟩ := pq_jn (wz := [(h0, ce21 h1 h2 h3 h4), (h1, ce201 h5), (h2, ce3 z.1), (h4, ce226 h7), (h5, ce200 kc0 h8 h9 h10 h11 h12), (h7, ce200 kc2 (z.2.2.1 128) (z.2.2.1 129) (z.2.2.1 130) (z.2.2.1 131) (z.2.2.1 132)), (h8, ce49), (h9, ce49), (h10, ce49), (h11, ce49), (h12, ce49), (a758, ce310 h3), (h3, ce276 h6), (h6, ce275 kc1 (z.2.2.1 128) (z.2.2.1 128) (z.2.2.1 128) (z.2.2.1 128) (z.2.2.1 128) (z.2.2.1 128) (z.2.2.1 128))]) (tz := [(kc0, .object "java/lang/Object"), (kc2, .object "java/lang/Object"), (kc1, .object "java/lang/Object")]) hP hD hK [11, 12, 13] [0, 1] rfl hk793 hF789 hB793.1 ht793 hvm793 rfl rfl
  have hG : s.heap.size + 614 ≤ H793.size := Nat.le_trans hG hz793
  refine W.eq (g2 := F0 m 58 ls [.ref (z.2.2.1 128)]) (by rw [hr793]) ?_
  refine va_castE (nm := "java/lang/Integer") hx hb hown (hts _ q_320) (va_Orecv (hX.2.2.1.1.1 128 (by decide)) hS) dX9_shown_58 ?_
  have hM797 := k74_intValue l hl9 dC dI z H793.size
  obtain ⟨hF795, hC798⟩ := pc_M hM797 hP hD hK hS hX hT hA [] [] rfl rfl rfl
  refine va_calli (va_runV (As := []) (rest := []) ⟨hx, hb, hml, hown, hts⟩ hM797 (cwV 0 hts (gV q_323 q_324 q_325 q_297 q_322) rfl rfl rfl hV_J6_intValue_8abf5 ⟨Nat.le_of_ble_eq_true rfl, Nat.le_of_ble_eq_true rfl⟩) ⟨pc_blind, va_Orecv (hX.2.2.1.1.1 128 (by decide)) hS, fun U hU hW => ⟨rfl, hC798 U hU hW⟩⟩ rfl rfl hl.1 rfl (lv_room (Nat.le_of_ble_eq_true rfl)) dX9_shown_61 ⟨(Nat.le_of_ble_eq_true rfl), (Nat.le_of_ble_eq_true rfl)⟩) hS (fun q9 _ h9 => hF795 q9 h9) hF795 (fun r800 u799 t799 H799 L799 ht799 hvm799 hw799 hB799 hz799 hk799 hS => ?_)
  have hP := pq_keep hP hD [] rfl hk799 hB799.1 ht799
  have hG : s.heap.size + 614 ≤ H799.size := Nat.le_trans hG hz799
  refine W.eq (g2 := F0 m 64 ls [.int 0]) (by rw [hw799]) ?_
  refine lv_istore (lv' := [(6, .int 0), (4, .int 0), (5, .ref a758), (3, .int 48), (2, .int 2), (1, .int 0), (0, .ref h0)]) hx hb dX9_shown_64 hl (by decide) rfl (fun ls hl => ?_)
  refine lv_iload hx hb dX9_shown_66 (lv_at hl 1 rfl) ?_
  refine lv_if_ne (tgt := 82) hx hb dX9_shown_68 (by decide) (fun cz => absurd (by decide) cz) (fun _ => ?_)
  refine lv_aload_n hx hb dX9_shown_71 rfl (lv_at hl 6 rfl) ?_
  refine lv_iload_n hx hb dX9_shown_72 rfl (lv_at hl 4 rfl) ?_
  refine lv_iload_n hx hb dX9_shown_73 rfl (lv_at hl 3 rfl) ?_
  refine lv_iload hx hb dX9_shown_74 (lv_at hl 0 rfl) ?_
  have hM803 := k658_showsIt l hl9 dC dI z h0 h1 h2 h4 h5 h7 h8 h9 h10 h11 h12 h3 H799.size kc0 kc2
  obtain ⟨hF801, hC804⟩ := pc_M hM803 hP hD hK hS hX hT hA [0, 1, 2, 3, 4, 5, 6, 7, 8, 9, 10] [0, 1] rfl rfl rfl
  refine va_calli (va_runV (As := [.int 2, .int 48, .int 0]) (rest := []) ⟨hx, hb, hml, hown, hts⟩ hM803 (cwV 3 hts (gV q_429 q_430 q_431 q_60 q_428) rfl rfl rfl hV_X9_showsIt ⟨Nat.le_of_ble_eq_true rfl, Nat.le_of_ble_eq_true rfl⟩) ⟨pc_blind, va_recv hK hP (ci := 8) (q := (RX9, TX9, 6)) (q0 := 0) rfl rfl, fun U hU hW => ⟨rfl, hC804 U hU hW⟩⟩ rfl rfl hl.1 rfl (lv_room (Nat.le_of_ble_eq_true rfl)) dX9_shown_76 ⟨(Nat.le_of_ble_eq_true rfl), (Nat.le_of_ble_eq_true rfl)⟩) hS (fun q9 _ h9 => hF801 q9 h9) hF801 (fun r806 u805 t805 H805 L805 ht805 hvm805 hw805 hB805 hz805 hk805 hS => ?_)
  have hP := pq_keep hP hD [0, 1, 2, 3, 4, 5, 6, 7, 8, 9, 10] rfl hk805 hB805.1 ht805
  have hG : s.heap.size + 635 ≤ H805.size := va_gr (g := 614) (g1 := 21) hG (by rw [← ht805]; exact hB805.2)
  refine W.eq (g2 := F0 m 79 ls [.int 0]) (by rw [hw805]) ?_
  refine W.widen (k := 635) (n := 6860) (by decide) (by decide) ?_
  refine lv_if_eq (tgt := 86) hx hb dX9_shown_79 (by decide) (fun _ => ?_) (fun cz => absurd (by decide) cz)
  refine lv_iconst (v := 0) hx hb dX9_shown_86 (by decide) ?_
  refine lv_istore (lv' := [(4, .int 0), (6, .int 0), (5, .ref a758), (3, .int 48), (2, .int 2), (1, .int 0), (0, .ref h0)]) hx hb dX9_shown_87 hl (by decide) rfl (fun ls hl => ?_)
  refine lv_goto (tgt := 41) hx hb dX9_shown_89 (by decide) ?_
  refine lv_aload hx hb dX9_shown_41 (lv_at hl 2 rfl) ?_
  have hM809 := k635_hasNext l hl9 dC dI z a758 h3 h6 H805.size
  obtain ⟨hF807, hC810⟩ := pc_M hM809 hP hD hK hS hX hT hA [11, 12] [] rfl rfl rfl
  refine va_callFi (va_runF (As := []) (rest := []) (hK.1 1 (RJx35411, TJx35411, 4) rfl).2 ⟨hx, hb, hml, hown, hts⟩ hM809 (va_cwF 0 hts (gF q_261 q_262 q_263 q_246 q_260) rfl rfl rfl hT.2.2.2.2.2.2.1 hF_xIh ⟨Nat.le_of_ble_eq_true rfl, Nat.le_of_ble_eq_true rfl⟩) ⟨pc_blind, va_recv hK hP (ci := 1) (q := (RJx35411, TJx35411, 4)) (q0 := 11) rfl rfl, fun U hU hW => ⟨rfl, hC810 U hU hW⟩⟩ rfl rfl hl.1 rfl (lv_room (Nat.le_of_ble_eq_true rfl)) dX9_shown_43 ⟨(Nat.le_of_ble_eq_true rfl), (Nat.le_of_ble_eq_true rfl)⟩) hS (fun q9 _ h9 => hF807 q9 h9) hF807 (fun r812 u811 t811 H811 L811 ht811 hvm811 hw811 hB811 hz811 hk811 hS => ?_)
  have hP := pq_keep hP hD [11, 12] rfl hk811 hB811.1 ht811
  have hG : s.heap.size + 635 ≤ H811.size := Nat.le_trans hG hz811
  refine W.eq (g2 := F0 m 48 ls [.int 1]) (by rw [hw811]) ?_
  refine lv_if_eq (tgt := 92) hx hb dX9_shown_48 (by decide) (fun cz => absurd cz (by decide)) (fun _ => ?_)
  refine lv_aload hx hb dX9_shown_51 (lv_at hl 2 rfl) ?_
  have hM815 := k637_next l hl9 dC dI z a758 h3 h6 H811.size kc1
  obtain ⟨hF813, hC816⟩ := pc_M hM815 hP hD hK hS hX hT hA [11, 12, 13] [2] rfl rfl rfl
  refine va_callFr (va_runF (As := []) (rest := []) (hK.1 1 (RJx35411, TJx35411, 4) rfl).2 ⟨hx, hb, hml, hown, hts⟩ hM815 (va_cwF 0 hts (gF q_308 q_309 q_310 q_246 q_307) rfl rfl rfl hT.2.2.2.2.2.2.2.1 hF_xIn ⟨Nat.le_of_ble_eq_true rfl, Nat.le_of_ble_eq_true rfl⟩) ⟨pc_blind, va_recv hK hP (ci := 1) (q := (RJx35411, TJx35411, 4)) (q0 := 11) rfl rfl, fun U hU hW => ⟨rfl, hC816 U hU hW⟩⟩ rfl rfl hl.1 rfl (lv_room (Nat.le_of_ble_eq_true rfl)) dX9_shown_53 ⟨(Nat.le_of_ble_eq_true rfl), (Nat.le_of_ble_eq_true rfl)⟩) hS (fun q9 _ h9 => hF813 q9 h9) hF813 (fun u817 r818 t817 H817 L817 ht817 hvm817 hw817 hB817 hz817 hk817 hS => ?_)
  obtain ⟨hr817, hB817⟩ := hB817
  obtain ⟨hP, hD, hK⟩ := pq_jn (wz := [(h0, ce21 h1 h2 h3 h4), (h1, ce201 h5), (h2, ce3 z.1), (h4, ce226 h7), (h5, ce200 kc0 h8 h9 h10 h11 h12), (h7, ce200 kc2 (z.2.2.1 128) (z.2.2.1 129) (z.2.2.1 130) (z.2.2.1 131) (z.2.2.1 132)), (h8, ce49), (h9, ce49), (h10, ce49), (h11, ce49), (h12, ce49), (a758, ce312 h3), (h3, ce276 h6), (h6, ce275 kc1 (z.2.2.1 128) (z.2.2.1 128) (z.2.2.1 128) (z.2.2.1 128) (z.2.2.1 128) (z.2.2.1 128) (z.2.2.1 128))]) (tz := [(kc0, .object "java/lang/Object"), (kc2, .object "java/lang/Object"), (kc1, .object "java/lang/Object")]) hP hD hK [11, 12, 13] [0, 1] rfl hk817 hF813 hB817.1 ht817 hvm817 rfl rfl
  have hG : s.heap.size + 635 ≤ H817.size := Nat.le_trans hG hz817
  refine W.eq (g2 := F0 m 58 ls [.ref (z.2.2.1 128)]) (by rw [hr817]) ?_
  refine va_castE (nm := "java/lang/Integer") hx hb hown (hts _ q_320) (va_Orecv (hX.2.2.1.1.1 128 (by decide)) hS) dX9_shown_58 ?_
  have hM821 := k74_intValue l hl9 dC dI z H817.size
  obtain ⟨hF819, hC822⟩ := pc_M hM821 hP hD hK hS hX hT hA [] [] rfl rfl rfl
  refine va_calli (va_runV (As := []) (rest := []) ⟨hx, hb, hml, hown, hts⟩ hM821 (cwV 0 hts (gV q_323 q_324 q_325 q_297 q_322) rfl rfl rfl hV_J6_intValue_8abf5 ⟨Nat.le_of_ble_eq_true rfl, Nat.le_of_ble_eq_true rfl⟩) ⟨pc_blind, va_Orecv (hX.2.2.1.1.1 128 (by decide)) hS, fun U hU hW => ⟨rfl, hC822 U hU hW⟩⟩ rfl rfl hl.1 rfl (lv_room (Nat.le_of_ble_eq_true rfl)) dX9_shown_61 ⟨(Nat.le_of_ble_eq_true rfl), (Nat.le_of_ble_eq_true rfl)⟩) hS (fun q9 _ h9 => hF819 q9 h9) hF819 (fun r824 u823 t823 H823 L823 ht823 hvm823 hw823 hB823 hz823 hk823 hS => ?_)
  have hP := pq_keep hP hD [] rfl hk823 hB823.1 ht823
  have hG : s.heap.size + 635 ≤ H823.size := Nat.le_trans hG hz823
  refine W.eq (g2 := F0 m 64 ls [.int 0]) (by rw [hw823]) ?_
  refine lv_istore (lv' := [(6, .int 0), (4, .int 0), (5, .ref a758), (3, .int 48), (2, .int 2), (1, .int 0), (0, .ref h0)]) hx hb dX9_shown_64 hl (by decide) rfl (fun ls hl => ?_)
  refine lv_iload hx hb dX9_shown_66 (lv_at hl 1 rfl) ?_
  refine lv_if_ne (tgt := 82) hx hb dX9_shown_68 (by decide) (fun cz => absurd (by decide) cz) (fun _ => ?_)
  refine lv_aload_n hx hb dX9_shown_71 rfl (lv_at hl 6 rfl) ?_
  refine lv_iload_n hx hb dX9_shown_72 rfl (lv_at hl 4 rfl) ?_
  refine lv_iload_n hx hb dX9_shown_73 rfl (lv_at hl 3 rfl) ?_
  refine lv_iload hx hb dX9_shown_74 (lv_at hl 0 rfl) ?_
  have hM827 := k658_showsIt l hl9 dC dI z h0 h1 h2 h4 h5 h7 h8 h9 h10 h11 h12 h3 H823.size kc0 kc2
  obtain ⟨hF825, hC828⟩ := pc_M hM827 hP hD hK hS hX hT hA [0, 1, 2, 3, 4, 5, 6, 7, 8, 9, 10] [0, 1] rfl rfl rfl
  refine va_calli (va_runV (As := [.int 2, .int 48, .int 0]) (rest := []) ⟨hx, hb, hml, hown, hts⟩ hM827 (cwV 3 hts (gV q_429 q_430 q_431 q_60 q_428) rfl rfl rfl hV_X9_showsIt ⟨Nat.le_of_ble_eq_true rfl, Nat.le_of_ble_eq_true rfl⟩) ⟨pc_blind, va_recv hK hP (ci := 8) (q := (RX9, TX9, 6)) (q0 := 0) rfl rfl, fun U hU hW => ⟨rfl, hC828 U hU hW⟩⟩ rfl rfl hl.1 rfl (lv_room (Nat.le_of_ble_eq_true rfl)) dX9_shown_76 ⟨(Nat.le_of_ble_eq_true rfl), (Nat.le_of_ble_eq_true rfl)⟩) hS (fun q9 _ h9 => hF825 q9 h9) hF825 (fun r830 u829 t829 H829 L829 ht829 hvm829 hw829 hB829 hz829 hk829 hS => ?_)
  have hP := pq_keep hP hD [0, 1, 2, 3, 4, 5, 6, 7, 8, 9, 10] rfl hk829 hB829.1 ht829
  have hG : s.heap.size + 656 ≤ H829.size := va_gr (g := 635) (g1 := 21) hG (by rw [← ht829]; exact hB829.2)
  refine W.eq (g2 := F0 m 79 ls [.int 0]) (by rw [hw829]) ?_
  refine W.widen (k := 656) (n := 7088) (by decide) (by decide) ?_
  refine lv_if_eq (tgt := 86) hx hb dX9_shown_79 (by decide) (fun _ => ?_) (fun cz => absurd (by decide) cz)
  refine lv_iconst (v := 0) hx hb dX9_shown_86 (by decide) ?_
  refine lv_istore (lv' := [(4, .int 0), (6, .int 0), (5, .ref a758), (3, .int 48), (2, .int 2), (1, .int 0), (0, .ref h0)]) hx hb dX9_shown_87 hl (by decide) rfl (fun ls hl => ?_)
  refine lv_goto (tgt := 41) hx hb dX9_shown_89 (by decide) ?_
  refine lv_aload hx hb dX9_shown_41 (lv_at hl 2 rfl) ?_
  have hM833 := k638_hasNext l hl9 dC dI z a758 h3 h6 H829.size
  obtain ⟨hF831, hC834⟩ := pc_M hM833 hP hD hK hS hX hT hA [11, 12] [] rfl rfl rfl
  refine va_callFi (va_runF (As := []) (rest := []) (hK.1 1 (RJx35411, TJx35411, 4) rfl).2 ⟨hx, hb, hml, hown, hts⟩ hM833 (va_cwF 0 hts (gF q_261 q_262 q_263 q_246 q_260) rfl rfl rfl hT.2.2.2.2.2.2.1 hF_xIh ⟨Nat.le_of_ble_eq_true rfl, Nat.le_of_ble_eq_true rfl⟩) ⟨pc_blind, va_recv hK hP (ci := 1) (q := (RJx35411, TJx35411, 4)) (q0 := 11) rfl rfl, fun U hU hW => ⟨rfl, hC834 U hU hW⟩⟩ rfl rfl hl.1 rfl (lv_room (Nat.le_of_ble_eq_true rfl)) dX9_shown_43 ⟨(Nat.le_of_ble_eq_true rfl), (Nat.le_of_ble_eq_true rfl)⟩) hS (fun q9 _ h9 => hF831 q9 h9) hF831 (fun r836 u835 t835 H835 L835 ht835 hvm835 hw835 hB835 hz835 hk835 hS => ?_)
  have hP := pq_keep hP hD [11, 12] rfl hk835 hB835.1 ht835
  have hG : s.heap.size + 656 ≤ H835.size := Nat.le_trans hG hz835
  refine W.eq (g2 := F0 m 48 ls [.int 1]) (by rw [hw835]) ?_
  refine lv_if_eq (tgt := 92) hx hb dX9_shown_48 (by decide) (fun cz => absurd cz (by decide)) (fun _ => ?_)
  refine lv_aload hx hb dX9_shown_51 (lv_at hl 2 rfl) ?_
  have hM839 := k640_next l hl9 dC dI z a758 h3 h6 H835.size kc1
  obtain ⟨hF837, hC840⟩ := pc_M hM839 hP hD hK hS hX hT hA [11, 12, 13] [2] rfl rfl rfl
  refine va_callFr (va_runF (As := []) (rest := []) (hK.1 1 (RJx35411, TJx35411, 4) rfl).2 ⟨hx, hb, hml, hown, hts⟩ hM839 (va_cwF 0 hts (gF q_308 q_309 q_310 q_246 q_307) rfl rfl rfl hT.2.2.2.2.2.2.2.1 hF_xIn ⟨Nat.le_of_ble_eq_true rfl, Nat.le_of_ble_eq_true rfl⟩) ⟨pc_blind, va_recv hK hP (ci := 1) (q := (RJx35411, TJx35411, 4)) (q0 := 11) rfl rfl, fun U hU hW => ⟨rfl, hC840 U hU hW⟩⟩ rfl rfl hl.1 rfl (lv_room (Nat.le_of_ble_eq_true rfl)) dX9_shown_53 ⟨(Nat.le_of_ble_eq_true rfl), (Nat.le_of_ble_eq_true rfl)⟩) hS (fun q9 _ h9 => hF837 q9 h9) hF837 (fun u841 r842 t841 H841 L841 ht841 hvm841 hw841 hB841 hz841 hk841 hS => ?_)
  obtain ⟨hr841, hB841⟩ := hB841
  obtain ⟨hP, hD, hK⟩ := pq_jn (wz := [(h0, ce21 h1 h2 h3 h4), (h1, ce201 h5), (h2, ce3 z.1), (h4, ce226 h7), (h5, ce200 kc0 h8 h9 h10 h11 h12), (h7, ce200 kc2 (z.2.2.1 128) (z.2.2.1 129) (z.2.2.1 130) (z.2.2.1 131) (z.2.2.1 132)), (h8, ce49), (h9, ce49), (h10, ce49), (h11, ce49), (h12, ce49), (a758, ce314 h3), (h3, ce276 h6), (h6, ce275 kc1 (z.2.2.1 128) (z.2.2.1 128) (z.2.2.1 128) (z.2.2.1 128) (z.2.2.1 128) (z.2.2.1 128) (z.2.2.1 128))]) (tz := [(kc0, .object "java/lang/Object"), (kc2, .object "java/lang/Object"), (kc1, .object "java/lang/Object")]) hP hD hK [11, 12, 13] [0, 1] rfl hk841 hF837 hB841.1 ht841 hvm841 rfl rfl
  have hG : s.heap.size + 656 ≤ H841.size := Nat.le_trans hG hz841
  refine W.eq (g2 := F0 m 58 ls [.ref (z.2.2.1 128)]) (by rw [hr841]) ?_
  refine va_castE (nm := "java/lang/Integer") hx hb hown (hts _ q_320) (va_Orecv (hX.2.2.1.1.1 128 (by decide)) hS) dX9_shown_58 ?_
  have hM845 := k74_intValue l hl9 dC dI z H841.size
  obtain ⟨hF843, hC846⟩ := pc_M hM845 hP hD hK hS hX hT hA [] [] rfl rfl rfl
  refine va_calli (va_runV (As := []) (rest := []) ⟨hx, hb, hml, hown, hts⟩ hM845 (cwV 0 hts (gV q_323 q_324 q_325 q_297 q_322) rfl rfl rfl hV_J6_intValue_8abf5 ⟨Nat.le_of_ble_eq_true rfl, Nat.le_of_ble_eq_true rfl⟩) ⟨pc_blind, va_Orecv (hX.2.2.1.1.1 128 (by decide)) hS, fun U hU hW => ⟨rfl, hC846 U hU hW⟩⟩ rfl rfl hl.1 rfl (lv_room (Nat.le_of_ble_eq_true rfl)) dX9_shown_61 ⟨(Nat.le_of_ble_eq_true rfl), (Nat.le_of_ble_eq_true rfl)⟩) hS (fun q9 _ h9 => hF843 q9 h9) hF843 (fun r848 u847 t847 H847 L847 ht847 hvm847 hw847 hB847 hz847 hk847 hS => ?_)
  have hP := pq_keep hP hD [] rfl hk847 hB847.1 ht847
  have hG : s.heap.size + 656 ≤ H847.size := Nat.le_trans hG hz847
  refine W.eq (g2 := F0 m 64 ls [.int 0]) (by rw [hw847]) ?_
  refine lv_istore (lv' := [(6, .int 0), (4, .int 0), (5, .ref a758), (3, .int 48), (2, .int 2), (1, .int 0), (0, .ref h0)]) hx hb dX9_shown_64 hl (by decide) rfl (fun ls hl => ?_)
  refine lv_iload hx hb dX9_shown_66 (lv_at hl 1 rfl) ?_
  refine lv_if_ne (tgt := 82) hx hb dX9_shown_68 (by decide) (fun cz => absurd (by decide) cz) (fun _ => ?_)
  refine lv_aload_n hx hb dX9_shown_71 rfl (lv_at hl 6 rfl) ?_
  refine lv_iload_n hx hb dX9_shown_72 rfl (lv_at hl 4 rfl) ?_
  refine lv_iload_n hx hb dX9_shown_73 rfl (lv_at hl 3 rfl) ?_
  refine lv_iload hx hb dX9_shown_74 (lv_at hl 0 rfl) ?_
  have hM851 := k658_showsIt l hl9 dC dI z h0 h1 h2 h4 h5 h7 h8 h9 h10 h11 h12 h3 H847.size kc0 kc2
  obtain ⟨hF849, hC852⟩ := pc_M hM851 hP hD hK hS hX hT hA [0, 1, 2, 3, 4, 5, 6, 7, 8, 9, 10] [0, 1] rfl rfl rfl
  refine va_calli (va_runV (As := [.int 2, .int 48, .int 0]) (rest := []) ⟨hx, hb, hml, hown, hts⟩ hM851 (cwV 3 hts (gV q_429 q_430 q_431 q_60 q_428) rfl rfl rfl hV_X9_showsIt ⟨Nat.le_of_ble_eq_true rfl, Nat.le_of_ble_eq_true rfl⟩) ⟨pc_blind, va_recv hK hP (ci := 8) (q := (RX9, TX9, 6)) (q0 := 0) rfl rfl, fun U hU hW => ⟨rfl, hC852 U hU hW⟩⟩ rfl rfl hl.1 rfl (lv_room (Nat.le_of_ble_eq_true rfl)) dX9_shown_76 ⟨(Nat.le_of_ble_eq_true rfl), (Nat.le_of_ble_eq_true rfl)⟩) hS (fun q9 _ h9 => hF849 q9 h9) hF849 (fun r854 u853 t853 H853 L853 ht853 hvm853 hw853 hB853 hz853 hk853 hS => ?_)
  have hP := pq_keep hP hD [0, 1, 2, 3, 4, 5, 6, 7, 8, 9, 10] rfl hk853 hB853.1 ht853
  have hG : s.heap.size + 677 ≤ H853.size := va_gr (g := 656) (g1 := 21) hG (by rw [← ht853]; exact hB853.2)
  refine W.eq (g2 := F0 m 79 ls [.int 0]) (by rw [hw853]) ?_
  refine W.widen (k := 677) (n := 7316) (by decide) (by decide) ?_
  refine lv_if_eq (tgt := 86) hx hb dX9_shown_79 (by decide) (fun _ => ?_) (fun cz => absurd (by decide) cz)
  refine lv_iconst (v := 0) hx hb dX9_shown_86 (by decide) ?_
  refine lv_istore (lv' := [(4, .int 0), (6, .int 0), (5, .ref a758), (3, .int 48), (2, .int 2), (1, .int 0), (0, .ref h0)]) hx hb dX9_shown_87 hl (by decide) rfl (fun ls hl => ?_)
  refine lv_goto (tgt := 41) hx hb dX9_shown_89 (by decide) ?_
  refine lv_aload hx hb dX9_shown_41 (lv_at hl 2 rfl) ?_
  have hM857 := k641_hasNext l hl9 dC dI z a758 h3 h6 H853.size
  obtain ⟨hF855, hC858⟩ := pc_M hM857 hP hD hK hS hX hT hA [11, 12] [] rfl rfl rfl
  refine va_callFi (va_runF (As := []) (rest := []) (hK.1 1 (RJx35411, TJx35411, 4) rfl).2 ⟨hx, hb, hml, hown, hts⟩ hM857 (va_cwF 0 hts (gF q_261 q_262 q_263 q_246 q_260) rfl rfl rfl hT.2.2.2.2.2.2.1 hF_xIh ⟨Nat.le_of_ble_eq_true rfl, Nat.le_of_ble_eq_true rfl⟩) ⟨pc_blind, va_recv hK hP (ci := 1) (q := (RJx35411, TJx35411, 4)) (q0 := 11) rfl rfl, fun U hU hW => ⟨rfl, hC858 U hU hW⟩⟩ rfl rfl hl.1 rfl (lv_room (Nat.le_of_ble_eq_true rfl)) dX9_shown_43 ⟨(Nat.le_of_ble_eq_true rfl), (Nat.le_of_ble_eq_true rfl)⟩) hS (fun q9 _ h9 => hF855 q9 h9) hF855 (fun r860 u859 t859 H859 L859 ht859 hvm859 hw859 hB859 hz859 hk859 hS => ?_)
  have hP := pq_keep hP hD [11, 12] rfl hk859 hB859.1 ht859
  have hG : s.heap.size + 677 ≤ H859.size := Nat.le_trans hG hz859
  refine W.eq (g2 := F0 m 48 ls [.int 1]) (by rw [hw859]) ?_
  refine lv_if_eq (tgt := 92) hx hb dX9_shown_48 (by decide) (fun cz => absurd cz (by decide)) (fun _ => ?_)
  refine lv_aload hx hb dX9_shown_51 (lv_at hl 2 rfl) ?_
  have hM863 := k643_next l hl9 dC dI z a758 h3 h6 H859.size kc1
  obtain ⟨hF861, hC864⟩ := pc_M hM863 hP hD hK hS hX hT hA [11, 12, 13] [2] rfl rfl rfl
  refine va_callFr (va_runF (As := []) (rest := []) (hK.1 1 (RJx35411, TJx35411, 4) rfl).2 ⟨hx, hb, hml, hown, hts⟩ hM863 (va_cwF 0 hts (gF q_308 q_309 q_310 q_246 q_307) rfl rfl rfl hT.2.2.2.2.2.2.2.1 hF_xIn ⟨Nat.le_of_ble_eq_true rfl, Nat.le_of_ble_eq_true rfl⟩) ⟨pc_blind, va_recv hK hP (ci := 1) (q := (RJx35411, TJx35411, 4)) (q0 := 11) rfl rfl, fun U hU hW => ⟨rfl, hC864 U hU hW⟩⟩ rfl rfl hl.1 rfl (lv_room (Nat.le_of_ble_eq_true rfl)) dX9_shown_53 ⟨(Nat.le_of_ble_eq_true rfl), (Nat.le_of_ble_eq_true rfl)⟩) hS (fun q9 _ h9 => hF861 q9 h9) hF861 (fun u865 r866 t865 H865 L865 ht865 hvm865 hw865 hB865 hz865 hk865 hS => ?_)
  obtain ⟨hr865, hB865⟩ := hB865
  obtain ⟨hP, hD, hK⟩ := pq_jn (wz := [(h0, ce21 h1 h2 h3 h4), (h1, ce201 h5), (h2, ce3 z.1), (h4, ce226 h7), (h5, ce200 kc0 h8 h9 h10 h11 h12), (h7, ce200 kc2 (z.2.2.1 128) (z.2.2.1 129) (z.2.2.1 130) (z.2.2.1 131) (z.2.2.1 132)), (h8, ce49), (h9, ce49), (h10, ce49), (h11, ce49), (h12, ce49), (a758, ce316 h3), (h3, ce276 h6), (h6, ce275 kc1 (z.2.2.1 128) (z.2.2.1 128) (z.2.2.1 128) (z.2.2.1 128) (z.2.2.1 128) (z.2.2.1 128) (z.2.2.1 128))]) (tz := [(kc0, .object "java/lang/Object"), (kc2, .object "java/lang/Object"), (kc1, .object "java/lang/Object")]) hP hD hK [11, 12, 13] [0, 1] rfl hk865 hF861 hB865.1 ht865 hvm865 rfl rfl
  have hG : s.heap.size + 677 ≤ H865.size := Nat.le_trans hG hz865
  refine W.eq (g2 := F0 m 58 ls [.ref (z.2.2.1 128)]) (by rw [hr865]) ?_
  refine va_castE (nm := "java/lang/Integer") hx hb hown (hts _ q_320) (va_Orecv (hX.2.2.1.1.1 128 (by decide)) hS) dX9_shown_58 ?_
  have hM869 := k74_intValue l hl9 dC dI z H865.size
  obtain ⟨hF867, hC870⟩ := pc_M hM869 hP hD hK hS hX hT hA [] [] rfl rfl rfl
  refine va_calli (va_runV (As := []) (rest := []) ⟨hx, hb, hml, hown, hts⟩ hM869 (cwV 0 hts (gV q_323 q_324 q_325 q_297 q_322) rfl rfl rfl hV_J6_intValue_8abf5 ⟨Nat.le_of_ble_eq_true rfl, Nat.le_of_ble_eq_true rfl⟩) ⟨pc_blind, va_Orecv (hX.2.2.1.1.1 128 (by decide)) hS, fun U hU hW => ⟨rfl, hC870 U hU hW⟩⟩ rfl rfl hl.1 rfl (lv_room (Nat.le_of_ble_eq_true rfl)) dX9_shown_61 ⟨(Nat.le_of_ble_eq_true rfl), (Nat.le_of_ble_eq_true rfl)⟩) hS (fun q9 _ h9 => hF867 q9 h9) hF867 (fun r872 u871 t871 H871 L871 ht871 hvm871 hw871 hB871 hz871 hk871 hS => ?_)
  have hP := pq_keep hP hD [] rfl hk871 hB871.1 ht871
  have hG : s.heap.size + 677 ≤ H871.size := Nat.le_trans hG hz871
  refine W.eq (g2 := F0 m 64 ls [.int 0]) (by rw [hw871]) ?_
  refine lv_istore (lv' := [(6, .int 0), (4, .int 0), (5, .ref a758), (3, .int 48), (2, .int 2), (1, .int 0), (0, .ref h0)]) hx hb dX9_shown_64 hl (by decide) rfl (fun ls hl => ?_)
  refine lv_iload hx hb dX9_shown_66 (lv_at hl 1 rfl) ?_
  refine lv_if_ne (tgt := 82) hx hb dX9_shown_68 (by decide) (fun cz => absurd (by decide) cz) (fun _ => ?_)
  refine lv_aload_n hx hb dX9_shown_71 rfl (lv_at hl 6 rfl) ?_
  refine lv_iload_n hx hb dX9_shown_72 rfl (lv_at hl 4 rfl) ?_
  refine lv_iload_n hx hb dX9_shown_73 rfl (lv_at hl 3 rfl) ?_
  refine lv_iload hx hb dX9_shown_74 (lv_at hl 0 rfl) ?_
  have hM875 := k658_showsIt l hl9 dC dI z h0 h1 h2 h4 h5 h7 h8 h9 h10 h11 h12 h3 H871.size kc0 kc2
  obtain ⟨hF873, hC876⟩ := pc_M hM875 hP hD hK hS hX hT hA [0, 1, 2, 3, 4, 5, 6, 7, 8, 9, 10] [0, 1] rfl rfl rfl
  refine va_calli (va_runV (As := [.int 2, .int 48, .int 0]) (rest := []) ⟨hx, hb, hml, hown, hts⟩ hM875 (cwV 3 hts (gV q_429 q_430 q_431 q_60 q_428) rfl rfl rfl hV_X9_showsIt ⟨Nat.le_of_ble_eq_true rfl, Nat.le_of_ble_eq_true rfl⟩) ⟨pc_blind, va_recv hK hP (ci := 8) (q := (RX9, TX9, 6)) (q0 := 0) rfl rfl, fun U hU hW => ⟨rfl, hC876 U hU hW⟩⟩ rfl rfl hl.1 rfl (lv_room (Nat.le_of_ble_eq_true rfl)) dX9_shown_76 ⟨(Nat.le_of_ble_eq_true rfl), (Nat.le_of_ble_eq_true rfl)⟩) hS (fun q9 _ h9 => hF873 q9 h9) hF873 (fun r878 u877 t877 H877 L877 ht877 hvm877 hw877 hB877 hz877 hk877 hS => ?_)
  have hP := pq_keep hP hD [0, 1, 2, 3, 4, 5, 6, 7, 8, 9, 10] rfl hk877 hB877.1 ht877
  have hG : s.heap.size + 698 ≤ H877.size := va_gr (g := 677) (g1 := 21) hG (by rw [← ht877]; exact hB877.2)
  refine W.eq (g2 := F0 m 79 ls [.int 0]) (by rw [hw877]) ?_
  refine W.widen (k := 698) (n := 7544) (by decide) (by decide) ?_
  refine lv_if_eq (tgt := 86) hx hb dX9_shown_79 (by decide) (fun _ => ?_) (fun cz => absurd (by decide) cz)
  refine lv_iconst (v := 0) hx hb dX9_shown_86 (by decide) ?_
  refine lv_istore (lv' := [(4, .int 0), (6, .int 0), (5, .ref a758), (3, .int 48), (2, .int 2), (1, .int 0), (0, .ref h0)]) hx hb dX9_shown_87 hl (by decide) rfl (fun ls hl => ?_)
  refine lv_goto (tgt := 41) hx hb dX9_shown_89 (by decide) ?_
  refine lv_aload hx hb dX9_shown_41 (lv_at hl 2 rfl) ?_
  have hM881 := k644_hasNext l hl9 dC dI z a758 h3 h6 H877.size
  obtain ⟨hF879, hC882⟩ := pc_M hM881 hP hD hK hS hX hT hA [11, 12] [] rfl rfl rfl
  refine va_callFi (va_runF (As := []) (rest := []) (hK.1 1 (RJx35411, TJx35411, 4) rfl).2 ⟨hx, hb, hml, hown, hts⟩ hM881 (va_cwF 0 hts (gF q_261 q_262 q_263 q_246 q_260) rfl rfl rfl hT.2.2.2.2.2.2.1 hF_xIh ⟨Nat.le_of_ble_eq_true rfl, Nat.le_of_ble_eq_true rfl⟩) ⟨pc_blind, va_recv hK hP (ci := 1) (q := (RJx35411, TJx35411, 4)) (q0 := 11) rfl rfl, fun U hU hW => ⟨rfl, hC882 U hU hW⟩⟩ rfl rfl hl.1 rfl (lv_room (Nat.le_of_ble_eq_true rfl)) dX9_shown_43 ⟨(Nat.le_of_ble_eq_true rfl), (Nat.le_of_ble_eq_true rfl)⟩) hS (fun q9 _ h9 => hF879 q9 h9) hF879 (fun r884 u883 t883 H883 L883 ht883 hvm883 hw883 hB883 hz883 hk883 hS => ?_)
  have hP := pq_keep hP hD [11, 12] rfl hk883 hB883.1 ht883
  have hG : s.heap.size + 698 ≤ H883.size := Nat.le_trans hG hz883
  refine W.eq (g2 := F0 m 48 ls [.int 1]) (by rw [hw883]) ?_
  refine lv_if_eq (tgt := 92) hx hb dX9_shown_48 (by decide) (fun cz => absurd cz (by decide)) (fun _ => ?_)
  refine lv_aload hx hb dX9_shown_51 (lv_at hl 2 rfl) ?_
  have hM887 := k646_next l hl9 dC dI z a758 h3 h6 H883.size kc1
  obtain ⟨hF885, hC888⟩ := pc_M hM887 hP hD hK hS hX hT hA [11, 12, 13] [2] rfl rfl rfl
  refine va_callFr (va_runF (As := []) (rest := []) (hK.1 1 (RJx35411, TJx35411, 4) rfl).2 ⟨hx, hb, hml, hown, hts⟩ hM887 (va_cwF 0 hts (gF q_308 q_309 q_310 q_246 q_307) rfl rfl rfl hT.2.2.2.2.2.2.2.1 hF_xIn ⟨Nat.le_of_ble_eq_true rfl, Nat.le_of_ble_eq_true rfl⟩) ⟨pc_blind, va_recv hK hP (ci := 1) (q := (RJx35411, TJx35411, 4)) (q0 := 11) rfl rfl, fun U hU hW => ⟨rfl, hC888 U hU hW⟩⟩ rfl rfl hl.1 rfl (lv_room (Nat.le_of_ble_eq_true rfl)) dX9_shown_53 ⟨(Nat.le_of_ble_eq_true rfl), (Nat.le_of_ble_eq_true rfl)⟩) hS (fun q9 _ h9 => hF885 q9 h9) hF885 (fun u889 r890 t889 H889 L889 ht889 hvm889 hw889 hB889 hz889 hk889 hS => ?_)
  obtain ⟨hr889, hB889⟩ := hB889
  obtain ⟨hP, hD, hK⟩ := pq_jn (wz := [(h0, ce21 h1 h2 h3 h4), (h1, ce201 h5), (h2, ce3 z.1), (h4, ce226 h7), (h5, ce200 kc0 h8 h9 h10 h11 h12), (h7, ce200 kc2 (z.2.2.1 128) (z.2.2.1 129) (z.2.2.1 130) (z.2.2.1 131) (z.2.2.1 132)), (h8, ce49), (h9, ce49), (h10, ce49), (h11, ce49), (h12, ce49), (a758, ce318 h3), (h3, ce276 h6), (h6, ce275 kc1 (z.2.2.1 128) (z.2.2.1 128) (z.2.2.1 128) (z.2.2.1 128) (z.2.2.1 128) (z.2.2.1 128) (z.2.2.1 128))]) (tz := [(kc0, .object "java/lang/Object"), (kc2, .object "java/lang/Object"), (kc1, .object "java/lang/Object")]) hP hD hK [11, 12, 13] [0, 1] rfl hk889 hF885 hB889.1 ht889 hvm889 rfl rfl
  have hG : s.heap.size + 698 ≤ H889.size := Nat.le_trans hG hz889
  refine W.eq (g2 := F0 m 58 ls [.ref (z.2.2.1 128)]) (by rw [hr889]) ?_
  refine va_castE (nm := "java/lang/Integer") hx hb hown (hts _ q_320) (va_Orecv (hX.2.2.1.1.1 128 (by decide)) hS) dX9_shown_58 ?_
  have hM893 := k74_intValue l hl9 dC dI z H889.size
  obtain ⟨hF891, hC894⟩ := pc_M hM893 hP hD hK hS hX hT hA [] [] rfl rfl rfl
  refine va_calli (va_runV (As := []) (rest := []) ⟨hx, hb, hml, hown, hts⟩ hM893 (cwV 0 hts (gV q_323 q_324 q_325 q_297 q_322) rfl rfl rfl hV_J6_intValue_8abf5 ⟨Nat.le_of_ble_eq_true rfl, Nat.le_of_ble_eq_true rfl⟩) ⟨pc_blind, va_Orecv (hX.2.2.1.1.1 128 (by decide)) hS, fun U hU hW => ⟨rfl, hC894 U hU hW⟩⟩ rfl rfl hl.1 rfl (lv_room (Nat.le_of_ble_eq_true rfl)) dX9_shown_61 ⟨(Nat.le_of_ble_eq_true rfl), (Nat.le_of_ble_eq_true rfl)⟩) hS (fun q9 _ h9 => hF891 q9 h9) hF891 (fun r896 u895 t895 H895 L895 ht895 hvm895 hw895 hB895 hz895 hk895 hS => ?_)
  have hP := pq_keep hP hD [] rfl hk895 hB895.1 ht895
  have hG : s.heap.size + 698 ≤ H895.size := Nat.le_trans hG hz895
  refine W.eq (g2 := F0 m 64 ls [.int 0]) (by rw [hw895]) ?_
  refine lv_istore (lv' := [(6, .int 0), (4, .int 0), (5, .ref a758), (3, .int 48), (2, .int 2), (1, .int 0), (0, .ref h0)]) hx hb dX9_shown_64 hl (by decide) rfl (fun ls hl => ?_)
  refine lv_iload hx hb dX9_shown_66 (lv_at hl 1 rfl) ?_
  refine lv_if_ne (tgt := 82) hx hb dX9_shown_68 (by decide) (fun cz => absurd (by decide) cz) (fun _ => ?_)
  refine lv_aload_n hx hb dX9_shown_71 rfl (lv_at hl 6 rfl) ?_
  refine lv_iload_n hx hb dX9_shown_72 rfl (lv_at hl 4 rfl) ?_
  refine lv_iload_n hx hb dX9_shown_73 rfl (lv_at hl 3 rfl) ?_
  refine lv_iload hx hb dX9_shown_74 (lv_at hl 0 rfl) ?_
  have hM899 := k658_showsIt l hl9 dC dI z h0 h1 h2 h4 h5 h7 h8 h9 h10 h11 h12 h3 H895.size kc0 kc2
  obtain ⟨hF897, hC900⟩ := pc_M hM899 hP hD hK hS hX hT hA [0, 1, 2, 3, 4, 5, 6, 7, 8, 9, 10] [0, 1] rfl rfl rfl
  refine va_calli (va_runV (As := [.int 2, .int 48, .int 0]) (rest := []) ⟨hx, hb, hml, hown, hts⟩ hM899 (cwV 3 hts (gV q_429 q_430 q_431 q_60 q_428) rfl rfl rfl hV_X9_showsIt ⟨Nat.le_of_ble_eq_true rfl, Nat.le_of_ble_eq_true rfl⟩) ⟨pc_blind, va_recv hK hP (ci := 8) (q := (RX9, TX9, 6)) (q0 := 0) rfl rfl, fun U hU hW => ⟨rfl, hC900 U hU hW⟩⟩ rfl rfl hl.1 rfl (lv_room (Nat.le_of_ble_eq_true rfl)) dX9_shown_76 ⟨(Nat.le_of_ble_eq_true rfl), (Nat.le_of_ble_eq_true rfl)⟩) hS (fun q9 _ h9 => hF897 q9 h9) hF897 (fun r902 u901 t901 H901 L901 ht901 hvm901 hw901 hB901 hz901 hk901 hS => ?_)
  have hP := pq_keep hP hD [0, 1, 2, 3, 4, 5, 6, 7, 8, 9, 10] rfl hk901 hB901.1 ht901
  have hG : s.heap.size + 719 ≤ H901.size := va_gr (g := 698) (g1 := 21) hG (by rw [← ht901]; exact hB901.2)
  refine W.eq (g2 := F0 m 79 ls [.int 0]) (by rw [hw901]) ?_
  refine W.widen (k := 719) (n := 7772) (by decide) (by decide) ?_
  refine lv_if_eq (tgt := 86) hx hb dX9_shown_79 (by decide) (fun _ => ?_) (fun cz => absurd (by decide) cz)
  refine lv_iconst (v := 0) hx hb dX9_shown_86 (by decide) ?_
  refine lv_istore (lv' := [(4, .int 0), (6, .int 0), (5, .ref a758), (3, .int 48), (2, .int 2), (1, .int 0), (0, .ref h0)]) hx hb dX9_shown_87 hl (by decide) rfl (fun ls hl => ?_)
  refine lv_goto (tgt := 41) hx hb dX9_shown_89 (by decide) ?_
  refine lv_aload hx hb dX9_shown_41 (lv_at hl 2 rfl) ?_
  have hM905 := k647_hasNext l hl9 dC dI z a758 h3 h6 H901.size
  obtain ⟨hF903, hC906⟩ := pc_M hM905 hP hD hK hS hX hT hA [11, 12] [] rfl rfl rfl
  refine va_callFi (va_runF (As := []) (rest := []) (hK.1 1 (RJx35411, TJx35411, 4) rfl).2 ⟨hx, hb, hml, hown, hts⟩ hM905 (va_cwF 0 hts (gF q_261 q_262 q_263 q_246 q_260) rfl rfl rfl hT.2.2.2.2.2.2.1 hF_xIh ⟨Nat.le_of_ble_eq_true rfl, Nat.le_of_ble_eq_true rfl⟩) ⟨pc_blind, va_recv hK hP (ci := 1) (q := (RJx35411, TJx35411, 4)) (q0 := 11) rfl rfl, fun U hU hW => ⟨rfl, hC906 U hU hW⟩⟩ rfl rfl hl.1 rfl (lv_room (Nat.le_of_ble_eq_true rfl)) dX9_shown_43 ⟨(Nat.le_of_ble_eq_true rfl), (Nat.le_of_ble_eq_true rfl)⟩) hS (fun q9 _ h9 => hF903 q9 h9) hF903 (fun r908 u907 t907 H907 L907 ht907 hvm907 hw907 hB907 hz907 hk907 hS => ?_)
  have hP := pq_keep hP hD [11, 12] rfl hk907 hB907.1 ht907
  have hG : s.heap.size + 719 ≤ H907.size := Nat.le_trans hG hz907
  refine W.eq (g2 := F0 m 48 ls [.int 1]) (by rw [hw907]) ?_
  refine lv_if_eq (tgt := 92) hx hb dX9_shown_48 (by decide) (fun cz => absurd cz (by decide)) (fun _ => ?_)
  refine lv_aload hx hb dX9_shown_51 (lv_at hl 2 rfl) ?_
  have hM911 := k649_next l hl9 dC dI z a758 h3 h6 H907.size kc1
  obtain ⟨hF909, hC912⟩ := pc_M hM911 hP hD hK hS hX hT hA [11, 12, 13] [2] rfl rfl rfl
  refine va_callFr (va_runF (As := []) (rest := []) (hK.1 1 (RJx35411, TJx35411, 4) rfl).2 ⟨hx, hb, hml, hown, hts⟩ hM911 (va_cwF 0 hts (gF q_308 q_309 q_310 q_246 q_307) rfl rfl rfl hT.2.2.2.2.2.2.2.1 hF_xIn ⟨Nat.le_of_ble_eq_true rfl, Nat.le_of_ble_eq_true rfl⟩) ⟨pc_blind, va_recv hK hP (ci := 1) (q := (RJx35411, TJx35411, 4)) (q0 := 11) rfl rfl, fun U hU hW => ⟨rfl, hC912 U hU hW⟩⟩ rfl rfl hl.1 rfl (lv_room (Nat.le_of_ble_eq_true rfl)) dX9_shown_53 ⟨(Nat.le_of_ble_eq_true rfl), (Nat.le_of_ble_eq_true rfl)⟩) hS (fun q9 _ h9 => hF909 q9 h9) hF909 (fun u913 r914 t913 H913 L913 ht913 hvm913 hw913 hB913 hz913 hk913 hS => ?_)
  obtain ⟨hr913, hB913⟩ := hB913
  obtain ⟨hP, hD, hK⟩ := pq_jn (wz := [(h0, ce21 h1 h2 h3 h4), (h1, ce201 h5), (h2, ce3 z.1), (h4, ce226 h7), (h5, ce200 kc0 h8 h9 h10 h11 h12), (h7, ce200 kc2 (z.2.2.1 128) (z.2.2.1 129) (z.2.2.1 130) (z.2.2.1 131) (z.2.2.1 132)), (h8, ce49), (h9, ce49), (h10, ce49), (h11, ce49), (h12, ce49), (a758, ce320 h3), (h3, ce276 h6), (h6, ce275 kc1 (z.2.2.1 128) (z.2.2.1 128) (z.2.2.1 128) (z.2.2.1 128) (z.2.2.1 128) (z.2.2.1 128) (z.2.2.1 128))]) (tz := [(kc0, .object "java/lang/Object"), (kc2, .object "java/lang/Object"), (kc1, .object "java/lang/Object")]) hP hD hK [11, 12, 13] [0, 1] rfl hk913 hF909 hB913.1 ht913 hvm913 rfl rfl
  have hG : s.heap.size + 719 ≤ H913.size := Nat.le_trans hG hz913
  refine W.eq (g2 := F0 m 58 ls [.ref (z.2.2.1 128)]) (by rw [hr913]) ?_
  refine va_castE (nm := "java/lang/Integer") hx hb hown (hts _ q_320) (va_Orecv (hX.2.2.1.1.1 128 (by decide)) hS) dX9_shown_58 ?_
  have hM917 := k74_intValue l hl9 dC dI z H913.size
  obtain ⟨hF915, hC918⟩ := pc_M hM917 hP hD hK hS hX hT hA [] [] rfl rfl rfl
  refine va_calli (va_runV (As := []) (rest := []) ⟨hx, hb, hml, hown, hts⟩ hM917 (cwV 0 hts (gV q_323 q_324 q_325 q_297 q_322) rfl rfl rfl hV_J6_intValue_8abf5 ⟨Nat.le_of_ble_eq_true rfl, Nat.le_of_ble_eq_true rfl⟩) ⟨pc_blind, va_Orecv (hX.2.2.1.1.1 128 (by decide)) hS, fun U hU hW => ⟨rfl, hC918 U hU hW⟩⟩ rfl rfl hl.1 rfl (lv_room (Nat.le_of_ble_eq_true rfl)) dX9_shown_61 ⟨(Nat.le_of_ble_eq_true rfl), (Nat.le_of_ble_eq_true rfl)⟩) hS (fun q9 _ h9 => hF915 q9 h9) hF915 (fun r920 u919 t919 H919 L919 ht919 hvm919 hw919 hB919 hz919 hk919 hS => ?_)
  have hP := pq_keep hP hD [] rfl hk919 hB919.1 ht919
  have hG : s.heap.size + 719 ≤ H919.size := Nat.le_trans hG hz919
  refine W.eq (g2 := F0 m 64 ls [.int 0]) (by rw [hw919]) ?_
  refine lv_istore (lv' := [(6, .int 0), (4, .int 0), (5, .ref a758), (3, .int 48), (2, .int 2), (1, .int 0), (0, .ref h0)]) hx hb dX9_shown_64 hl (by decide) rfl (fun ls hl => ?_)
  refine lv_iload hx hb dX9_shown_66 (lv_at hl 1 rfl) ?_
  refine lv_if_ne (tgt := 82) hx hb dX9_shown_68 (by decide) (fun cz => absurd (by decide) cz) (fun _ => ?_)
  refine lv_aload_n hx hb dX9_shown_71 rfl (lv_at hl 6 rfl) ?_
  refine lv_iload_n hx hb dX9_shown_72 rfl (lv_at hl 4 rfl) ?_
  refine lv_iload_n hx hb dX9_shown_73 rfl (lv_at hl 3 rfl) ?_
  refine lv_iload hx hb dX9_shown_74 (lv_at hl 0 rfl) ?_
  have hM923 := k658_showsIt l hl9 dC dI z h0 h1 h2 h4 h5 h7 h8 h9 h10 h11 h12 h3 H919.size kc0 kc2
  obtain ⟨hF921, hC924⟩ := pc_M hM923 hP hD hK hS hX hT hA [0, 1, 2, 3, 4, 5, 6, 7, 8, 9, 10] [0, 1] rfl rfl rfl
  refine va_calli (va_runV (As := [.int 2, .int 48, .int 0]) (rest := []) ⟨hx, hb, hml, hown, hts⟩ hM923 (cwV 3 hts (gV q_429 q_430 q_431 q_60 q_428) rfl rfl rfl hV_X9_showsIt ⟨Nat.le_of_ble_eq_true rfl, Nat.le_of_ble_eq_true rfl⟩) ⟨pc_blind, va_recv hK hP (ci := 8) (q := (RX9, TX9, 6)) (q0 := 0) rfl rfl, fun U hU hW => ⟨rfl, hC924 U hU hW⟩⟩ rfl rfl hl.1 rfl (lv_room (Nat.le_of_ble_eq_true rfl)) dX9_shown_76 ⟨(Nat.le_of_ble_eq_true rfl), (Nat.le_of_ble_eq_true rfl)⟩) hS (fun q9 _ h9 => hF921 q9 h9) hF921 (fun r926 u925 t925 H925 L925 ht925 hvm925 hw925 hB925 hz925 hk925 hS => ?_)
  have hP := pq_keep hP hD [0, 1, 2, 3, 4, 5, 6, 7, 8, 9, 10] rfl hk925 hB925.1 ht925
  have hG : s.heap.size + 740 ≤ H925.size := va_gr (g := 719) (g1 := 21) hG (by rw [← ht925]; exact hB925.2)
  refine W.eq (g2 := F0 m 79 ls [.int 0]) (by rw [hw925]) ?_
  refine W.widen (k := 740) (n := 8000) (by decide) (by decide) ?_
  refine lv_if_eq (tgt := 86) hx hb dX9_shown_79 (by decide) (fun _ => ?_) (fun cz => absurd (by decide) cz)
  refine lv_iconst (v := 0) hx hb dX9_shown_86 (by decide) ?_
  refine lv_istore (lv' := [(4, .int 0), (6, .int 0), (5, .ref a758), (3, .int 48), (2, .int 2), (1, .int 0), (0, .ref h0)]) hx hb dX9_shown_87 hl (by decide) rfl (fun ls hl => ?_)
  refine lv_goto (tgt := 41) hx hb dX9_shown_89 (by decide) ?_
  refine lv_aload hx hb dX9_shown_41 (lv_at hl 2 rfl) ?_
  have hM929 := k650_hasNext l hl9 dC dI z a758 h3 h6 H925.size
  obtain ⟨hF927, hC930⟩ := pc_M hM929 hP hD hK hS hX hT hA [11, 12] [] rfl rfl rfl
  refine va_callFi (va_runF (As := []) (rest := []) (hK.1 1 (RJx35411, TJx35411, 4) rfl).2 ⟨hx, hb, hml, hown, hts⟩ hM929 (va_cwF 0 hts (gF q_261 q_262 q_263 q_246 q_260) rfl rfl rfl hT.2.2.2.2.2.2.1 hF_xIh ⟨Nat.le_of_ble_eq_true rfl, Nat.le_of_ble_eq_true rfl⟩) ⟨pc_blind, va_recv hK hP (ci := 1) (q := (RJx35411, TJx35411, 4)) (q0 := 11) rfl rfl, fun U hU hW => ⟨rfl, hC930 U hU hW⟩⟩ rfl rfl hl.1 rfl (lv_room (Nat.le_of_ble_eq_true rfl)) dX9_shown_43 ⟨(Nat.le_of_ble_eq_true rfl), (Nat.le_of_ble_eq_true rfl)⟩) hS (fun q9 _ h9 => hF927 q9 h9) hF927 (fun r932 u931 t931 H931 L931 ht931 hvm931 hw931 hB931 hz931 hk931 hS => ?_)
  have hP := pq_keep hP hD [11, 12] rfl hk931 hB931.1 ht931
  have hG : s.heap.size + 740 ≤ H931.size := Nat.le_trans hG hz931
  refine W.eq (g2 := F0 m 48 ls [.int 0]) (by rw [hw931]) ?_
  refine lv_if_eq (tgt := 92) hx hb dX9_shown_48 (by decide) (fun _ => ?_) (fun cz => absurd (by decide) cz)
  refine lv_iload_n hx hb dX9_shown_92 rfl (lv_at hl 5 rfl) ?_
  refine lv_iload hx hb dX9_shown_93 (lv_at hl 0 rfl) ?_
  refine lv_if_eq (tgt := 102) hx hb dX9_shown_95 (by decide) (fun _ => ?_) (fun cz => absurd (by decide) cz)
  refine lv_iconst (v := 0) hx hb dX9_shown_102 (by decide) ?_
  refine lv_iadd hx hb dX9_shown_103 ?_
  refine lv_topi (fun y933 ey933 => ?_)
  obtain rfl : y933 = 0 := ey933.trans (by decide)
  refine lv_istore_n (lv' := [(1, .int 0), (4, .int 0), (6, .int 0), (5, .ref a758), (3, .int 48), (2, .int 2), (0, .ref h0)]) hx hb dX9_shown_104 rfl hl (by decide) rfl (fun ls hl => ?_)
  refine lv_iload_n hx hb dX9_shown_105 rfl (lv_at hl 4 rfl) ?_
  refine lv_iconst (v := 1) hx hb dX9_shown_106 (by decide) ?_
  refine lv_iadd hx hb dX9_shown_107 ?_
  refine lv_topi (fun y934 ey934 => ?_)
  obtain rfl : y934 = 49 := ey934.trans (by decide)
  refine lv_i2c (v := 49) hx hb dX9_shown_108 (by decide) ?_
  refine lv_istore_n (lv' := [(3, .int 49), (1, .int 0), (4, .int 0), (6, .int 0), (5, .ref a758), (2, .int 2), (0, .ref h0)]) hx hb dX9_shown_109 rfl hl (by decide) rfl (fun ls hl => ?_)
  refine lv_goto (tgt := 23) hx hb dX9_shown_110 (by decide) ?_
  exact hend _ _ _ hS (hP.sub [0, 1, 2, 12, 3, 4, 13, 5, 6, 7, 8, 9, 10] rfl) (hD.sub [0, 1, 2, 12, 3, 4, 13, 5, 6, 7, 8, 9, 10] rfl rfl) (lv_sub hl [0, 1, 5, 6] rfl) hG

set_option maxHeartbeats 8000000 in
set_option maxRecDepth 100000 in
theorem k669_shown_g8 {p : Program} {l : Launch} {e : Env} {s : State} {m : MethodId} {args : Array Value} {below : List Frame} {meth : Method} {c : Code} {Q : State → Prop} {A : Nat → Prop} {H : Heap} {locs : List Loc} {ls : Array Slot} {dC : Nat → ClassId} {dI : Nat → Nat → Nat} {z : XZ} {h0 h1 h2 h3 h4 h5 h6 h7 h8 h9 h10 h11 h12 : Nat} {kc0 kc1 kc2 : ClassId} (hl9 : l.stackTraces = false) (hx : p.tables.exec = Jvm.exec) (hb : c.code = cX9_shown) (hml : c.maxLocals = 7) (hown : s.vm.findClass RX9 = some m.cls) (hts : ∀ w ∈ wsL_law, w.before args s = true) (hA : ∀ q : Nat, s.heap.size ≤ q → A q) (hX : XE z A s s.heap) (hT : XT s) (hS : va_S A s.heap H locs) (hP : va_P (dC, dI) xCl [(h0, ce21 h1 h2 h3 h4), (h1, ce201 h5), (h2, ce3 z.1), (h3, ce276 h6), (h4, ce226 h7), (h5, ce200 kc0 h8 h9 h10 h11 h12), (h6, ce275 kc1 (z.2.2.1 128) (z.2.2.1 128) (z.2.2.1 128) (z.2.2.1 128) (z.2.2.1 128) (z.2.2.1 128) (z.2.2.1 128)), (h7, ce200 kc2 (z.2.2.1 128) (z.2.2.1 129) (z.2.2.1 130) (z.2.2.1 131) (z.2.2.1 132)), (h8, ce49), (h9, ce49), (h10, ce49), (h11, ce49), (h12, ce49)] H) (hD : va_D A [(h0, ce21 h1 h2 h3 h4), (h1, ce201 h5), (h2, ce3 z.1), (h3, ce276 h6), (h4, ce226 h7), (h5, ce200 kc0 h8 h9 h10 h11 h12), (h6, ce275 kc1 (z.2.2.1 128) (z.2.2.1 128) (z.2.2.1 128) (z.2.2.1 128) (z.2.2.1 128) (z.2.2.1 128) (z.2.2.1 128)), (h7, ce200 kc2 (z.2.2.1 128) (z.2.2.1 129) (z.2.2.1 130) (z.2.2.1 131) (z.2.2.1 132)), (h8, ce49), (h9, ce49), (h10, ce49), (h11, ce49), (h12, ce49)]) (hK : va_K (dC, dI) xCl [(kc0, .object "java/lang/Object"), (kc1, .object "java/lang/Object"), (kc2, .object "java/lang/Object")] s) (hl : lv_has ls 7 [(3, .int 49), (1, .int 0), (2, .int 2), (0, .ref h0)]) (hG : s.heap.size + 740 ≤ H.size) (hend : ∀ (H' : Heap) (locs' : List Loc) (ls' : Array Slot), va_S A s.heap H' locs' → va_P (dC, dI) xCl [(h0, ce21 h1 h2 h3 h4), (h1, ce201 h5), (h2, ce3 z.1), (h3, ce276 h6), (h4, ce226 h7), (h5, ce200 kc0 h8 h9 h10 h11 h12), (h6, ce275 kc1 (z.2.2.1 128) (z.2.2.1 128) (z.2.2.1 128) (z.2.2.1 128) (z.2.2.1 128) (z.2.2.1 128) (z.2.2.1 128)), (h7, ce200 kc2 (z.2.2.1 128) (z.2.2.1 129) (z.2.2.1 130) (z.2.2.1 131) (z.2.2.1 132)), (h8, ce49), (h9, ce49), (h10, ce49), (h11, ce49), (h12, ce49)] H' → va_D A [(h0, ce21 h1 h2 h3 h4), (h1, ce201 h5), (h2, ce3 z.1), (h3, ce276 h6), (h4, ce226 h7), (h5, ce200 kc0 h8 h9 h10 h11 h12), (h6, ce275 kc1 (z.2.2.1 128) (z.2.2.1 128) (z.2.2.1 128) (z.2.2.1 128) (z.2.2.1 128) (z.2.2.1 128) (z.2.2.1 128)), (h7, ce200 kc2 (z.2.2.1 128) (z.2.2.1 129) (z.2.2.1 130) (z.2.2.1 131) (z.2.2.1 132)), (h8, ce49), (h9, ce49), (h10, ce49), (h11, ce49), (h12, ce49)] → lv_has ls' 7 [(3, .int 50), (1, .int 0), (2, .int 2), (0, .ref h0)] → s.heap.size + 888 ≤ H'.size → W p l e ({ frames := 5, cells := 1480, slots := 16000, locals := 121 } : Room) s m args below meth c H' locs' 888 9600 Q (F0 m 23 ls' [])) : W p l e ({ frames := 5, cells := 1480, slots := 16000, locals := 121 } : Room) s m args below meth c H locs 740 8000 Q (F0 m 23 ls []) := by
  refine lv_iload_n hx hb dX9_shown_23 rfl (lv_at hl 0 rfl) ?_
  refine lv_bipush (v := 49) hx hb dX9_shown_24 (by decide) ?_
  refine lv_icmp_gt (tgt := 113) hx hb dX9_shown_26 (by decide) (fun cz => absurd cz (by decide)) (fun _ => ?_)
  refine lv_iconst (v := 0) hx hb dX9_shown_29 (by decide) ?_
  refine lv_istore (lv' := [(4, .int 0), (3, .int 49), (1, .int 0), (2, .int 2), (0, .ref h0)]) hx hb dX9_shown_30 hl (by decide) rfl (fun ls hl => ?_)
  refine lv_aload_n hx hb dX9_shown_32 rfl (lv_at hl 4 rfl) ?_
  refine va_get (D := (dC, dI)) (ci := 8) (v := .ref h3) (C := RX9) (T := TX9) (N := 6) hx hb hts in_X9 hown hK hP 0 rfl rfl 3 (by decide) (hts _ q_66) (fun _ h9 => h9) rfl dX9_shown_33 ?_
  have hM937 := k619_iterator l hl9 dC dI z h3 h6 H.size
  obtain ⟨hF935, hC938⟩ := pc_M hM937 hP hD hK hS hX hT hA [3] [] rfl rfl rfl
  refine va_callr (va_runV (As := []) (rest := []) ⟨hx, hb, hml, hown, hts⟩ hM937 (cwV 0 hts (gV q_256 q_257 q_258 q_12 q_255) rfl rfl rfl hV_Jx4a65c_iterator_32c93 ⟨Nat.le_of_ble_eq_true rfl, Nat.le_of_ble_eq_true rfl⟩) ⟨pc_blind, va_recv hK hP (ci := 0) (q := (RJx4a65c, TJx4a65c, 3)) (q0 := 3) rfl rfl, fun U hU hW => ⟨rfl, hC938 U hU hW⟩⟩ rfl rfl hl.1 rfl (lv_room (Nat.le_of_ble_eq_true rfl)) dX9_shown_36 ⟨(Nat.le_of_ble_eq_true rfl), (Nat.le_of_ble_eq_true rfl)⟩) hS (fun q9 _ h9 => hF935 q9 h9) hF935 (fun u939 r940 t939 H939 L939 ht939 hvm939 hw939 hB939 hz939 hk939 hS => ?_)
  obtain ⟨a941, hr939, hB939⟩ := hB939
  obtain ⟨hP, hD, hK⟩ := pq_jn (wz := [(h0, ce21 h1 h2 h3 h4), (h1, ce201 h5), (h2, ce3 z.1), (h4, ce226 h7), (h5, ce200 kc0 h8 h9 h10 h11 h12), (h6, ce275 kc1 (z.2.2.1 128) (z.2.2.1 128) (z.2.2.1 128) (z.2.2.1 128) (z.2.2.1 128) (z.2.2.1 128) (z.2.2.1 128)), (h7, ce200 kc2 (z.2.2.1 128) (z.2.2.1 129) (z.2.2.1 130) (z.2.2.1 131) (z.2.2.1 132)), (h8, ce49), (h9, ce49), (h10, ce49), (h11, ce49), (h12, ce49), (h3, ce276 h6), (a941, ce292 h3)]) (tz := [(kc0, .object "java/lang/Object"), (kc1, .object "java/lang/Object"), (kc2, .object "java/lang/Object")]) hP hD hK [3] [0, 1, 2] rfl hk939 hF935 hB939.1 ht939 hvm939 rfl rfl
  have hG : s.heap.size + 741 ≤ H939.size := va_gr (g := 740) (g1 := 1) hG (by rw [← ht939]; exact hB939.2)
  refine W.eq (g2 := F0 m 39 ls [.ref a941]) (by rw [hr939]) ?_
  refine W.widen (k := 741) (n := 8004) (by decide) (by decide) ?_
  refine lv_astore (lv' := [(5, .ref a941), (4, .int 0), (3, .int 49), (1, .int 0), (2, .int 2), (0, .ref h0)]) hx hb dX9_shown_39 hl (by decide) rfl (fun ls hl => ?_)
  refine lv_aload hx hb dX9_shown_41 (lv_at hl 0 rfl) ?_
  have hM944 := k620_hasNext l hl9 dC dI z a941 h3 h6 H939.size
  obtain ⟨hF942, hC945⟩ := pc_M hM944 hP hD hK hS hX hT hA [13, 12] [] rfl rfl rfl
  refine va_callFi (va_runF (As := []) (rest := []) (hK.1 1 (RJx35411, TJx35411, 4) rfl).2 ⟨hx, hb, hml, hown, hts⟩ hM944 (va_cwF 0 hts (gF q_261 q_262 q_263 q_246 q_260) rfl rfl rfl hT.2.2.2.2.2.2.1 hF_xIh ⟨Nat.le_of_ble_eq_true rfl, Nat.le_of_ble_eq_true rfl⟩) ⟨pc_blind, va_recv hK hP (ci := 1) (q := (RJx35411, TJx35411, 4)) (q0 := 13) rfl rfl, fun U hU hW => ⟨rfl, hC945 U hU hW⟩⟩ rfl rfl hl.1 rfl (lv_room (Nat.le_of_ble_eq_true rfl)) dX9_shown_43 ⟨(Nat.le_of_ble_eq_true rfl), (Nat.le_of_ble_eq_true rfl)⟩) hS (fun q9 _ h9 => hF942 q9 h9) hF942 (fun r947 u946 t946 H946 L946 ht946 hvm946 hw946 hB946 hz946 hk946 hS => ?_)
  have hP := pq_keep hP hD [13, 12] rfl hk946 hB946.1 ht946
  have hG : s.heap.size + 741 ≤ H946.size := Nat.le_trans hG hz946
  refine W.eq (g2 := F0 m 48 ls [.int 1]) (by rw [hw946]) ?_
  refine lv_if_eq (tgt := 92) hx hb dX9_shown_48 (by decide) (fun cz => absurd cz (by decide)) (fun _ => ?_)
  refine lv_aload hx hb dX9_shown_51 (lv_at hl 0 rfl) ?_
  have hM950 := k622_next l hl9 dC dI z a941 h3 h6 H946.size kc1
  obtain ⟨hF948, hC951⟩ := pc_M hM950 hP hD hK hS hX hT hA [13, 12, 5] [1] rfl rfl rfl
  refine va_callFr (va_runF (As := []) (rest := []) (hK.1 1 (RJx35411, TJx35411, 4) rfl).2 ⟨hx, hb, hml, hown, hts⟩ hM950 (va_cwF 0 hts (gF q_308 q_309 q_310 q_246 q_307) rfl rfl rfl hT.2.2.2.2.2.2.2.1 hF_xIn ⟨Nat.le_of_ble_eq_true rfl, Nat.le_of_ble_eq_true rfl⟩) ⟨pc_blind, va_recv hK hP (ci := 1) (q := (RJx35411, TJx35411, 4)) (q0 := 13) rfl rfl, fun U hU hW => ⟨rfl, hC951 U hU hW⟩⟩ rfl rfl hl.1 rfl (lv_room (Nat.le_of_ble_eq_true rfl)) dX9_shown_53 ⟨(Nat.le_of_ble_eq_true rfl), (Nat.le_of_ble_eq_true rfl)⟩) hS (fun q9 _ h9 => hF948 q9 h9) hF948 (fun u952 r953 t952 H952 L952 ht952 hvm952 hw952 hB952 hz952 hk952 hS => ?_)
  obtain ⟨hr952, hB952⟩ := hB952
  obtain ⟨hP, hD, hK⟩ := pq_jn (wz := [(h0, ce21 h1 h2 h3 h4), (h1, ce201 h5), (h2, ce3 z.1), (h4, ce226 h7), (h5, ce200 kc0 h8 h9 h10 h11 h12), (h7, ce200 kc2 (z.2.2.1 128) (z.2.2.1 129) (z.2.2.1 130) (z.2.2.1 131) (z.2.2.1 132)), (h8, ce49), (h9, ce49), (h10, ce49), (h11, ce49), (h12, ce49), (a941, ce294 h3), (h3, ce276 h6), (h6, ce275 kc1 (z.2.2.1 128) (z.2.2.1 128) (z.2.2.1 128) (z.2.2.1 128) (z.2.2.1 128) (z.2.2.1 128) (z.2.2.1 128))]) (tz := [(kc0, .object "java/lang/Object"), (kc2, .object "java/lang/Object"), (kc1, .object "java/lang/Object")]) hP hD hK [13, 12, 5] [0, 2] rfl hk952 hF948 hB952.1 ht952 hvm952 rfl rfl
  have hG : s.heap.size + 741 ≤ H952.size := Nat.le_trans hG hz952
  refine W.eq (g2 := F0 m 58 ls [.ref (z.2.2.1 128)]) (by rw [hr952]) ?_
  refine va_castE (nm := "java/lang/Integer") hx hb hown (hts _ q_320) (va_Orecv (hX.2.2.1.1.1 128 (by decide)) hS) dX9_shown_58 ?_
  have hM956 := k74_intValue l hl9 dC dI z H952.size
  obtain ⟨hF954, hC957⟩ := pc_M hM956 hP hD hK hS hX hT hA [] [] rfl rfl rfl
  refine va_calli (va_runV (As := []) (rest := []) ⟨hx, hb, hml, hown, hts⟩ hM956 (cwV 0 hts (gV q_323 q_324 q_325 q_297 q_322) rfl rfl rfl hV_J6_intValue_8abf5 ⟨Nat.le_of_ble_eq_true rfl, Nat.le_of_ble_eq_true rfl⟩) ⟨pc_blind, va_Orecv (hX.2.2.1.1.1 128 (by decide)) hS, fun U hU hW => ⟨rfl, hC957 U hU hW⟩⟩ rfl rfl hl.1 rfl (lv_room (Nat.le_of_ble_eq_true rfl)) dX9_shown_61 ⟨(Nat.le_of_ble_eq_true rfl), (Nat.le_of_ble_eq_true rfl)⟩) hS (fun q9 _ h9 => hF954 q9 h9) hF954 (fun r959 u958 t958 H958 L958 ht958 hvm958 hw958 hB958 hz958 hk958 hS => ?_)
  have hP := pq_keep hP hD [] rfl hk958 hB958.1 ht958
  have hG : s.heap.size + 741 ≤ H958.size := Nat.le_trans hG hz958
  refine W.eq (g2 := F0 m 64 ls [.int 0]) (by rw [hw958]) ?_
  refine lv_istore (lv' := [(6, .int 0), (5, .ref a941), (4, .int 0), (3, .int 49), (1, .int 0), (2, .int 2), (0, .ref h0)]) hx hb dX9_shown_64 hl (by decide) rfl (fun ls hl => ?_)
  refine lv_iload hx hb dX9_shown_66 (lv_at hl 2 rfl) ?_
  refine lv_if_ne (tgt := 82) hx hb dX9_shown_68 (by decide) (fun cz => absurd (by decide) cz) (fun _ => ?_)
  refine lv_aload_n hx hb dX9_shown_71 rfl (lv_at hl 6 rfl) ?_
  refine lv_iload_n hx hb dX9_shown_72 rfl (lv_at hl 5 rfl) ?_
  refine lv_iload_n hx hb dX9_shown_73 rfl (lv_at hl 3 rfl) ?_
  refine lv_iload hx hb dX9_shown_74 (lv_at hl 0 rfl) ?_
  have hM962 := k660_showsIt l hl9 dC dI z h0 h1 h2 h4 h5 h7 h8 h9 h10 h11 h12 h3 H958.size kc0 kc2
  obtain ⟨hF960, hC963⟩ := pc_M hM962 hP hD hK hS hX hT hA [0, 1, 2, 3, 4, 5, 6, 7, 8, 9, 10] [0, 1] rfl rfl rfl
  refine va_calli (va_runV (As := [.int 2, .int 49, .int 0]) (rest := []) ⟨hx, hb, hml, hown, hts⟩ hM962 (cwV 3 hts (gV q_429 q_430 q_431 q_60 q_428) rfl rfl rfl hV_X9_showsIt ⟨Nat.le_of_ble_eq_true rfl, Nat.le_of_ble_eq_true rfl⟩) ⟨pc_blind, va_recv hK hP (ci := 8) (q := (RX9, TX9, 6)) (q0 := 0) rfl rfl, fun U hU hW => ⟨rfl, hC963 U hU hW⟩⟩ rfl rfl hl.1 rfl (lv_room (Nat.le_of_ble_eq_true rfl)) dX9_shown_76 ⟨(Nat.le_of_ble_eq_true rfl), (Nat.le_of_ble_eq_true rfl)⟩) hS (fun q9 _ h9 => hF960 q9 h9) hF960 (fun r965 u964 t964 H964 L964 ht964 hvm964 hw964 hB964 hz964 hk964 hS => ?_)
  have hP := pq_keep hP hD [0, 1, 2, 3, 4, 5, 6, 7, 8, 9, 10] rfl hk964 hB964.1 ht964
  have hG : s.heap.size + 762 ≤ H964.size := va_gr (g := 741) (g1 := 21) hG (by rw [← ht964]; exact hB964.2)
  refine W.eq (g2 := F0 m 79 ls [.int 0]) (by rw [hw964]) ?_
  refine W.widen (k := 762) (n := 8232) (by decide) (by decide) ?_
  refine lv_if_eq (tgt := 86) hx hb dX9_shown_79 (by decide) (fun _ => ?_) (fun cz => absurd (by decide) cz)
  refine lv_iconst (v := 0) hx hb dX9_shown_86 (by decide) ?_
  refine lv_istore (lv' := [(4, .int 0), (6, .int 0), (5, .ref a941), (3, .int 49), (1, .int 0), (2, .int 2), (0, .ref h0)]) hx hb dX9_shown_87 hl (by decide) rfl (fun ls hl => ?_)
  refine lv_goto (tgt := 41) hx hb dX9_shown_89 (by decide) ?_
  refine lv_aload hx hb dX9_shown_41 (lv_at hl 2 rfl) ?_
  have hM968 := k632_hasNext l hl9 dC dI z a941 h3 h6 H964.size
  obtain ⟨hF966, hC969⟩ := pc_M hM968 hP hD hK hS hX hT hA [11, 12] [] rfl rfl rfl
  refine va_callFi (va_runF (As := []) (rest := []) (hK.1 1 (RJx35411, TJx35411, 4) rfl).2 ⟨hx, hb, hml, hown, hts⟩ hM968 (va_cwF 0 hts (gF q_261 q_262 q_263 q_246 q_260) rfl rfl rfl hT.2.2.2.2.2.2.1 hF_xIh ⟨Nat.le_of_ble_eq_true rfl, Nat.le_of_ble_eq_true rfl⟩) ⟨pc_blind, va_recv hK hP (ci := 1) (q := (RJx35411, TJx35411, 4)) (q0 := 11) rfl rfl, fun U hU hW => ⟨rfl, hC969 U hU hW⟩⟩ rfl rfl hl.1 rfl (lv_room (Nat.le_of_ble_eq_true rfl)) dX9_shown_43 ⟨(Nat.le_of_ble_eq_true rfl), (Nat.le_of_ble_eq_true rfl)⟩) hS (fun q9 _ h9 => hF966 q9 h9) hF966 (fun r971 u970 t970 H970 L970 ht970 hvm970 hw970 hB970 hz970 hk970 hS => ?_)
  have hP := pq_keep hP hD [11, 12] rfl hk970 hB970.1 ht970
  have hG : s.heap.size + 762 ≤ H970.size := Nat.le_trans hG hz970
  refine W.eq (g2 := F0 m 48 ls [.int 1]) (by rw [hw970]) ?_
  refine lv_if_eq (tgt := 92) hx hb dX9_shown_48 (by decide) (fun cz => absurd cz (by decide)) (fun _ => ?_)
  refine lv_aload hx hb dX9_shown_51 (lv_at hl 2 rfl) ?_
  have hM974 := k634_next l hl9 dC dI z a941 h3 h6 H970.size kc1
  obtain ⟨hF972, hC975⟩ := pc_M hM974 hP hD hK hS hX hT hA [11, 12, 13] [2] rfl rfl rfl
  refine va_callFr (va_runF (As := []) (rest := []) (hK.1 1 (RJx35411, TJx35411, 4) rfl).2 ⟨hx, hb, hml, hown, hts⟩ hM974 (va_cwF 0 hts (gF q_308 q_309 q_310 q_246 q_307) rfl rfl rfl hT.2.2.2.2.2.2.2.1 hF_xIn ⟨Nat.le_of_ble_eq_true rfl, Nat.le_of_ble_eq_true rfl⟩) ⟨pc_blind, va_recv hK hP (ci := 1) (q := (RJx35411, TJx35411, 4)) (q0 := 11) rfl rfl, fun U hU hW => ⟨rfl, hC975 U hU hW⟩⟩ rfl rfl hl.1 rfl (lv_room (Nat.le_of_ble_eq_true rfl)) dX9_shown_53 ⟨(Nat.le_of_ble_eq_true rfl), (Nat.le_of_ble_eq_true rfl)⟩) hS (fun q9 _ h9 => hF972 q9 h9) hF972 (fun u976 r977 t976 H976 L976 ht976 hvm976 hw976 hB976 hz976 hk976 hS => ?_)
  obtain ⟨hr976, hB976⟩ := hB976
  obtain ⟨hP, hD, hK⟩ := pq_jn (wz := [(h0, ce21 h1 h2 h3 h4), (h1, ce201 h5), (h2, ce3 z.1), (h4, ce226 h7), (h5, ce200 kc0 h8 h9 h10 h11 h12), (h7, ce200 kc2 (z.2.2.1 128) (z.2.2.1 129) (z.2.2.1 130) (z.2.2.1 131) (z.2.2.1 132)), (h8, ce49), (h9, ce49), (h10, ce49), (h11, ce49), (h12, ce49), (a941, ce310 h3), (h3, ce276 h6), (h6, ce275 kc1 (z.2.2.1 128) (z.2.2.1 128) (z.2.2.1 128) (z.2.2.1 128) (z.2.2.1 128) (z.2.2.1 128) (z.2.2.1 128))]) (tz := [(kc0, .object "java/lang/Object"), (kc2, .object "java/lang/Object"), (kc1, .object "java/lang/Object")]) hP hD hK [11, 12, 13] [0, 1] rfl hk976 hF972 hB976.1 ht976 hvm976 rfl rfl
  have hG : s.heap.size + 762 ≤ H976.size := Nat.le_trans hG hz976
  refine W.eq (g2 := F0 m 58 ls [.ref (z.2.2.1 128)]) (by rw [hr976]) ?_
  refine va_castE (nm := "java/lang/Integer") hx hb hown (hts _ q_320) (va_Orecv (hX.2.2.1.1.1 128 (by decide)) hS) dX9_shown_58 ?_
  have hM980 := k74_intValue l hl9 dC dI z H976.size
  obtain ⟨hF978, hC981⟩ := pc_M hM980 hP hD hK hS hX hT hA [] [] rfl rfl rfl
  refine va_calli (va_runV (As := []) (rest := []) ⟨hx, hb, hml, hown, hts⟩ hM980 (cwV 0 hts (gV q_323 q_324 q_325 q_297 q_322) rfl rfl rfl hV_J6_intValue_8abf5 ⟨Nat.le_of_ble_eq_true rfl, Nat.le_of_ble_eq_true rfl⟩) ⟨pc_blind, va_Orecv (hX.2.2.1.1.1 128 (by decide)) hS, fun U hU hW => ⟨rfl, hC981 U hU hW⟩⟩ rfl rfl hl.1 rfl (lv_room (Nat.le_of_ble_eq_true rfl)) dX9_shown_61 ⟨(Nat.le_of_ble_eq_true rfl), (Nat.le_of_ble_eq_true rfl)⟩) hS (fun q9 _ h9 => hF978 q9 h9) hF978 (fun r983 u982 t982 H982 L982 ht982 hvm982 hw982 hB982 hz982 hk982 hS => ?_)
  have hP := pq_keep hP hD [] rfl hk982 hB982.1 ht982
  have hG : s.heap.size + 762 ≤ H982.size := Nat.le_trans hG hz982
  refine W.eq (g2 := F0 m 64 ls [.int 0]) (by rw [hw982]) ?_
  refine lv_istore (lv' := [(6, .int 0), (4, .int 0), (5, .ref a941), (3, .int 49), (1, .int 0), (2, .int 2), (0, .ref h0)]) hx hb dX9_shown_64 hl (by decide) rfl (fun ls hl => ?_)
  refine lv_iload hx hb dX9_shown_66 (lv_at hl 1 rfl) ?_
  refine lv_if_ne (tgt := 82) hx hb dX9_shown_68 (by decide) (fun cz => absurd (by decide) cz) (fun _ => ?_)
  refine lv_aload_n hx hb dX9_shown_71 rfl (lv_at hl 6 rfl) ?_
  refine lv_iload_n hx hb dX9_shown_72 rfl (lv_at hl 5 rfl) ?_
  refine lv_iload_n hx hb dX9_shown_73 rfl (lv_at hl 3 rfl) ?_
  refine lv_iload hx hb dX9_shown_74 (lv_at hl 0 rfl) ?_
  have hM986 := k660_showsIt l hl9 dC dI z h0 h1 h2 h4 h5 h7 h8 h9 h10 h11 h12 h3 H982.size kc0 kc2
  obtain ⟨hF984, hC987⟩ := pc_M hM986 hP hD hK hS hX hT hA [0, 1, 2, 3, 4, 5, 6, 7, 8, 9, 10] [0, 1] rfl rfl rfl
  refine va_calli (va_runV (As := [.int 2, .int 49, .int 0]) (rest := []) ⟨hx, hb, hml, hown, hts⟩ hM986 (cwV 3 hts (gV q_429 q_430 q_431 q_60 q_428) rfl rfl rfl hV_X9_showsIt ⟨Nat.le_of_ble_eq_true rfl, Nat.le_of_ble_eq_true rfl⟩) ⟨pc_blind, va_recv hK hP (ci := 8) (q := (RX9, TX9, 6)) (q0 := 0) rfl rfl, fun U hU hW => ⟨rfl, hC987 U hU hW⟩⟩ rfl rfl hl.1 rfl (lv_room (Nat.le_of_ble_eq_true rfl)) dX9_shown_76 ⟨(Nat.le_of_ble_eq_true rfl), (Nat.le_of_ble_eq_true rfl)⟩) hS (fun q9 _ h9 => hF984 q9 h9) hF984 (fun r989 u988 t988 H988 L988 ht988 hvm988 hw988 hB988 hz988 hk988 hS => ?_)
  have hP := pq_keep hP hD [0, 1, 2, 3, 4, 5, 6, 7, 8, 9, 10] rfl hk988 hB988.1 ht988
  have hG : s.heap.size + 783 ≤ H988.size := va_gr (g := 762) (g1 := 21) hG (by rw [← ht988]; exact hB988.2)
  refine W.eq (g2 := F0 m 79 ls [.int 0]) (by rw [hw988]) ?_
  refine W.widen (k := 783) (n := 8460) (by decide) (by decide) ?_
  refine lv_if_eq (tgt := 86) hx hb dX9_shown_79 (by decide) (fun _ => ?_) (fun cz => absurd (by decide) cz)
  refine lv_iconst (v := 0) hx hb dX9_shown_86 (by decide) ?_
  refine lv_istore (lv' := [(4, .int 0), (6, .int 0), (5, .ref a941), (3, .int 49), (1, .int 0), (2, .int 2), (0, .ref h0)]) hx hb dX9_shown_87 hl (by decide) rfl (fun ls hl => ?_)
  refine lv_goto (tgt := 41) hx hb dX9_shown_89 (by decide) ?_
  refine lv_aload hx hb dX9_shown_41 (lv_at hl 2 rfl) ?_
  have hM992 := k635_hasNext l hl9 dC dI z a941 h3 h6 H988.size
  obtain ⟨hF990, hC993⟩ := pc_M hM992 hP hD hK hS hX hT hA [11, 12] [] rfl rfl rfl
  refine va_callFi (va_runF (As := []) (rest := []) (hK.1 1 (RJx35411, TJx35411, 4) rfl).2 ⟨hx, hb, hml, hown, hts⟩ hM992 (va_cwF 0 hts (gF q_261 q_262 q_263 q_246 q_260) rfl rfl rfl hT.2.2.2.2.2.2.1 hF_xIh ⟨Nat.le_of_ble_eq_true rfl, Nat.le_of_ble_eq_true rfl⟩) ⟨pc_blind, va_recv hK hP (ci := 1) (q := (RJx35411, TJx35411, 4)) (q0 := 11) rfl rfl, fun U hU hW => ⟨rfl, hC993 U hU hW⟩⟩ rfl rfl hl.1 rfl (lv_room (Nat.le_of_ble_eq_true rfl)) dX9_shown_43 ⟨(Nat.le_of_ble_eq_true rfl), (Nat.le_of_ble_eq_true rfl)⟩) hS (fun q9 _ h9 => hF990 q9 h9) hF990 (fun r995 u994 t994 H994 L994 ht994 hvm994 hw994 hB994 hz994 hk994 hS => ?_)
  have hP := pq_keep hP hD [11, 12] rfl hk994 hB994.1 ht994
  have hG : s.heap.size + 783 ≤ H994.size := Nat.le_trans hG hz994
  refine W.eq (g2 := F0 m 48 ls [.int 1]) (by rw [hw994]) ?_
  refine lv_if_eq (tgt := 92) hx hb dX9_shown_48 (by decide) (fun cz => absurd cz (by decide)) (fun _ => ?_)
  refine lv_aload hx hb dX9_shown_51 (lv_at hl 2 rfl) ?_
  have hM998 := k637_next l hl9 dC dI z a941 h3 h6 H994.size kc1
  obtain ⟨hF996, hC999⟩ := pc_M hM998 hP hD hK hS hX hT hA [11, 12, 13] [2] rfl rfl rfl
  refine va_callFr (va_runF (As := []) (rest := []) (hK.1 1 (RJx35411, TJx35411, 4) rfl).2 ⟨hx, hb, hml, hown, hts⟩ hM998 (va_cwF 0 hts (gF q_308 q_309 q_310 q_246 q_307) rfl rfl rfl hT.2.2.2.2.2.2.2.1 hF_xIn ⟨Nat.le_of_ble_eq_true rfl, Nat.le_of_ble_eq_true rfl⟩) ⟨pc_blind, va_recv hK hP (ci := 1) (q := (RJx35411, TJx35411, 4)) (q0 := 11) rfl rfl, fun U hU hW => ⟨rfl, hC999 U hU hW⟩⟩ rfl rfl hl.1 rfl (lv_room (Nat.le_of_ble_eq_true rfl)) dX9_shown_53 ⟨(Nat.le_of_ble_eq_true rfl), (Nat.le_of_ble_eq_true rfl)⟩) hS (fun q9 _ h9 => hF996 q9 h9) hF996 (fun u1000 r1001 t1000 H1000 L1000 ht1000 hvm1000 hw1000 hB1000 hz1000 hk1000 hS => ?_)
  obtain ⟨hr1000, hB1000⟩ := hB1000
  obtain ⟨hP, hD, hK⟩ := pq_jn (wz := [(h0, ce21 h1 h2 h3 h4), (h1, ce201 h5), (h2, ce3 z.1), (h4, ce226 h7), (h5, ce200 kc0 h8 h9 h10 h11 h12), (h7, ce200 kc2 (z.2.2.1 128) (z.2.2.1 129) (z.2.2.1 130) (z.2.2.1 131) (z.2.2.1 132)), (h8, ce49), (h9, ce49), (h10, ce49), (h11, ce49), (h12, ce49), (a941, ce312 h3), (h3, ce276 h6), (h6, ce275 kc1 (z.2.2.1 128) (z.2.2.1 128) (z.2.2.1 128) (z.2.2.1 128) (z.2.2.1 128) (z.2.2.1 128) (z.2.2.1 128))]) (tz := [(kc0, .object "java/lang/Object"), (kc2, .object "java/lang/Object"), (kc1, .object "java/lang/Object")]) hP hD hK [11, 12, 13] [0, 1] rfl hk1000 hF996 hB1000.1 ht1000 hvm1000 rfl rfl
  have hG : s.heap.size + 783 ≤ H1000.size := Nat.le_trans hG hz1000
  refine W.eq (g2 := F0 m 58 ls [.ref (z.2.2.1 128)]) (by rw [hr1000]) ?_
  refine va_castE (nm := "java/lang/Integer") hx hb hown (hts _ q_320) (va_Orecv (hX.2.2.1.1.1 128 (by decide)) hS) dX9_shown_58 ?_
  have hM1004 := k74_intValue l hl9 dC dI z H1000.size
  obtain ⟨hF1002, hC1005⟩ := pc_M hM1004 hP hD hK hS hX hT hA [] [] rfl rfl rfl
  refine va_calli (va_runV (As := []) (rest := []) ⟨hx, hb, hml, hown, hts⟩ hM1004 (cwV 0 hts (gV q_323 q_324 q_325 q_297 q_322) rfl rfl rfl hV_J6_intValue_8abf5 ⟨Nat.le_of_ble_eq_true rfl, Nat.le_of_ble_eq_true rfl⟩) ⟨pc_blind, va_Orecv (hX.2.2.1.1.1 128 (by decide)) hS, fun U hU hW => ⟨rfl, hC1005 U hU hW⟩⟩ rfl rfl hl.1 rfl (lv_room (Nat.le_of_ble_eq_true rfl)) dX9_shown_61 ⟨(Nat.le_of_ble_eq_true rfl), (Nat.le_of_ble_eq_true rfl)⟩) hS (fun q9 _ h9 => hF1002 q9 h9) hF1002 (fun r1007 u1006 t1006 H1006 L1006 ht1006 hvm1006 hw1006 hB1006 hz1006 hk1006 hS => ?_)
  have hP := pq_keep hP hD [] rfl hk1006 hB1006.1 ht1006
  have hG : s.heap.size + 783 ≤ H1006.size := Nat.le_trans hG hz1006
  refine W.eq (g2 := F0 m 64 ls [.int 0]) (by rw [hw1006]) ?_
  refine lv_istore (lv' := [(6, .int 0), (4, .int 0), (5, .ref a941), (3, .int 49), (1, .int 0), (2, .int 2), (0, .ref h0)]) hx hb dX9_shown_64 hl (by decide) rfl (fun ls hl => ?_)
  refine lv_iload hx hb dX9_shown_66 (lv_at hl 1 rfl) ?_
  refine lv_if_ne (tgt := 82) hx hb dX9_shown_68 (by decide) (fun cz => absurd (by decide) cz) (fun _ => ?_)
  refine lv_aload_n hx hb dX9_shown_71 rfl (lv_at hl 6 rfl) ?_
  refine lv_iload_n hx hb dX9_shown_72 rfl (lv_at hl 5 rfl) ?_
  refine lv_iload_n hx hb dX9_shown_73 rfl (lv_at hl 3 rfl) ?_
  refine lv_iload hx hb dX9_shown_74 (lv_at hl 0 rfl) ?_
  have hM1010 := k660_showsIt l hl9 dC dI z h0 h1 h2 h4 h5 h7 h8 h9 h10 h11 h12 h3 H1006.size kc0 kc2
  obtain ⟨hF1008, hC1011⟩ := pc_M hM1010 hP hD hK hS hX hT hA [0, 1, 2, 3, 4, 5, 6, 7, 8, 9, 10] [0, 1] rfl rfl rfl
  refine va_calli (va_runV (As := [.int 2, .int 49, .int 0]) (rest := []) ⟨hx, hb, hml, hown, hts⟩ hM1010 (cwV 3 hts (gV q_429 q_430 q_431 q_60 q_428) rfl rfl rfl hV_X9_showsIt ⟨Nat.le_of_ble_eq_true rfl, Nat.le_of_ble_eq_true rfl⟩) ⟨pc_blind, va_recv hK hP (ci := 8) (q := (RX9, TX9, 6)) (q0 := 0) rfl rfl, fun U hU hW => ⟨rfl, hC1011 U hU hW⟩⟩ rfl rfl hl.1 rfl (lv_room (Nat.le_of_ble_eq_true rfl)) dX9_shown_76 ⟨(Nat.le_of_ble_eq_true rfl), (Nat.le_of_ble_eq_true rfl)⟩) hS (fun q9 _ h9 => hF1008 q9 h9) hF1008 (fun r1013 u1012 t1012 H1012 L1012 ht1012 hvm1012 hw1012 hB1012 hz1012 hk1012 hS => ?_)
  have hP := pq_keep hP hD [0, 1, 2, 3, 4, 5, 6, 7, 8, 9, 10] rfl hk1012 hB1012.1 ht1012
  have hG : s.heap.size + 804 ≤ H1012.size := va_gr (g := 783) (g1 := 21) hG (by rw [← ht1012]; exact hB1012.2)
  refine W.eq (g2 := F0 m 79 ls [.int 0]) (by rw [hw1012]) ?_
  refine W.widen (k := 804) (n := 8688) (by decide) (by decide) ?_
  refine lv_if_eq (tgt := 86) hx hb dX9_shown_79 (by decide) (fun _ => ?_) (fun cz => absurd (by decide) cz)
  refine lv_iconst (v := 0) hx hb dX9_shown_86 (by decide) ?_
  refine lv_istore (lv' := [(4, .int 0), (6, .int 0), (5, .ref a941), (3, .int 49), (1, .int 0), (2, .int 2), (0, .ref h0)]) hx hb dX9_shown_87 hl (by decide) rfl (fun ls hl => ?_)
  refine lv_goto (tgt := 41) hx hb dX9_shown_89 (by decide) ?_
  refine lv_aload hx hb dX9_shown_41 (lv_at hl 2 rfl) ?_
  have hM1016 := k638_hasNext l hl9 dC dI z a941 h3 h6 H1012.size
  obtain ⟨hF1014, hC1017⟩ := pc_M hM1016 hP hD hK hS hX hT hA [11, 12] [] rfl rfl rfl
  refine va_callFi (va_runF (As := []) (rest := []) (hK.1 1 (RJx35411, TJx35411, 4) rfl).2 ⟨hx, hb, hml, hown, hts⟩ hM1016 (va_cwF 0 hts (gF q_261 q_262 q_263 q_246 q_260) rfl rfl rfl hT.2.2.2.2.2.2.1 hF_xIh ⟨Nat.le_of_ble_eq_true rfl, Nat.le_of_ble_eq_true rfl⟩) ⟨pc_blind, va_recv hK hP (ci := 1) (q := (RJx35411, TJx35411, 4)) (q0 := 11) rfl rfl, fun U hU hW => ⟨rfl, hC1017 U hU hW⟩⟩ rfl rfl hl.1 rfl (lv_room (Nat.le_of_ble_eq_true rfl)) dX9_shown_43 ⟨(Nat.le_of_ble_eq_true rfl), (Nat.le_of_ble_eq_true rfl)⟩) hS (fun q9 _ h9 => hF1014 q9 h9) hF1014 (fun r1019 u1018 t1018 H1018 L1018 ht1018 hvm1018 hw1018 hB1018 hz1018 hk1018 hS => ?_)
  have hP := pq_keep hP hD [11, 12] rfl hk1018 hB1018.1 ht1018
  have hG : s.heap.size + 804 ≤ H1018.size := Nat.le_trans hG hz1018
  refine W.eq (g2 := F0 m 48 ls [.int 1]) (by rw [hw1018]) ?_
  refine lv_if_eq (tgt := 92) hx hb dX9_shown_48 (by decide) (fun cz => absurd cz (by decide)) (fun _ => ?_)
  refine lv_aload hx hb dX9_shown_51 (lv_at hl 2 rfl) ?_
  have hM1022 := k640_next l hl9 dC dI z a941 h3 h6 H1018.size kc1
  obtain ⟨hF1020, hC1023⟩ := pc_M hM1022 hP hD hK hS hX hT hA [11, 12, 13] [2] rfl rfl rfl
  refine va_callFr (va_runF (As := []) (rest := []) (hK.1 1 (RJx35411, TJx35411, 4) rfl).2 ⟨hx, hb, hml, hown, hts⟩ hM1022 (va_cwF 0 hts (gF q_308 q_309 q_310 q_246 q_307) rfl rfl rfl hT.2.2.2.2.2.2.2.1 hF_xIn ⟨Nat.le_of_ble_eq_true rfl, Nat.le_of_ble_eq_true rfl⟩) ⟨pc_blind, va_recv hK hP (ci := 1) (q := (RJx35411, TJx35411, 4)) (q0 := 11) rfl rfl, fun U hU hW => ⟨rfl, hC1023 U hU hW⟩⟩ rfl rfl hl.1 rfl (lv_room (Nat.le_of_ble_eq_true rfl)) dX9_shown_53 ⟨(Nat.le_of_ble_eq_true rfl), (Nat.le_of_ble_eq_true rfl)⟩) hS (fun q9 _ h9 => hF1020 q9 h9) hF1020 (fun u1024 r1025 t1024 H1024 L1024 ht1024 hvm1024 hw1024 hB1024 hz1024 hk1024 hS => ?_)
  obtain ⟨hr1024, hB1024⟩ := hB1024
  obtain ⟨hP, hD, hK⟩ := pq_jn (wz := [(h0, ce21 h1 h2 h3 h4), (h1, ce201 h5), (h2, ce3 z.1), (h4, ce226 h7), (h5, ce200 kc0 h8 h9 h10 h11 h12), (h7, ce200 kc2 (z.2.2.1 128) (z.2.2.1 129) (z.2.2.1 130) (z.2.2.1 131) (z.2.2.1 132)), (h8, ce49), (h9, ce49), (h10, ce49), (h11, ce49), (h12, ce49), (a941, ce314 h3), (h3, ce276 h6), (h6, ce275 kc1 (z.2.2.1 128) (z.2.2.1 128) (z.2.2.1 128) (z.2.2.1 128) (z.2.2.1 128) (z.2.2.1 128) (z.2.2.1 128))]) (tz := [(kc0, .object "java/lang/Object"), (kc2, .object "java/lang/Object"), (kc1, .object "java/lang/Object")]) hP hD hK [11, 12, 13] [0, 1] rfl hk1024 hF1020 hB1024.1 ht1024 hvm1024 rfl rfl
  have hG : s.heap.size + 804 ≤ H1024.size := Nat.le_trans hG hz1024
  refine W.eq (g2 := F0 m 58 ls [.ref (z.2.2.1 128)]) (by rw [hr1024]) ?_
  refine va_castE (nm := "java/lang/Integer") hx hb hown (hts _ q_320) (va_Orecv (hX.2.2.1.1.1 128 (by decide)) hS) dX9_shown_58 ?_
  have hM1028 := k74_intValue l hl9 dC dI z H1024.size
  obtain ⟨hF1026, hC1029⟩ := pc_M hM1028 hP hD hK hS hX hT hA [] [] rfl rfl rfl
  refine va_calli (va_runV (As := []) (rest := []) ⟨hx, hb, hml, hown, hts⟩ hM1028 (cwV 0 hts (gV q_323 q_324 q_325 q_297 q_322) rfl rfl rfl hV_J6_intValue_8abf5 ⟨Nat.le_of_ble_eq_true rfl, Nat.le_of_ble_eq_true rfl⟩) ⟨pc_blind, va_Orecv (hX.2.2.1.1.1 128 (by decide)) hS, fun U hU hW => ⟨rfl, hC1029 U hU hW⟩⟩ rfl rfl hl.1 rfl (lv_room (Nat.le_of_ble_eq_true rfl)) dX9_shown_61 ⟨(Nat.le_of_ble_eq_true rfl), (Nat.le_of_ble_eq_true rfl)⟩) hS (fun q9 _ h9 => hF1026 q9 h9) hF1026 (fun r1031 u1030 t1030 H1030 L1030 ht1030 hvm1030 hw1030 hB1030 hz1030 hk1030 hS => ?_)
  have hP := pq_keep hP hD [] rfl hk1030 hB1030.1 ht1030
  have hG : s.heap.size + 804 ≤ H1030.size := Nat.le_trans hG hz1030
  refine W.eq (g2 := F0 m 64 ls [.int 0]) (by rw [hw1030]) ?_
  refine lv_istore (lv' := [(6, .int 0), (4, .int 0), (5, .ref a941), (3, .int 49), (1, .int 0), (2, .int 2), (0, .ref h0)]) hx hb dX9_shown_64 hl (by decide) rfl (fun ls hl => ?_)
  refine lv_iload hx hb dX9_shown_66 (lv_at hl 1 rfl) ?_
  refine lv_if_ne (tgt := 82) hx hb dX9_shown_68 (by decide) (fun cz => absurd (by decide) cz) (fun _ => ?_)
  refine lv_aload_n hx hb dX9_shown_71 rfl (lv_at hl 6 rfl) ?_
  refine lv_iload_n hx hb dX9_shown_72 rfl (lv_at hl 5 rfl) ?_
  refine lv_iload_n hx hb dX9_shown_73 rfl (lv_at hl 3 rfl) ?_
  refine lv_iload hx hb dX9_shown_74 (lv_at hl 0 rfl) ?_
  have hM1034 := k660_showsIt l hl9 dC dI z h0 h1 h2 h4 h5 h7 h8 h9 h10 h11 h12 h3 H1030.size kc0 kc2
  obtain ⟨hF1032, hC1035⟩ := pc_M hM1034 hP hD hK hS hX hT hA [0, 1, 2, 3, 4, 5, 6, 7, 8, 9, 10] [0, 1] rfl rfl rfl
  refine va_calli (va_runV (As := [.int 2, .int 49, .int 0]) (rest := []) ⟨hx, hb, hml, hown, hts⟩ hM1034 (cwV 3 hts (gV q_429 q_430 q_431 q_60 q_428) rfl rfl rfl hV_X9_showsIt ⟨Nat.le_of_ble_eq_true rfl, Nat.le_of_ble_eq_true rfl⟩) ⟨pc_blind, va_recv hK hP (ci := 8) (q := (RX9, TX9, 6)) (q0 := 0) rfl rfl, fun U hU hW => ⟨rfl, hC1035 U hU hW⟩⟩ rfl rfl hl.1 rfl (lv_room (Nat.le_of_ble_eq_true rfl)) dX9_shown_76 ⟨(Nat.le_of_ble_eq_true rfl), (Nat.le_of_ble_eq_true rfl)⟩) hS (fun q9 _ h9 => hF1032 q9 h9) hF1032 (fun r1037 u1036 t1036 H1036 L1036 ht1036 hvm1036 hw1036 hB1036 hz1036 hk1036 hS => ?_)
  have hP := pq_keep hP hD [0, 1, 2, 3, 4, 5, 6, 7, 8, 9, 10] rfl hk1036 hB1036.1 ht1036
  have hG : s.heap.size + 825 ≤ H1036.size := va_gr (g := 804) (g1 := 21) hG (by rw [← ht1036]; exact hB1036.2)
  refine W.eq (g2 := F0 m 79 ls [.int 0]) (by rw [hw1036]) ?_
  refine W.widen (k := 825) (n := 8916) (by decide) (by decide) ?_
  refine lv_if_eq (tgt := 86) hx hb dX9_shown_79 (by decide) (fun _ => ?_) (fun cz => absurd (by decide) cz)
  refine lv_iconst (v := 0) hx hb dX9_shown_86 (by decide) ?_
  refine lv_istore (lv' := [(4, .int 0), (6, .int 0), (5, .ref a941), (3, .int 49), (1, .int 0), (2, .int 2), (0, .ref h0)]) hx hb dX9_shown_87 hl (by decide) rfl (fun ls hl => ?_)
  refine lv_goto (tgt := 41) hx hb dX9_shown_89 (by decide) ?_
  refine lv_aload hx hb dX9_shown_41 (lv_at hl 2 rfl) ?_
  have hM1040 := k641_hasNext l hl9 dC dI z a941 h3 h6 H1036.size
  obtain ⟨hF1038, hC1041⟩ := pc_M hM1040 hP hD hK hS hX hT hA [11, 12] [] rfl rfl rfl
  refine va_callFi (va_runF (As := []) (rest := []) (hK.1 1 (RJx35411, TJx35411, 4) rfl).2 ⟨hx, hb, hml, hown, hts⟩ hM1040 (va_cwF 0 hts (gF q_261 q_262 q_263 q_246 q_260) rfl rfl rfl hT.2.2.2.2.2.2.1 hF_xIh ⟨Nat.le_of_ble_eq_true rfl, Nat.le_of_ble_eq_true rfl⟩) ⟨pc_blind, va_recv hK hP (ci := 1) (q := (RJx35411, TJx35411, 4)) (q0 := 11) rfl rfl, fun U hU hW => ⟨rfl, hC1041 U hU hW⟩⟩ rfl rfl hl.1 rfl (lv_room (Nat.le_of_ble_eq_true rfl)) dX9_shown_43 ⟨(Nat.le_of_ble_eq_true rfl), (Nat.le_of_ble_eq_true rfl)⟩) hS (fun q9 _ h9 => hF1038 q9 h9) hF1038 (fun r1043 u1042 t1042 H1042 L1042 ht1042 hvm1042 hw1042 hB1042 hz1042 hk1042 hS => ?_)
  have hP := pq_keep hP hD [11, 12] rfl hk1042 hB1042.1 ht1042
  have hG : s.heap.size + 825 ≤ H1042.size := Nat.le_trans hG hz1042
  refine W.eq (g2 := F0 m 48 ls [.int 1]) (by rw [hw1042]) ?_
  refine lv_if_eq (tgt := 92) hx hb dX9_shown_48 (by decide) (fun cz => absurd cz (by decide)) (fun _ => ?_)
  refine lv_aload hx hb dX9_shown_51 (lv_at hl 2 rfl) ?_
  have hM1046 := k643_next l hl9 dC dI z a941 h3 h6 H1042.size kc1
  obtain ⟨hF1044, hC1047⟩ := pc_M hM1046 hP hD hK hS hX hT hA [11, 12, 13] [2] rfl rfl rfl
  refine va_callFr (va_runF (As := []) (rest := []) (hK.1 1 (RJx35411, TJx35411, 4) rfl).2 ⟨hx, hb, hml, hown, hts⟩ hM1046 (va_cwF 0 hts (gF q_308 q_309 q_310 q_246 q_307) rfl rfl rfl hT.2.2.2.2.2.2.2.1 hF_xIn ⟨Nat.le_of_ble_eq_true rfl, Nat.le_of_ble_eq_true rfl⟩) ⟨pc_blind, va_recv hK hP (ci := 1) (q := (RJx35411, TJx35411, 4)) (q0 := 11) rfl rfl, fun U hU hW => ⟨rfl, hC1047 U hU hW⟩⟩ rfl rfl hl.1 rfl (lv_room (Nat.le_of_ble_eq_true rfl)) dX9_shown_53 ⟨(Nat.le_of_ble_eq_true rfl), (Nat.le_of_ble_eq_true rfl)⟩) hS (fun q9 _ h9 => hF1044 q9 h9) hF1044 (fun u1048 r1049 t1048 H1048 L1048 ht1048 hvm1048 hw1048 hB1048 hz1048 hk1048 hS => ?_)
  obtain ⟨hr1048, hB1048⟩ := hB1048
  obtain ⟨hP, hD, hK⟩ := pq_jn (wz := [(h0, ce21 h1 h2 h3 h4), (h1, ce201 h5), (h2, ce3 z.1), (h4, ce226 h7), (h5, ce200 kc0 h8 h9 h10 h11 h12), (h7, ce200 kc2 (z.2.2.1 128) (z.2.2.1 129) (z.2.2.1 130) (z.2.2.1 131) (z.2.2.1 132)), (h8, ce49), (h9, ce49), (h10, ce49), (h11, ce49), (h12, ce49), (a941, ce316 h3), (h3, ce276 h6), (h6, ce275 kc1 (z.2.2.1 128) (z.2.2.1 128) (z.2.2.1 128) (z.2.2.1 128) (z.2.2.1 128) (z.2.2.1 128) (z.2.2.1 128))]) (tz := [(kc0, .object "java/lang/Object"), (kc2, .object "java/lang/Object"), (kc1, .object "java/lang/Object")]) hP hD hK [11, 12, 13] [0, 1] rfl hk1048 hF1044 hB1048.1 ht1048 hvm1048 rfl rfl
  have hG : s.heap.size + 825 ≤ H1048.size := Nat.le_trans hG hz1048
  refine W.eq (g2 := F0 m 58 ls [.ref (z.2.2.1 128)]) (by rw [hr1048]) ?_
  refine va_castE (nm := "java/lang/Integer") hx hb hown (hts _ q_320) (va_Orecv (hX.2.2.1.1.1 128 (by decide)) hS) dX9_shown_58 ?_
  have hM1052 := k74_intValue l hl9 dC dI z H1048.size
  obtain ⟨hF1050, hC1053⟩ := pc_M hM1052 hP hD hK hS hX hT hA [] [] rfl rfl rfl
  refine va_calli (va_runV (As := []) (rest := []) ⟨hx, hb, hml, hown, hts⟩ hM1052 (cwV 0 hts (gV q_323 q_324 q_325 q_297 q_322) rfl rfl rfl hV_J6_intValue_8abf5 ⟨Nat.le_of_ble_eq_true rfl, Nat.le_of_ble_eq_true rfl⟩) ⟨pc_blind, va_Orecv (hX.2.2.1.1.1 128 (by decide)) hS, fun U hU hW => ⟨rfl, hC1053 U hU hW⟩⟩ rfl rfl hl.1 rfl (lv_room (Nat.le_of_ble_eq_true rfl)) dX9_shown_61 ⟨(Nat.le_of_ble_eq_true rfl), (Nat.le_of_ble_eq_true rfl)⟩) hS (fun q9 _ h9 => hF1050 q9 h9) hF1050 (fun r1055 u1054 t1054 H1054 L1054 ht1054 hvm1054 hw1054 hB1054 hz1054 hk1054 hS => ?_)
  have hP := pq_keep hP hD [] rfl hk1054 hB1054.1 ht1054
  have hG : s.heap.size + 825 ≤ H1054.size := Nat.le_trans hG hz1054
  refine W.eq (g2 := F0 m 64 ls [.int 0]) (by rw [hw1054]) ?_
  refine lv_istore (lv' := [(6, .int 0), (4, .int 0), (5, .ref a941), (3, .int 49), (1, .int 0), (2, .int 2), (0, .ref h0)]) hx hb dX9_shown_64 hl (by decide) rfl (fun ls hl => ?_)
  refine lv_iload hx hb dX9_shown_66 (lv_at hl 1 rfl) ?_
  refine lv_if_ne (tgt := 82) hx hb dX9_shown_68 (by decide) (fun cz => absurd (by decide) cz) (fun _ => ?_)
  refine lv_aload_n hx hb dX9_shown_71 rfl (lv_at hl 6 rfl) ?_
  refine lv_iload_n hx hb dX9_shown_72 rfl (lv_at hl 5 rfl) ?_
  refine lv_iload_n hx hb dX9_shown_73 rfl (lv_at hl 3 rfl) ?_
  refine lv_iload hx hb dX9_shown_74 (lv_at hl 0 rfl) ?_
  have hM1058 := k660_showsIt l hl9 dC dI z h0 h1 h2 h4 h5 h7 h8 h9 h10 h11 h12 h3 H1054.size kc0 kc2
  obtain ⟨hF1056, hC1059⟩ := pc_M hM1058 hP hD hK hS hX hT hA [0, 1, 2, 3, 4, 5, 6, 7, 8, 9, 10] [0, 1] rfl rfl rfl
  refine va_calli (va_runV (As := [.int 2, .int 49, .int 0]) (rest := []) ⟨hx, hb, hml, hown, hts⟩ hM1058 (cwV 3 hts (gV q_429 q_430 q_431 q_60 q_428) rfl rfl rfl hV_X9_showsIt ⟨Nat.le_of_ble_eq_true rfl, Nat.le_of_ble_eq_true rfl⟩) ⟨pc_blind, va_recv hK hP (ci := 8) (q := (RX9, TX9, 6)) (q0 := 0) rfl rfl, fun U hU hW => ⟨rfl, hC1059 U hU hW⟩⟩ rfl rfl hl.1 rfl (lv_room (Nat.le_of_ble_eq_true rfl)) dX9_shown_76 ⟨(Nat.le_of_ble_eq_true rfl), (Nat.le_of_ble_eq_true rfl)⟩) hS (fun q9 _ h9 => hF1056 q9 h9) hF1056 (fun r1061 u1060 t1060 H1060 L1060 ht1060 hvm1060 hw1060 hB1060 hz1060 hk1060 hS => ?_)
  have hP := pq_keep hP hD [0, 1, 2, 3, 4, 5, 6, 7, 8, 9, 10] rfl hk1060 hB1060.1 ht1060
  have hG : s.heap.size + 846 ≤ H1060.size := va_gr (g := 825) (g1 := 21) hG (by rw [← ht1060]; exact hB1060.2)
  refine W.eq (g2 := F0 m 79 ls [.int 0]) (by rw [hw1060]) ?_
  refine W.widen (k := 846) (n := 9144) (by decide) (by decide) ?_
  refine lv_if_eq (tgt := 86) hx hb dX9_shown_79 (by decide) (fun _ => ?_) (fun cz => absurd (by decide) cz)
  refine lv_iconst (v := 0) hx hb dX9_shown_86 (by decide) ?_
  refine lv_istore (lv' := [(4, .int 0), (6, .int 0), (5, .ref a941), (3, .int 49), (1, .int 0), (2, .int 2), (0, .ref h0)]) hx hb dX9_shown_87 hl (by decide) rfl (fun ls hl => ?_)
  refine lv_goto (tgt := 41) hx hb dX9_shown_89 (by decide) ?_
  refine lv_aload hx hb dX9_shown_41 (lv_at hl 2 rfl) ?_
  have hM1064 := k644_hasNext l hl9 dC dI z a941 h3 h6 H1060.size
  obtain ⟨hF1062, hC1065⟩ := pc_M hM1064 hP hD hK hS hX hT hA [11, 12] [] rfl rfl rfl
  refine va_callFi (va_runF (As := []) (rest := []) (hK.1 1 (RJx35411, TJx35411, 4) rfl).2 ⟨hx, hb, hml, hown, hts⟩ hM1064 (va_cwF 0 hts (gF q_261 q_262 q_263 q_246 q_260) rfl rfl rfl hT.2.2.2.2.2.2.1 hF_xIh ⟨Nat.le_of_ble_eq_true rfl, Nat.le_of_ble_eq_true rfl⟩) ⟨pc_blind, va_recv hK hP (ci := 1) (q := (RJx35411, TJx35411, 4)) (q0 := 11) rfl rfl, fun U hU hW => ⟨rfl, hC1065 U hU hW⟩⟩ rfl rfl hl.1 rfl (lv_room (Nat.le_of_ble_eq_true rfl)) dX9_shown_43 ⟨(Nat.le_of_ble_eq_true rfl), (Nat.le_of_ble_eq_true rfl)⟩) hS (fun q9 _ h9 => hF1062 q9 h9) hF1062 (fun r1067 u1066 t1066 H1066 L1066 ht1066 hvm1066 hw1066 hB1066 hz1066 hk1066 hS => ?_)
  have hP := pq_keep hP hD [11, 12] rfl hk1066 hB1066.1 ht1066
  have hG : s.heap.size + 846 ≤ H1066.size := Nat.le_trans hG hz1066
  refine W.eq (g2 := F0 m 48 ls [.int 1]) (by rw [hw1066]) ?_
  refine lv_if_eq (tgt := 92) hx hb dX9_shown_48 (by decide) (fun cz => absurd cz (by decide)) (fun _ => ?_)
  refine lv_aload hx hb dX9_shown_51 (lv_at hl 2 rfl) ?_
  have hM1070 := k646_next l hl9 dC dI z a941 h3 h6 H1066.size kc1
  obtain ⟨hF1068, hC1071⟩ := pc_M hM1070 hP hD hK hS hX hT hA [11, 12, 13] [2] rfl rfl rfl
  refine va_callFr (va_runF (As := []) (rest := []) (hK.1 1 (RJx35411, TJx35411, 4) rfl).2 ⟨hx, hb, hml, hown, hts⟩ hM1070 (va_cwF 0 hts (gF q_308 q_309 q_310 q_246 q_307) rfl rfl rfl hT.2.2.2.2.2.2.2.1 hF_xIn ⟨Nat.le_of_ble_eq_true rfl, Nat.le_of_ble_eq_true rfl⟩) ⟨pc_blind, va_recv hK hP (ci := 1) (q := (RJx35411, TJx35411, 4)) (q0 := 11) rfl rfl, fun U hU hW => ⟨rfl, hC1071 U hU hW⟩⟩ rfl rfl hl.1 rfl (lv_room (Nat.le_of_ble_eq_true rfl)) dX9_shown_53 ⟨(Nat.le_of_ble_eq_true rfl), (Nat.le_of_ble_eq_true rfl)⟩) hS (fun q9 _ h9 => hF1068 q9 h9) hF1068 (fun u1072 r1073 t1072 H1072 L1072 ht1072 hvm1072 hw1072 hB1072 hz1072 hk1072 hS => ?_)
  obtain ⟨hr1072, hB1072⟩ := hB1072
  obtain ⟨hP, hD, hK⟩ := pq_jn (wz := [(h0, ce21 h1 h2 h3 h4), (h1, ce201 h5), (h2, ce3 z.1), (h4, ce226 h7), (h5, ce200 kc0 h8 h9 h10 h11 h12), (h7, ce200 kc2 (z.2.2.1 128) (z.2.2.1 129) (z.2.2.1 130) (z.2.2.1 131) (z.2.2.1 132)), (h8, ce49), (h9, ce49), (h10, ce49), (h11, ce49), (h12, ce49), (a941, ce318 h3), (h3, ce276 h6), (h6, ce275 kc1 (z.2.2.1 128) (z.2.2.1 128) (z.2.2.1 128) (z.2.2.1 128) (z.2.2.1 128) (z.2.2.1 128) (z.2.2.1 128))]) (tz := [(kc0, .object "java/lang/Object"), (kc2, .object "java/lang/Object"), (kc1, .object "java/lang/Object")]) hP hD hK [11, 12, 13] [0, 1] rfl hk1072 hF1068 hB1072.1 ht1072 hvm1072 rfl rfl
  have hG : s.heap.size + 846 ≤ H1072.size := Nat.le_trans hG hz1072
  refine W.eq (g2 := F0 m 58 ls [.ref (z.2.2.1 128)]) (by rw [hr1072]) ?_
  refine va_castE (nm := "java/lang/Integer") hx hb hown (hts _ q_320) (va_Orecv (hX.2.2.1.1.1 128 (by decide)) hS) dX9_shown_58 ?_
  have hM1076 := k74_intValue l hl9 dC dI z H1072.size
  obtain ⟨hF1074, hC1077⟩ := pc_M hM1076 hP hD hK hS hX hT hA [] [] rfl rfl rfl
  refine va_calli (va_runV (As := []) (rest := []) ⟨hx, hb, hml, hown, hts⟩ hM1076 (cwV 0 hts (gV q_323 q_324 q_325 q_297 q_322) rfl rfl rfl hV_J6_intValue_8abf5 ⟨Nat.le_of_ble_eq_true rfl, Nat.le_of_ble_eq_true rfl⟩) ⟨pc_blind, va_Orecv (hX.2.2.1.1.1 128 (by decide)) hS, fun U hU hW => ⟨rfl, hC1077 U hU hW⟩⟩ rfl rfl hl.1 rfl (lv_room (Nat.le_of_ble_eq_true rfl)) dX9_shown_61 ⟨(Nat.le_of_ble_eq_true rfl), (Nat.le_of_ble_eq_true rfl)⟩) hS (fun q9 _ h9 => hF1074 q9 h9) hF1074 (fun r1079 u1078 t1078 H1078 L1078 ht1078 hvm1078 hw1078 hB1078 hz1078 hk1078 hS => ?_)
  have hP := pq_keep hP hD [] rfl hk1078 hB1078.1 ht1078
  have hG : s.heap.size + 846 ≤ H1078.size := Nat.le_trans hG hz1078
  refine W.eq (g2 := F0 m 64 ls [.int 0]) (by rw [hw1078]) ?_
  refine lv_istore (lv' := [(6, .int 0), (4, .int 0), (5, .ref a941), (3, .int 49), (1, .int 0), (2, .int 2), (0, .ref h0)]) hx hb dX9_shown_64 hl (by decide) rfl (fun ls hl => ?_)
  refine lv_iload hx hb dX9_shown_66 (lv_at hl 1 rfl) ?_
  refine lv_if_ne (tgt := 82) hx hb dX9_shown_68 (by decide) (fun cz => absurd (by decide) cz) (fun _ => ?_)
  refine lv_aload_n hx hb dX9_shown_71 rfl (lv_at hl 6 rfl) ?_
  refine lv_iload_n hx hb dX9_shown_72 rfl (lv_at hl 5 rfl) ?_
  refine lv_iload_n hx hb dX9_shown_73 rfl (lv_at hl 3 rfl) ?_
  refine lv_iload hx hb dX9_shown_74 (lv_at hl 0 rfl) ?_
  have hM1082 := k660_showsIt l hl9 dC dI z h0 h1 h2 h4 h5 h7 h8 h9 h10 h11 h12 h3 H1078.size kc0 kc2
  obtain ⟨hF1080, hC1083⟩ := pc_M hM1082 hP hD hK hS hX hT hA [0, 1, 2, 3, 4, 5, 6, 7, 8, 9, 10] [0, 1] rfl rfl rfl
  refine va_calli (va_runV (As := [.int 2, .int 49, .int 0]) (rest := []) ⟨hx, hb, hml, hown, hts⟩ hM1082 (cwV 3 hts (gV q_429 q_430 q_431 q_60 q_428) rfl rfl rfl hV_X9_showsIt ⟨Nat.le_of_ble_eq_true rfl, Nat.le_of_ble_eq_true rfl⟩) ⟨pc_blind, va_recv hK hP (ci := 8) (q := (RX9, TX9, 6)) (q0 := 0) rfl rfl, fun U hU hW => ⟨rfl, hC1083 U hU hW⟩⟩ rfl rfl hl.1 rfl (lv_room (Nat.le_of_ble_eq_true rfl)) dX9_shown_76 ⟨(Nat.le_of_ble_eq_true rfl), (Nat.le_of_ble_eq_true rfl)⟩) hS (fun q9 _ h9 => hF1080 q9 h9) hF1080 (fun r1085 u1084 t1084 H1084 L1084 ht1084 hvm1084 hw1084 hB1084 hz1084 hk1084 hS => ?_)
  have hP := pq_keep hP hD [0, 1, 2, 3, 4, 5, 6, 7, 8, 9, 10] rfl hk1084 hB1084.1 ht1084
  have hG : s.heap.size + 867 ≤ H1084.size := va_gr (g := 846) (g1 := 21) hG (by rw [← ht1084]; exact hB1084.2)
  refine W.eq (g2 := F0 m 79 ls [.int 0]) (by rw [hw1084]) ?_
  refine W.widen (k := 867) (n := 9372) (by decide) (by decide) ?_
  refine lv_if_eq (tgt := 86) hx hb dX9_shown_79 (by decide) (fun _ => ?_) (fun cz => absurd (by decide) cz)
  refine lv_iconst (v := 0) hx hb dX9_shown_86 (by decide) ?_
  refine lv_istore (lv' := [(4, .int 0), (6, .int 0), (5, .ref a941), (3, .int 49), (1, .int 0), (2, .int 2), (0, .ref h0)]) hx hb dX9_shown_87 hl (by decide) rfl (fun ls hl => ?_)
  refine lv_goto (tgt := 41) hx hb dX9_shown_89 (by decide) ?_
  refine lv_aload hx hb dX9_shown_41 (lv_at hl 2 rfl) ?_
  have hM1088 := k647_hasNext l hl9 dC dI z a941 h3 h6 H1084.size
  obtain ⟨hF1086, hC1089⟩ := pc_M hM1088 hP hD hK hS hX hT hA [11, 12] [] rfl rfl rfl
  refine va_callFi (va_runF (As := []) (rest := []) (hK.1 1 (RJx35411, TJx35411, 4) rfl).2 ⟨hx, hb, hml, hown, hts⟩ hM1088 (va_cwF 0 hts (gF q_261 q_262 q_263 q_246 q_260) rfl rfl rfl hT.2.2.2.2.2.2.1 hF_xIh ⟨Nat.le_of_ble_eq_true rfl, Nat.le_of_ble_eq_true rfl⟩) ⟨pc_blind, va_recv hK hP (ci := 1) (q := (RJx35411, TJx35411, 4)) (q0 := 11) rfl rfl, fun U hU hW => ⟨rfl, hC1089 U hU hW⟩⟩ rfl rfl hl.1 rfl (lv_room (Nat.le_of_ble_eq_true rfl)) dX9_shown_43 ⟨(Nat.le_of_ble_eq_true rfl), (Nat.le_of_ble_eq_true rfl)⟩) hS (fun q9 _ h9 => hF1086 q9 h9) hF1086 (fun r1091 u1090 t1090 H1090 L1090 ht1090 hvm1090 hw1090 hB1090 hz1090 hk1090 hS => ?_)
  have hP := pq_keep hP hD [11, 12] rfl hk1090 hB1090.1 ht1090
  have hG : s.heap.size + 867 ≤ H1090.size := Nat.le_trans hG hz1090
  refine W.eq (g2 := F0 m 48 ls [.int 1]) (by rw [hw1090]) ?_
  refine lv_if_eq (tgt := 92) hx hb dX9_shown_48 (by decide) (fun cz => absurd cz (by decide)) (fun _ => ?_)
  refine lv_aload hx hb dX9_shown_51 (lv_at hl 2 rfl) ?_
  have hM1094 := k649_next l hl9 dC dI z a941 h3 h6 H1090.size kc1
  obtain ⟨hF1092, hC1095⟩ := pc_M hM1094 hP hD hK hS hX hT hA [11, 12, 13] [2] rfl rfl rfl
  refine va_callFr (va_runF (As := []) (rest := []) (hK.1 1 (RJx35411, TJx35411, 4) rfl).2 ⟨hx, hb, hml, hown, hts⟩ hM1094 (va_cwF 0 hts (gF q_308 q_309 q_310 q_246 q_307) rfl rfl rfl hT.2.2.2.2.2.2.2.1 hF_xIn ⟨Nat.le_of_ble_eq_true rfl, Nat.le_of_ble_eq_true rfl⟩) ⟨pc_blind, va_recv hK hP (ci := 1) (q := (RJx35411, TJx35411, 4)) (q0 := 11) rfl rfl, fun U hU hW => ⟨rfl, hC1095 U hU hW⟩⟩ rfl rfl hl.1 rfl (lv_room (Nat.le_of_ble_eq_true rfl)) dX9_shown_53 ⟨(Nat.le_of_ble_eq_true rfl), (Nat.le_of_ble_eq_true rfl)⟩) hS (fun q9 _ h9 => hF1092 q9 h9) hF1092 (fun u1096 r1097 t1096 H1096 L1096 ht1096 hvm1096 hw1096 hB1096 hz1096 hk1096 hS => ?_)
  obtain ⟨hr1096, hB1096⟩ := hB1096
  obtain ⟨hP, hD, hK⟩ := pq_jn (wz := [(h0, ce21 h1 h2 h3 h4), (h1, ce201 h5), (h2, ce3 z.1), (h4, ce226 h7), (h5, ce200 kc0 h8 h9 h10 h11 h12), (h7, ce200 kc2 (z.2.2.1 128) (z.2.2.1 129) (z.2.2.1 130) (z.2.2.1 131) (z.2.2.1 132)), (h8, ce49), (h9, ce49), (h10, ce49), (h11, ce49), (h12, ce49), (a941, ce320 h3), (h3, ce276 h6), (h6, ce275 kc1 (z.2.2.1 128) (z.2.2.1 128) (z.2.2.1 128) (z.2.2.1 128) (z.2.2.1 128) (z.2.2.1 128) (z.2.2.1 128))]) (tz := [(kc0, .object "java/lang/Object"), (kc2, .object "java/lang/Object"), (kc1, .object "java/lang/Object")]) hP hD hK [11, 12, 13] [0, 1] rfl hk1096 hF1092 hB1096.1 ht1096 hvm1096 rfl rfl
  have hG : s.heap.size + 867 ≤ H1096.size := Nat.le_trans hG hz1096
  refine W.eq (g2 := F0 m 58 ls [.ref (z.2.2.1 128)]) (by rw [hr1096]) ?_
  refine va_castE (nm := "java/lang/Integer") hx hb hown (hts _ q_320) (va_Orecv (hX.2.2.1.1.1 128 (by decide)) hS) dX9_shown_58 ?_
  have hM1100 := k74_intValue l hl9 dC dI z H1096.size
  obtain ⟨hF1098, hC1101⟩ := pc_M hM1100 hP hD hK hS hX hT hA [] [] rfl rfl rfl
  refine va_calli (va_runV (As := []) (rest := []) ⟨hx, hb, hml, hown, hts⟩ hM1100 (cwV 0 hts (gV q_323 q_324 q_325 q_297 q_322) rfl rfl rfl hV_J6_intValue_8abf5 ⟨Nat.le_of_ble_eq_true rfl, Nat.le_of_ble_eq_true rfl⟩) ⟨pc_blind, va_Orecv (hX.2.2.1.1.1 128 (by decide)) hS, fun U hU hW => ⟨rfl, hC1101 U hU hW⟩⟩ rfl rfl hl.1 rfl (lv_room (Nat.le_of_ble_eq_true rfl)) dX9_shown_61 ⟨(Nat.le_of_ble_eq_true rfl), (Nat.le_of_ble_eq_true rfl)⟩) hS (fun q9 _ h9 => hF1098 q9 h9) hF1098 (fun r1103 u1102 t1102 H1102 L1102 ht1102 hvm1102 hw1102 hB1102 hz1102 hk1102 hS => ?_)
  have hP := pq_keep hP hD [] rfl hk1102 hB1102.1 ht1102
  have hG : s.heap.size + 867 ≤ H1102.size := Nat.le_trans hG hz1102
  refine W.eq (g2 := F0 m 64 ls [.int 0]) (by rw [hw1102]) ?_
  refine lv_istore (lv' := [(6, .int 0), (4, .int 0), (5, .ref a941), (3, .int 49), (1, .int 0), (2, .int 2), (0, .ref h0)]) hx hb dX9_shown_64 hl (by decide) rfl (fun ls hl => ?_)
  refine lv_iload hx hb dX9_shown_66 (lv_at hl 1 rfl) ?_
  refine lv_if_ne (tgt := 82) hx hb dX9_shown_68 (by decide) (fun cz => absurd (by decide) cz) (fun _ => ?_)
  refine lv_aload_n hx hb dX9_shown_71 rfl (lv_at hl 6 rfl) ?_
  refine lv_iload_n hx hb dX9_shown_72 rfl (lv_at hl 5 rfl) ?_
  refine lv_iload_n hx hb dX9_shown_73 rfl (lv_at hl 3 rfl) ?_
  refine lv_iload hx hb dX9_shown_74 (lv_at hl 0 rfl) ?_
  have hM1106 := k660_showsIt l hl9 dC dI z h0 h1 h2 h4 h5 h7 h8 h9 h10 h11 h12 h3 H1102.size kc0 kc2
  obtain ⟨hF1104, hC1107⟩ := pc_M hM1106 hP hD hK hS hX hT hA [0, 1, 2, 3, 4, 5, 6, 7, 8, 9, 10] [0, 1] rfl rfl rfl
  refine va_calli (va_runV (As := [.int 2, .int 49, .int 0]) (rest := []) ⟨hx, hb, hml, hown, hts⟩ hM1106 (cwV 3 hts (gV q_429 q_430 q_431 q_60 q_428) rfl rfl rfl hV_X9_showsIt ⟨Nat.le_of_ble_eq_true rfl, Nat.le_of_ble_eq_true rfl⟩) ⟨pc_blind, va_recv hK hP (ci := 8) (q := (RX9, TX9, 6)) (q0 := 0) rfl rfl, fun U hU hW => ⟨rfl, hC1107 U hU hW⟩⟩ rfl rfl hl.1 rfl (lv_room (Nat.le_of_ble_eq_true rfl)) dX9_shown_76 ⟨(Nat.le_of_ble_eq_true rfl), (Nat.le_of_ble_eq_true rfl)⟩) hS (fun q9 _ h9 => hF1104 q9 h9) hF1104 (fun r1109 u1108 t1108 H1108 L1108 ht1108 hvm1108 hw1108 hB1108 hz1108 hk1108 hS => ?_)
  have hP := pq_keep hP hD [0, 1, 2, 3, 4, 5, 6, 7, 8, 9, 10] rfl hk1108 hB1108.1 ht1108
  have hG : s.heap.size + 888 ≤ H1108.size := va_gr (g := 867) (g1 := 21) hG (by rw [← ht1108]; exact hB1108.2)
  refine W.eq (g2 := F0 m 79 ls [.int 0]) (by rw [hw1108]) ?_
  refine W.widen (k := 888) (n := 9600) (by decide) (by decide) ?_
  refine lv_if_eq (tgt := 86) hx hb dX9_shown_79 (by decide) (fun _ => ?_) (fun cz => absurd (by decide) cz)
  refine lv_iconst (v := 0) hx hb dX9_shown_86 (by decide) ?_
  refine lv_istore (lv' := [(4, .int 0), (6, .int 0), (5, .ref a941), (3, .int 49), (1, .int 0), (2, .int 2), (0, .ref h0)]) hx hb dX9_shown_87 hl (by decide) rfl (fun ls hl => ?_)
  refine lv_goto (tgt := 41) hx hb dX9_shown_89 (by decide) ?_
  refine lv_aload hx hb dX9_shown_41 (lv_at hl 2 rfl) ?_
  have hM1112 := k650_hasNext l hl9 dC dI z a941 h3 h6 H1108.size
  obtain ⟨hF1110, hC1113⟩ := pc_M hM1112 hP hD hK hS hX hT hA [11, 12] [] rfl rfl rfl
  refine va_callFi (va_runF (As := []) (rest := []) (hK.1 1 (RJx35411, TJx35411, 4) rfl).2 ⟨hx, hb, hml, hown, hts⟩ hM1112 (va_cwF 0 hts (gF q_261 q_262 q_263 q_246 q_260) rfl rfl rfl hT.2.2.2.2.2.2.1 hF_xIh ⟨Nat.le_of_ble_eq_true rfl, Nat.le_of_ble_eq_true rfl⟩) ⟨pc_blind, va_recv hK hP (ci := 1) (q := (RJx35411, TJx35411, 4)) (q0 := 11) rfl rfl, fun U hU hW => ⟨rfl, hC1113 U hU hW⟩⟩ rfl rfl hl.1 rfl (lv_room (Nat.le_of_ble_eq_true rfl)) dX9_shown_43 ⟨(Nat.le_of_ble_eq_true rfl), (Nat.le_of_ble_eq_true rfl)⟩) hS (fun q9 _ h9 => hF1110 q9 h9) hF1110 (fun r1115 u1114 t1114 H1114 L1114 ht1114 hvm1114 hw1114 hB1114 hz1114 hk1114 hS => ?_)
  have hP := pq_keep hP hD [11, 12] rfl hk1114 hB1114.1 ht1114
  have hG : s.heap.size + 888 ≤ H1114.size := Nat.le_trans hG hz1114
  refine W.eq (g2 := F0 m 48 ls [.int 0]) (by rw [hw1114]) ?_
  refine lv_if_eq (tgt := 92) hx hb dX9_shown_48 (by decide) (fun _ => ?_) (fun cz => absurd (by decide) cz)
  refine lv_iload_n hx hb dX9_shown_92 rfl (lv_at hl 4 rfl) ?_
  refine lv_iload hx hb dX9_shown_93 (lv_at hl 0 rfl) ?_
  refine lv_if_eq (tgt := 102) hx hb dX9_shown_95 (by decide) (fun _ => ?_) (fun cz => absurd (by decide) cz)
  refine lv_iconst (v := 0) hx hb dX9_shown_102 (by decide) ?_
  refine lv_iadd hx hb dX9_shown_103 ?_
  refine lv_topi (fun y1116 ey1116 => ?_)
  obtain rfl : y1116 = 0 := ey1116.trans (by decide)
  refine lv_istore_n (lv' := [(1, .int 0), (4, .int 0), (6, .int 0), (5, .ref a941), (3, .int 49), (2, .int 2), (0, .ref h0)]) hx hb dX9_shown_104 rfl hl (by decide) rfl (fun ls hl => ?_)
  refine lv_iload_n hx hb dX9_shown_105 rfl (lv_at hl 4 rfl) ?_
  refine lv_iconst (v := 1) hx hb dX9_shown_106 (by decide) ?_
  refine lv_iadd hx hb dX9_shown_107 ?_
  refine lv_topi (fun y1117 ey1117 => ?_)
  obtain rfl : y1117 = 50 := ey1117.trans (by decide)
  refine lv_i2c (v := 50) hx hb dX9_shown_108 (by decide) ?_
  refine lv_istore_n (lv' := [(3, .int 50), (1, .int 0), (4, .int 0), (6, .int 0), (5, .ref a941), (2, .int 2), (0, .ref h0)]) hx hb dX9_shown_109 rfl hl (by decide) rfl (fun ls hl => ?_)
  refine lv_goto (tgt := 23) hx hb dX9_shown_110 (by decide) ?_
  exact hend _ _ _ hS (hP.sub [0, 1, 2, 12, 3, 4, 13, 5, 6, 7, 8, 9, 10] rfl) (hD.sub [0, 1, 2, 12, 3, 4, 13, 5, 6, 7, 8, 9, 10] rfl rfl) (lv_sub hl [0, 1, 5, 6] rfl) hG

set_option maxHeartbeats 8000000 in
set_option maxRecDepth 100000 in
theorem k669_shown_g9 {p : Program} {l : Launch} {e : Env} {s : State} {m : MethodId} {args : Array Value} {below : List Frame} {meth : Method} {c : Code} {Q : State → Prop} {A : Nat → Prop} {H : Heap} {locs : List Loc} {ls : Array Slot} {dC : Nat → ClassId} {dI : Nat → Nat → Nat} {z : XZ} {h0 h1 h2 h3 h4 h5 h6 h7 h8 h9 h10 h11 h12 : Nat} {kc0 kc1 kc2 : ClassId} (hl9 : l.stackTraces = false) (hx : p.tables.exec = Jvm.exec) (hb : c.code = cX9_shown) (hml : c.maxLocals = 7) (hown : s.vm.findClass RX9 = some m.cls) (hts : ∀ w ∈ wsL_law, w.before args s = true) (hA : ∀ q : Nat, s.heap.size ≤ q → A q) (hX : XE z A s s.heap) (hT : XT s) (hS : va_S A s.heap H locs) (hP : va_P (dC, dI) xCl [(h0, ce21 h1 h2 h3 h4), (h1, ce201 h5), (h2, ce3 z.1), (h3, ce276 h6), (h4, ce226 h7), (h5, ce200 kc0 h8 h9 h10 h11 h12), (h6, ce275 kc1 (z.2.2.1 128) (z.2.2.1 128) (z.2.2.1 128) (z.2.2.1 128) (z.2.2.1 128) (z.2.2.1 128) (z.2.2.1 128)), (h7, ce200 kc2 (z.2.2.1 128) (z.2.2.1 129) (z.2.2.1 130) (z.2.2.1 131) (z.2.2.1 132)), (h8, ce49), (h9, ce49), (h10, ce49), (h11, ce49), (h12, ce49)] H) (hD : va_D A [(h0, ce21 h1 h2 h3 h4), (h1, ce201 h5), (h2, ce3 z.1), (h3, ce276 h6), (h4, ce226 h7), (h5, ce200 kc0 h8 h9 h10 h11 h12), (h6, ce275 kc1 (z.2.2.1 128) (z.2.2.1 128) (z.2.2.1 128) (z.2.2.1 128) (z.2.2.1 128) (z.2.2.1 128) (z.2.2.1 128)), (h7, ce200 kc2 (z.2.2.1 128) (z.2.2.1 129) (z.2.2.1 130) (z.2.2.1 131) (z.2.2.1 132)), (h8, ce49), (h9, ce49), (h10, ce49), (h11, ce49), (h12, ce49)]) (hK : va_K (dC, dI) xCl [(kc0, .object "java/lang/Object"), (kc1, .object "java/lang/Object"), (kc2, .object "java/lang/Object")] s) (hl : lv_has ls 7 [(3, .int 50), (1, .int 0), (2, .int 2), (0, .ref h0)]) (hG : s.heap.size + 888 ≤ H.size) (hend : ∀ (H' : Heap) (locs' : List Loc) (ls' : Array Slot), va_S A s.heap H' locs' → va_P (dC, dI) xCl [(h0, ce21 h1 h2 h3 h4), (h1, ce201 h5), (h2, ce3 z.1), (h3, ce276 h6), (h4, ce226 h7), (h5, ce200 kc0 h8 h9 h10 h11 h12), (h6, ce275 kc1 (z.2.2.1 128) (z.2.2.1 128) (z.2.2.1 128) (z.2.2.1 128) (z.2.2.1 128) (z.2.2.1 128) (z.2.2.1 128)), (h7, ce200 kc2 (z.2.2.1 128) (z.2.2.1 129) (z.2.2.1 130) (z.2.2.1 131) (z.2.2.1 132)), (h8, ce49), (h9, ce49), (h10, ce49), (h11, ce49), (h12, ce49)] H' → va_D A [(h0, ce21 h1 h2 h3 h4), (h1, ce201 h5), (h2, ce3 z.1), (h3, ce276 h6), (h4, ce226 h7), (h5, ce200 kc0 h8 h9 h10 h11 h12), (h6, ce275 kc1 (z.2.2.1 128) (z.2.2.1 128) (z.2.2.1 128) (z.2.2.1 128) (z.2.2.1 128) (z.2.2.1 128) (z.2.2.1 128)), (h7, ce200 kc2 (z.2.2.1 128) (z.2.2.1 129) (z.2.2.1 130) (z.2.2.1 131) (z.2.2.1 132)), (h8, ce49), (h9, ce49), (h10, ce49), (h11, ce49), (h12, ce49)] → lv_has ls' 7 [(3, .int 48), (2, .int 3), (1, .int 0), (0, .ref h0)] → s.heap.size + 888 ≤ H'.size → W p l e ({ frames := 5, cells := 1480, slots := 16000, locals := 121 } : Room) s m args below meth c H' locs' 888 9600 Q (F0 m 23 ls' [])) : W p l e ({ frames := 5, cells := 1480, slots := 16000, locals := 121 } : Room) s m args below meth c H locs 888 9600 Q (F0 m 23 ls []) := by
  refine lv_iload_n hx hb dX9_shown_23 rfl (lv_at hl 0 rfl) ?_
  refine lv_bipush (v := 49) hx hb dX9_shown_24 (by decide) ?_
  refine lv_icmp_gt (tgt := 113) hx hb dX9_shown_26 (by decide) (fun _ => ?_) (fun cz => absurd (by decide) cz)
  refine lv_iinc (v := 3) (lv' := [(2, .int 3), (3, .int 50), (1, .int 0), (0, .ref h0)]) hx hb dX9_shown_113 hl (k := 2) rfl (by decide) (by decide) rfl (fun ls hl => ?_)
  refine lv_goto (tgt := 9) hx hb dX9_shown_116 (by decide) ?_
  refine lv_iload_n hx hb dX9_shown_9 rfl (lv_at hl 0 rfl) ?_
  refine lv_aload_n hx hb dX9_shown_10 rfl (lv_at hl 3 rfl) ?_
  refine va_get (D := (dC, dI)) (ci := 8) (v := .ref h1) (C := RX9) (T := TX9) (N := 6) hx hb hts in_X9 hown hK hP 0 rfl rfl 1 (by decide) (hts _ q_64) (fun _ h9 => h9) rfl dX9_shown_11 ?_
  have hM1120 := k20_size l hl9 dC dI z h1 h5 H.size 5 5
  obtain ⟨hF1118, hC1121⟩ := pc_M hM1120 hP hD hK hS hX hT hA [1] [] rfl rfl rfl
  refine va_calli (va_runV (As := []) (rest := [.int 3]) ⟨hx, hb, hml, hown, hts⟩ hM1120 (cwV 0 hts (gV q_272 q_77 q_78 q_12 q_75) rfl rfl rfl hV_Jx4a65c_size_8abf5 ⟨Nat.le_of_ble_eq_true rfl, Nat.le_of_ble_eq_true rfl⟩) ⟨pc_blind, va_recv hK hP (ci := 0) (q := (RJx4a65c, TJx4a65c, 3)) (q0 := 1) rfl rfl, fun U hU hW => ⟨rfl, hC1121 U hU hW⟩⟩ rfl rfl hl.1 rfl (lv_room (Nat.le_of_ble_eq_true rfl)) dX9_shown_14 ⟨(Nat.le_of_ble_eq_true rfl), (Nat.le_of_ble_eq_true rfl)⟩) hS (fun q9 _ h9 => hF1118 q9 h9) hF1118 (fun r1123 u1122 t1122 H1122 L1122 ht1122 hvm1122 hw1122 hB1122 hz1122 hk1122 hS => ?_)
  have hP := pq_keep hP hD [1] rfl hk1122 hB1122.1 ht1122
  have hG : s.heap.size + 888 ≤ H1122.size := Nat.le_trans hG hz1122
  refine W.eq (g2 := F0 m 17 ls [.int 5, .int 3]) (by rw [hw1122]) ?_
  refine lv_icmp_ge (tgt := 119) hx hb dX9_shown_17 (by decide) (fun cz => absurd cz (by decide)) (fun _ => ?_)
  refine lv_bipush (v := 48) hx hb dX9_shown_20 (by decide) ?_
  refine lv_istore_n (lv' := [(3, .int 48), (2, .int 3), (1, .int 0), (0, .ref h0)]) hx hb dX9_shown_22 rfl hl (by decide) rfl (fun ls hl => ?_)
  exact hend _ _ _ hS (hP.sub [0, 1, 2, 3, 4, 5, 6, 7, 8, 9, 10, 11, 12] rfl) (hD.sub [0, 1, 2, 3, 4, 5, 6, 7, 8, 9, 10, 11, 12] rfl rfl) (lv_sub hl [0, 1, 2, 3] rfl) hG

set_option maxHeartbeats 8000000 in
set_option maxRecDepth 100000 in
theorem k669_shown_g10 {p : Program} {l : Launch} {e : Env} {s : State} {m : MethodId} {args : Array Value} {below : List Frame} {meth : Method} {c : Code} {Q : State → Prop} {A : Nat → Prop} {H : Heap} {locs : List Loc} {ls : Array Slot} {dC : Nat → ClassId} {dI : Nat → Nat → Nat} {z : XZ} {h0 h1 h2 h3 h4 h5 h6 h7 h8 h9 h10 h11 h12 : Nat} {kc0 kc1 kc2 : ClassId} (hl9 : l.stackTraces = false) (hx : p.tables.exec = Jvm.exec) (hb : c.code = cX9_shown) (hml : c.maxLocals = 7) (hown : s.vm.findClass RX9 = some m.cls) (hts : ∀ w ∈ wsL_law, w.before args s = true) (hA : ∀ q : Nat, s.heap.size ≤ q → A q) (hX : XE z A s s.heap) (hT : XT s) (hS : va_S A s.heap H locs) (hP : va_P (dC, dI) xCl [(h0, ce21 h1 h2 h3 h4), (h1, ce201 h5), (h2, ce3 z.1), (h3, ce276 h6), (h4, ce226 h7), (h5, ce200 kc0 h8 h9 h10 h11 h12), (h6, ce275 kc1 (z.2.2.1 128) (z.2.2.1 128) (z.2.2.1 128) (z.2.2.1 128) (z.2.2.1 128) (z.2.2.1 128) (z.2.2.1 128)), (h7, ce200 kc2 (z.2.2.1 128) (z.2.2.1 129) (z.2.2.1 130) (z.2.2.1 131) (z.2.2.1 132)), (h8, ce49), (h9, ce49), (h10, ce49), (h11, ce49), (h12, ce49)] H) (hD : va_D A [(h0, ce21 h1 h2 h3 h4), (h1, ce201 h5), (h2, ce3 z.1), (h3, ce276 h6), (h4, ce226 h7), (h5, ce200 kc0 h8 h9 h10 h11 h12), (h6, ce275 kc1 (z.2.2.1 128) (z.2.2.1 128) (z.2.2.1 128) (z.2.2.1 128) (z.2.2.1 128) (z.2.2.1 128) (z.2.2.1 128)), (h7, ce200 kc2 (z.2.2.1 128) (z.2.2.1 129) (z.2.2.1 130) (z.2.2.1 131) (z.2.2.1 132)), (h8, ce49), (h9, ce49), (h10, ce49), (h11, ce49), (h12, ce49)]) (hK : va_K (dC, dI) xCl [(kc0, .object "java/lang/Object"), (kc1, .object "java/lang/Object"), (kc2, .object "java/lang/Object")] s) (hl : lv_has ls 7 [(3, .int 48), (2, .int 3), (1, .int 0), (0, .ref h0)]) (hG : s.heap.size + 888 ≤ H.size) (hend : ∀ (H' : Heap) (locs' : List Loc) (ls' : Array Slot), va_S A s.heap H' locs' → va_P (dC, dI) xCl [(h0, ce21 h1 h2 h3 h4), (h1, ce201 h5), (h2, ce3 z.1), (h3, ce276 h6), (h4, ce226 h7), (h5, ce200 kc0 h8 h9 h10 h11 h12), (h6, ce275 kc1 (z.2.2.1 128) (z.2.2.1 128) (z.2.2.1 128) (z.2.2.1 128) (z.2.2.1 128) (z.2.2.1 128) (z.2.2.1 128)), (h7, ce200 kc2 (z.2.2.1 128) (z.2.2.1 129) (z.2.2.1 130) (z.2.2.1 131) (z.2.2.1 132)), (h8, ce49), (h9, ce49), (h10, ce49), (h11, ce49), (h12, ce49)] H' → va_D A [(h0, ce21 h1 h2 h3 h4), (h1, ce201 h5), (h2, ce3 z.1), (h3, ce276 h6), (h4, ce226 h7), (h5, ce200 kc0 h8 h9 h10 h11 h12), (h6, ce275 kc1 (z.2.2.1 128) (z.2.2.1 128) (z.2.2.1 128) (z.2.2.1 128) (z.2.2.1 128) (z.2.2.1 128) (z.2.2.1 128)), (h7, ce200 kc2 (z.2.2.1 128) (z.2.2.1 129) (z.2.2.1 130) (z.2.2.1 131) (z.2.2.1 132)), (h8, ce49), (h9, ce49), (h10, ce49), (h11, ce49), (h12, ce49)] → lv_has ls' 7 [(3, .int 49), (1, .int 0), (2, .int 3), (0, .ref h0)] → s.heap.size + 1036 ≤ H'.size → W p l e ({ frames := 5, cells := 1480, slots := 16000, locals := 121 } : Room) s m args below meth c H' locs' 1036 11200 Q (F0 m 23 ls' [])) : W p l e ({ frames := 5, cells := 1480, slots := 16000, locals := 121 } : Room) s m args below meth c H locs 888 9600 Q (F0 m 23 ls []) := by
  refine lv_iload_n hx hb dX9_shown_23 rfl (lv_at hl 0 rfl) ?_
  refine lv_bipush (v := 49) hx hb dX9_shown_24 (by decide) ?_
  refine lv_icmp_gt (tgt := 113) hx hb dX9_shown_26 (by decide) (fun cz => absurd cz (by decide)) (fun _ => ?_)
  refine lv_iconst (v := 0) hx hb dX9_shown_29 (by decide) ?_
  refine lv_istore (lv' := [(4, .int 0), (3, .int 48), (2, .int 3), (1, .int 0), (0, .ref h0)]) hx hb dX9_shown_30 hl (by decide) rfl (fun ls hl => ?_)
  refine lv_aload_n hx hb dX9_shown_32 rfl (lv_at hl 4 rfl) ?_
  refine va_get (D := (dC, dI)) (ci := 8) (v := .ref h3) (C := RX9) (T := TX9) (N := 6) hx hb hts in_X9 hown hK hP 0 rfl rfl 3 (by decide) (hts _ q_66) (fun _ h9 => h9) rfl dX9_shown_33 ?_
  have hM1126 := k619_iterator l hl9 dC dI z h3 h6 H.size
  obtain ⟨hF1124, hC1127⟩ := pc_M hM1126 hP hD hK hS hX hT hA [3] [] rfl rfl rfl
  refine va_callr (va_runV (As := []) (rest := []) ⟨hx, hb, hml, hown, hts⟩ hM1126 (cwV 0 hts (gV q_256 q_257 q_258 q_12 q_255) rfl rfl rfl hV_Jx4a65c_iterator_32c93 ⟨Nat.le_of_ble_eq_true rfl, Nat.le_of_ble_eq_true rfl⟩) ⟨pc_blind, va_recv hK hP (ci := 0) (q := (RJx4a65c, TJx4a65c, 3)) (q0 := 3) rfl rfl, fun U hU hW => ⟨rfl, hC1127 U hU hW⟩⟩ rfl rfl hl.1 rfl (lv_room (Nat.le_of_ble_eq_true rfl)) dX9_shown_36 ⟨(Nat.le_of_ble_eq_true rfl), (Nat.le_of_ble_eq_true rfl)⟩) hS (fun q9 _ h9 => hF1124 q9 h9) hF1124 (fun u1128 r1129 t1128 H1128 L1128 ht1128 hvm1128 hw1128 hB1128 hz1128 hk1128 hS => ?_)
  obtain ⟨a1130, hr1128, hB1128⟩ := hB1128
  obtain ⟨hP, hD, hK⟩ := pq_jn (wz := [(h0, ce21 h1 h2 h3 h4), (h1, ce201 h5), (h2, ce3 z.1), (h4, ce226 h7), (h5, ce200 kc0 h8 h9 h10 h11 h12), (h6, ce275 kc1 (z.2.2.1 128) (z.2.2.1 128) (z.2.2.1 128) (z.2.2.1 128) (z.2.2.1 128) (z.2.2.1 128) (z.2.2.1 128)), (h7, ce200 kc2 (z.2.2.1 128) (z.2.2.1 129) (z.2.2.1 130) (z.2.2.1 131) (z.2.2.1 132)), (h8, ce49), (h9, ce49), (h10, ce49), (h11, ce49), (h12, ce49), (h3, ce276 h6), (a1130, ce292 h3)]) (tz := [(kc0, .object "java/lang/Object"), (kc1, .object "java/lang/Object"), (kc2, .object "java/lang/Object")]) hP hD hK [3] [0, 1, 2] rfl hk1128 hF1124 hB1128.1 ht1128 hvm1128 rfl rfl
  have hG : s.heap.size + 889 ≤ H1128.size := va_gr (g := 888) (g1 := 1) hG (by rw [← ht1128]; exact hB1128.2)
  refine W.eq (g2 := F0 m 39 ls [.ref a1130]) (by rw [hr1128]) ?_
  refine W.widen (k := 889) (n := 9604) (by decide) (by decide) ?_
  refine lv_astore (lv' := [(5, .ref a1130), (4, .int 0), (3, .int 48), (2, .int 3), (1, .int 0), (0, .ref h0)]) hx hb dX9_shown_39 hl (by decide) rfl (fun ls hl => ?_)
  refine lv_aload hx hb dX9_shown_41 (lv_at hl 0 rfl) ?_
  have hM1133 := k620_hasNext l hl9 dC dI z a1130 h3 h6 H1128.size
  obtain ⟨hF1131, hC1134⟩ := pc_M hM1133 hP hD hK hS hX hT hA [13, 12] [] rfl rfl rfl
  refine va_callFi (va_runF (As := []) (rest := []) (hK.1 1 (RJx35411, TJx35411, 4) rfl).2 ⟨hx, hb, hml, hown, hts⟩ hM1133 (va_cwF 0 hts (gF q_261 q_262 q_263 q_246 q_260) rfl rfl rfl hT.2.2.2.2.2.2.1 hF_xIh ⟨Nat.le_of_ble_eq_true rfl, Nat.le_of_ble_eq_true rfl⟩) ⟨pc_blind, va_recv hK hP (ci := 1) (q := (RJx35411, TJx35411, 4)) (q0 := 13) rfl rfl, fun U hU hW => ⟨rfl, hC1134 U hU hW⟩⟩ rfl rfl hl.1 rfl (lv_room (Nat.le_of_ble_eq_true rfl)) dX9_shown_43 ⟨(Nat.le_of_ble_eq_true rfl), (Nat.le_of_ble_eq_true rfl)⟩) hS (fun q9 _ h9 => hF1131 q9 h9) hF1131 (fun r1136 u1135 t1135 H1135 L1135 ht1135 hvm1135 hw1135 hB1135 hz1135 hk1135 hS => ?_)
  have hP := pq_keep hP hD [13, 12] rfl hk1135 hB1135.1 ht1135
  have hG : s.heap.size + 889 ≤ H1135.size := Nat.le_trans hG hz1135
  refine W.eq (g2 := F0 m 48 ls [.int 1]) (by rw [hw1135]) ?_
  refine lv_if_eq (tgt := 92) hx hb dX9_shown_48 (by decide) (fun cz => absurd cz (by decide)) (fun _ => ?_)
  refine lv_aload hx hb dX9_shown_51 (lv_at hl 0 rfl) ?_
  have hM1139 := k622_next l hl9 dC dI z a1130 h3 h6 H1135.size kc1
  obtain ⟨hF1137, hC1140⟩ := pc_M hM1139 hP hD hK hS hX hT hA [13, 12, 5] [1] rfl rfl rfl
  refine va_callFr (va_runF (As := []) (rest := []) (hK.1 1 (RJx35411, TJx35411, 4) rfl).2 ⟨hx, hb, hml, hown, hts⟩ hM1139 (va_cwF 0 hts (gF q_308 q_309 q_310 q_246 q_307) rfl rfl rfl hT.2.2.2.2.2.2.2.1 hF_xIn ⟨Nat.le_of_ble_eq_true rfl, Nat.le_of_ble_eq_true rfl⟩) ⟨pc_blind, va_recv hK hP (ci := 1) (q := (RJx35411, TJx35411, 4)) (q0 := 13) rfl rfl, fun U hU hW => ⟨rfl, hC1140 U hU hW⟩⟩ rfl rfl hl.1 rfl (lv_room (Nat.le_of_ble_eq_true rfl)) dX9_shown_53 ⟨(Nat.le_of_ble_eq_true rfl), (Nat.le_of_ble_eq_true rfl)⟩) hS (fun q9 _ h9 => hF1137 q9 h9) hF1137 (fun u1141 r1142 t1141 H1141 L1141 ht1141 hvm1141 hw1141 hB1141 hz1141 hk1141 hS => ?_)
  obtain ⟨hr1141, hB1141⟩ := hB1141
  obtain ⟨hP, hD, hK⟩ := pq_jn (wz := [(h0, ce21 h1 h2 h3 h4), (h1, ce201 h5), (h2, ce3 z.1), (h4, ce226 h7), (h5, ce200 kc0 h8 h9 h10 h11 h12), (h7, ce200 kc2 (z.2.2.1 128) (z.2.2.1 129) (z.2.2.1 130) (z.2.2.1 131) (z.2.2.1 132)), (h8, ce49), (h9, ce49), (h10, ce49), (h11, ce49), (h12, ce49), (a1130, ce294 h3), (h3, ce276 h6), (h6, ce275 kc1 (z.2.2.1 128) (z.2.2.1 128) (z.2.2.1 128) (z.2.2.1 128) (z.2.2.1 128) (z.2.2.1 128) (z.2.2.1 128))]) (tz := [(kc0, .object "java/lang/Object"), (kc2, .object "java/lang/Object"), (kc1, .object "java/lang/Object")]) hP hD hK [13, 12, 5] [0, 2] rfl hk1141 hF1137 hB1141.1 ht1141 hvm1141 rfl rfl
  have hG : s.heap.size + 889 ≤ H1141.size := Nat.le_trans hG hz1141
  refine W.eq (g2 := F0 m 58 ls [.ref (z.2.2.1 128)]) (by rw [hr1141]) ?_
  refine va_castE (nm := "java/lang/Integer") hx hb hown (hts _ q_320) (va_Orecv (hX.2.2.1.1.1 128 (by decide)) hS) dX9_shown_58 ?_
  have hM1145 := k74_intValue l hl9 dC dI z H1141.size
  obtain ⟨hF1143, hC1146⟩ := pc_M hM1145 hP hD hK hS hX hT hA [] [] rfl rfl rfl
  refine va_calli (va_runV (As := []) (rest := []) ⟨hx, hb, hml, hown, hts⟩ hM1145 (cwV 0 hts (gV q_323 q_324 q_325 q_297 q_322) rfl rfl rfl hV_J6_intValue_8abf5 ⟨Nat.le_of_ble_eq_true rfl, Nat.le_of_ble_eq_true rfl⟩) ⟨pc_blind, va_Orecv (hX.2.2.1.1.1 128 (by decide)) hS, fun U hU hW => ⟨rfl, hC1146 U hU hW⟩⟩ rfl rfl hl.1 rfl (lv_room (Nat.le_of_ble_eq_true rfl)) dX9_shown_61 ⟨(Nat.le_of_ble_eq_true rfl), (Nat.le_of_ble_eq_true rfl)⟩) hS (fun q9 _ h9 => hF1143 q9 h9) hF1143 (fun r1148 u1147 t1147 H1147 L1147 ht1147 hvm1147 hw1147 hB1147 hz1147 hk1147 hS => ?_)
  have hP := pq_keep hP hD [] rfl hk1147 hB1147.1 ht1147
  have hG : s.heap.size + 889 ≤ H1147.size := Nat.le_trans hG hz1147
  refine W.eq (g2 := F0 m 64 ls [.int 0]) (by rw [hw1147]) ?_
  refine lv_istore (lv' := [(6, .int 0), (5, .ref a1130), (4, .int 0), (3, .int 48), (2, .int 3), (1, .int 0), (0, .ref h0)]) hx hb dX9_shown_64 hl (by decide) rfl (fun ls hl => ?_)
  refine lv_iload hx hb dX9_shown_66 (lv_at hl 2 rfl) ?_
  refine lv_if_ne (tgt := 82) hx hb dX9_shown_68 (by decide) (fun cz => absurd (by decide) cz) (fun _ => ?_)
  refine lv_aload_n hx hb dX9_shown_71 rfl (lv_at hl 6 rfl) ?_
  refine lv_iload_n hx hb dX9_shown_72 rfl (lv_at hl 4 rfl) ?_
  refine lv_iload_n hx hb dX9_shown_73 rfl (lv_at hl 3 rfl) ?_
  refine lv_iload hx hb dX9_shown_74 (lv_at hl 0 rfl) ?_
  have hM1151 := k662_showsIt l hl9 dC dI z h0 h1 h2 h4 h5 h7 h8 h9 h10 h11 h12 h3 H1147.size kc0 kc2
  obtain ⟨hF1149, hC1152⟩ := pc_M hM1151 hP hD hK hS hX hT hA [0, 1, 2, 3, 4, 5, 6, 7, 8, 9, 10] [0, 1] rfl rfl rfl
  refine va_calli (va_runV (As := [.int 3, .int 48, .int 0]) (rest := []) ⟨hx, hb, hml, hown, hts⟩ hM1151 (cwV 3 hts (gV q_429 q_430 q_431 q_60 q_428) rfl rfl rfl hV_X9_showsIt ⟨Nat.le_of_ble_eq_true rfl, Nat.le_of_ble_eq_true rfl⟩) ⟨pc_blind, va_recv hK hP (ci := 8) (q := (RX9, TX9, 6)) (q0 := 0) rfl rfl, fun U hU hW => ⟨rfl, hC1152 U hU hW⟩⟩ rfl rfl hl.1 rfl (lv_room (Nat.le_of_ble_eq_true rfl)) dX9_shown_76 ⟨(Nat.le_of_ble_eq_true rfl), (Nat.le_of_ble_eq_true rfl)⟩) hS (fun q9 _ h9 => hF1149 q9 h9) hF1149 (fun r1154 u1153 t1153 H1153 L1153 ht1153 hvm1153 hw1153 hB1153 hz1153 hk1153 hS => ?_)
  have hP := pq_keep hP hD [0, 1, 2, 3, 4, 5, 6, 7, 8, 9, 10] rfl hk1153 hB1153.1 ht1153
  have hG : s.heap.size + 910 ≤ H1153.size := va_gr (g := 889) (g1 := 21) hG (by rw [← ht1153]; exact hB1153.2)
  refine W.eq (g2 := F0 m 79 ls [.int 0]) (by rw [hw1153]) ?_
  refine W.widen (k := 910) (n := 9832) (by decide) (by decide) ?_
  refine lv_if_eq (tgt := 86) hx hb dX9_shown_79 (by decide) (fun _ => ?_) (fun cz => absurd (by decide) cz)
  refine lv_iconst (v := 0) hx hb dX9_shown_86 (by decide) ?_
  refine lv_istore (lv' := [(4, .int 0), (6, .int 0), (5, .ref a1130), (3, .int 48), (2, .int 3), (1, .int 0), (0, .ref h0)]) hx hb dX9_shown_87 hl (by decide) rfl (fun ls hl => ?_)
  refine lv_goto (tgt := 41) hx hb dX9_shown_89 (by decide) ?_
  refine lv_aload hx hb dX9_shown_41 (lv_at hl 2 rfl) ?_
  have hM1157 := k632_hasNext l hl9 dC dI z a1130 h3 h6 H1153.size
  obtain ⟨hF1155, hC1158⟩ := pc_M hM1157 hP hD hK hS hX hT hA [11, 12] [] rfl rfl rfl
  refine va_callFi (va_runF (As := []) (rest := []) (hK.1 1 (RJx35411, TJx35411, 4) rfl).2 ⟨hx, hb, hml, hown, hts⟩ hM1157 (va_cwF 0 hts (gF q_261 q_262 q_263 q_246 q_260) rfl rfl rfl hT.2.2.2.2.2.2.1 hF_xIh ⟨Nat.le_of_ble_eq_true rfl, Nat.le_of_ble_eq_true rfl⟩) ⟨pc_blind, va_recv hK hP (ci := 1) (q := (RJx35411, TJx35411, 4)) (q0 := 11) rfl rfl, fun U hU hW => ⟨rfl, hC1158 U hU hW⟩⟩ rfl rfl hl.1 rfl (lv_room (Nat.le_of_ble_eq_true rfl)) dX9_shown_43 ⟨(Nat.le_of_ble_eq_true rfl), (Nat.le_of_ble_eq_true rfl)⟩) hS (fun q9 _ h9 => hF1155 q9 h9) hF1155 (fun r1160 u1159 t1159 H1159 L1159 ht1159 hvm1159 hw1159 hB1159 hz1159 hk1159 hS => ?_)
  have hP := pq_keep hP hD [11, 12] rfl hk1159 hB1159.1 ht1159
  have hG : s.heap.size + 910 ≤ H1159.size := Nat.le_trans hG hz1159
  refine W.eq (g2 := F0 m 48 ls [.int 1]) (by rw [hw1159]) ?_
  refine lv_if_eq (tgt := 92) hx hb dX9_shown_48 (by decide) (fun cz => absurd cz (by decide)) (fun _ => ?_)
  refine lv_aload hx hb dX9_shown_51 (lv_at hl 2 rfl) ?_
  have hM1163 := k634_next l hl9 dC dI z a1130 h3 h6 H1159.size kc1
  obtain ⟨hF1161, hC1164⟩ := pc_M hM1163 hP hD hK hS hX hT hA [11, 12, 13] [2] rfl rfl rfl
  refine va_callFr (va_runF (As := []) (rest := []) (hK.1 1 (RJx35411, TJx35411, 4) rfl).2 ⟨hx, hb, hml, hown, hts⟩ hM1163 (va_cwF 0 hts (gF q_308 q_309 q_310 q_246 q_307) rfl rfl rfl hT.2.2.2.2.2.2.2.1 hF_xIn ⟨Nat.le_of_ble_eq_true rfl, Nat.le_of_ble_eq_true rfl⟩) ⟨pc_blind, va_recv hK hP (ci := 1) (q := (RJx35411, TJx35411, 4)) (q0 := 11) rfl rfl, fun U hU hW => ⟨rfl, hC1164 U hU hW⟩⟩ rfl rfl hl.1 rfl (lv_room (Nat.le_of_ble_eq_true rfl)) dX9_shown_53 ⟨(Nat.le_of_ble_eq_true rfl), (Nat.le_of_ble_eq_true rfl)⟩) hS (fun q9 _ h9 => hF1161 q9 h9) hF1161 (fun u1165 r1166 t1165 H1165 L1165 ht1165 hvm1165 hw1165 hB1165 hz1165 hk1165 hS => ?_)
  obtain ⟨hr1165, hB1165⟩ := hB1165
  obtain ⟨hP, hD, hK⟩ := pq_jn (wz := [(h0, ce21 h1 h2 h3 h4), (h1, ce201 h5), (h2, ce3 z.1), (h4, ce226 h7), (h5, ce200 kc0 h8 h9 h10 h11 h12), (h7, ce200 kc2 (z.2.2.1 128) (z.2.2.1 129) (z.2.2.1 130) (z.2.2.1 131) (z.2.2.1 132)), (h8, ce49), (h9, ce49), (h10, ce49), (h11, ce49), (h12, ce49), (a1130, ce310 h3), (h3, ce276 h6), (h6, ce275 kc1 (z.2.2.1 128) (z.2.2.1 128) (z.2.2.1 128) (z.2.2.1 128) (z.2.2.1 128) (z.2.2.1 128) (z.2.2.1 128))]) (tz := [(kc0, .object "java/lang/Object"), (kc2, .object "java/lang/Object"), (kc1, .object "java/lang/Object")]) hP hD hK [11, 12, 13] [0, 1] rfl hk1165 hF1161 hB1165.1 ht1165 hvm1165 rfl rfl
  have hG : s.heap.size + 910 ≤ H1165.size := Nat.le_trans hG hz1165
  refine W.eq (g2 := F0 m 58 ls [.ref (z.2.2.1 128)]) (by rw [hr1165]) ?_
  refine va_castE (nm := "java/lang/Integer") hx hb hown (hts _ q_320) (va_Orecv (hX.2.2.1.1.1 128 (by decide)) hS) dX9_shown_58 ?_
  have hM1169 := k74_intValue l hl9 dC dI z H1165.size
  obtain ⟨hF1167, hC1170⟩ := pc_M hM1169 hP hD hK hS hX hT hA [] [] rfl rfl rfl
  refine va_calli (va_runV (As := []) (rest := []) ⟨hx, hb, hml, hown, hts⟩ hM1169 (cwV 0 hts (gV q_323 q_324 q_325 q_297 q_322) rfl rfl rfl hV_J6_intValue_8abf5 ⟨Nat.le_of_ble_eq_true rfl, Nat.le_of_ble_eq_true rfl⟩) ⟨pc_blind, va_Orecv (hX.2.2.1.1.1 128 (by decide)) hS, fun U hU hW => ⟨rfl, hC1170 U hU hW⟩⟩ rfl rfl hl.1 rfl (lv_room (Nat.le_of_ble_eq_true rfl)) dX9_shown_61 ⟨(Nat.le_of_ble_eq_true rfl), (Nat.le_of_ble_eq_true rfl)⟩) hS (fun q9 _ h9 => hF1167 q9 h9) hF1167 (fun r1172 u1171 t1171 H1171 L1171 ht1171 hvm1171 hw1171 hB1171 hz1171 hk1171 hS => ?_)
  have hP := pq_keep hP hD [] rfl hk1171 hB1171.1 ht1171
  have hG : s.heap.size + 910 ≤ H1171.size := Nat.le_trans hG hz1171
  refine W.eq (g2 := F0 m 64 ls [.int 0]) (by rw [hw1171]) ?_
  refine lv_istore (lv' := [(6, .int 0), (4, .int 0), (5, .ref a1130), (3, .int 48), (2, .int 3), (1, .int 0), (0, .ref h0)]) hx hb dX9_shown_64 hl (by decide) rfl (fun ls hl => ?_)
  refine lv_iload hx hb dX9_shown_66 (lv_at hl 1 rfl) ?_
  refine lv_if_ne (tgt := 82) hx hb dX9_shown_68 (by decide) (fun cz => absurd (by decide) cz) (fun _ => ?_)
  refine lv_aload_n hx hb dX9_shown_71 rfl (lv_at hl 6 rfl) ?_
  refine lv_iload_n hx hb dX9_shown_72 rfl (lv_at hl 4 rfl) ?_
  refine lv_iload_n hx hb dX9_shown_73 rfl (lv_at hl 3 rfl) ?_
  refine lv_iload hx hb dX9_shown_74 (lv_at hl 0 rfl) ?_
  have hM1175 := k662_showsIt l hl9 dC dI z h0 h1 h2 h4 h5 h7 h8 h9 h10 h11 h12 h3 H1171.size kc0 kc2
  obtain ⟨hF1173, hC1176⟩ := pc_M hM1175 hP hD hK hS hX hT hA [0, 1, 2, 3, 4, 5, 6, 7, 8, 9, 10] [0, 1] rfl rfl rfl
  refine va_calli (va_runV (As := [.int 3, .int 48, .int 0]) (rest := []) ⟨hx, hb, hml, hown, hts⟩ hM1175 (cwV 3 hts (gV q_429 q_430 q_431 q_60 q_428) rfl rfl rfl hV_X9_showsIt ⟨Nat.le_of_ble_eq_true rfl, Nat.le_of_ble_eq_true rfl⟩) ⟨pc_blind, va_recv hK hP (ci := 8) (q := (RX9, TX9, 6)) (q0 := 0) rfl rfl, fun U hU hW => ⟨rfl, hC1176 U hU hW⟩⟩ rfl rfl hl.1 rfl (lv_room (Nat.le_of_ble_eq_true rfl)) dX9_shown_76 ⟨(Nat.le_of_ble_eq_true rfl), (Nat.le_of_ble_eq_true rfl)⟩) hS (fun q9 _ h9 => hF1173 q9 h9) hF1173 (fun r1178 u1177 t1177 H1177 L1177 ht1177 hvm1177 hw1177 hB1177 hz1177 hk1177 hS => ?_)
  have hP := pq_keep hP hD [0, 1, 2, 3, 4, 5, 6, 7, 8, 9, 10] rfl hk1177 hB1177.1 ht1177
  have hG : s.heap.size + 931 ≤ H1177.size := va_gr (g := 910) (g1 := 21) hG (by rw [← ht1177]; exact hB1177.2)
  refine W.eq (g2 := F0 m 79 ls [.int 0]) (by rw [hw1177]) ?_
  refine W.widen (k := 931) (n := 10060) (by decide) (by decide) ?_
  refine lv_if_eq (tgt := 86) hx hb dX9_shown_79 (by decide) (fun _ => ?_) (fun cz => absurd (by decide) cz)
  refine lv_iconst (v := 0) hx hb dX9_shown_86 (by decide) ?_
  refine lv_istore (lv' := [(4, .int 0), (6, .int 0), (5, .ref a1130), (3, .int 48), (2, .int 3), (1, .int 0), (0, .ref h0)]) hx hb dX9_shown_87 hl (by decide) rfl (fun ls hl => ?_)
  refine lv_goto (tgt := 41) hx hb dX9_shown_89 (by decide) ?_
  refine lv_aload hx hb dX9_shown_41 (lv_at hl 2 rfl) ?_
  have hM1181 := k635_hasNext l hl9 dC dI z a1130 h3 h6 H1177.size
  obtain ⟨hF1179, hC1182⟩ := pc_M hM1181 hP hD hK hS hX hT hA [11, 12] [] rfl rfl rfl
  refine va_callFi (va_runF (As := []) (rest := []) (hK.1 1 (RJx35411, TJx35411, 4) rfl).2 ⟨hx, hb, hml, hown, hts⟩ hM1181 (va_cwF 0 hts (gF q_261 q_262 q_263 q_246 q_260) rfl rfl rfl hT.2.2.2.2.2.2.1 hF_xIh ⟨Nat.le_of_ble_eq_true rfl, Nat.le_of_ble_eq_true rfl⟩) ⟨pc_blind, va_recv hK hP (ci := 1) (q := (RJx35411, TJx35411, 4)) (q0 := 11) rfl rfl, fun U hU hW => ⟨rfl, hC1182 U hU hW⟩⟩ rfl rfl hl.1 rfl (lv_room (Nat.le_of_ble_eq_true rfl)) dX9_shown_43 ⟨(Nat.le_of_ble_eq_true rfl), (Nat.le_of_ble_eq_true rfl)⟩) hS (fun q9 _ h9 => hF1179 q9 h9) hF1179 (fun r1184 u1183 t1183 H1183 L1183 ht1183 hvm1183 hw1183 hB1183 hz1183 hk1183 hS => ?_)
  have hP := pq_keep hP hD [11, 12] rfl hk1183 hB1183.1 ht1183
  have hG : s.heap.size + 931 ≤ H1183.size := Nat.le_trans hG hz1183
  refine W.eq (g2 := F0 m 48 ls [.int 1]) (by rw [hw1183]) ?_
  refine lv_if_eq (tgt := 92) hx hb dX9_shown_48 (by decide) (fun cz => absurd cz (by decide)) (fun _ => ?_)
  refine lv_aload hx hb dX9_shown_51 (lv_at hl 2 rfl) ?_
  have hM1187 := k637_next l hl9 dC dI z a1130 h3 h6 H1183.size kc1
  obtain ⟨hF1185, hC1188⟩ := pc_M hM1187 hP hD hK hS hX hT hA [11, 12, 13] [2] rfl rfl rfl
  refine va_callFr (va_runF (As := []) (rest := []) (hK.1 1 (RJx35411, TJx35411, 4) rfl).2 ⟨hx, hb, hml, hown, hts⟩ hM1187 (va_cwF 0 hts (gF q_308 q_309 q_310 q_246 q_307) rfl rfl rfl hT.2.2.2.2.2.2.2.1 hF_xIn ⟨Nat.le_of_ble_eq_true rfl, Nat.le_of_ble_eq_true rfl⟩) ⟨pc_blind, va_recv hK hP (ci := 1) (q := (RJx35411, TJx35411, 4)) (q0 := 11) rfl rfl, fun U hU hW => ⟨rfl, hC1188 U hU hW⟩⟩ rfl rfl hl.1 rfl (lv_room (Nat.le_of_ble_eq_true rfl)) dX9_shown_53 ⟨(Nat.le_of_ble_eq_true rfl), (Nat.le_of_ble_eq_true rfl)⟩) hS (fun q9 _ h9 => hF1185 q9 h9) hF1185 (fun u1189 r1190 t1189 H1189 L1189 ht1189 hvm1189 hw1189 hB1189 hz1189 hk1189 hS => ?_)
  obtain ⟨hr1189, hB1189⟩ := hB1189
  obtain ⟨hP, hD, hK⟩ := pq_jn (wz := [(h0, ce21 h1 h2 h3 h4), (h1, ce201 h5), (h2, ce3 z.1), (h4, ce226 h7), (h5, ce200 kc0 h8 h9 h10 h11 h12), (h7, ce200 kc2 (z.2.2.1 128) (z.2.2.1 129) (z.2.2.1 130) (z.2.2.1 131) (z.2.2.1 132)), (h8, ce49), (h9, ce49), (h10, ce49), (h11, ce49), (h12, ce49), (a1130, ce312 h3), (h3, ce276 h6), (h6, ce275 kc1 (z.2.2.1 128) (z.2.2.1 128) (z.2.2.1 128) (z.2.2.1 128) (z.2.2.1 128) (z.2.2.1 128) (z.2.2.1 128))]) (tz := [(kc0, .object "java/lang/Object"), (kc2, .object "java/lang/Object"), (kc1, .object "java/lang/Object")]) hP hD hK [11, 12, 13] [0, 1] rfl hk1189 hF1185 hB1189.1 ht1189 hvm1189 rfl rfl
  have hG : s.heap.size + 931 ≤ H1189.size := Nat.le_trans hG hz1189
  refine W.eq (g2 := F0 m 58 ls [.ref (z.2.2.1 128)]) (by rw [hr1189]) ?_
  refine va_castE (nm := "java/lang/Integer") hx hb hown (hts _ q_320) (va_Orecv (hX.2.2.1.1.1 128 (by decide)) hS) dX9_shown_58 ?_
  have hM1193 := k74_intValue l hl9 dC dI z H1189.size
  obtain ⟨hF1191, hC1194⟩ := pc_M hM1193 hP hD hK hS hX hT hA [] [] rfl rfl rfl
  refine va_calli (va_runV (As := []) (rest := []) ⟨hx, hb, hml, hown, hts⟩ hM1193 (cwV 0 hts (gV q_323 q_324 q_325 q_297 q_322) rfl rfl rfl hV_J6_intValue_8abf5 ⟨Nat.le_of_ble_eq_true rfl, Nat.le_of_ble_eq_true rfl⟩) ⟨pc_blind, va_Orecv (hX.2.2.1.1.1 128 (by decide)) hS, fun U hU hW => ⟨rfl, hC1194 U hU hW⟩⟩ rfl rfl hl.1 rfl (lv_room (Nat.le_of_ble_eq_true rfl)) dX9_shown_61 ⟨(Nat.le_of_ble_eq_true rfl), (Nat.le_of_ble_eq_true rfl)⟩) hS (fun q9 _ h9 => hF1191 q9 h9) hF1191 (fun r1196 u1195 t1195 H1195 L1195 ht1195 hvm1195 hw1195 hB1195 hz1195 hk1195 hS => ?_)
  have hP := pq_keep hP hD [] rfl hk1195 hB1195.1 ht1195
  have hG : s.heap.size + 931 ≤ H1195.size := Nat.le_trans hG hz1195
  refine W.eq (g2 := F0 m 64 ls [.int 0]) (by rw [hw1195]) ?_
  refine lv_istore (lv' := [(6, .int 0), (4, .int 0), (5, .ref a1130), (3, .int 48), (2, .int 3), (1, .int 0), (0, .ref h0)]) hx hb dX9_shown_64 hl (by decide) rfl (fun ls hl => ?_)
  refine lv_iload hx hb dX9_shown_66 (lv_at hl 1 rfl) ?_
  refine lv_if_ne (tgt := 82) hx hb dX9_shown_68 (by decide) (fun cz => absurd (by decide) cz) (fun _ => ?_)
  refine lv_aload_n hx hb dX9_shown_71 rfl (lv_at hl 6 rfl) ?_
  refine lv_iload_n hx hb dX9_shown_72 rfl (lv_at hl 4 rfl) ?_
  refine lv_iload_n hx hb dX9_shown_73 rfl (lv_at hl 3 rfl) ?_
  refine lv_iload hx hb dX9_shown_74 (lv_at hl 0 rfl) ?_
  have hM1199 := k662_showsIt l hl9 dC dI z h0 h1 h2 h4 h5 h7 h8 h9 h10 h11 h12 h3 H1195.size kc0 kc2
  obtain ⟨hF1197, hC1200⟩ := pc_M hM1199 hP hD hK hS hX hT hA [0, 1, 2, 3, 4, 5, 6, 7, 8, 9, 10] [0, 1] rfl rfl rfl
  refine va_calli (va_runV (As := [.int 3, .int 48, .int 0]) (rest := []) ⟨hx, hb, hml, hown, hts⟩ hM1199 (cwV 3 hts (gV q_429 q_430 q_431 q_60 q_428) rfl rfl rfl hV_X9_showsIt ⟨Nat.le_of_ble_eq_true rfl, Nat.le_of_ble_eq_true rfl⟩) ⟨pc_blind, va_recv hK hP (ci := 8) (q := (RX9, TX9, 6)) (q0 := 0) rfl rfl, fun U hU hW => ⟨rfl, hC1200 U hU hW⟩⟩ rfl rfl hl.1 rfl (lv_room (Nat.le_of_ble_eq_true rfl)) dX9_shown_76 ⟨(Nat.le_of_ble_eq_true rfl), (Nat.le_of_ble_eq_true rfl)⟩) hS (fun q9 _ h9 => hF1197 q9 h9) hF1197 (fun r1202 u1201 t1201 H1201 L1201 ht1201 hvm1201 hw1201 hB1201 hz1201 hk1201 hS => ?_)
  have hP := pq_keep hP hD [0, 1, 2, 3, 4, 5, 6, 7, 8, 9, 10] rfl hk1201 hB1201.1 ht1201
  have hG : s.heap.size + 952 ≤ H1201.size := va_gr (g := 931) (g1 := 21) hG (by rw [← ht1201]; exact hB1201.2)
  refine W.eq (g2 := F0 m 79 ls [.int 0]) (by rw [hw1201]) ?_
  refine W.widen (k := 952) (n := 10288) (by decide) (by decide) ?_
  refine lv_if_eq (tgt := 86) hx hb dX9_shown_79 (by decide) (fun _ => ?_) (fun cz => absurd (by decide) cz)
  refine lv_iconst (v := 0) hx hb dX9_shown_86 (by decide) ?_
  refine lv_istore (lv' := [(4, .int 0), (6, .int 0), (5, .ref a1130), (3, .int 48), (2, .int 3), (1, .int 0), (0, .ref h0)]) hx hb dX9_shown_87 hl (by decide) rfl (fun ls hl => ?_)
  refine lv_goto (tgt := 41) hx hb dX9_shown_89 (by decide) ?_
  refine lv_aload hx hb dX9_shown_41 (lv_at hl 2 rfl) ?_
  have hM1205 := k638_hasNext l hl9 dC dI z a1130 h3 h6 H1201.size
  obtain ⟨hF1203, hC1206⟩ := pc_M hM1205 hP hD hK hS hX hT hA [11, 12] [] rfl rfl rfl
  refine va_callFi (va_runF (As := []) (rest := []) (hK.1 1 (RJx35411, TJx35411, 4) rfl).2 ⟨hx, hb, hml, hown, hts⟩ hM1205 (va_cwF 0 hts (gF q_261 q_262 q_263 q_246 q_260) rfl rfl rfl hT.2.2.2.2.2.2.1 hF_xIh ⟨Nat.le_of_ble_eq_true rfl, Nat.le_of_ble_eq_true rfl⟩) ⟨pc_blind, va_recv hK hP (ci := 1) (q := (RJx35411, TJx35411, 4)) (q0 := 11) rfl rfl, fun U hU hW => ⟨rfl, hC1206 U hU hW⟩⟩ rfl rfl hl.1 rfl (lv_room (Nat.le_of_ble_eq_true rfl)) dX9_shown_43 ⟨(Nat.le_of_ble_eq_true rfl), (Nat.le_of_ble_eq_true rfl)⟩) hS (fun q9 _ h9 => hF1203 q9 h9) hF1203 (fun r1208 u1207 t1207 H1207 L1207 ht1207 hvm1207 hw1207 hB1207 hz1207 hk1207 hS => ?_)
  have hP := pq_keep hP hD [11, 12] rfl hk1207 hB1207.1 ht1207
  have hG : s.heap.size + 952 ≤ H1207.size := Nat.le_trans hG hz1207
  refine W.eq (g2 := F0 m 48 ls [.int 1]) (by rw [hw1207]) ?_
  refine lv_if_eq (tgt := 92) hx hb dX9_shown_48 (by decide) (fun cz => absurd cz (by decide)) (fun _ => ?_)
  refine lv_aload hx hb dX9_shown_51 (lv_at hl 2 rfl) ?_
  have hM1211 := k640_next l hl9 dC dI z a1130 h3 h6 H1207.size kc1
  obtain ⟨hF1209, hC1212⟩ := pc_M hM1211 hP hD hK hS hX hT hA [11, 12, 13] [2] rfl rfl rfl
  refine va_callFr (va_runF (As := []) (rest := []) (hK.1 1 (RJx35411, TJx35411, 4) rfl).2 ⟨hx, hb, hml, hown, hts⟩ hM1211 (va_cwF 0 hts (gF q_308 q_309 q_310 q_246 q_307) rfl rfl rfl hT.2.2.2.2.2.2.2.1 hF_xIn ⟨Nat.le_of_ble_eq_true rfl, Nat.le_of_ble_eq_true rfl⟩) ⟨pc_blind, va_recv hK hP (ci := 1) (q := (RJx35411, TJx35411, 4)) (q0 := 11) rfl rfl, fun U hU hW => ⟨rfl, hC1212 U hU hW⟩⟩ rfl rfl hl.1 rfl (lv_room (Nat.le_of_ble_eq_true rfl)) dX9_shown_53 ⟨(Nat.le_of_ble_eq_true rfl), (Nat.le_of_ble_eq_true rfl)⟩) hS (fun q9 _ h9 => hF1209 q9 h9) hF1209 (fun u1213 r1214 t1213 H1213 L1213 ht1213 hvm1213 hw1213 hB1213 hz1213 hk1213 hS => ?_)
  obtain ⟨hr1213, hB1213⟩ := hB1213
  obtain ⟨hP, hD, hK⟩ := pq_jn (wz := [(h0, ce21 h1 h2 h3 h4), (h1, ce201 h5), (h2, ce3 z.1), (h4, ce226 h7), (h5, ce200 kc0 h8 h9 h10 h11 h12), (h7, ce200 kc2 (z.2.2.1 128) (z.2.2.1 129) (z.2.2.1 130) (z.2.2.1 131) (z.2.2.1 132)), (h8, ce49), (h9, ce49), (h10, ce49), (h11, ce49), (h12, ce49), (a1130, ce314 h3), (h3, ce276 h6), (h6, ce275 kc1 (z.2.2.1 128) (z.2.2.1 128) (z.2.2.1 128) (z.2.2.1 128) (z.2.2.1 128) (z.2.2.1 128) (z.2.2.1 128))]) (tz := [(kc0, .object "java/lang/Object"), (kc2, .object "java/lang/Object"), (kc1, .object "java/lang/Object")]) hP hD hK [11, 12, 13] [0, 1] rfl hk1213 hF1209 hB1213.1 ht1213 hvm1213 rfl rfl
  have hG : s.heap.size + 952 ≤ H1213.size := Nat.le_trans hG hz1213
  refine W.eq (g2 := F0 m 58 ls [.ref (z.2.2.1 128)]) (by rw [hr1213]) ?_
  refine va_castE (nm := "java/lang/Integer") hx hb hown (hts _ q_320) (va_Orecv (hX.2.2.1.1.1 128 (by decide)) hS) dX9_shown_58 ?_
  have hM1217 := k74_intValue l hl9 dC dI z H1213.size
  obtain ⟨hF1215, hC1218⟩ := pc_M hM1217 hP hD hK hS hX hT hA [] [] rfl rfl rfl
  refine va_calli (va_runV (As := []) (rest := []) ⟨hx, hb, hml, hown, hts⟩ hM1217 (cwV 0 hts (gV q_323 q_324 q_325 q_297 q_322) rfl rfl rfl hV_J6_intValue_8abf5 ⟨Nat.le_of_ble_eq_true rfl, Nat.le_of_ble_eq_true rfl⟩) ⟨pc_blind, va_Orecv (hX.2.2.1.1.1 128 (by decide)) hS, fun U hU hW => ⟨rfl, hC1218 U hU hW⟩⟩ rfl rfl hl.1 rfl (lv_room (Nat.le_of_ble_eq_true rfl)) dX9_shown_61 ⟨(Nat.le_of_ble_eq_true rfl), (Nat.le_of_ble_eq_true rfl)⟩) hS (fun q9 _ h9 => hF1215 q9 h9) hF1215 (fun r1220 u1219 t1219 H1219 L1219 ht1219 hvm1219 hw1219 hB1219 hz1219 hk1219 hS => ?_)
  have hP := pq_keep hP hD [] rfl hk1219 hB1219.1 ht1219
  have hG : s.heap.size + 952 ≤ H1219.size := Nat.le_trans hG hz1219
  refine W.eq (g2 := F0 m 64 ls [.int 0]) (by rw [hw1219]) ?_
  refine lv_istore (lv' := [(6, .int 0), (4, .int 0), (5, .ref a1130), (3, .int 48), (2, .int 3), (1, .int 0), (0, .ref h0)]) hx hb dX9_shown_64 hl (by decide) rfl (fun ls hl => ?_)
  refine lv_iload hx hb dX9_shown_66 (lv_at hl 1 rfl) ?_
  refine lv_if_ne (tgt := 82) hx hb dX9_shown_68 (by decide) (fun cz => absurd (by decide) cz) (fun _ => ?_)
  refine lv_aload_n hx hb dX9_shown_71 rfl (lv_at hl 6 rfl) ?_
  refine lv_iload_n hx hb dX9_shown_72 rfl (lv_at hl 4 rfl) ?_
  refine lv_iload_n hx hb dX9_shown_73 rfl (lv_at hl 3 rfl) ?_
  refine lv_iload hx hb dX9_shown_74 (lv_at hl 0 rfl) ?_
  have hM1223 := k662_showsIt l hl9 dC dI z h0 h1 h2 h4 h5 h7 h8 h9 h10 h11 h12 h3 H1219.size kc0 kc2
  obtain ⟨hF1221, hC1224⟩ := pc_M hM1223 hP hD hK hS hX hT hA [0, 1, 2, 3, 4, 5, 6, 7, 8, 9, 10] [0, 1] rfl rfl rfl
  refine va_calli (va_runV (As := [.int 3, .int 48, .int 0]) (rest := []) ⟨hx, hb, hml, hown, hts⟩ hM1223 (cwV 3 hts (gV q_429 q_430 q_431 q_60 q_428) rfl rfl rfl hV_X9_showsIt ⟨Nat.le_of_ble_eq_true rfl, Nat.le_of_ble_eq_true rfl⟩) ⟨pc_blind, va_recv hK hP (ci := 8) (q := (RX9, TX9, 6)) (q0 := 0) rfl rfl, fun U hU hW => ⟨rfl, hC1224 U hU hW⟩⟩ rfl rfl hl.1 rfl (lv_room (Nat.le_of_ble_eq_true rfl)) dX9_shown_76 ⟨(Nat.le_of_ble_eq_true rfl), (Nat.le_of_ble_eq_true rfl)⟩) hS (fun q9 _ h9 => hF1221 q9 h9) hF1221 (fun r1226 u1225 t1225 H1225 L1225 ht1225 hvm1225 hw1225 hB1225 hz1225 hk1225 hS => ?_)
  have hP := pq_keep hP hD [0, 1, 2, 3, 4, 5, 6, 7, 8, 9, 10] rfl hk1225 hB1225.1 ht1225
  have hG : s.heap.size + 973 ≤ H1225.size := va_gr (g := 952) (g1 := 21) hG (by rw [← ht1225]; exact hB1225.2)
  refine W.eq (g2 := F0 m 79 ls [.int 0]) (by rw [hw1225]) ?_
  refine W.widen (k := 973) (n := 10516) (by decide) (by decide) ?_
  refine lv_if_eq (tgt := 86) hx hb dX9_shown_79 (by decide) (fun _ => ?_) (fun cz => absurd (by decide) cz)
  refine lv_iconst (v := 0) hx hb dX9_shown_86 (by decide) ?_
  refine lv_istore (lv' := [(4, .int 0), (6, .int 0), (5, .ref a1130), (3, .int 48), (2, .int 3), (1, .int 0), (0, .ref h0)]) hx hb dX9_shown_87 hl (by decide) rfl (fun ls hl => ?_)
  refine lv_goto (tgt := 41) hx hb dX9_shown_89 (by decide) ?_
  refine lv_aload hx hb dX9_shown_41 (lv_at hl 2 rfl) ?_
  have hM1229 := k641_hasNext l hl9 dC dI z a1130 h3 h6 H1225.size
  obtain ⟨hF1227, hC1230⟩ := pc_M hM1229 hP hD hK hS hX hT hA [11, 12] [] rfl rfl rfl
  refine va_callFi (va_runF (As := []) (rest := []) (hK.1 1 (RJx35411, TJx35411, 4) rfl).2 ⟨hx, hb, hml, hown, hts⟩ hM1229 (va_cwF 0 hts (gF q_261 q_262 q_263 q_246 q_260) rfl rfl rfl hT.2.2.2.2.2.2.1 hF_xIh ⟨Nat.le_of_ble_eq_true rfl, Nat.le_of_ble_eq_true rfl⟩) ⟨pc_blind, va_recv hK hP (ci := 1) (q := (RJx35411, TJx35411, 4)) (q0 := 11) rfl rfl, fun U hU hW => ⟨rfl, hC1230 U hU hW⟩⟩ rfl rfl hl.1 rfl (lv_room (Nat.le_of_ble_eq_true rfl)) dX9_shown_43 ⟨(Nat.le_of_ble_eq_true rfl), (Nat.le_of_ble_eq_true rfl)⟩) hS (fun q9 _ h9 => hF1227 q9 h9) hF1227 (fun r1232 u1231 t1231 H1231 L1231 ht1231 hvm1231 hw1231 hB1231 hz1231 hk1231 hS => ?_)
  have hP := pq_keep hP hD [11, 12] rfl hk1231 hB1231.1 ht1231
  have hG : s.heap.size + 973 ≤ H1231.size := Nat.le_trans hG hz1231
  refine W.eq (g2 := F0 m 48 ls [.int 1]) (by rw [hw1231]) ?_
  refine lv_if_eq (tgt := 92) hx hb dX9_shown_48 (by decide) (fun cz => absurd cz (by decide)) (fun _ => ?_)
  refine lv_aload hx hb dX9_shown_51 (lv_at hl 2 rfl) ?_
  have hM1235 := k643_next l hl9 dC dI z a1130 h3 h6 H1231.size kc1
  obtain ⟨hF1233, hC1236⟩ := pc_M hM1235 hP hD hK hS hX hT hA [11, 12, 13] [2] rfl rfl rfl
  refine va_callFr (va_runF (As := []) (rest := []) (hK.1 1 (RJx35411, TJx35411, 4) rfl).2 ⟨hx, hb, hml, hown, hts⟩ hM1235 (va_cwF 0 hts (gF q_308 q_309 q_310 q_246 q_307) rfl rfl rfl hT.2.2.2.2.2.2.2.1 hF_xIn ⟨Nat.le_of_ble_eq_true rfl, Nat.le_of_ble_eq_true rfl⟩) ⟨pc_blind, va_recv hK hP (ci := 1) (q := (RJx35411, TJx35411, 4)) (q0 := 11) rfl rfl, fun U hU hW => ⟨rfl, hC1236 U hU hW⟩⟩ rfl rfl hl.1 rfl (lv_room (Nat.le_of_ble_eq_true rfl)) dX9_shown_53 ⟨(Nat.le_of_ble_eq_true rfl), (Nat.le_of_ble_eq_true rfl)⟩) hS (fun q9 _ h9 => hF1233 q9 h9) hF1233 (fun u1237 r1238 t1237 H1237 L1237 ht1237 hvm1237 hw1237 hB1237 hz1237 hk1237 hS => ?_)
  obtain ⟨hr1237, hB1237⟩ := hB1237
  obtain ⟨hP, hD, hK⟩ := pq_jn (wz := [(h0, ce21 h1 h2 h3 h4), (h1, ce201 h5), (h2, ce3 z.1), (h4, ce226 h7), (h5, ce200 kc0 h8 h9 h10 h11 h12), (h7, ce200 kc2 (z.2.2.1 128) (z.2.2.1 129) (z.2.2.1 130) (z.2.2.1 131) (z.2.2.1 132)), (h8, ce49), (h9, ce49), (h10, ce49), (h11, ce49), (h12, ce49), (a1130, ce316 h3), (h3, ce276 h6), (h6, ce275 kc1 (z.2.2.1 128) (z.2.2.1 128) (z.2.2.1 128) (z.2.2.1 128) (z.2.2.1 128) (z.2.2.1 128) (z.2.2.1 128))]) (tz := [(kc0, .object "java/lang/Object"), (kc2, .object "java/lang/Object"), (kc1, .object "java/lang/Object")]) hP hD hK [11, 12, 13] [0, 1] rfl hk1237 hF1233 hB1237.1 ht1237 hvm1237 rfl rfl
  have hG : s.heap.size + 973 ≤ H1237.size := Nat.le_trans hG hz1237
  refine W.eq (g2 := F0 m 58 ls [.ref (z.2.2.1 128)]) (by rw [hr1237]) ?_
  refine va_castE (nm := "java/lang/Integer") hx hb hown (hts _ q_320) (va_Orecv (hX.2.2.1.1.1 128 (by decide)) hS) dX9_shown_58 ?_
  have hM1241 := k74_intValue l hl9 dC dI z H1237.size
  obtain ⟨hF1239, hC1242⟩ := pc_M hM1241 hP hD hK hS hX hT hA [] [] rfl rfl rfl
  refine va_calli (va_runV (As := []) (rest := []) ⟨hx, hb, hml, hown, hts⟩ hM1241 (cwV 0 hts (gV q_323 q_324 q_325 q_297 q_322) rfl rfl rfl hV_J6_intValue_8abf5 ⟨Nat.le_of_ble_eq_true rfl, Nat.le_of_ble_eq_true rfl⟩) ⟨pc_blind, va_Orecv (hX.2.2.1.1.1 128 (by decide)) hS, fun U hU hW => ⟨rfl, hC1242 U hU hW⟩⟩ rfl rfl hl.1 rfl (lv_room (Nat.le_of_ble_eq_true rfl)) dX9_shown_61 ⟨(Nat.le_of_ble_eq_true rfl), (Nat.le_of_ble_eq_true rfl)⟩) hS (fun q9 _ h9 => hF1239 q9 h9) hF1239 (fun r1244 u1243 t1243 H1243 L1243 ht1243 hvm1243 hw1243 hB1243 hz1243 hk1243 hS => ?_)
  have hP := pq_keep hP hD [] rfl hk1243 hB1243.1 ht1243
  have hG : s.heap.size + 973 ≤ H1243.size := Nat.le_trans hG hz1243
  refine W.eq (g2 := F0 m 64 ls [.int 0]) (by rw [hw1243]) ?_
  refine lv_istore (lv' := [(6, .int 0), (4, .int 0), (5, .ref a1130), (3, .int 48), (2, .int 3), (1, .int 0), (0, .ref h0)]) hx hb dX9_shown_64 hl (by decide) rfl (fun ls hl => ?_)
  refine lv_iload hx hb dX9_shown_66 (lv_at hl 1 rfl) ?_
  refine lv_if_ne (tgt := 82) hx hb dX9_shown_68 (by decide) (fun cz => absurd (by decide) cz) (fun _ => ?_)
  refine lv_aload_n hx hb dX9_shown_71 rfl (lv_at hl 6 rfl) ?_
  refine lv_iload_n hx hb dX9_shown_72 rfl (lv_at hl 4 rfl) ?_
  refine lv_iload_n hx hb dX9_shown_73 rfl (lv_at hl 3 rfl) ?_
  refine lv_iload hx hb dX9_shown_74 (lv_at hl 0 rfl) ?_
  have hM1247 := k662_showsIt l hl9 dC dI z h0 h1 h2 h4 h5 h7 h8 h9 h10 h11 h12 h3 H1243.size kc0 kc2
  obtain ⟨hF1245, hC1248⟩ := pc_M hM1247 hP hD hK hS hX hT hA [0, 1, 2, 3, 4, 5, 6, 7, 8, 9, 10] [0, 1] rfl rfl rfl
  refine va_calli (va_runV (As := [.int 3, .int 48, .int 0]) (rest := []) ⟨hx, hb, hml, hown, hts⟩ hM1247 (cwV 3 hts (gV q_429 q_430 q_431 q_60 q_428) rfl rfl rfl hV_X9_showsIt ⟨Nat.le_of_ble_eq_true rfl, Nat.le_of_ble_eq_true rfl⟩) ⟨pc_blind, va_recv hK hP (ci := 8) (q := (RX9, TX9, 6)) (q0 := 0) rfl rfl, fun U hU hW => ⟨rfl, hC1248 U hU hW⟩⟩ rfl rfl hl.1 rfl (lv_room (Nat.le_of_ble_eq_true rfl)) dX9_shown_76 ⟨(Nat.le_of_ble_eq_true rfl), (Nat.le_of_ble_eq_true rfl)⟩) hS (fun q9 _ h9 => hF1245 q9 h9) hF1245 (fun r1250 u1249 t1249 H1249 L1249 ht1249 hvm1249 hw1249 hB1249 hz1249 hk1249 hS => ?_)
  have hP := pq_keep hP hD [0, 1, 2, 3, 4, 5, 6, 7, 8, 9, 10] rfl hk1249 hB1249.1 ht1249
  have hG : s.heap.size + 994 ≤ H1249.size := va_gr (g := 973) (g1 := 21) hG (by rw [← ht1249]; exact hB1249.2)
  refine W.eq (g2 := F0 m 79 ls [.int 0]) (by rw [hw1249]) ?_
  refine W.widen (k := 994) (n := 10744) (by decide) (by decide) ?_
  refine lv_if_eq (tgt := 86) hx hb dX9_shown_79 (by decide) (fun _ => ?_) (fun cz => absurd (by decide) cz)
  refine lv_iconst (v := 0) hx hb dX9_shown_86 (by decide) ?_
  refine lv_istore (lv' := [(4, .int 0), (6, .int 0), (5, .ref a1130), (3, .int 48), (2, .int 3), (1, .int 0), (0, .ref h0)]) hx hb dX9_shown_87 hl (by decide) rfl (fun ls hl => ?_)
  refine lv_goto (tgt := 41) hx hb dX9_shown_89 (by decide) ?_
  refine lv_aload hx hb dX9_shown_41 (lv_at hl 2 rfl) ?_
  have hM1253 := k644_hasNext l hl9 dC dI z a1130 h3 h6 H1249.size
  obtain ⟨hF1251, hC1254⟩ := pc_M hM1253 hP hD hK hS hX hT hA [11, 12] [] rfl rfl rfl
  refine va_callFi (va_runF (As := []) (rest := []) (hK.1 1 (RJx35411, TJx35411, 4) rfl).2 ⟨hx, hb, hml, hown, hts⟩ hM1253 (va_cwF 0 hts (gF q_261 q_262 q_263 q_246 q_260) rfl rfl rfl hT.2.2.2.2.2.2.1 hF_xIh ⟨Nat.le_of_ble_eq_true rfl, Nat.le_of_ble_eq_true rfl⟩) ⟨pc_blind, va_recv hK hP (ci := 1) (q := (RJx35411, TJx35411, 4)) (q0 := 11) rfl rfl, fun U hU hW => ⟨rfl, hC1254 U hU hW⟩⟩ rfl rfl hl.1 rfl (lv_room (Nat.le_of_ble_eq_true rfl)) dX9_shown_43 ⟨(Nat.le_of_ble_eq_true rfl), (Nat.le_of_ble_eq_true rfl)⟩) hS (fun q9 _ h9 => hF1251 q9 h9) hF1251 (fun r1256 u1255 t1255 H1255 L1255 ht1255 hvm1255 hw1255 hB1255 hz1255 hk1255 hS => ?_)
  have hP := pq_keep hP hD [11, 12] rfl hk1255 hB1255.1 ht1255
  have hG : s.heap.size + 994 ≤ H1255.size := Nat.le_trans hG hz1255
  refine W.eq (g2 := F0 m 48 ls [.int 1]) (by rw [hw1255]) ?_
  refine lv_if_eq (tgt := 92) hx hb dX9_shown_48 (by decide) (fun cz => absurd cz (by decide)) (fun _ => ?_)
  refine lv_aload hx hb dX9_shown_51 (lv_at hl 2 rfl) ?_
  have hM1259 := k646_next l hl9 dC dI z a1130 h3 h6 H1255.size kc1
  obtain ⟨hF1257, hC1260⟩ := pc_M hM1259 hP hD hK hS hX hT hA [11, 12, 13] [2] rfl rfl rfl
  refine va_callFr (va_runF (As := []) (rest := []) (hK.1 1 (RJx35411, TJx35411, 4) rfl).2 ⟨hx, hb, hml, hown, hts⟩ hM1259 (va_cwF 0 hts (gF q_308 q_309 q_310 q_246 q_307) rfl rfl rfl hT.2.2.2.2.2.2.2.1 hF_xIn ⟨Nat.le_of_ble_eq_true rfl, Nat.le_of_ble_eq_true rfl⟩) ⟨pc_blind, va_recv hK hP (ci := 1) (q := (RJx35411, TJx35411, 4)) (q0 := 11) rfl rfl, fun U hU hW => ⟨rfl, hC1260 U hU hW⟩⟩ rfl rfl hl.1 rfl (lv_room (Nat.le_of_ble_eq_true rfl)) dX9_shown_53 ⟨(Nat.le_of_ble_eq_true rfl), (Nat.le_of_ble_eq_true rfl)⟩) hS (fun q9 _ h9 => hF1257 q9 h9) hF1257 (fun u1261 r1262 t1261 H1261 L1261 ht1261 hvm1261 hw1261 hB1261 hz1261 hk1261 hS => ?_)
  obtain ⟨hr1261, hB1261⟩ := hB1261
  obtain ⟨hP, hD, hK⟩ := pq_jn (wz := [(h0, ce21 h1 h2 h3 h4), (h1, ce201 h5), (h2, ce3 z.1), (h4, ce226 h7), (h5, ce200 kc0 h8 h9 h10 h11 h12), (h7, ce200 kc2 (z.2.2.1 128) (z.2.2.1 129) (z.2.2.1 130) (z.2.2.1 131) (z.2.2.1 132)), (h8, ce49), (h9, ce49), (h10, ce49), (h11, ce49), (h12, ce49), (a1130, ce318 h3), (h3, ce276 h6), (h6, ce275 kc1 (z.2.2.1 128) (z.2.2.1 128) (z.2.2.1 128) (z.2.2.1 128) (z.2.2.1 128) (z.2.2.1 128) (z.2.2.1 128))]) (tz := [(kc0, .object "java/lang/Object"), (kc2, .object "java/lang/Object"), (kc1, .object "java/lang/Object")]) hP hD hK [11, 12, 13] [0, 1] rfl hk1261 hF1257 hB1261.1 ht1261 hvm1261 rfl rfl
  have hG : s.heap.size + 994 ≤ H1261.size := Nat.le_trans hG hz1261
  refine W.eq (g2 := F0 m 58 ls [.ref (z.2.2.1 128)]) (by rw [hr1261]) ?_
  refine va_castE (nm := "java/lang/Integer") hx hb hown (hts _ q_320) (va_Orecv (hX.2.2.1.1.1 128 (by decide)) hS) dX9_shown_58 ?_
  have hM1265 := k74_intValue l hl9 dC dI z H1261.size
  obtain ⟨hF1263, hC1266⟩ := pc_M hM1265 hP hD hK hS hX hT hA [] [] rfl rfl rfl
  refine va_calli (va_runV (As := []) (rest := []) ⟨hx, hb, hml, hown, hts⟩ hM1265 (cwV 0 hts (gV q_323 q_324 q_325 q_297 q_322) rfl rfl rfl hV_J6_intValue_8abf5 ⟨Nat.le_of_ble_eq_true rfl, Nat.le_of_ble_eq_true rfl⟩) ⟨pc_blind, va_Orecv (hX.2.2.1.1.1 128 (by decide)) hS, fun U hU hW => ⟨rfl, hC1266 U hU hW⟩⟩ rfl rfl hl.1 rfl (lv_room (Nat.le_of_ble_eq_true rfl)) dX9_shown_61 ⟨(Nat.le_of_ble_eq_true rfl), (Nat.le_of_ble_eq_true rfl)⟩) hS (fun q9 _ h9 => hF1263 q9 h9) hF1263 (fun r1268 u1267 t1267 H1267 L1267 ht1267 hvm1267 hw1267 hB1267 hz1267 hk1267 hS => ?_)
  have hP := pq_keep hP hD [] rfl hk1267 hB1267.1 ht1267
  have hG : s.heap.size + 994 ≤ H1267.size := Nat.le_trans hG hz1267
  refine W.eq (g2 := F0 m 64 ls [.int 0]) (by rw [hw1267]) ?_
  refine lv_istore (lv' := [(6, .int 0), (4, .int 0), (5, .ref a1130), (3, .int 48), (2, .int 3), (1, .int 0), (0, .ref h0)]) hx hb dX9_shown_64 hl (by decide) rfl (fun ls hl => ?_)
  refine lv_iload hx hb dX9_shown_66 (lv_at hl 1 rfl) ?_
  refine lv_if_ne (tgt := 82) hx hb dX9_shown_68 (by decide) (fun cz => absurd (by decide) cz) (fun _ => ?_)
  refine lv_aload_n hx hb dX9_shown_71 rfl (lv_at hl 6 rfl) ?_
  refine lv_iload_n hx hb dX9_shown_72 rfl (lv_at hl 4 rfl) ?_
  refine lv_iload_n hx hb dX9_shown_73 rfl (lv_at hl 3 rfl) ?_
  refine lv_iload hx hb dX9_shown_74 (lv_at hl 0 rfl) ?_
  have hM1271 := k662_showsIt l hl9 dC dI z h0 h1 h2 h4 h5 h7 h8 h9 h10 h11 h12 h3 H1267.size kc0 kc2
  obtain ⟨hF1269, hC1272⟩ := pc_M hM1271 hP hD hK hS hX hT hA [0, 1, 2, 3, 4, 5, 6, 7, 8, 9, 10] [0, 1] rfl rfl rfl
  refine va_calli (va_runV (As := [.int 3, .int 48, .int 0]) (rest := []) ⟨hx, hb, hml, hown, hts⟩ hM1271 (cwV 3 hts (gV q_429 q_430 q_431 q_60 q_428) rfl rfl rfl hV_X9_showsIt ⟨Nat.le_of_ble_eq_true rfl, Nat.le_of_ble_eq_true rfl⟩) ⟨pc_blind, va_recv hK hP (ci := 8) (q := (RX9, TX9, 6)) (q0 := 0) rfl rfl, fun U hU hW => ⟨rfl, hC1272 U hU hW⟩⟩ rfl rfl hl.1 rfl (lv_room (Nat.le_of_ble_eq_true rfl)) dX9_shown_76 ⟨(Nat.le_of_ble_eq_true rfl), (Nat.le_of_ble_eq_true rfl)⟩) hS (fun q9 _ h9 => hF1269 q9 h9) hF1269 (fun r1274 u1273 t1273 H1273 L1273 ht1273 hvm1273 hw1273 hB1273 hz1273 hk1273 hS => ?_)
  have hP := pq_keep hP hD [0, 1, 2, 3, 4, 5, 6, 7, 8, 9, 10] rfl hk1273 hB1273.1 ht1273
  have hG : s.heap.size + 1015 ≤ H1273.size := va_gr (g := 994) (g1 := 21) hG (by rw [← ht1273]; exact hB1273.2)
  refine W.eq (g2 := F0 m 79 ls [.int 0]) (by rw [hw1273]) ?_
  refine W.widen (k := 1015) (n := 10972) (by decide) (by decide) ?_
  refine lv_if_eq (tgt := 86) hx hb dX9_shown_79 (by decide) (fun _ => ?_) (fun cz => absurd (by decide) cz)
  refine lv_iconst (v := 0) hx hb dX9_shown_86 (by decide) ?_
  refine lv_istore (lv' := [(4, .int 0), (6, .int 0), (5, .ref a1130), (3, .int 48), (2, .int 3), (1, .int 0), (0, .ref h0)]) hx hb dX9_shown_87 hl (by decide) rfl (fun ls hl => ?_)
  refine lv_goto (tgt := 41) hx hb dX9_shown_89 (by decide) ?_
  refine lv_aload hx hb dX9_shown_41 (lv_at hl 2 rfl) ?_
  have hM1277 := k647_hasNext l hl9 dC dI z a1130 h3 h6 H1273.size
  obtain ⟨hF1275, hC1278⟩ := pc_M hM1277 hP hD hK hS hX hT hA [11, 12] [] rfl rfl rfl
  refine va_callFi (va_runF (As := []) (rest := []) (hK.1 1 (RJx35411, TJx35411, 4) rfl).2 ⟨hx, hb, hml, hown, hts⟩ hM1277 (va_cwF 0 hts (gF q_261 q_262 q_263 q_246 q_260) rfl rfl rfl hT.2.2.2.2.2.2.1 hF_xIh ⟨Nat.le_of_ble_eq_true rfl, Nat.le_of_ble_eq_true rfl⟩) ⟨pc_blind, va_recv hK hP (ci := 1) (q := (RJx35411, TJx35411, 4)) (q0 := 11) rfl rfl, fun U hU hW => ⟨rfl, hC1278 U hU hW⟩⟩ rfl rfl hl.1 rfl (lv_room (Nat.le_of_ble_eq_true rfl)) dX9_shown_43 ⟨(Nat.le_of_ble_eq_true rfl), (Nat.le_of_ble_eq_true rfl)⟩) hS (fun q9 _ h9 => hF1275 q9 h9) hF1275 (fun r1280 u1279 t1279 H1279 L1279 ht1279 hvm1279 hw1279 hB1279 hz1279 hk1279 hS => ?_)
  have hP := pq_keep hP hD [11, 12] rfl hk1279 hB1279.1 ht1279
  have hG : s.heap.size + 1015 ≤ H1279.size := Nat.le_trans hG hz1279
  refine W.eq (g2 := F0 m 48 ls [.int 1]) (by rw [hw1279]) ?_
  refine lv_if_eq (tgt := 92) hx hb dX9_shown_48 (by decide) (fun cz => absurd cz (by decide)) (fun _ => ?_)
  refine lv_aload hx hb dX9_shown_51 (lv_at hl 2 rfl) ?_
  have hM1283 := k649_next l hl9 dC dI z a1130 h3 h6 H1279.size kc1
  obtain ⟨hF1281, hC1284⟩ := pc_M hM1283 hP hD hK hS hX hT hA [11, 12, 13] [2] rfl rfl rfl
  refine va_callFr (va_runF (As := []) (rest := []) (hK.1 1 (RJx35411, TJx35411, 4) rfl).2 ⟨hx, hb, hml, hown, hts⟩ hM1283 (va_cwF 0 hts (gF q_308 q_309 q_310 q_246 q_307) rfl rfl rfl hT.2.2.2.2.2.2.2.1 hF_xIn ⟨Nat.le_of_ble_eq_true rfl, Nat.le_of_ble_eq_true rfl⟩) ⟨pc_blind, va_recv hK hP (ci := 1) (q := (RJx35411, TJx35411, 4)) (q0 := 11) rfl rfl, fun U hU hW => ⟨rfl, hC1284 U hU hW⟩⟩ rfl rfl hl.1 rfl (lv_room (Nat.le_of_ble_eq_true rfl)) dX9_shown_53 ⟨(Nat.le_of_ble_eq_true rfl), (Nat.le_of_ble_eq_true rfl)⟩) hS (fun q9 _ h9 => hF1281 q9 h9) hF1281 (fun u1285 r1286 t1285 H1285 L1285 ht1285 hvm1285 hw1285 hB1285 hz1285 hk1285 hS => ?_)
  obtain ⟨hr1285, hB1285⟩ := hB1285
  obtain ⟨hP, hD, hK⟩ := pq_jn (wz := [(h0, ce21 h1 h2 h3 h4), (h1, ce201 h5), (h2, ce3 z.1), (h4, ce226 h7), (h5, ce200 kc0 h8 h9 h10 h11 h12), (h7, ce200 kc2 (z.2.2.1 128) (z.2.2.1 129) (z.2.2.1 130) (z.2.2.1 131) (z.2.2.1 132)), (h8, ce49), (h9, ce49), (h10, ce49), (h11, ce49), (h12, ce49), (a1130, ce320 h3), (h3, ce276 h6), (h6, ce275 kc1 (z.2.2.1 128) (z.2.2.1 128) (z.2.2.1 128) (z.2.2.1 128) (z.2.2.1 128) (z.2.2.1 128) (z.2.2.1 128))]) (tz := [(kc0, .object "java/lang/Object"), (kc2, .object "java/lang/Object"), (kc1, .object "java/lang/Object")]) hP hD hK [11, 12, 13] [0, 1] rfl hk1285 hF1281 hB1285.1 ht1285 hvm1285 rfl rfl
  have hG : s.heap.size + 1015 ≤ H1285.size := Nat.le_trans hG hz1285
  refine W.eq (g2 := F0 m 58 ls [.ref (z.2.2.1 128)]) (by rw [hr1285]) ?_
  refine va_castE (nm := "java/lang/Integer") hx hb hown (hts _ q_320) (va_Orecv (hX.2.2.1.1.1 128 (by decide)) hS) dX9_shown_58 ?_
  have hM1289 := k74_intValue l hl9 dC dI z H1285.size
  obtain ⟨hF1287, hC1290⟩ := pc_M hM1289 hP hD hK hS hX hT hA [] [] rfl rfl rfl
  refine va_calli (va_runV (As := []) (rest := []) ⟨hx, hb, hml, hown, hts⟩ hM1289 (cwV 0 hts (gV q_323 q_324 q_325 q_297 q_322) rfl rfl rfl hV_J6_intValue_8abf5 ⟨Nat.le_of_ble_eq_true rfl, Nat.le_of_ble_eq_true rfl⟩) ⟨pc_blind, va_Orecv (hX.2.2.1.1.1 128 (by decide)) hS, fun U hU hW => ⟨rfl, hC1290 U hU hW⟩⟩ rfl rfl hl.1 rfl (lv_room (Nat.le_of_ble_eq_true rfl)) dX9_shown_61 ⟨(Nat.le_of_ble_eq_true rfl), (Nat.le_of_ble_eq_true rfl)⟩) hS (fun q9 _ h9 => hF1287 q9 h9) hF1287 (fun r1292 u1291 t1291 H1291 L1291 ht1291 hvm1291 hw1291 hB1291 hz1291 hk1291 hS => ?_)
  have hP := pq_keep hP hD [] rfl hk1291 hB1291.1 ht1291
  have hG : s.heap.size + 1015 ≤ H1291.size := Nat.le_trans hG hz1291
  refine W.eq (g2 := F0 m 64 ls [.int 0]) (by rw [hw1291]) ?_
  refine lv_istore (lv' := [(6, .int 0), (4, .int 0), (5, .ref a1130), (3, .int 48), (2, .int 3), (1, .int 0), (0, .ref h0)]) hx hb dX9_shown_64 hl (by decide) rfl (fun ls hl => ?_)
  refine lv_iload hx hb dX9_shown_66 (lv_at hl 1 rfl) ?_
  refine lv_if_ne (tgt := 82) hx hb dX9_shown_68 (by decide) (fun cz => absurd (by decide) cz) (fun _ => ?_)
  refine lv_aload_n hx hb dX9_shown_71 rfl (lv_at hl 6 rfl) ?_
  refine lv_iload_n hx hb dX9_shown_72 rfl (lv_at hl 4 rfl) ?_
  refine lv_iload_n hx hb dX9_shown_73 rfl (lv_at hl 3 rfl) ?_
  refine lv_iload hx hb dX9_shown_74 (lv_at hl 0 rfl) ?_
  have hM1295 := k662_showsIt l hl9 dC dI z h0 h1 h2 h4 h5 h7 h8 h9 h10 h11 h12 h3 H1291.size kc0 kc2
  obtain ⟨hF1293, hC1296⟩ := pc_M hM1295 hP hD hK hS hX hT hA [0, 1, 2, 3, 4, 5, 6, 7, 8, 9, 10] [0, 1] rfl rfl rfl
  refine va_calli (va_runV (As := [.int 3, .int 48, .int 0]) (rest := []) ⟨hx, hb, hml, hown, hts⟩ hM1295 (cwV 3 hts (gV q_429 q_430 q_431 q_60 q_428) rfl rfl rfl hV_X9_showsIt ⟨Nat.le_of_ble_eq_true rfl, Nat.le_of_ble_eq_true rfl⟩) ⟨pc_blind, va_recv hK hP (ci := 8) (q := (RX9, TX9, 6)) (q0 := 0) rfl rfl, fun U hU hW => ⟨rfl, hC1296 U hU hW⟩⟩ rfl rfl hl.1 rfl (lv_room (Nat.le_of_ble_eq_true rfl)) dX9_shown_76 ⟨(Nat.le_of_ble_eq_true rfl), (Nat.le_of_ble_eq_true rfl)⟩) hS (fun q9 _ h9 => hF1293 q9 h9) hF1293 (fun r1298 u1297 t1297 H1297 L1297 ht1297 hvm1297 hw1297 hB1297 hz1297 hk1297 hS => ?_)
  have hP := pq_keep hP hD [0, 1, 2, 3, 4, 5, 6, 7, 8, 9, 10] rfl hk1297 hB1297.1 ht1297
  have hG : s.heap.size + 1036 ≤ H1297.size := va_gr (g := 1015) (g1 := 21) hG (by rw [← ht1297]; exact hB1297.2)
  refine W.eq (g2 := F0 m 79 ls [.int 0]) (by rw [hw1297]) ?_
  refine W.widen (k := 1036) (n := 11200) (by decide) (by decide) ?_
  refine lv_if_eq (tgt := 86) hx hb dX9_shown_79 (by decide) (fun _ => ?_) (fun cz => absurd (by decide) cz)
  refine lv_iconst (v := 0) hx hb dX9_shown_86 (by decide) ?_
  refine lv_istore (lv' := [(4, .int 0), (6, .int 0), (5, .ref a1130), (3, .int 48), (2, .int 3), (1, .int 0), (0, .ref h0)]) hx hb dX9_shown_87 hl (by decide) rfl (fun ls hl => ?_)
  refine lv_goto (tgt := 41) hx hb dX9_shown_89 (by decide) ?_
  refine lv_aload hx hb dX9_shown_41 (lv_at hl 2 rfl) ?_
  have hM1301 := k650_hasNext l hl9 dC dI z a1130 h3 h6 H1297.size
  obtain ⟨hF1299, hC1302⟩ := pc_M hM1301 hP hD hK hS hX hT hA [11, 12] [] rfl rfl rfl
  refine va_callFi (va_runF (As := []) (rest := []) (hK.1 1 (RJx35411, TJx35411, 4) rfl).2 ⟨hx, hb, hml, hown, hts⟩ hM1301 (va_cwF 0 hts (gF q_261 q_262 q_263 q_246 q_260) rfl rfl rfl hT.2.2.2.2.2.2.1 hF_xIh ⟨Nat.le_of_ble_eq_true rfl, Nat.le_of_ble_eq_true rfl⟩) ⟨pc_blind, va_recv hK hP (ci := 1) (q := (RJx35411, TJx35411, 4)) (q0 := 11) rfl rfl, fun U hU hW => ⟨rfl, hC1302 U hU hW⟩⟩ rfl rfl hl.1 rfl (lv_room (Nat.le_of_ble_eq_true rfl)) dX9_shown_43 ⟨(Nat.le_of_ble_eq_true rfl), (Nat.le_of_ble_eq_true rfl)⟩) hS (fun q9 _ h9 => hF1299 q9 h9) hF1299 (fun r1304 u1303 t1303 H1303 L1303 ht1303 hvm1303 hw1303 hB1303 hz1303 hk1303 hS => ?_)
  have hP := pq_keep hP hD [11, 12] rfl hk1303 hB1303.1 ht1303
  have hG : s.heap.size + 1036 ≤ H1303.size := Nat.le_trans hG hz1303
  refine W.eq (g2 := F0 m 48 ls [.int 0]) (by rw [hw1303]) ?_
  refine lv_if_eq (tgt := 92) hx hb dX9_shown_48 (by decide) (fun _ => ?_) (fun cz => absurd (by decide) cz)
  refine lv_iload_n hx hb dX9_shown_92 rfl (lv_at hl 5 rfl) ?_
  refine lv_iload hx hb dX9_shown_93 (lv_at hl 0 rfl) ?_
  refine lv_if_eq (tgt := 102) hx hb dX9_shown_95 (by decide) (fun _ => ?_) (fun cz => absurd (by decide) cz)
  refine lv_iconst (v := 0) hx hb dX9_shown_102 (by decide) ?_
  refine lv_iadd hx hb dX9_shown_103 ?_
  refine lv_topi (fun y1305 ey1305 => ?_)
  obtain rfl : y1305 = 0 := ey1305.trans (by decide)
  refine lv_istore_n (lv' := [(1, .int 0), (4, .int 0), (6, .int 0), (5, .ref a1130), (3, .int 48), (2, .int 3), (0, .ref h0)]) hx hb dX9_shown_104 rfl hl (by decide) rfl (fun ls hl => ?_)
  refine lv_iload_n hx hb dX9_shown_105 rfl (lv_at hl 4 rfl) ?_
  refine lv_iconst (v := 1) hx hb dX9_shown_106 (by decide) ?_
  refine lv_iadd hx hb dX9_shown_107 ?_
  refine lv_topi (fun y1306 ey1306 => ?_)
  obtain rfl : y1306 = 49 := ey1306.trans (by decide)
  refine lv_i2c (v := 49) hx hb dX9_shown_108 (by decide) ?_
  refine lv_istore_n (lv' := [(3, .int 49), (1, .int 0), (4, .int 0), (6, .int 0), (5, .ref a1130), (2, .int 3), (0, .ref h0)]) hx hb dX9_shown_109 rfl hl (by decide) rfl (fun ls hl => ?_)
  refine lv_goto (tgt := 23) hx hb dX9_shown_110 (by decide) ?_
  exact hend _ _ _ hS (hP.sub [0, 1, 2, 12, 3, 4, 13, 5, 6, 7, 8, 9, 10] rfl) (hD.sub [0, 1, 2, 12, 3, 4, 13, 5, 6, 7, 8, 9, 10] rfl rfl) (lv_sub hl [0, 1, 5, 6] rfl) hG

set_option maxHeartbeats 8000000 in
set_option maxRecDepth 100000 in
theorem k669_shown_g11 {p : Program} {l : Launch} {e : Env} {s : State} {m : MethodId} {args : Array Value} {below : List Frame} {meth : Method} {c : Code} {Q : State → Prop} {A : Nat → Prop} {H : Heap} {locs : List Loc} {ls : Array Slot} {dC : Nat → ClassId} {dI : Nat → Nat → Nat} {z : XZ} {h0 h1 h2 h3 h4 h5 h6 h7 h8 h9 h10 h11 h12 : Nat} {kc0 kc1 kc2 : ClassId} (hl9 : l.stackTraces = false) (hx : p.tables.exec = Jvm.exec) (hb : c.code = cX9_shown) (hml : c.maxLocals = 7) (hown : s.vm.findClass RX9 = some m.cls) (hts : ∀ w ∈ wsL_law, w.before args s = true) (hA : ∀ q : Nat, s.heap.size ≤ q → A q) (hX : XE z A s s.heap) (hT : XT s) (hS : va_S A s.heap H locs) (hP : va_P (dC, dI) xCl [(h0, ce21 h1 h2 h3 h4), (h1, ce201 h5), (h2, ce3 z.1), (h3, ce276 h6), (h4, ce226 h7), (h5, ce200 kc0 h8 h9 h10 h11 h12), (h6, ce275 kc1 (z.2.2.1 128) (z.2.2.1 128) (z.2.2.1 128) (z.2.2.1 128) (z.2.2.1 128) (z.2.2.1 128) (z.2.2.1 128)), (h7, ce200 kc2 (z.2.2.1 128) (z.2.2.1 129) (z.2.2.1 130) (z.2.2.1 131) (z.2.2.1 132)), (h8, ce49), (h9, ce49), (h10, ce49), (h11, ce49), (h12, ce49)] H) (hD : va_D A [(h0, ce21 h1 h2 h3 h4), (h1, ce201 h5), (h2, ce3 z.1), (h3, ce276 h6), (h4, ce226 h7), (h5, ce200 kc0 h8 h9 h10 h11 h12), (h6, ce275 kc1 (z.2.2.1 128) (z.2.2.1 128) (z.2.2.1 128) (z.2.2.1 128) (z.2.2.1 128) (z.2.2.1 128) (z.2.2.1 128)), (h7, ce200 kc2 (z.2.2.1 128) (z.2.2.1 129) (z.2.2.1 130) (z.2.2.1 131) (z.2.2.1 132)), (h8, ce49), (h9, ce49), (h10, ce49), (h11, ce49), (h12, ce49)]) (hK : va_K (dC, dI) xCl [(kc0, .object "java/lang/Object"), (kc1, .object "java/lang/Object"), (kc2, .object "java/lang/Object")] s) (hl : lv_has ls 7 [(3, .int 49), (1, .int 0), (2, .int 3), (0, .ref h0)]) (hG : s.heap.size + 1036 ≤ H.size) (hend : ∀ (H' : Heap) (locs' : List Loc) (ls' : Array Slot), va_S A s.heap H' locs' → va_P (dC, dI) xCl [(h0, ce21 h1 h2 h3 h4), (h1, ce201 h5), (h2, ce3 z.1), (h3, ce276 h6), (h4, ce226 h7), (h5, ce200 kc0 h8 h9 h10 h11 h12), (h6, ce275 kc1 (z.2.2.1 128) (z.2.2.1 128) (z.2.2.1 128) (z.2.2.1 128) (z.2.2.1 128) (z.2.2.1 128) (z.2.2.1 128)), (h7, ce200 kc2 (z.2.2.1 128) (z.2.2.1 129) (z.2.2.1 130) (z.2.2.1 131) (z.2.2.1 132)), (h8, ce49), (h9, ce49), (h10, ce49), (h11, ce49), (h12, ce49)] H' → va_D A [(h0, ce21 h1 h2 h3 h4), (h1, ce201 h5), (h2, ce3 z.1), (h3, ce276 h6), (h4, ce226 h7), (h5, ce200 kc0 h8 h9 h10 h11 h12), (h6, ce275 kc1 (z.2.2.1 128) (z.2.2.1 128) (z.2.2.1 128) (z.2.2.1 128) (z.2.2.1 128) (z.2.2.1 128) (z.2.2.1 128)), (h7, ce200 kc2 (z.2.2.1 128) (z.2.2.1 129) (z.2.2.1 130) (z.2.2.1 131) (z.2.2.1 132)), (h8, ce49), (h9, ce49), (h10, ce49), (h11, ce49), (h12, ce49)] → lv_has ls' 7 [(3, .int 50), (1, .int 0), (2, .int 3), (0, .ref h0)] → s.heap.size + 1184 ≤ H'.size → W p l e ({ frames := 5, cells := 1480, slots := 16000, locals := 121 } : Room) s m args below meth c H' locs' 1184 12800 Q (F0 m 23 ls' [])) : W p l e ({ frames := 5, cells := 1480, slots := 16000, locals := 121 } : Room) s m args below meth c H locs 1036 11200 Q (F0 m 23 ls []) := by
  refine lv_iload_n hx hb dX9_shown_23 rfl (lv_at hl 0 rfl) ?_
  refine lv_bipush (v := 49) hx hb dX9_shown_24 (by decide) ?_
  refine lv_icmp_gt (tgt := 113) hx hb dX9_shown_26 (by decide) (fun cz => absurd cz (by decide)) (fun _ => ?_)
  refine lv_iconst (v := 0) hx hb dX9_shown_29 (by decide) ?_
  refine lv_istore (lv' := [(4, .int 0), (3, .int 49), (1, .int 0), (2, .int 3), (0, .ref h0)]) hx hb dX9_shown_30 hl (by decide) rfl (fun ls hl => ?_)
  refine lv_aload_n hx hb dX9_shown_32 rfl (lv_at hl 4 rfl) ?_
  refine va_get (D := (dC, dI)) (ci := 8) (v := .ref h3) (C := RX9) (T := TX9) (N := 6) hx hb hts in_X9 hown hK hP 0 rfl rfl 3 (by decide) (hts _ q_66) (fun _ h9 => h9) rfl dX9_shown_33 ?_
  have hM1309 := k619_iterator l hl9 dC dI z h3 h6 H.size
  obtain ⟨hF1307, hC1310⟩ := pc_M hM1309 hP hD hK hS hX hT hA [3] [] rfl rfl rfl
  refine va_callr (va_runV (As := []) (rest := []) ⟨hx, hb, hml, hown, hts⟩ hM1309 (cwV 0 hts (gV q_256 q_257 q_258 q_12 q_255) rfl rfl rfl hV_Jx4a65c_iterator_32c93 ⟨Nat.le_of_ble_eq_true rfl, Nat.le_of_ble_eq_true rfl⟩) ⟨pc_blind, va_recv hK hP (ci := 0) (q := (RJx4a65c, TJx4a65c, 3)) (q0 := 3) rfl rfl, fun U hU hW => ⟨rfl, hC1310 U hU hW⟩⟩ rfl rfl hl.1 rfl (lv_room (Nat.le_of_ble_eq_true rfl)) dX9_shown_36 ⟨(Nat.le_of_ble_eq_true rfl), (Nat.le_of_ble_eq_true rfl)⟩) hS (fun q9 _ h9 => hF1307 q9 h9) hF1307 (fun u1311 r1312 t1311 H1311 L1311 ht1311 hvm1311 hw1311 hB1311 hz1311 hk1311 hS => ?_)
  obtain ⟨a1313, hr1311, hB1311⟩ := hB1311
  obtain ⟨hP, hD, hK⟩ := pq_jn (wz := [(h0, ce21 h1 h2 h3 h4), (h1, ce201 h5), (h2, ce3 z.1), (h4, ce226 h7), (h5, ce200 kc0 h8 h9 h10 h11 h12), (h6, ce275 kc1 (z.2.2.1 128) (z.2.2.1 128) (z.2.2.1 128) (z.2.2.1 128) (z.2.2.1 128) (z.2.2.1 128) (z.2.2.1 128)), (h7, ce200 kc2 (z.2.2.1 128) (z.2.2.1 129) (z.2.2.1 130) (z.2.2.1 131) (z.2.2.1 132)), (h8, ce49), (h9, ce49), (h10, ce49), (h11, ce49), (h12, ce49), (h3, ce276 h6), (a1313, ce292 h3)]) (tz := [(kc0, .object "java/lang/Object"), (kc1, .object "java/lang/Object"), (kc2, .object "java/lang/Object")]) hP hD hK [3] [0, 1, 2] rfl hk1311 hF1307 hB1311.1 ht1311 hvm1311 rfl rfl
  have hG : s.heap.size + 1037 ≤ H1311.size := va_gr (g := 1036) (g1 := 1) hG (by rw [← ht1311]; exact hB1311.2)
  refine W.eq (g2 := F0 m 39 ls [.ref a1313]) (by rw [hr1311]) ?_
  refine W.widen (k := 1037) (n := 11204) (by decide) (by decide) ?_
  refine lv_astore (lv' := [(5, .ref a1313), (4, .int 0), (3, .int 49), (1, .int 0), (2, .int 3), (0, .ref h0)]) hx hb dX9_shown_39 hl (by decide) rfl (fun ls hl => ?_)
  refine lv_aload hx hb dX9_shown_41 (lv_at hl 0 rfl) ?_
  have hM1316 := k620_hasNext l hl9 dC dI z a1313 h3 h6 H1311.size
  obtain ⟨hF1314, hC1317⟩ := pc_M hM1316 hP hD hK hS hX hT hA [13, 12] [] rfl rfl rfl
  refine va_callFi (va_runF (As := []) (rest := []) (hK.1 1 (RJx35411, TJx35411, 4) rfl).2 ⟨hx, hb, hml, hown, hts⟩ hM1316 (va_cwF 0 hts (gF q_261 q_262 q_263 q_246 q_260) rfl rfl rfl hT.2.2.2.2.2.2.1 hF_xIh ⟨Nat.le_of_ble_eq_true rfl, Nat.le_of_ble_eq_true rfl⟩) ⟨pc_blind, va_recv hK hP (ci := 1) (q := (RJx35411, TJx35411, 4)) (q0 := 13) rfl rfl, fun U hU hW => ⟨rfl, hC1317 U hU hW⟩⟩ rfl rfl hl.1 rfl (lv_room (Nat.le_of_ble_eq_true rfl)) dX9_shown_43 ⟨(Nat.le_of_ble_eq_true rfl), (Nat.le_of_ble_eq_true rfl)⟩) hS (fun q9 _ h9 => hF1314 q9 h9) hF1314 (fun r1319 u1318 t1318 H1318 L1318 ht1318 hvm1318 hw1318 hB1318 hz1318 hk1318 hS => ?_)
  have hP := pq_keep hP hD [13, 12] rfl hk1318 hB1318.1 ht1318
  have hG : s.heap.size + 1037 ≤ H1318.size := Nat.le_trans hG hz1318
  refine W.eq (g2 := F0 m 48 ls [.int 1]) (by rw [hw1318]) ?_
  refine lv_if_eq (tgt := 92) hx hb dX9_shown_48 (by decide) (fun cz => absurd cz (by decide)) (fun _ => ?_)
  refine lv_aload hx hb dX9_shown_51 (lv_at hl 0 rfl) ?_
  have hM1322 := k622_next l hl9 dC dI z a1313 h3 h6 H1318.size kc1
  obtain ⟨hF1320, hC1323⟩ := pc_M hM1322 hP hD hK hS hX hT hA [13, 12, 5] [1] rfl rfl rfl
  refine va_callFr (va_runF (As := []) (rest := []) (hK.1 1 (RJx35411, TJx35411, 4) rfl).2 ⟨hx, hb, hml, hown, hts⟩ hM1322 (va_cwF 0 hts (gF q_308 q_309 q_310 q_246 q_307) rfl rfl rfl hT.2.2.2.2.2.2.2.1 hF_xIn ⟨Nat.le_of_ble_eq_true rfl, Nat.le_of_ble_eq_true rfl⟩) ⟨pc_blind, va_recv hK hP (ci := 1) (q := (RJx35411, TJx35411, 4)) (q0 := 13) rfl rfl, fun U hU hW => ⟨rfl, hC1323 U hU hW⟩⟩ rfl rfl hl.1 rfl (lv_room (Nat.le_of_ble_eq_true rfl)) dX9_shown_53 ⟨(Nat.le_of_ble_eq_true rfl), (Nat.le_of_ble_eq_true rfl)⟩) hS (fun q9 _ h9 => hF1320 q9 h9) hF1320 (fun u1324 r1325 t1324 H1324 L1324 ht1324 hvm1324 hw1324 hB1324 hz1324 hk1324 hS => ?_)
  obtain ⟨hr1324, hB1324⟩ := hB1324
  obtain ⟨hP, hD, hK⟩ := pq_jn (wz := [(h0, ce21 h1 h2 h3 h4), (h1, ce201 h5), (h2, ce3 z.1), (h4, ce226 h7), (h5, ce200 kc0 h8 h9 h10 h11 h12), (h7, ce200 kc2 (z.2.2.1 128) (z.2.2.1 129) (z.2.2.1 130) (z.2.2.1 131) (z.2.2.1 132)), (h8, ce49), (h9, ce49), (h10, ce49), (h11, ce49), (h12, ce49), (a1313, ce294 h3), (h3, ce276 h6), (h6, ce275 kc1 (z.2.2.1 128) (z.2.2.1 128) (z.2.2.1 128) (z.2.2.1 128) (z.2.2.1 128) (z.2.2.1 128) (z.2.2.1 128))]) (tz := [(kc0, .object "java/lang/Object"), (kc2, .object "java/lang/Object"), (kc1, .object "java/lang/Object")]) hP hD hK [13, 12, 5] [0, 2] rfl hk1324 hF1320 hB1324.1 ht1324 hvm1324 rfl rfl
  have hG : s.heap.size + 1037 ≤ H1324.size := Nat.le_trans hG hz1324
  refine W.eq (g2 := F0 m 58 ls [.ref (z.2.2.1 128)]) (by rw [hr1324]) ?_
  refine va_castE (nm := "java/lang/Integer") hx hb hown (hts _ q_320) (va_Orecv (hX.2.2.1.1.1 128 (by decide)) hS) dX9_shown_58 ?_
  have hM1328 := k74_intValue l hl9 dC dI z H1324.size
  obtain ⟨hF1326, hC1329⟩ := pc_M hM1328 hP hD hK hS hX hT hA [] [] rfl rfl rfl
  refine va_calli (va_runV (As := []) (rest := []) ⟨hx, hb, hml, hown, hts⟩ hM1328 (cwV 0 hts (gV q_323 q_324 q_325 q_297 q_322) rfl rfl rfl hV_J6_intValue_8abf5 ⟨Nat.le_of_ble_eq_true rfl, Nat.le_of_ble_eq_true rfl⟩) ⟨pc_blind, va_Orecv (hX.2.2.1.1.1 128 (by decide)) hS, fun U hU hW => ⟨rfl, hC1329 U hU hW⟩⟩ rfl rfl hl.1 rfl (lv_room (Nat.le_of_ble_eq_true rfl)) dX9_shown_61 ⟨(Nat.le_of_ble_eq_true rfl), (Nat.le_of_ble_eq_true rfl)⟩) hS (fun q9 _ h9 => hF1326 q9 h9) hF1326 (fun r1331 u1330 t1330 H1330 L1330 ht1330 hvm1330 hw1330 hB1330 hz1330 hk1330 hS => ?_)
  have hP := pq_keep hP hD [] rfl hk1330 hB1330.1 ht1330
  have hG : s.heap.size + 1037 ≤ H1330.size := Nat.le_trans hG hz1330
  refine W.eq (g2 := F0 m 64 ls [.int 0]) (by rw [hw1330]) ?_
  refine lv_istore (lv' := [(6, .int 0), (5, .ref a1313), (4, .int 0), (3, .int 49), (1, .int 0), (2, .int 3), (0, .ref h0)]) hx hb dX9_shown_64 hl (by decide) rfl (fun ls hl => ?_)
  refine lv_iload hx hb dX9_shown_66 (lv_at hl 2 rfl) ?_
  refine lv_if_ne (tgt := 82) hx hb dX9_shown_68 (by decide) (fun cz => absurd (by decide) cz) (fun _ => ?_)
  refine lv_aload_n hx hb dX9_shown_71 rfl (lv_at hl 6 rfl) ?_
  refine lv_iload_n hx hb dX9_shown_72 rfl (lv_at hl 5 rfl) ?_
  refine lv_iload_n hx hb dX9_shown_73 rfl (lv_at hl 3 rfl) ?_
  refine lv_iload hx hb dX9_shown_74 (lv_at hl 0 rfl) ?_
  have hM1334 := k664_showsIt l hl9 dC dI z h0 h1 h2 h4 h5 h7 h8 h9 h10 h11 h12 h3 H1330.size kc0 kc2
  obtain ⟨hF1332, hC1335⟩ := pc_M hM1334 hP hD hK hS hX hT hA [0, 1, 2, 3, 4, 5, 6, 7, 8, 9, 10] [0, 1] rfl rfl rfl
  refine va_calli (va_runV (As := [.int 3, .int 49, .int 0]) (rest := []) ⟨hx, hb, hml, hown, hts⟩ hM1334 (cwV 3 hts (gV q_429 q_430 q_431 q_60 q_428) rfl rfl rfl hV_X9_showsIt ⟨Nat.le_of_ble_eq_true rfl, Nat.le_of_ble_eq_true rfl⟩) ⟨pc_blind, va_recv hK hP (ci := 8) (q := (RX9, TX9, 6)) (q0 := 0) rfl rfl, fun U hU hW => ⟨rfl, hC1335 U hU hW⟩⟩ rfl rfl hl.1 rfl (lv_room (Nat.le_of_ble_eq_true rfl)) dX9_shown_76 ⟨(Nat.le_of_ble_eq_true rfl), (Nat.le_of_ble_eq_true rfl)⟩) hS (fun q9 _ h9 => hF1332 q9 h9) hF1332 (fun r1337 u1336 t1336 H1336 L1336 ht1336 hvm1336 hw1336 hB1336 hz1336 hk1336 hS => ?_)
  have hP := pq_keep hP hD [0, 1, 2, 3, 4, 5, 6, 7, 8, 9, 10] rfl hk1336 hB1336.1 ht1336
  have hG : s.heap.size + 1058 ≤ H1336.size := va_gr (g := 1037) (g1 := 21) hG (by rw [← ht1336]; exact hB1336.2)
  refine W.eq (g2 := F0 m 79 ls [.int 0]) (by rw [hw1336]) ?_
  refine W.widen (k := 1058) (n := 11432) (by decide) (by decide) ?_
  refine lv_if_eq (tgt := 86) hx hb dX9_shown_79 (by decide) (fun _ => ?_) (fun cz => absurd (by decide) cz)
  refine lv_iconst (v := 0) hx hb dX9_shown_86 (by decide) ?_
  refine lv_istore (lv' := [(4, .int 0), (6, .int 0), (5, .ref a1313), (3, .int 49), (1, .int 0), (2, .int 3), (0, .ref h0)]) hx hb dX9_shown_87 hl (by decide) rfl (fun ls hl => ?_)
  refine lv_goto (tgt := 41) hx hb dX9_shown_89 (by decide) ?_
  refine lv_aload hx hb dX9_shown_41 (lv_at hl 2 rfl) ?_
  have hM1340 := k632_hasNext l hl9 dC dI z a1313 h3 h6 H1336.size
  obtain ⟨hF1338, hC1341⟩ := pc_M hM1340 hP hD hK hS hX hT hA [11, 12] [] rfl rfl rfl
  refine va_callFi (va_runF (As := []) (rest := []) (hK.1 1 (RJx35411, TJx35411, 4) rfl).2 ⟨hx, hb, hml, hown, hts⟩ hM1340 (va_cwF 0 hts (gF q_261 q_262 q_263 q_246 q_260) rfl rfl rfl hT.2.2.2.2.2.2.1 hF_xIh ⟨Nat.le_of_ble_eq_true rfl, Nat.le_of_ble_eq_true rfl⟩) ⟨pc_blind, va_recv hK hP (ci := 1) (q := (RJx35411, TJx35411, 4)) (q0 := 11) rfl rfl, fun U hU hW => ⟨rfl, hC1341 U hU hW⟩⟩ rfl rfl hl.1 rfl (lv_room (Nat.le_of_ble_eq_true rfl)) dX9_shown_43 ⟨(Nat.le_of_ble_eq_true rfl), (Nat.le_of_ble_eq_true rfl)⟩) hS (fun q9 _ h9 => hF1338 q9 h9) hF1338 (fun r1343 u1342 t1342 H1342 L1342 ht1342 hvm1342 hw1342 hB1342 hz1342 hk1342 hS => ?_)
  have hP := pq_keep hP hD [11, 12] rfl hk1342 hB1342.1 ht1342
  have hG : s.heap.size + 1058 ≤ H1342.size := Nat.le_trans hG hz1342
  refine W.eq (g2 := F0 m 48 ls [.int 1]) (by rw [hw1342]) ?_
  refine lv_if_eq (tgt := 92) hx hb dX9_shown_48 (by decide) (fun cz => absurd cz (by decide)) (fun _ => ?_)
  refine lv_aload hx hb dX9_shown_51 (lv_at hl 2 rfl) ?_
  have hM1346 := k634_next l hl9 dC dI z a1313 h3 h6 H1342.size kc1
  obtain ⟨hF1344, hC1347⟩ := pc_M hM1346 hP hD hK hS hX hT hA [11, 12, 13] [2] rfl rfl rfl
  refine va_callFr (va_runF (As := []) (rest := []) (hK.1 1 (RJx35411, TJx35411, 4) rfl).2 ⟨hx, hb, hml, hown, hts⟩ hM1346 (va_cwF 0 hts (gF q_308 q_309 q_310 q_246 q_307) rfl rfl rfl hT.2.2.2.2.2.2.2.1 hF_xIn ⟨Nat.le_of_ble_eq_true rfl, Nat.le_of_ble_eq_true rfl⟩) ⟨pc_blind, va_recv hK hP (ci := 1) (q := (RJx35411, TJx35411, 4)) (q0 := 11) rfl rfl, fun U hU hW => ⟨rfl, hC1347 U hU hW⟩⟩ rfl rfl hl.1 rfl (lv_room (Nat.le_of_ble_eq_true rfl)) dX9_shown_53 ⟨(Nat.le_of_ble_eq_true rfl), (Nat.le_of_ble_eq_true rfl)⟩) hS (fun q9 _ h9 => hF1344 q9 h9) hF1344 (fun u1348 r1349 t1348 H1348 L1348 ht1348 hvm1348 hw1348 hB1348 hz1348 hk1348 hS => ?_)
  obtain ⟨hr1348, hB1348⟩ := hB1348
  obtain ⟨hP, hD, hK⟩ := pq_jn (wz := [(h0, ce21 h1 h2 h3 h4), (h1, ce201 h5), (h2, ce3 z.1), (h4, ce226 h7), (h5, ce200 kc0 h8 h9 h10 h11 h12), (h7, ce200 kc2 (z.2.2.1 128) (z.2.2.1 129) (z.2.2.1 130) (z.2.2.1 131) (z.2.2.1 132)), (h8, ce49), (h9, ce49), (h10, ce49), (h11, ce49), (h12, ce49), (a1313, ce310 h3), (h3, ce276 h6), (h6, ce275 kc1 (z.2.2.1 128) (z.2.2.1 128) (z.2.2.1 128) (z.2.2.1 128) (z.2.2.1 128) (z.2.2.1 128) (z.2.2.1 128))]) (tz := [(kc0, .object "java/lang/Object"), (kc2, .object "java/lang/Object"), (kc1, .object "java/lang/Object")]) hP hD hK [11, 12, 13] [0, 1] rfl hk1348 hF1344 hB1348.1 ht1348 hvm1348 rfl rfl
  have hG : s.heap.size + 1058 ≤ H1348.size := Nat.le_trans hG hz1348
  refine W.eq (g2 := F0 m 58 ls [.ref (z.2.2.1 128)]) (by rw [hr1348]) ?_
  refine va_castE (nm := "java/lang/Integer") hx hb hown (hts _ q_320) (va_Orecv (hX.2.2.1.1.1 128 (by decide)) hS) dX9_shown_58 ?_
  have hM1352 := k74_intValue l hl9 dC dI z H1348.size
  obtain ⟨hF1350, hC1353⟩ := pc_M hM1352 hP hD hK hS hX hT hA [] [] rfl rfl rfl
  refine va_calli (va_runV (As := []) (rest := []) ⟨hx, hb, hml, hown, hts⟩ hM1352 (cwV 0 hts (gV q_323 q_324 q_325 q_297 q_322) rfl rfl rfl hV_J6_intValue_8abf5 ⟨Nat.le_of_ble_eq_true rfl, Nat.le_of_ble_eq_true rfl⟩) ⟨pc_blind, va_Orecv (hX.2.2.1.1.1 128 (by decide)) hS, fun U hU hW => ⟨rfl, hC1353 U hU hW⟩⟩ rfl rfl hl.1 rfl (lv_room (Nat.le_of_ble_eq_true rfl)) dX9_shown_61 ⟨(Nat.le_of_ble_eq_true rfl), (Nat.le_of_ble_eq_true rfl)⟩) hS (fun q9 _ h9 => hF1350 q9 h9) hF1350 (fun r1355 u1354 t1354 H1354 L1354 ht1354 hvm1354 hw1354 hB1354 hz1354 hk1354 hS => ?_)
  have hP := pq_keep hP hD [] rfl hk1354 hB1354.1 ht1354
  have hG : s.heap.size + 1058 ≤ H1354.size := Nat.le_trans hG hz1354
  refine W.eq (g2 := F0 m 64 ls [.int 0]) (by rw [hw1354]) ?_
  refine lv_istore (lv' := [(6, .int 0), (4, .int 0), (5, .ref a1313), (3, .int 49), (1, .int 0), (2, .int 3), (0, .ref h0)]) hx hb dX9_shown_64 hl (by decide) rfl (fun ls hl => ?_)
  refine lv_iload hx hb dX9_shown_66 (lv_at hl 1 rfl) ?_
  refine lv_if_ne (tgt := 82) hx hb dX9_shown_68 (by decide) (fun cz => absurd (by decide) cz) (fun _ => ?_)
  refine lv_aload_n hx hb dX9_shown_71 rfl (lv_at hl 6 rfl) ?_
  refine lv_iload_n hx hb dX9_shown_72 rfl (lv_at hl 5 rfl) ?_
  refine lv_iload_n hx hb dX9_shown_73 rfl (lv_at hl 3 rfl) ?_
  refine lv_iload hx hb dX9_shown_74 (lv_at hl 0 rfl) ?_
  have hM1358 := k664_showsIt l hl9 dC dI z h0 h1 h2 h4 h5 h7 h8 h9 h10 h11 h12 h3 H1354.size kc0 kc2
  obtain ⟨hF1356, hC1359⟩ := pc_M hM1358 hP hD hK hS hX hT hA [0, 1, 2, 3, 4, 5, 6, 7, 8, 9, 10] [0, 1] rfl rfl rfl
  refine va_calli (va_runV (As := [.int 3, .int 49, .int 0]) (rest := []) ⟨hx, hb, hml, hown, hts⟩ hM1358 (cwV 3 hts (gV q_429 q_430 q_431 q_60 q_428) rfl rfl rfl hV_X9_showsIt ⟨Nat.le_of_ble_eq_true rfl, Nat.le_of_ble_eq_true rfl⟩) ⟨pc_blind, va_recv hK hP (ci := 8) (q := (RX9, TX9, 6)) (q0 := 0) rfl rfl, fun U hU hW => ⟨rfl, hC1359 U hU hW⟩⟩ rfl rfl hl.1 rfl (lv_room (Nat.le_of_ble_eq_true rfl)) dX9_shown_76 ⟨(Nat.le_of_ble_eq_true rfl), (Nat.le_of_ble_eq_true rfl)⟩) hS (fun q9 _ h9 => hF1356 q9 h9) hF1356 (fun r1361 u1360 t1360 H1360 L1360 ht1360 hvm1360 hw1360 hB1360 hz1360 hk1360 hS => ?_)
  have hP := pq_keep hP hD [0, 1, 2, 3, 4, 5, 6, 7, 8, 9, 10] rfl hk1360 hB1360.1 ht1360
  have hG : s.heap.size + 1079 ≤ H1360.size := va_gr (g := 1058) (g1 := 21) hG (by rw [← ht1360]; exact hB1360.2)
  refine W.eq (g2 := F0 m 79 ls [.int 0]) (by rw [hw1360]) ?_
  refine W.widen (k := 1079) (n := 11660) (by decide) (by decide) ?_
  refine lv_if_eq (tgt := 86) hx hb dX9_shown_79 (by decide) (fun _ => ?_) (fun cz => absurd (by decide) cz)
  refine lv_iconst (v := 0) hx hb dX9_shown_86 (by decide) ?_
  refine lv_istore (lv' := [(4, .int 0), (6, .int 0), (5, .ref a1313), (3, .int 49), (1, .int 0), (2, .int 3), (0, .ref h0)]) hx hb dX9_shown_87 hl (by decide) rfl (fun ls hl => ?_)
  refine lv_goto (tgt := 41) hx hb dX9_shown_89 (by decide) ?_
  refine lv_aload hx hb dX9_shown_41 (lv_at hl 2 rfl) ?_
  have hM1364 := k635_hasNext l hl9 dC dI z a1313 h3 h6 H1360.size
  obtain ⟨hF1362, hC1365⟩ := pc_M hM1364 hP hD hK hS hX hT hA [11, 12] [] rfl rfl rfl
  refine va_callFi (va_runF (As := []) (rest := []) (hK.1 1 (RJx35411, TJx35411, 4) rfl).2 ⟨hx, hb, hml, hown, hts⟩ hM1364 (va_cwF 0 hts (gF q_261 q_262 q_263 q_246 q_260) rfl rfl rfl hT.2.2.2.2.2.2.1 hF_xIh ⟨Nat.le_of_ble_eq_true rfl, Nat.le_of_ble_eq_true rfl⟩) ⟨pc_blind, va_recv hK hP (ci := 1) (q := (RJx35411, TJx35411, 4)) (q0 := 11) rfl rfl, fun U hU hW => ⟨rfl, hC1365 U hU hW⟩⟩ rfl rfl hl.1 rfl (lv_room (Nat.le_of_ble_eq_true rfl)) dX9_shown_43 ⟨(Nat.le_of_ble_eq_true rfl), (Nat.le_of_ble_eq_true rfl)⟩) hS (fun q9 _ h9 => hF1362 q9 h9) hF1362 (fun r1367 u1366 t1366 H1366 L1366 ht1366 hvm1366 hw1366 hB1366 hz1366 hk1366 hS => ?_)
  have hP := pq_keep hP hD [11, 12] rfl hk1366 hB1366.1 ht1366
  have hG : s.heap.size + 1079 ≤ H1366.size := Nat.le_trans hG hz1366
  refine W.eq (g2 := F0 m 48 ls [.int 1]) (by rw [hw1366]) ?_
  refine lv_if_eq (tgt := 92) hx hb dX9_shown_48 (by decide) (fun cz => absurd cz (by decide)) (fun _ => ?_)
  refine lv_aload hx hb dX9_shown_51 (lv_at hl 2 rfl) ?_
  have hM1370 := k637_next l hl9 dC dI z a1313 h3 h6 H1366.size kc1
  obtain ⟨hF1368, hC1371⟩ := pc_M hM1370 hP hD hK hS hX hT hA [11, 12, 13] [2] rfl rfl rfl
  refine va_callFr (va_runF (As := []) (rest := []) (hK.1 1 (RJx35411, TJx35411, 4) rfl).2 ⟨hx, hb, hml, hown, hts⟩ hM1370 (va_cwF 0 hts (gF q_308 q_309 q_310 q_246 q_307) rfl rfl rfl hT.2.2.2.2.2.2.2.1 hF_xIn ⟨Nat.le_of_ble_eq_true rfl, Nat.le_of_ble_eq_true rfl⟩) ⟨pc_blind, va_recv hK hP (ci := 1) (q := (RJx35411, TJx35411, 4)) (q0 := 11) rfl rfl, fun U hU hW => ⟨rfl, hC1371 U hU hW⟩⟩ rfl rfl hl.1 rfl (lv_room (Nat.le_of_ble_eq_true rfl)) dX9_shown_53 ⟨(Nat.le_of_ble_eq_true rfl), (Nat.le_of_ble_eq_true rfl)⟩) hS (fun q9 _ h9 => hF1368 q9 h9) hF1368 (fun u1372 r1373 t1372 H1372 L1372 ht1372 hvm1372 hw1372 hB1372 hz1372 hk1372 hS => ?_)
  obtain ⟨hr1372, hB1372⟩ := hB1372
  obtain ⟨hP, hD, hK⟩ := pq_jn (wz := [(h0, ce21 h1 h2 h3 h4), (h1, ce201 h5), (h2, ce3 z.1), (h4, ce226 h7), (h5, ce200 kc0 h8 h9 h10 h11 h12), (h7, ce200 kc2 (z.2.2.1 128) (z.2.2.1 129) (z.2.2.1 130) (z.2.2.1 131) (z.2.2.1 132)), (h8, ce49), (h9, ce49), (h10, ce49), (h11, ce49), (h12, ce49), (a1313, ce312 h3), (h3, ce276 h6), (h6, ce275 kc1 (z.2.2.1 128) (z.2.2.1 128) (z.2.2.1 128) (z.2.2.1 128) (z.2.2.1 128) (z.2.2.1 128) (z.2.2.1 128))]) (tz := [(kc0, .object "java/lang/Object"), (kc2, .object "java/lang/Object"), (kc1, .object "java/lang/Object")]) hP hD hK [11, 12, 13] [0, 1] rfl hk1372 hF1368 hB1372.1 ht1372 hvm1372 rfl rfl
  have hG : s.heap.size + 1079 ≤ H1372.size := Nat.le_trans hG hz1372
  refine W.eq (g2 := F0 m 58 ls [.ref (z.2.2.1 128)]) (by rw [hr1372]) ?_
  refine va_castE (nm := "java/lang/Integer") hx hb hown (hts _ q_320) (va_Orecv (hX.2.2.1.1.1 128 (by decide)) hS) dX9_shown_58 ?_
  have hM1376 := k74_intValue l hl9 dC dI z H1372.size
  obtain ⟨hF1374, hC1377⟩ := pc_M hM1376 hP hD hK hS hX hT hA [] [] rfl rfl rfl
  refine va_calli (va_runV (As := []) (rest := []) ⟨hx, hb, hml, hown, hts⟩ hM1376 (cwV 0 hts (gV q_323 q_324 q_325 q_297 q_322) rfl rfl rfl hV_J6_intValue_8abf5 ⟨Nat.le_of_ble_eq_true rfl, Nat.le_of_ble_eq_true rfl⟩) ⟨pc_blind, va_Orecv (hX.2.2.1.1.1 128 (by decide)) hS, fun U hU hW => ⟨rfl, hC1377 U hU hW⟩⟩ rfl rfl hl.1 rfl (lv_room (Nat.le_of_ble_eq_true rfl)) dX9_shown_61 ⟨(Nat.le_of_ble_eq_true rfl), (Nat.le_of_ble_eq_true rfl)⟩) hS (fun q9 _ h9 => hF1374 q9 h9) hF1374 (fun r1379 u1378 t1378 H1378 L1378 ht1378 hvm1378 hw1378 hB1378 hz1378 hk1378 hS => ?_)
  have hP := pq_keep hP hD [] rfl hk1378 hB1378.1 ht1378
  have hG : s.heap.size + 1079 ≤ H1378.size := Nat.le_trans hG hz1378
  refine W.eq (g2 := F0 m 64 ls [.int 0]) (by rw [hw1378]) ?_
  refine lv_istore (lv' := [(6, .int 0), (4, .int 0), (5, .ref a1313), (3, .int 49), (1, .int 0), (2, .int 3), (0, .ref h0)]) hx hb dX9_shown_64 hl (by decide) rfl (fun ls hl => ?_)
  refine lv_iload hx hb dX9_shown_66 (lv_at hl 1 rfl) ?_
  refine lv_if_ne (tgt := 82) hx hb dX9_shown_68 (by decide) (fun cz => absurd (by decide) cz) (fun _ => ?_)
  refine lv_aload_n hx hb dX9_shown_71 rfl (lv_at hl 6 rfl) ?_
  refine lv_iload_n hx hb dX9_shown_72 rfl (lv_at hl 5 rfl) ?_
  refine lv_iload_n hx hb dX9_shown_73 rfl (lv_at hl 3 rfl) ?_
  refine lv_iload hx hb dX9_shown_74 (lv_at hl 0 rfl) ?_
  have hM1382 := k664_showsIt l hl9 dC dI z h0 h1 h2 h4 h5 h7 h8 h9 h10 h11 h12 h3 H1378.size kc0 kc2
  obtain ⟨hF1380, hC1383⟩ := pc_M hM1382 hP hD hK hS hX hT hA [0, 1, 2, 3, 4, 5, 6, 7, 8, 9, 10] [0, 1] rfl rfl rfl
  refine va_calli (va_runV (As := [.int 3, .int 49, .int 0]) (rest := []) ⟨hx, hb, hml, hown, hts⟩ hM1382 (cwV 3 hts (gV q_429 q_430 q_431 q_60 q_428) rfl rfl rfl hV_X9_showsIt ⟨Nat.le_of_ble_eq_true rfl, Nat.le_of_ble_eq_true rfl⟩) ⟨pc_blind, va_recv hK hP (ci := 8) (q := (RX9, TX9, 6)) (q0 := 0) rfl rfl, fun U hU hW => ⟨rfl, hC1383 U hU hW⟩⟩ rfl rfl hl.1 rfl (lv_room (Nat.le_of_ble_eq_true rfl)) dX9_shown_76 ⟨(Nat.le_of_ble_eq_true rfl), (Nat.le_of_ble_eq_true rfl)⟩) hS (fun q9 _ h9 => hF1380 q9 h9) hF1380 (fun r1385 u1384 t1384 H1384 L1384 ht1384 hvm1384 hw1384 hB1384 hz1384 hk1384 hS => ?_)
  have hP := pq_keep hP hD [0, 1, 2, 3, 4, 5, 6, 7, 8, 9, 10] rfl hk1384 hB1384.1 ht1384
  have hG : s.heap.size + 1100 ≤ H1384.size := va_gr (g := 1079) (g1 := 21) hG (by rw [← ht1384]; exact hB1384.2)
  refine W.eq (g2 := F0 m 79 ls [.int 0]) (by rw [hw1384]) ?_
  refine W.widen (k := 1100) (n := 11888) (by decide) (by decide) ?_
  refine lv_if_eq (tgt := 86) hx hb dX9_shown_79 (by decide) (fun _ => ?_) (fun cz => absurd (by decide) cz)
  refine lv_iconst (v := 0) hx hb dX9_shown_86 (by decide) ?_
  refine lv_istore (lv' := [(4, .int 0), (6, .int 0), (5, .ref a1313), (3, .int 49), (1, .int 0), (2, .int 3), (0, .ref h0)]) hx hb dX9_shown_87 hl (by decide) rfl (fun ls hl => ?_)
  refine lv_goto (tgt := 41) hx hb dX9_shown_89 (by decide) ?_
  refine lv_aload hx hb dX9_shown_41 (lv_at hl 2 rfl) ?_
  have hM1388 := k638_hasNext l hl9 dC dI z a1313 h3 h6 H1384.size
  obtain ⟨hF1386, hC1389⟩ := pc_M hM1388 hP hD hK hS hX hT hA [11, 12] [] rfl rfl rfl
  refine va_callFi (va_runF (As := []) (rest := []) (hK.1 1 (RJx35411, TJx35411, 4) rfl).2 ⟨hx, hb, hml, hown, hts⟩ hM1388 (va_cwF 0 hts (gF q_261 q_262 q_263 q_246 q_260) rfl rfl rfl hT.2.2.2.2.2.2.1 hF_xIh ⟨Nat.le_of_ble_eq_true rfl, Nat.le_of_ble_eq_true rfl⟩) ⟨pc_blind, va_recv hK hP (ci := 1) (q := (RJx35411, TJx35411, 4)) (q0 := 11) rfl rfl, fun U hU hW => ⟨rfl, hC1389 U hU hW⟩⟩ rfl rfl hl.1 rfl (lv_room (Nat.le_of_ble_eq_true rfl)) dX9_shown_43 ⟨(Nat.le_of_ble_eq_true rfl), (Nat.le_of_ble_eq_true rfl)⟩) hS (fun q9 _ h9 => hF1386 q9 h9) hF1386 (fun r1391 u1390 t1390 H1390 L1390 ht1390 hvm1390 hw1390 hB1390 hz1390 hk1390 hS => ?_)
  have hP := pq_keep hP hD [11, 12] rfl hk1390 hB1390.1 ht1390
  have hG : s.heap.size + 1100 ≤ H1390.size := Nat.le_trans hG hz1390
  refine W.eq (g2 := F0 m 48 ls [.int 1]) (by rw [hw1390]) ?_
  refine lv_if_eq (tgt := 92) hx hb dX9_shown_48 (by decide) (fun cz => absurd cz (by decide)) (fun _ => ?_)
  refine lv_aload hx hb dX9_shown_51 (lv_at hl 2 rfl) ?_
  have hM1394 := k640_next l hl9 dC dI z a1313 h3 h6 H1390.size kc1
  obtain ⟨hF1392, hC1395⟩ := pc_M hM1394 hP hD hK hS hX hT hA [11, 12, 13] [2] rfl rfl rfl
  refine va_callFr (va_runF (As := []) (rest := []) (hK.1 1 (RJx35411, TJx35411, 4) rfl).2 ⟨hx, hb, hml, hown, hts⟩ hM1394 (va_cwF 0 hts (gF q_308 q_309 q_310 q_246 q_307) rfl rfl rfl hT.2.2.2.2.2.2.2.1 hF_xIn ⟨Nat.le_of_ble_eq_true rfl, Nat.le_of_ble_eq_true rfl⟩) ⟨pc_blind, va_recv hK hP (ci := 1) (q := (RJx35411, TJx35411, 4)) (q0 := 11) rfl rfl, fun U hU hW => ⟨rfl, hC1395 U hU hW⟩⟩ rfl rfl hl.1 rfl (lv_room (Nat.le_of_ble_eq_true rfl)) dX9_shown_53 ⟨(Nat.le_of_ble_eq_true rfl), (Nat.le_of_ble_eq_true rfl)⟩) hS (fun q9 _ h9 => hF1392 q9 h9) hF1392 (fun u1396 r1397 t1396 H1396 L1396 ht1396 hvm1396 hw1396 hB1396 hz1396 hk1396 hS => ?_)
  obtain ⟨hr1396, hB1396⟩ := hB1396
  obtain ⟨hP, hD, hK⟩ := pq_jn (wz := [(h0, ce21 h1 h2 h3 h4), (h1, ce201 h5), (h2, ce3 z.1), (h4, ce226 h7), (h5, ce200 kc0 h8 h9 h10 h11 h12), (h7, ce200 kc2 (z.2.2.1 128) (z.2.2.1 129) (z.2.2.1 130) (z.2.2.1 131) (z.2.2.1 132)), (h8, ce49), (h9, ce49), (h10, ce49), (h11, ce49), (h12, ce49), (a1313, ce314 h3), (h3, ce276 h6), (h6, ce275 kc1 (z.2.2.1 128) (z.2.2.1 128) (z.2.2.1 128) (z.2.2.1 128) (z.2.2.1 128) (z.2.2.1 128) (z.2.2.1 128))]) (tz := [(kc0, .object "java/lang/Object"), (kc2, .object "java/lang/Object"), (kc1, .object "java/lang/Object")]) hP hD hK [11, 12, 13] [0, 1] rfl hk1396 hF1392 hB1396.1 ht1396 hvm1396 rfl rfl
  have hG : s.heap.size + 1100 ≤ H1396.size := Nat.le_trans hG hz1396
  refine W.eq (g2 := F0 m 58 ls [.ref (z.2.2.1 128)]) (by rw [hr1396]) ?_
  refine va_castE (nm := "java/lang/Integer") hx hb hown (hts _ q_320) (va_Orecv (hX.2.2.1.1.1 128 (by decide)) hS) dX9_shown_58 ?_
  have hM1400 := k74_intValue l hl9 dC dI z H1396.size
  obtain ⟨hF1398, hC1401⟩ := pc_M hM1400 hP hD hK hS hX hT hA [] [] rfl rfl rfl
  refine va_calli (va_runV (As := []) (rest := []) ⟨hx, hb, hml, hown, hts⟩ hM1400 (cwV 0 hts (gV q_323 q_324 q_325 q_297 q_322) rfl rfl rfl hV_J6_intValue_8abf5 ⟨Nat.le_of_ble_eq_true rfl, Nat.le_of_ble_eq_true rfl⟩) ⟨pc_blind, va_Orecv (hX.2.2.1.1.1 128 (by decide)) hS, fun U hU hW => ⟨rfl, hC1401 U hU hW⟩⟩ rfl rfl hl.1 rfl (lv_room (Nat.le_of_ble_eq_true rfl)) dX9_shown_61 ⟨(Nat.le_of_ble_eq_true rfl), (Nat.le_of_ble_eq_true rfl)⟩) hS (fun q9 _ h9 => hF1398 q9 h9) hF1398 (fun r1403 u1402 t1402 H1402 L1402 ht1402 hvm1402 hw1402 hB1402 hz1402 hk1402 hS => ?_)
  have hP := pq_keep hP hD [] rfl hk1402 hB1402.1 ht1402
  have hG : s.heap.size + 1100 ≤ H1402.size := Nat.le_trans hG hz1402
  refine W.eq (g2 := F0 m 64 ls [.int 0]) (by rw [hw1402]) ?_
  refine lv_istore (lv' := [(6, .int 0), (4, .int 0), (5, .ref a1313), (3, .int 49), (1, .int 0), (2, .int 3), (0, .ref h0)]) hx hb dX9_shown_64 hl (by decide) rfl (fun ls hl => ?_)
  refine lv_iload hx hb dX9_shown_66 (lv_at hl 1 rfl) ?_
  refine lv_if_ne (tgt := 82) hx hb dX9_shown_68 (by decide) (fun cz => absurd (by decide) cz) (fun _ => ?_)
  refine lv_aload_n hx hb dX9_shown_71 rfl (lv_at hl 6 rfl) ?_
  refine lv_iload_n hx hb dX9_shown_72 rfl (lv_at hl 5 rfl) ?_
  refine lv_iload_n hx hb dX9_shown_73 rfl (lv_at hl 3 rfl) ?_
  refine lv_iload hx hb dX9_shown_74 (lv_at hl 0 rfl) ?_
  have hM1406 := k664_showsIt l hl9 dC dI z h0 h1 h2 h4 h5 h7 h8 h9 h10 h11 h12 h3 H1402.size kc0 kc2
  obtain ⟨hF1404, hC1407⟩ := pc_M hM1406 hP hD hK hS hX hT hA [0, 1, 2, 3, 4, 5, 6, 7, 8, 9, 10] [0, 1] rfl rfl rfl
  refine va_calli (va_runV (As := [.int 3, .int 49, .int 0]) (rest := []) ⟨hx, hb, hml, hown, hts⟩ hM1406 (cwV 3 hts (gV q_429 q_430 q_431 q_60 q_428) rfl rfl rfl hV_X9_showsIt ⟨Nat.le_of_ble_eq_true rfl, Nat.le_of_ble_eq_true rfl⟩) ⟨pc_blind, va_recv hK hP (ci := 8) (q := (RX9, TX9, 6)) (q0 := 0) rfl rfl, fun U hU hW => ⟨rfl, hC1407 U hU hW⟩⟩ rfl rfl hl.1 rfl (lv_room (Nat.le_of_ble_eq_true rfl)) dX9_shown_76 ⟨(Nat.le_of_ble_eq_true rfl), (Nat.le_of_ble_eq_true rfl)⟩) hS (fun q9 _ h9 => hF1404 q9 h9) hF1404 (fun r1409 u1408 t1408 H1408 L1408 ht1408 hvm1408 hw1408 hB1408 hz1408 hk1408 hS => ?_)
  have hP := pq_keep hP hD [0, 1, 2, 3, 4, 5, 6, 7, 8, 9, 10] rfl hk1408 hB1408.1 ht1408
  have hG : s.heap.size + 1121 ≤ H1408.size := va_gr (g := 1100) (g1 := 21) hG (by rw [← ht1408]; exact hB1408.2)
  refine W.eq (g2 := F0 m 79 ls [.int 0]) (by rw [hw1408]) ?_
  refine W.widen (k := 1121) (n := 12116) (by decide) (by decide) ?_
  refine lv_if_eq (tgt := 86) hx hb dX9_shown_79 (by decide) (fun _ => ?_) (fun cz => absurd (by decide) cz)
  refine lv_iconst (v := 0) hx hb dX9_shown_86 (by decide) ?_
  refine lv_istore (lv' := [(4, .int 0), (6, .int 0), (5, .ref a1313), (3, .int 49), (1, .int 0), (2, .int 3), (0, .ref h0)]) hx hb dX9_shown_87 hl (by decide) rfl (fun ls hl => ?_)
  refine lv_goto (tgt := 41) hx hb dX9_shown_89 (by decide) ?_
  refine lv_aload hx hb dX9_shown_41 (lv_at hl 2 rfl) ?_
  have hM1412 := k641_hasNext l hl9 dC dI z a1313 h3 h6 H1408.size
  obtain ⟨hF1410, hC1413⟩ := pc_M hM1412 hP hD hK hS hX hT hA [11, 12] [] rfl rfl rfl
  refine va_callFi (va_runF (As := []) (rest := []) (hK.1 1 (RJx35411, TJx35411, 4) rfl).2 ⟨hx, hb, hml, hown, hts⟩ hM1412 (va_cwF 0 hts (gF q_261 q_262 q_263 q_246 q_260) rfl rfl rfl hT.2.2.2.2.2.2.1 hF_xIh ⟨Nat.le_of_ble_eq_true rfl, Nat.le_of_ble_eq_true rfl⟩) ⟨pc_blind, va_recv hK hP (ci := 1) (q := (RJx35411, TJx35411, 4)) (q0 := 11) rfl rfl, fun U hU hW => ⟨rfl, hC1413 U hU hW⟩⟩ rfl rfl hl.1 rfl (lv_room (Nat.le_of_ble_eq_true rfl)) dX9_shown_43 ⟨(Nat.le_of_ble_eq_true rfl), (Nat.le_of_ble_eq_true rfl)⟩) hS (fun q9 _ h9 => hF1410 q9 h9) hF1410 (fun r1415 u1414 t1414 H1414 L1414 ht1414 hvm1414 hw1414 hB1414 hz1414 hk1414 hS => ?_)
  have hP := pq_keep hP hD [11, 12] rfl hk1414 hB1414.1 ht1414
  have hG : s.heap.size + 1121 ≤ H1414.size := Nat.le_trans hG hz1414
  refine W.eq (g2 := F0 m 48 ls [.int 1]) (by rw [hw1414]) ?_
  refine lv_if_eq (tgt := 92) hx hb dX9_shown_48 (by decide) (fun cz => absurd cz (by decide)) (fun _ => ?_)
  refine lv_aload hx hb dX9_shown_51 (lv_at hl 2 rfl) ?_
  have hM1418 := k643_next l hl9 dC dI z a1313 h3 h6 H1414.size kc1
  obtain ⟨hF1416, hC1419⟩ := pc_M hM1418 hP hD hK hS hX hT hA [11, 12, 13] [2] rfl rfl rfl
  refine va_callFr (va_runF (As := []) (rest := []) (hK.1 1 (RJx35411, TJx35411, 4) rfl).2 ⟨hx, hb, hml, hown, hts⟩ hM1418 (va_cwF 0 hts (gF q_308 q_309 q_310 q_246 q_307) rfl rfl rfl hT.2.2.2.2.2.2.2.1 hF_xIn ⟨Nat.le_of_ble_eq_true rfl, Nat.le_of_ble_eq_true rfl⟩) ⟨pc_blind, va_recv hK hP (ci := 1) (q := (RJx35411, TJx35411, 4)) (q0 := 11) rfl rfl, fun U hU hW => ⟨rfl, hC1419 U hU hW⟩⟩ rfl rfl hl.1 rfl (lv_room (Nat.le_of_ble_eq_true rfl)) dX9_shown_53 ⟨(Nat.le_of_ble_eq_true rfl), (Nat.le_of_ble_eq_true rfl)⟩) hS (fun q9 _ h9 => hF1416 q9 h9) hF1416 (fun u1420 r1421 t1420 H1420 L1420 ht1420 hvm1420 hw1420 hB1420 hz1420 hk1420 hS => ?_)
  obtain ⟨hr1420, hB1420⟩ := hB1420
  obtain ⟨hP, hD, hK⟩ := pq_jn (wz := [(h0, ce21 h1 h2 h3 h4), (h1, ce201 h5), (h2, ce3 z.1), (h4, ce226 h7), (h5, ce200 kc0 h8 h9 h10 h11 h12), (h7, ce200 kc2 (z.2.2.1 128) (z.2.2.1 129) (z.2.2.1 130) (z.2.2.1 131) (z.2.2.1 132)), (h8, ce49), (h9, ce49), (h10, ce49), (h11, ce49), (h12, ce49), (a1313, ce316 h3), (h3, ce276 h6), (h6, ce275 kc1 (z.2.2.1 128) (z.2.2.1 128) (z.2.2.1 128) (z.2.2.1 128) (z.2.2.1 128) (z.2.2.1 128) (z.2.2.1 128))]) (tz := [(kc0, .object "java/lang/Object"), (kc2, .object "java/lang/Object"), (kc1, .object "java/lang/Object")]) hP hD hK [11, 12, 13] [0, 1] rfl hk1420 hF1416 hB1420.1 ht1420 hvm1420 rfl rfl
  have hG : s.heap.size + 1121 ≤ H1420.size := Nat.le_trans hG hz1420
  refine W.eq (g2 := F0 m 58 ls [.ref (z.2.2.1 128)]) (by rw [hr1420]) ?_
  refine va_castE (nm := "java/lang/Integer") hx hb hown (hts _ q_320) (va_Orecv (hX.2.2.1.1.1 128 (by decide)) hS) dX9_shown_58 ?_
  have hM1424 := k74_intValue l hl9 dC dI z H1420.size
  obtain ⟨hF1422, hC1425⟩ := pc_M hM1424 hP hD hK hS hX hT hA [] [] rfl rfl rfl
  refine va_calli (va_runV (As := []) (rest := []) ⟨hx, hb, hml, hown, hts⟩ hM1424 (cwV 0 hts (gV q_323 q_324 q_325 q_297 q_322) rfl rfl rfl hV_J6_intValue_8abf5 ⟨Nat.le_of_ble_eq_true rfl, Nat.le_of_ble_eq_true rfl⟩) ⟨pc_blind, va_Orecv (hX.2.2.1.1.1 128 (by decide)) hS, fun U hU hW => ⟨rfl, hC1425 U hU hW⟩⟩ rfl rfl hl.1 rfl (lv_room (Nat.le_of_ble_eq_true rfl)) dX9_shown_61 ⟨(Nat.le_of_ble_eq_true rfl), (Nat.le_of_ble_eq_true rfl)⟩) hS (fun q9 _ h9 => hF1422 q9 h9) hF1422 (fun r1427 u1426 t1426 H1426 L1426 ht1426 hvm1426 hw1426 hB1426 hz1426 hk1426 hS => ?_)
  have hP := pq_keep hP hD [] rfl hk1426 hB1426.1 ht1426
  have hG : s.heap.size + 1121 ≤ H1426.size := Nat.le_trans hG hz1426
  refine W.eq (g2 := F0 m 64 ls [.int 0]) (by rw [hw1426]) ?_
  refine lv_istore (lv' := [(6, .int 0), (4, .int 0), (5, .ref a1313), (3, .int 49), (1, .int 0), (2, .int 3), (0, .ref h0)]) hx hb dX9_shown_64 hl (by decide) rfl (fun ls hl => ?_)
  refine lv_iload hx hb dX9_shown_66 (lv_at hl 1 rfl) ?_
  refine lv_if_ne (tgt := 82) hx hb dX9_shown_68 (by decide) (fun cz => absurd (by decide) cz) (fun _ => ?_)
  refine lv_aload_n hx hb dX9_shown_71 rfl (lv_at hl 6 rfl) ?_
  refine lv_iload_n hx hb dX9_shown_72 rfl (lv_at hl 5 rfl) ?_
  refine lv_iload_n hx hb dX9_shown_73 rfl (lv_at hl 3 rfl) ?_
  refine lv_iload hx hb dX9_shown_74 (lv_at hl 0 rfl) ?_
  have hM1430 := k664_showsIt l hl9 dC dI z h0 h1 h2 h4 h5 h7 h8 h9 h10 h11 h12 h3 H1426.size kc0 kc2
  obtain ⟨hF1428, hC1431⟩ := pc_M hM1430 hP hD hK hS hX hT hA [0, 1, 2, 3, 4, 5, 6, 7, 8, 9, 10] [0, 1] rfl rfl rfl
  refine va_calli (va_runV (As := [.int 3, .int 49, .int 0]) (rest := []) ⟨hx, hb, hml, hown, hts⟩ hM1430 (cwV 3 hts (gV q_429 q_430 q_431 q_60 q_428) rfl rfl rfl hV_X9_showsIt ⟨Nat.le_of_ble_eq_true rfl, Nat.le_of_ble_eq_true rfl⟩) ⟨pc_blind, va_recv hK hP (ci := 8) (q := (RX9, TX9, 6)) (q0 := 0) rfl rfl, fun U hU hW => ⟨rfl, hC1431 U hU hW⟩⟩ rfl rfl hl.1 rfl (lv_room (Nat.le_of_ble_eq_true rfl)) dX9_shown_76 ⟨(Nat.le_of_ble_eq_true rfl), (Nat.le_of_ble_eq_true rfl)⟩) hS (fun q9 _ h9 => hF1428 q9 h9) hF1428 (fun r1433 u1432 t1432 H1432 L1432 ht1432 hvm1432 hw1432 hB1432 hz1432 hk1432 hS => ?_)
  have hP := pq_keep hP hD [0, 1, 2, 3, 4, 5, 6, 7, 8, 9, 10] rfl hk1432 hB1432.1 ht1432
  have hG : s.heap.size + 1142 ≤ H1432.size := va_gr (g := 1121) (g1 := 21) hG (by rw [← ht1432]; exact hB1432.2)
  refine W.eq (g2 := F0 m 79 ls [.int 0]) (by rw [hw1432]) ?_
  refine W.widen (k := 1142) (n := 12344) (by decide) (by decide) ?_
  refine lv_if_eq (tgt := 86) hx hb dX9_shown_79 (by decide) (fun _ => ?_) (fun cz => absurd (by decide) cz)
  refine lv_iconst (v := 0) hx hb dX9_shown_86 (by decide) ?_
  refine lv_istore (lv' := [(4, .int 0), (6, .int 0), (5, .ref a1313), (3, .int 49), (1, .int 0), (2, .int 3), (0, .ref h0)]) hx hb dX9_shown_87 hl (by decide) rfl (fun ls hl => ?_)
  refine lv_goto (tgt := 41) hx hb dX9_shown_89 (by decide) ?_
  refine lv_aload hx hb dX9_shown_41 (lv_at hl 2 rfl) ?_
  have hM1436 := k644_hasNext l hl9 dC dI z a1313 h3 h6 H1432.size
  obtain ⟨hF1434, hC1437⟩ := pc_M hM1436 hP hD hK hS hX hT hA [11, 12] [] rfl rfl rfl
  refine va_callFi (va_runF (As := []) (rest := []) (hK.1 1 (RJx35411, TJx35411, 4) rfl).2 ⟨hx, hb, hml, hown, hts⟩ hM1436 (va_cwF 0 hts (gF q_261 q_262 q_263 q_246 q_260) rfl rfl rfl hT.2.2.2.2.2.2.1 hF_xIh ⟨Nat.le_of_ble_eq_true rfl, Nat.le_of_ble_eq_true rfl⟩) ⟨pc_blind, va_recv hK hP (ci := 1) (q := (RJx35411, TJx35411, 4)) (q0 := 11) rfl rfl, fun U hU hW => ⟨rfl, hC1437 U hU hW⟩⟩ rfl rfl hl.1 rfl (lv_room (Nat.le_of_ble_eq_true rfl)) dX9_shown_43 ⟨(Nat.le_of_ble_eq_true rfl), (Nat.le_of_ble_eq_true rfl)⟩) hS (fun q9 _ h9 => hF1434 q9 h9) hF1434 (fun r1439 u1438 t1438 H1438 L1438 ht1438 hvm1438 hw1438 hB1438 hz1438 hk1438 hS => ?_)
  have hP := pq_keep hP hD [11, 12] rfl hk1438 hB1438.1 ht1438
  have hG : s.heap.size + 1142 ≤ H1438.size := Nat.le_trans hG hz1438
  refine W.eq (g2 := F0 m 48 ls [.int 1]) (by rw [hw1438]) ?_
  refine lv_if_eq (tgt := 92) hx hb dX9_shown_48 (by decide) (fun cz => absurd cz (by decide)) (fun _ => ?_)
  refine lv_aload hx hb dX9_shown_51 (lv_at hl 2 rfl) ?_
  have hM1442 := k646_next l hl9 dC dI z a1313 h3 h6 H1438.size kc1
  obtain ⟨hF1440, hC1443⟩ := pc_M hM1442 hP hD hK hS hX hT hA [11, 12, 13] [2] rfl rfl rfl
  refine va_callFr (va_runF (As := []) (rest := []) (hK.1 1 (RJx35411, TJx35411, 4) rfl).2 ⟨hx, hb, hml, hown, hts⟩ hM1442 (va_cwF 0 hts (gF q_308 q_309 q_310 q_246 q_307) rfl rfl rfl hT.2.2.2.2.2.2.2.1 hF_xIn ⟨Nat.le_of_ble_eq_true rfl, Nat.le_of_ble_eq_true rfl⟩) ⟨pc_blind, va_recv hK hP (ci := 1) (q := (RJx35411, TJx35411, 4)) (q0 := 11) rfl rfl, fun U hU hW => ⟨rfl, hC1443 U hU hW⟩⟩ rfl rfl hl.1 rfl (lv_room (Nat.le_of_ble_eq_true rfl)) dX9_shown_53 ⟨(Nat.le_of_ble_eq_true rfl), (Nat.le_of_ble_eq_true rfl)⟩) hS (fun q9 _ h9 => hF1440 q9 h9) hF1440 (fun u1444 r1445 t1444 H1444 L1444 ht1444 hvm1444 hw1444 hB1444 hz1444 hk1444 hS => ?_)
  obtain ⟨hr1444, hB1444⟩ := hB1444
  obtain ⟨hP, hD, hK⟩ := pq_jn (wz := [(h0, ce21 h1 h2 h3 h4), (h1, ce201 h5), (h2, ce3 z.1), (h4, ce226 h7), (h5, ce200 kc0 h8 h9 h10 h11 h12), (h7, ce200 kc2 (z.2.2.1 128) (z.2.2.1 129) (z.2.2.1 130) (z.2.2.1 131) (z.2.2.1 132)), (h8, ce49), (h9, ce49), (h10, ce49), (h11, ce49), (h12, ce49), (a1313, ce318 h3), (h3, ce276 h6), (h6, ce275 kc1 (z.2.2.1 128) (z.2.2.1 128) (z.2.2.1 128) (z.2.2.1 128) (z.2.2.1 128) (z.2.2.1 128) (z.2.2.1 128))]) (tz := [(kc0, .object "java/lang/Object"), (kc2, .object "java/lang/Object"), (kc1, .object "java/lang/Object")]) hP hD hK [11, 12, 13] [0, 1] rfl hk1444 hF1440 hB1444.1 ht1444 hvm1444 rfl rfl
  have hG : s.heap.size + 1142 ≤ H1444.size := Nat.le_trans hG hz1444
  refine W.eq (g2 := F0 m 58 ls [.ref (z.2.2.1 128)]) (by rw [hr1444]) ?_
  refine va_castE (nm := "java/lang/Integer") hx hb hown (hts _ q_320) (va_Orecv (hX.2.2.1.1.1 128 (by decide)) hS) dX9_shown_58 ?_
  have hM1448 := k74_intValue l hl9 dC dI z H1444.size
  obtain ⟨hF1446, hC1449⟩ := pc_M hM1448 hP hD hK hS hX hT hA [] [] rfl rfl rfl
  refine va_calli (va_runV (As := []) (rest := []) ⟨hx, hb, hml, hown, hts⟩ hM1448 (cwV 0 hts (gV q_323 q_324 q_325 q_297 q_322) rfl rfl rfl hV_J6_intValue_8abf5 ⟨Nat.le_of_ble_eq_true rfl, Nat.le_of_ble_eq_true rfl⟩) ⟨pc_blind, va_Orecv (hX.2.2.1.1.1 128 (by decide)) hS, fun U hU hW => ⟨rfl, hC1449 U hU hW⟩⟩ rfl rfl hl.1 rfl (lv_room (Nat.le_of_ble_eq_true rfl)) dX9_shown_61 ⟨(Nat.le_of_ble_eq_true rfl), (Nat.le_of_ble_eq_true rfl)⟩) hS (fun q9 _ h9 => hF1446 q9 h9) hF1446 (fun r1451 u1450 t1450 H1450 L1450 ht1450 hvm1450 hw1450 hB1450 hz1450 hk1450 hS => ?_)
  have hP := pq_keep hP hD [] rfl hk1450 hB1450.1 ht1450
  have hG : s.heap.size + 1142 ≤ H1450.size := Nat.le_trans hG hz1450
  refine W.eq (g2 := F0 m 64 ls [.int 0]) (by rw [hw1450]) ?_
  refine lv_istore (lv' := [(6, .int 0), (4, .int 0), (5, .ref a1313), (3, .int 49), (1, .int 0), (2, .int 3), (0, .ref h0)]) hx hb dX9_shown_64 hl (by decide) rfl (fun ls hl => ?_)
  refine lv_iload hx hb dX9_shown_66 (lv_at hl 1 rfl) ?_
  refine lv_if_ne (tgt := 82) hx hb dX9_shown_68 (by decide) (fun cz => absurd (by decide) cz) (fun _ => ?_)
  refine lv_aload_n hx hb dX9_shown_71 rfl (lv_at hl 6 rfl) ?_
  refine lv_iload_n hx hb dX9_shown_72 rfl (lv_at hl 5 rfl) ?_
  refine lv_iload_n hx hb dX9_shown_73 rfl (lv_at hl 3 rfl) ?_
  refine lv_iload hx hb dX9_shown_74 (lv_at hl 0 rfl) ?_
  have hM1454 := k664_showsIt l hl9 dC dI z h0 h1 h2 h4 h5 h7 h8 h9 h10 h11 h12 h3 H1450.size kc0 kc2
  obtain ⟨hF1452, hC1455⟩ := pc_M hM1454 hP hD hK hS hX hT hA [0, 1, 2, 3, 4, 5, 6, 7, 8, 9, 10] [0, 1] rfl rfl rfl
  refine va_calli (va_runV (As := [.int 3, .int 49, .int 0]) (rest := []) ⟨hx, hb, hml, hown, hts⟩ hM1454 (cwV 3 hts (gV q_429 q_430 q_431 q_60 q_428) rfl rfl rfl hV_X9_showsIt ⟨Nat.le_of_ble_eq_true rfl, Nat.le_of_ble_eq_true rfl⟩) ⟨pc_blind, va_recv hK hP (ci := 8) (q := (RX9, TX9, 6)) (q0 := 0) rfl rfl, fun U hU hW => ⟨rfl, hC1455 U hU hW⟩⟩ rfl rfl hl.1 rfl (lv_room (Nat.le_of_ble_eq_true rfl)) dX9_shown_76 ⟨(Nat.le_of_ble_eq_true rfl), (Nat.le_of_ble_eq_true rfl)⟩) hS (fun q9 _ h9 => hF1452 q9 h9) hF1452 (fun r1457 u1456 t1456 H1456 L1456 ht1456 hvm1456 hw1456 hB1456 hz1456 hk1456 hS => ?_)
  have hP := pq_keep hP hD [0, 1, 2, 3, 4, 5, 6, 7, 8, 9, 10] rfl hk1456 hB1456.1 ht1456
  have hG : s.heap.size + 1163 ≤ H1456.size := va_gr (g := 1142) (g1 := 21) hG (by rw [← ht1456]; exact hB1456.2)
  refine W.eq (g2 := F0 m 79 ls [.int 0]) (by rw [hw1456]) ?_
  refine W.widen (k := 1163) (n := 12572) (by decide) (by decide) ?_
  refine lv_if_eq (tgt := 86) hx hb dX9_shown_79 (by decide) (fun _ => ?_) (fun cz => absurd (by decide) cz)
  refine lv_iconst (v := 0) hx hb dX9_shown_86 (by decide) ?_
  refine lv_istore (lv' := [(4, .int 0), (6, .int 0), (5, .ref a1313), (3, .int 49), (1, .int 0), (2, .int 3), (0, .ref h0)]) hx hb dX9_shown_87 hl (by decide) rfl (fun ls hl => ?_)
  refine lv_goto (tgt := 41) hx hb dX9_shown_89 (by decide) ?_
  refine lv_aload hx hb dX9_shown_41 (lv_at hl 2 rfl) ?_
  have hM1460 := k647_hasNext l hl9 dC dI z a1313 h3 h6 H1456.size
  obtain ⟨hF1458, hC1461⟩ := pc_M hM1460 hP hD hK hS hX hT hA [11, 12] [] rfl rfl rfl
  refine va_callFi (va_runF (As := []) (rest := []) (hK.1 1 (RJx35411, TJx35411, 4) rfl).2 ⟨hx, hb, hml, hown, hts⟩ hM1460 (va_cwF 0 hts (gF q_261 q_262 q_263 q_246 q_260) rfl rfl rfl hT.2.2.2.2.2.2.1 hF_xIh ⟨Nat.le_of_ble_eq_true rfl, Nat.le_of_ble_eq_true rfl⟩) ⟨pc_blind, va_recv hK hP (ci := 1) (q := (RJx35411, TJx35411, 4)) (q0 := 11) rfl rfl, fun U hU hW => ⟨rfl, hC1461 U hU hW⟩⟩ rfl rfl hl.1 rfl (lv_room (Nat.le_of_ble_eq_true rfl)) dX9_shown_43 ⟨(Nat.le_of_ble_eq_true rfl), (Nat.le_of_ble_eq_true rfl)⟩) hS (fun q9 _ h9 => hF1458 q9 h9) hF1458 (fun r1463 u1462 t1462 H1462 L1462 ht1462 hvm1462 hw1462 hB1462 hz1462 hk1462 hS => ?_)
  have hP := pq_keep hP hD [11, 12] rfl hk1462 hB1462.1 ht1462
  have hG : s.heap.size + 1163 ≤ H1462.size := Nat.le_trans hG hz1462
  refine W.eq (g2 := F0 m 48 ls [.int 1]) (by rw [hw1462]) ?_
  refine lv_if_eq (tgt := 92) hx hb dX9_shown_48 (by decide) (fun cz => absurd cz (by decide)) (fun _ => ?_)
  refine lv_aload hx hb dX9_shown_51 (lv_at hl 2 rfl) ?_
  have hM1466 := k649_next l hl9 dC dI z a1313 h3 h6 H1462.size kc1
  obtain ⟨hF1464, hC1467⟩ := pc_M hM1466 hP hD hK hS hX hT hA [11, 12, 13] [2] rfl rfl rfl
  refine va_callFr (va_runF (As := []) (rest := []) (hK.1 1 (RJx35411, TJx35411, 4) rfl).2 ⟨hx, hb, hml, hown, hts⟩ hM1466 (va_cwF 0 hts (gF q_308 q_309 q_310 q_246 q_307) rfl rfl rfl hT.2.2.2.2.2.2.2.1 hF_xIn ⟨Nat.le_of_ble_eq_true rfl, Nat.le_of_ble_eq_true rfl⟩) ⟨pc_blind, va_recv hK hP (ci := 1) (q := (RJx35411, TJx35411, 4)) (q0 := 11) rfl rfl, fun U hU hW => ⟨rfl, hC1467 U hU hW⟩⟩ rfl rfl hl.1 rfl (lv_room (Nat.le_of_ble_eq_true rfl)) dX9_shown_53 ⟨(Nat.le_of_ble_eq_true rfl), (Nat.le_of_ble_eq_true rfl)⟩) hS (fun q9 _ h9 => hF1464 q9 h9) hF1464 (fun u1468 r1469 t1468 H1468 L1468 ht1468 hvm1468 hw1468 hB1468 hz1468 hk1468 hS => ?_)
  obtain ⟨hr1468, hB1468⟩ := hB1468
  obtain ⟨hP, hD, hK⟩ := pq_jn (wz := [(h0, ce21 h1 h2 h3 h4), (h1, ce201 h5), (h2, ce3 z.1), (h4, ce226 h7), (h5, ce200 kc0 h8 h9 h10 h11 h12), (h7, ce200 kc2 (z.2.2.1 128) (z.2.2.1 129) (z.2.2.1 130) (z.2.2.1 131) (z.2.2.1 132)), (h8, ce49), (h9, ce49), (h10, ce49), (h11, ce49), (h12, ce49), (a1313, ce320 h3), (h3, ce276 h6), (h6, ce275 kc1 (z.2.2.1 128) (z.2.2.1 128) (z.2.2.1 128) (z.2.2.1 128) (z.2.2.1 128) (z.2.2.1 128) (z.2.2.1 128))]) (tz := [(kc0, .object "java/lang/Object"), (kc2, .object "java/lang/Object"), (kc1, .object "java/lang/Object")]) hP hD hK [11, 12, 13] [0, 1] rfl hk1468 hF1464 hB1468.1 ht1468 hvm1468 rfl rfl
  have hG : s.heap.size + 1163 ≤ H1468.size := Nat.le_trans hG hz1468
  refine W.eq (g2 := F0 m 58 ls [.ref (z.2.2.1 128)]) (by rw [hr1468]) ?_
  refine va_castE (nm := "java/lang/Integer") hx hb hown (hts _ q_320) (va_Orecv (hX.2.2.1.1.1 128 (by decide)) hS) dX9_shown_58 ?_
  have hM1472 := k74_intValue l hl9 dC dI z H1468.size
  obtain ⟨hF1470, hC1473⟩ := pc_M hM1472 hP hD hK hS hX hT hA [] [] rfl rfl rfl
  refine va_calli (va_runV (As := []) (rest := []) ⟨hx, hb, hml, hown, hts⟩ hM1472 (cwV 0 hts (gV q_323 q_324 q_325 q_297 q_322) rfl rfl rfl hV_J6_intValue_8abf5 ⟨Nat.le_of_ble_eq_true rfl, Nat.le_of_ble_eq_true rfl⟩) ⟨pc_blind, va_Orecv (hX.2.2.1.1.1 128 (by decide)) hS, fun U hU hW => ⟨rfl, hC1473 U hU hW⟩⟩ rfl rfl hl.1 rfl (lv_room (Nat.le_of_ble_eq_true rfl)) dX9_shown_61 ⟨(Nat.le_of_ble_eq_true rfl), (Nat.le_of_ble_eq_true rfl)⟩) hS (fun q9 _ h9 => hF1470 q9 h9) hF1470 (fun r1475 u1474 t1474 H1474 L1474 ht1474 hvm1474 hw1474 hB1474 hz1474 hk1474 hS => ?_)
  have hP := pq_keep hP hD [] rfl hk1474 hB1474.1 ht1474
  have hG : s.heap.size + 1163 ≤ H1474.size := Nat.le_trans hG hz1474
  refine W.eq (g2 := F0 m 64 ls [.int 0]) (by rw [hw1474]) ?_
  refine lv_istore (lv' := [(6, .int 0), (4, .int 0), (5, .ref a1313), (3, .int 49), (1, .int 0), (2, .int 3), (0, .ref h0)]) hx hb dX9_shown_64 hl (by decide) rfl (fun ls hl => ?_)
  refine lv_iload hx hb dX9_shown_66 (lv_at hl 1 rfl) ?_
  refine lv_if_ne (tgt := 82) hx hb dX9_shown_68 (by decide) (fun cz => absurd (by decide) cz) (fun _ => ?_)
  refine lv_aload_n hx hb dX9_shown_71 rfl (lv_at hl 6 rfl) ?_
  refine lv_iload_n hx hb dX9_shown_72 rfl (lv_at hl 5 rfl) ?_
  refine lv_iload_n hx hb dX9_shown_73 rfl (lv_at hl 3 rfl) ?_
  refine lv_iload hx hb dX9_shown_74 (lv_at hl 0 rfl) ?_
  have hM1478 := k664_showsIt l hl9 dC dI z h0 h1 h2 h4 h5 h7 h8 h9 h10 h11 h12 h3 H1474.size kc0 kc2
  obtain ⟨hF1476, hC1479⟩ := pc_M hM1478 hP hD hK hS hX hT hA [0, 1, 2, 3, 4, 5, 6, 7, 8, 9, 10] [0, 1] rfl rfl rfl
  refine va_calli (va_runV (As := [.int 3, .int 49, .int 0]) (rest := []) ⟨hx, hb, hml, hown, hts⟩ hM1478 (cwV 3 hts (gV q_429 q_430 q_431 q_60 q_428) rfl rfl rfl hV_X9_showsIt ⟨Nat.le_of_ble_eq_true rfl, Nat.le_of_ble_eq_true rfl⟩) ⟨pc_blind, va_recv hK hP (ci := 8) (q := (RX9, TX9, 6)) (q0 := 0) rfl rfl, fun U hU hW => ⟨rfl, hC1479 U hU hW⟩⟩ rfl rfl hl.1 rfl (lv_room (Nat.le_of_ble_eq_true rfl)) dX9_shown_76 ⟨(Nat.le_of_ble_eq_true rfl), (Nat.le_of_ble_eq_true rfl)⟩) hS (fun q9 _ h9 => hF1476 q9 h9) hF1476 (fun r1481 u1480 t1480 H1480 L1480 ht1480 hvm1480 hw1480 hB1480 hz1480 hk1480 hS => ?_)
  have hP := pq_keep hP hD [0, 1, 2, 3, 4, 5, 6, 7, 8, 9, 10] rfl hk1480 hB1480.1 ht1480
  have hG : s.heap.size + 1184 ≤ H1480.size := va_gr (g := 1163) (g1 := 21) hG (by rw [← ht1480]; exact hB1480.2)
  refine W.eq (g2 := F0 m 79 ls [.int 0]) (by rw [hw1480]) ?_
  refine W.widen (k := 1184) (n := 12800) (by decide) (by decide) ?_
  refine lv_if_eq (tgt := 86) hx hb dX9_shown_79 (by decide) (fun _ => ?_) (fun cz => absurd (by decide) cz)
  refine lv_iconst (v := 0) hx hb dX9_shown_86 (by decide) ?_
  refine lv_istore (lv' := [(4, .int 0), (6, .int 0), (5, .ref a1313), (3, .int 49), (1, .int 0), (2, .int 3), (0, .ref h0)]) hx hb dX9_shown_87 hl (by decide) rfl (fun ls hl => ?_)
  refine lv_goto (tgt := 41) hx hb dX9_shown_89 (by decide) ?_
  refine lv_aload hx hb dX9_shown_41 (lv_at hl 2 rfl) ?_
  have hM1484 := k650_hasNext l hl9 dC dI z a1313 h3 h6 H1480.size
  obtain ⟨hF1482, hC1485⟩ := pc_M hM1484 hP hD hK hS hX hT hA [11, 12] [] rfl rfl rfl
  refine va_callFi (va_runF (As := []) (rest := []) (hK.1 1 (RJx35411, TJx35411, 4) rfl).2 ⟨hx, hb, hml, hown, hts⟩ hM1484 (va_cwF 0 hts (gF q_261 q_262 q_263 q_246 q_260) rfl rfl rfl hT.2.2.2.2.2.2.1 hF_xIh ⟨Nat.le_of_ble_eq_true rfl, Nat.le_of_ble_eq_true rfl⟩) ⟨pc_blind, va_recv hK hP (ci := 1) (q := (RJx35411, TJx35411, 4)) (q0 := 11) rfl rfl, fun U hU hW => ⟨rfl, hC1485 U hU hW⟩⟩ rfl rfl hl.1 rfl (lv_room (Nat.le_of_ble_eq_true rfl)) dX9_shown_43 ⟨(Nat.le_of_ble_eq_true rfl), (Nat.le_of_ble_eq_true rfl)⟩) hS (fun q9 _ h9 => hF1482 q9 h9) hF1482 (fun r1487 u1486 t1486 H1486 L1486 ht1486 hvm1486 hw1486 hB1486 hz1486 hk1486 hS => ?_)
  have hP := pq_keep hP hD [11, 12] rfl hk1486 hB1486.1 ht1486
  have hG : s.heap.size + 1184 ≤ H1486.size := Nat.le_trans hG hz1486
  refine W.eq (g2 := F0 m 48 ls [.int 0]) (by rw [hw1486]) ?_
  refine lv_if_eq (tgt := 92) hx hb dX9_shown_48 (by decide) (fun _ => ?_) (fun cz => absurd (by decide) cz)
  refine lv_iload_n hx hb dX9_shown_92 rfl (lv_at hl 4 rfl) ?_
  refine lv_iload hx hb dX9_shown_93 (lv_at hl 0 rfl) ?_
  refine lv_if_eq (tgt := 102) hx hb dX9_shown_95 (by decide) (fun _ => ?_) (fun cz => absurd (by decide) cz)
  refine lv_iconst (v := 0) hx hb dX9_shown_102 (by decide) ?_
  refine lv_iadd hx hb dX9_shown_103 ?_
  refine lv_topi (fun y1488 ey1488 => ?_)
  obtain rfl : y1488 = 0 := ey1488.trans (by decide)
  refine lv_istore_n (lv' := [(1, .int 0), (4, .int 0), (6, .int 0), (5, .ref a1313), (3, .int 49), (2, .int 3), (0, .ref h0)]) hx hb dX9_shown_104 rfl hl (by decide) rfl (fun ls hl => ?_)
  refine lv_iload_n hx hb dX9_shown_105 rfl (lv_at hl 4 rfl) ?_
  refine lv_iconst (v := 1) hx hb dX9_shown_106 (by decide) ?_
  refine lv_iadd hx hb dX9_shown_107 ?_
  refine lv_topi (fun y1489 ey1489 => ?_)
  obtain rfl : y1489 = 50 := ey1489.trans (by decide)
  refine lv_i2c (v := 50) hx hb dX9_shown_108 (by decide) ?_
  refine lv_istore_n (lv' := [(3, .int 50), (1, .int 0), (4, .int 0), (6, .int 0), (5, .ref a1313), (2, .int 3), (0, .ref h0)]) hx hb dX9_shown_109 rfl hl (by decide) rfl (fun ls hl => ?_)
  refine lv_goto (tgt := 23) hx hb dX9_shown_110 (by decide) ?_
  exact hend _ _ _ hS (hP.sub [0, 1, 2, 12, 3, 4, 13, 5, 6, 7, 8, 9, 10] rfl) (hD.sub [0, 1, 2, 12, 3, 4, 13, 5, 6, 7, 8, 9, 10] rfl rfl) (lv_sub hl [0, 1, 5, 6] rfl) hG

set_option maxHeartbeats 8000000 in
set_option maxRecDepth 100000 in
theorem k669_shown_g12 {p : Program} {l : Launch} {e : Env} {s : State} {m : MethodId} {args : Array Value} {below : List Frame} {meth : Method} {c : Code} {Q : State → Prop} {A : Nat → Prop} {H : Heap} {locs : List Loc} {ls : Array Slot} {dC : Nat → ClassId} {dI : Nat → Nat → Nat} {z : XZ} {h0 h1 h2 h3 h4 h5 h6 h7 h8 h9 h10 h11 h12 : Nat} {kc0 kc1 kc2 : ClassId} (hl9 : l.stackTraces = false) (hx : p.tables.exec = Jvm.exec) (hb : c.code = cX9_shown) (hml : c.maxLocals = 7) (hown : s.vm.findClass RX9 = some m.cls) (hts : ∀ w ∈ wsL_law, w.before args s = true) (hA : ∀ q : Nat, s.heap.size ≤ q → A q) (hX : XE z A s s.heap) (hT : XT s) (hS : va_S A s.heap H locs) (hP : va_P (dC, dI) xCl [(h0, ce21 h1 h2 h3 h4), (h1, ce201 h5), (h2, ce3 z.1), (h3, ce276 h6), (h4, ce226 h7), (h5, ce200 kc0 h8 h9 h10 h11 h12), (h6, ce275 kc1 (z.2.2.1 128) (z.2.2.1 128) (z.2.2.1 128) (z.2.2.1 128) (z.2.2.1 128) (z.2.2.1 128) (z.2.2.1 128)), (h7, ce200 kc2 (z.2.2.1 128) (z.2.2.1 129) (z.2.2.1 130) (z.2.2.1 131) (z.2.2.1 132)), (h8, ce49), (h9, ce49), (h10, ce49), (h11, ce49), (h12, ce49)] H) (hD : va_D A [(h0, ce21 h1 h2 h3 h4), (h1, ce201 h5), (h2, ce3 z.1), (h3, ce276 h6), (h4, ce226 h7), (h5, ce200 kc0 h8 h9 h10 h11 h12), (h6, ce275 kc1 (z.2.2.1 128) (z.2.2.1 128) (z.2.2.1 128) (z.2.2.1 128) (z.2.2.1 128) (z.2.2.1 128) (z.2.2.1 128)), (h7, ce200 kc2 (z.2.2.1 128) (z.2.2.1 129) (z.2.2.1 130) (z.2.2.1 131) (z.2.2.1 132)), (h8, ce49), (h9, ce49), (h10, ce49), (h11, ce49), (h12, ce49)]) (hK : va_K (dC, dI) xCl [(kc0, .object "java/lang/Object"), (kc1, .object "java/lang/Object"), (kc2, .object "java/lang/Object")] s) (hl : lv_has ls 7 [(3, .int 50), (1, .int 0), (2, .int 3), (0, .ref h0)]) (hG : s.heap.size + 1184 ≤ H.size) (hend : ∀ (H' : Heap) (locs' : List Loc) (ls' : Array Slot), va_S A s.heap H' locs' → va_P (dC, dI) xCl [(h0, ce21 h1 h2 h3 h4), (h1, ce201 h5), (h2, ce3 z.1), (h3, ce276 h6), (h4, ce226 h7), (h5, ce200 kc0 h8 h9 h10 h11 h12), (h6, ce275 kc1 (z.2.2.1 128) (z.2.2.1 128) (z.2.2.1 128) (z.2.2.1 128) (z.2.2.1 128) (z.2.2.1 128) (z.2.2.1 128)), (h7, ce200 kc2 (z.2.2.1 128) (z.2.2.1 129) (z.2.2.1 130) (z.2.2.1 131) (z.2.2.1 132)), (h8, ce49), (h9, ce49), (h10, ce49), (h11, ce49), (h12, ce49)] H' → va_D A [(h0, ce21 h1 h2 h3 h4), (h1, ce201 h5), (h2, ce3 z.1), (h3, ce276 h6), (h4, ce226 h7), (h5, ce200 kc0 h8 h9 h10 h11 h12), (h6, ce275 kc1 (z.2.2.1 128) (z.2.2.1 128) (z.2.2.1 128) (z.2.2.1 128) (z.2.2.1 128) (z.2.2.1 128) (z.2.2.1 128)), (h7, ce200 kc2 (z.2.2.1 128) (z.2.2.1 129) (z.2.2.1 130) (z.2.2.1 131) (z.2.2.1 132)), (h8, ce49), (h9, ce49), (h10, ce49), (h11, ce49), (h12, ce49)] → lv_has ls' 7 [(3, .int 48), (2, .int 4), (1, .int 0), (0, .ref h0)] → s.heap.size + 1184 ≤ H'.size → W p l e ({ frames := 5, cells := 1480, slots := 16000, locals := 121 } : Room) s m args below meth c H' locs' 1184 12800 Q (F0 m 23 ls' [])) : W p l e ({ frames := 5, cells := 1480, slots := 16000, locals := 121 } : Room) s m args below meth c H locs 1184 12800 Q (F0 m 23 ls []) := by
  refine lv_iload_n hx hb dX9_shown_23 rfl (lv_at hl 0 rfl) ?_
  refine lv_bipush (v := 49) hx hb dX9_shown_24 (by decide) ?_
  refine lv_icmp_gt (tgt := 113) hx hb dX9_shown_26 (by decide) (fun _ => ?_) (fun cz => absurd (by decide) cz)
  refine lv_iinc (v := 4) (lv' := [(2, .int 4), (3, .int 50), (1, .int 0), (0, .ref h0)]) hx hb dX9_shown_113 hl (k := 2) rfl (by decide) (by decide) rfl (fun ls hl => ?_)
  refine lv_goto (tgt := 9) hx hb dX9_shown_116 (by decide) ?_
  refine lv_iload_n hx hb dX9_shown_9 rfl (lv_at hl 0 rfl) ?_
  refine lv_aload_n hx hb dX9_shown_10 rfl (lv_at hl 3 rfl) ?_
  refine va_get (D := (dC, dI)) (ci := 8) (v := .ref h1) (C := RX9) (T := TX9) (N := 6) hx hb hts in_X9 hown hK hP 0 rfl rfl 1 (by decide) (hts _ q_64) (fun _ h9 => h9) rfl dX9_shown_11 ?_
  have hM1492 := k20_size l hl9 dC dI z h1 h5 H.size 5 5
  obtain ⟨hF1490, hC1493⟩ := pc_M hM1492 hP hD hK hS hX hT hA [1] [] rfl rfl rfl
  refine va_calli (va_runV (As := []) (rest := [.int 4]) ⟨hx, hb, hml, hown, hts⟩ hM1492 (cwV 0 hts (gV q_272 q_77 q_78 q_12 q_75) rfl rfl rfl hV_Jx4a65c_size_8abf5 ⟨Nat.le_of_ble_eq_true rfl, Nat.le_of_ble_eq_true rfl⟩) ⟨pc_blind, va_recv hK hP (ci := 0) (q := (RJx4a65c, TJx4a65c, 3)) (q0 := 1) rfl rfl, fun U hU hW => ⟨rfl, hC1493 U hU hW⟩⟩ rfl rfl hl.1 rfl (lv_room (Nat.le_of_ble_eq_true rfl)) dX9_shown_14 ⟨(Nat.le_of_ble_eq_true rfl), (Nat.le_of_ble_eq_true rfl)⟩) hS (fun q9 _ h9 => hF1490 q9 h9) hF1490 (fun r1495 u1494 t1494 H1494 L1494 ht1494 hvm1494 hw1494 hB1494 hz1494 hk1494 hS => ?_)
  have hP := pq_keep hP hD [1] rfl hk1494 hB1494.1 ht1494
  have hG : s.heap.size + 1184 ≤ H1494.size := Nat.le_trans hG hz1494
  refine W.eq (g2 := F0 m 17 ls [.int 5, .int 4]) (by rw [hw1494]) ?_
  refine lv_icmp_ge (tgt := 119) hx hb dX9_shown_17 (by decide) (fun cz => absurd cz (by decide)) (fun _ => ?_)
  refine lv_bipush (v := 48) hx hb dX9_shown_20 (by decide) ?_
  refine lv_istore_n (lv' := [(3, .int 48), (2, .int 4), (1, .int 0), (0, .ref h0)]) hx hb dX9_shown_22 rfl hl (by decide) rfl (fun ls hl => ?_)
  exact hend _ _ _ hS (hP.sub [0, 1, 2, 3, 4, 5, 6, 7, 8, 9, 10, 11, 12] rfl) (hD.sub [0, 1, 2, 3, 4, 5, 6, 7, 8, 9, 10, 11, 12] rfl rfl) (lv_sub hl [0, 1, 2, 3] rfl) hG
