set_option maxHeartbeats 4000000 in
set_option maxRecDepth 100000 in
theorem k950_isLooked (l : Launch) (hl9 : l.stackTraces = false) (dC : Nat → ClassId) (dI : Nat → Nat → Nat) (z : XZ) (h0 h1 h2 h3 h4 h5 h6 h7 h8 h9 : Nat) (o0 o1 o2 : Nat) (sz : Nat) (kc0 : ClassId) : Met l yX9_isLooked (.code yX9_isLooked cX9_isLooked 5 (some .boolean) :: wsL_law) ({ frames := 3, cells := 1, slots := 4, locals := 64 }) (va_Pc [.ref h0, .int 4] (PC (dC, dI) [(h0, ce21 h1 o0 o1 o2), (h1, ce331 h2), (h2, ce330 kc0 h3 h4 h5 h6 h7 h8 h9), (h3, ce49), (h4, ce49), (h5, ce49), (h6, ce49), (h7, ce49), (h8, ce49), (h9, ce49)] [(kc0, .object "java/lang/Object")] sz z)) (va_Qi (fun (r : Int32) (_ : Unit) => r = 0) (fun (_ : Unit) (t : State) => PG (dC, dI) [(h0, ce21 h1 o0 o1 o2), (h1, ce331 h2), (h2, ce330 kc0 h3 h4 h5 h6 h7 h8 h9), (h3, ce49), (h4, ce49), (h5, ce49), (h6, ce49), (h7, ce49), (h8, ce49), (h9, ce49)] [(kc0, .object "java/lang/Object")] (va_A [(h0, ce21 h1 o0 o1 o2), (h1, ce331 h2), (h2, ce330 kc0 h3 h4 h5 h6 h7 h8 h9), (h3, ce49), (h4, ce49), (h5, ce49), (h6, ce49), (h7, ce49), (h8, ce49), (h9, ce49)] sz) sz 1 t) (va_A [(h0, ce21 h1 o0 o1 o2), (h1, ce331 h2), (h2, ce330 kc0 h3 h4 h5 h6 h7 h8 h9), (h3, ce49), (h4, ce49), (h5, ce49), (h6, ce49), (h7, ce49), (h8, ce49), (h9, ce49)] sz)) 1 4 (va_A [(h0, ce21 h1 o0 o1 o2), (h1, ce331 h2), (h2, ce330 kc0 h3 h4 h5 h6 h7 h8 h9), (h3, ce49), (h4, ce49), (h5, ce49), (h6, ce49), (h7, ce49), (h8, ce49), (h9, ce49)] sz) := by
  refine Met.ofW (cc := cX9_isLooked) (maxL := 5) (ret := (some .boolean)) (by decide) rfl ?_
  intro p e s m args below meth c s₁ B hml hv
  obtain ⟨rfl, hsz, hP, hK, hD0, hX, hT⟩ := hv
  have hx := B.exec
  have hb := B.bytes
  have hr := B.returns
  have hts0 := atoms_spec (ws := .code yX9_isLooked cX9_isLooked 5 (some .boolean) :: wsL_law) B.pre
  have hts := xTail hts0
  have hown : s.vm.findClass RX9 = some m.cls := xown B.named rfl
  have hlocks := B.notSynchronized
  subst hsz
  have hD := hD0.self (sz := s.heap.size)
  generalize hAe : va_A [(h0, ce21 h1 o0 o1 o2), (h1, ce331 h2), (h2, ce330 kc0 h3 h4 h5 h6 h7 h8 h9), (h3, ce49), (h4, ce49), (h5, ce49), (h6, ce49), (h7, ce49), (h8, ce49), (h9, ce49)] s.heap.size = A at hD hX ⊢
  have hA : ∀ q : Nat, s.heap.size ≤ q → A q := fun q h => by rw [← hAe]; exact Or.inr h
  have hS : va_S A s.heap s.heap [] := va_S.rf
  have hG : s.heap.size + 0 ≤ s.heap.size := Nat.le_refl _
  have hl := lv_entry ([.ref h0, .int 4]) (n := 5) (Nat.le_of_ble_eq_true rfl)
  rw [lg_entry_eq]
  generalize (lg_sl ([.ref h0, .int 4]) ++ List.replicate (5 - (lg_sl ([.ref h0, .int 4])).length) Slot.unset).toArray = ls at hl ⊢
  have hl : lv_has ls 5 [(0, .ref h0), (1, .int 4)] := hl
  refine lv_aload_n hx hb dX9_isLooked_0 rfl (lv_at hl 0 rfl) ?_
  refine va_get (D := (dC, dI)) (ci := 8) (v := .ref h1) (C := RX9) (T := TX9) (N := 6) hx hb hts in_X9 hown hK hP 0 rfl rfl 1 (by decide) (hts _ q_64) (fun _ h9 => h9) rfl dX9_isLooked_1 ?_
  refine lv_iload_n hx hb dX9_isLooked_4 rfl (lv_at hl 1 rfl) ?_
  have hM3 := k648_get l hl9 dC dI z h1 h2 h3 h4 h5 h6 h7 h8 h9 s.heap.size kc0
  obtain ⟨hF1, hC4⟩ := pc_M hM3 hP hD hK hS hX hT hA [1, 2] [0] rfl rfl rfl
  refine va_callr (va_runV (As := [.int 4]) (rest := []) ⟨hx, hb, hml, hown, hts⟩ hM3 (cwV 1 hts (gV q_315 q_157 q_158 q_12 q_155) rfl rfl rfl hV_Jx4a65c_get_915e3 ⟨Nat.le_of_ble_eq_true rfl, Nat.le_of_ble_eq_true rfl⟩) ⟨pc_blind, va_recv hK hP (ci := 0) (q := (RJx4a65c, TJx4a65c, 3)) (q0 := 1) rfl rfl, fun U hU hW => ⟨rfl, hC4 U hU hW⟩⟩ rfl rfl hl.1 rfl (lv_room (Nat.le_of_ble_eq_true rfl)) dX9_isLooked_5 ⟨(Nat.le_of_ble_eq_true rfl), (Nat.le_of_ble_eq_true rfl)⟩) hS (fun q9 _ h9 => hF1 q9 h9) hF1 (fun u5 r6 t5 H5 L5 ht5 hvm5 hw5 hB5 hz5 hk5 hS => ?_)
  obtain ⟨hr5, hB5⟩ := hB5
  have hP := pq_keep hP hD [1, 2] rfl hk5 hB5.1 ht5
  have hG : s.heap.size + 0 ≤ H5.size := Nat.le_trans hG hz5
  refine W.eq (g2 := F0 m 8 ls [.ref h7]) (by rw [hr5]) ?_
  refine va_castE (nm := RX8) hx hb hown (hts _ q_273) (va_recv hK hP (ci := 7) (q := (RX8, TX8, 6)) (q0 := 7) rfl rfl) dX9_isLooked_8 ?_
  refine va_get (D := (dC, dI)) (ci := 7) (v := .int 0) (C := RX8) (T := TX8) (N := 6) hx hb hts in_X8 hown hK hP 7 rfl rfl 4 (by decide) (hts _ q_422) (fun _ h9 => h9) rfl dX9_isLooked_11 ?_
  refine lv_istore_n (lv' := [(2, .int 0), (0, .ref h0), (1, .int 4)]) hx hb dX9_isLooked_14 rfl hl (by decide) rfl (fun ls hl => ?_)
  refine lv_aload_n hx hb dX9_isLooked_15 rfl (lv_at hl 1 rfl) ?_
  refine va_get (D := (dC, dI)) (ci := 8) (v := .ref h1) (C := RX9) (T := TX9) (N := 6) hx hb hts in_X9 hown hK hP 0 rfl rfl 1 (by decide) (hts _ q_64) (fun _ h9 => h9) rfl dX9_isLooked_16 ?_
  have hM9 := k724_iterator l hl9 dC dI z h1 h2 H5.size
  obtain ⟨hF7, hC10⟩ := pc_M hM9 hP hD hK hS hX hT hA [1] [] rfl rfl rfl
  refine va_callr (va_runV (As := []) (rest := []) ⟨hx, hb, hml, hown, hts⟩ hM9 (cwV 0 hts (gV q_256 q_257 q_258 q_12 q_255) rfl rfl rfl hV_Jx4a65c_iterator_32c93 ⟨Nat.le_of_ble_eq_true rfl, Nat.le_of_ble_eq_true rfl⟩) ⟨pc_blind, va_recv hK hP (ci := 0) (q := (RJx4a65c, TJx4a65c, 3)) (q0 := 1) rfl rfl, fun U hU hW => ⟨rfl, hC10 U hU hW⟩⟩ rfl rfl hl.1 rfl (lv_room (Nat.le_of_ble_eq_true rfl)) dX9_isLooked_19 ⟨(Nat.le_of_ble_eq_true rfl), (Nat.le_of_ble_eq_true rfl)⟩) hS (fun q9 _ h9 => hF7 q9 h9) hF7 (fun u11 r12 t11 H11 L11 ht11 hvm11 hw11 hB11 hz11 hk11 hS => ?_)
  obtain ⟨a13, hr11, hB11⟩ := hB11
  obtain ⟨hP, hD, hK⟩ := pq_jn (wz := [(h0, ce21 h1 o0 o1 o2), (h2, ce330 kc0 h3 h4 h5 h6 h7 h8 h9), (h3, ce49), (h4, ce49), (h5, ce49), (h6, ce49), (h7, ce49), (h8, ce49), (h9, ce49), (h1, ce331 h2), (a13, ce370 h1)]) (tz := [(kc0, .object "java/lang/Object")]) hP hD hK [1] [0] rfl hk11 hF7 hB11.1 ht11 hvm11 rfl rfl
  have hG : s.heap.size + 1 ≤ H11.size := va_gr (g := 0) (g1 := 1) hG (by rw [← ht11]; exact hB11.2)
  refine W.eq (g2 := F0 m 22 ls [.ref a13]) (by rw [hr11]) ?_
  refine W.widen (k := 1) (n := 4) (by decide) (by decide) ?_
  refine lv_astore_n (lv' := [(3, .ref a13), (2, .int 0), (0, .ref h0), (1, .int 4)]) hx hb dX9_isLooked_22 rfl hl (by decide) rfl (fun ls hl => ?_)
  refine lv_aload_n hx hb dX9_isLooked_23 rfl (lv_at hl 0 rfl) ?_
  have hM16 := k725_hasNext l hl9 dC dI z a13 h1 h2 H11.size
  obtain ⟨hF14, hC17⟩ := pc_M hM16 hP hD hK hS hX hT hA [10, 9] [] rfl rfl rfl
  refine va_callFi (va_runF (As := []) (rest := []) (hK.1 1 (RJx35411, TJx35411, 4) rfl).2 ⟨hx, hb, hml, hown, hts⟩ hM16 (va_cwF 0 hts (gF q_261 q_262 q_263 q_246 q_260) rfl rfl rfl hT.2.2.2.2.2.2.1 hF_xIh ⟨Nat.le_of_ble_eq_true rfl, Nat.le_of_ble_eq_true rfl⟩) ⟨pc_blind, va_recv hK hP (ci := 1) (q := (RJx35411, TJx35411, 4)) (q0 := 10) rfl rfl, fun U hU hW => ⟨rfl, hC17 U hU hW⟩⟩ rfl rfl hl.1 rfl (lv_room (Nat.le_of_ble_eq_true rfl)) dX9_isLooked_24 ⟨(Nat.le_of_ble_eq_true rfl), (Nat.le_of_ble_eq_true rfl)⟩) hS (fun q9 _ h9 => hF14 q9 h9) hF14 (fun r19 u18 t18 H18 L18 ht18 hvm18 hw18 hB18 hz18 hk18 hS => ?_)
  have hP := pq_keep hP hD [10, 9] rfl hk18 hB18.1 ht18
  have hG : s.heap.size + 1 ≤ H18.size := Nat.le_trans hG hz18
  refine W.eq (g2 := F0 m 29 ls [.int 1]) (by rw [hw18]) ?_
  refine lv_if_eq (tgt := 65) hx hb dX9_isLooked_29 (by decide) (fun cz => absurd cz (by decide)) (fun _ => ?_)
  refine lv_aload_n hx hb dX9_isLooked_32 rfl (lv_at hl 0 rfl) ?_
  have hM22 := k727_next l hl9 dC dI z a13 h1 h2 h3 h4 h5 h6 h7 h8 h9 H18.size kc0
  obtain ⟨hF20, hC23⟩ := pc_M hM22 hP hD hK hS hX hT hA [10, 9, 1] [0] rfl rfl rfl
  refine va_callFr (va_runF (As := []) (rest := []) (hK.1 1 (RJx35411, TJx35411, 4) rfl).2 ⟨hx, hb, hml, hown, hts⟩ hM22 (va_cwF 0 hts (gF q_308 q_309 q_310 q_246 q_307) rfl rfl rfl hT.2.2.2.2.2.2.2.1 hF_xIn ⟨Nat.le_of_ble_eq_true rfl, Nat.le_of_ble_eq_true rfl⟩) ⟨pc_blind, va_recv hK hP (ci := 1) (q := (RJx35411, TJx35411, 4)) (q0 := 10) rfl rfl, fun U hU hW => ⟨rfl, hC23 U hU hW⟩⟩ rfl rfl hl.1 rfl (lv_room (Nat.le_of_ble_eq_true rfl)) dX9_isLooked_33 ⟨(Nat.le_of_ble_eq_true rfl), (Nat.le_of_ble_eq_true rfl)⟩) hS (fun q9 _ h9 => hF20 q9 h9) hF20 (fun u24 r25 t24 H24 L24 ht24 hvm24 hw24 hB24 hz24 hk24 hS => ?_)
  obtain ⟨hr24, hB24⟩ := hB24
  obtain ⟨hP, hD, hK⟩ := pq_jn (wz := [(h0, ce21 h1 o0 o1 o2), (h3, ce49), (h4, ce49), (h5, ce49), (h6, ce49), (h7, ce49), (h8, ce49), (h9, ce49), (a13, ce372 h1), (h1, ce331 h2), (h2, ce330 kc0 h3 h4 h5 h6 h7 h8 h9)]) (tz := [(kc0, .object "java/lang/Object")]) hP hD hK [10, 9, 1] [] rfl hk24 hF20 hB24.1 ht24 hvm24 rfl rfl
  have hG : s.heap.size + 1 ≤ H24.size := Nat.le_trans hG hz24
  refine W.eq (g2 := F0 m 38 ls [.ref h3]) (by rw [hr24]) ?_
  refine va_castE (nm := RX8) hx hb hown (hts _ q_273) (va_recv hK hP (ci := 7) (q := (RX8, TX8, 6)) (q0 := 1) rfl rfl) dX9_isLooked_38 ?_
  refine lv_astore (lv' := [(4, .ref h3), (3, .ref a13), (2, .int 0), (0, .ref h0), (1, .int 4)]) hx hb dX9_isLooked_41 hl (by decide) rfl (fun ls hl => ?_)
  refine lv_iload_n hx hb dX9_isLooked_43 rfl (lv_at hl 2 rfl) ?_
  refine lv_if_ne (tgt := 56) hx hb dX9_isLooked_44 (by decide) (fun cz => absurd (by decide) cz) (fun _ => ?_)
  refine lv_aload hx hb dX9_isLooked_47 (lv_at hl 0 rfl) ?_
  refine va_get (D := (dC, dI)) (ci := 7) (v := .int (-1)) (C := RX8) (T := TX8) (N := 6) hx hb hts in_X8 hown hK hP 1 rfl rfl 5 (by decide) (hts _ q_423) (fun _ h9 => h9) rfl dX9_isLooked_49 ?_
  refine lv_iload_n hx hb dX9_isLooked_52 rfl (lv_at hl 4 rfl) ?_
  refine lv_icmp_ne (tgt := 60) hx hb dX9_isLooked_53 (by decide) (fun _ => ?_) (fun cz => absurd cz (by decide))
  refine lv_iconst (v := 0) hx hb dX9_isLooked_60 (by decide) ?_
  refine lv_istore_n (lv' := [(2, .int 0), (4, .ref h3), (3, .ref a13), (0, .ref h0), (1, .int 4)]) hx hb dX9_isLooked_61 rfl hl (by decide) rfl (fun ls hl => ?_)
  refine lv_goto (tgt := 23) hx hb dX9_isLooked_62 (by decide) ?_
  refine lv_aload_n hx hb dX9_isLooked_23 rfl (lv_at hl 2 rfl) ?_
  have hM28 := k728_hasNext l hl9 dC dI z a13 h1 h2 H24.size
  obtain ⟨hF26, hC29⟩ := pc_M hM28 hP hD hK hS hX hT hA [8, 9] [] rfl rfl rfl
  refine va_callFi (va_runF (As := []) (rest := []) (hK.1 1 (RJx35411, TJx35411, 4) rfl).2 ⟨hx, hb, hml, hown, hts⟩ hM28 (va_cwF 0 hts (gF q_261 q_262 q_263 q_246 q_260) rfl rfl rfl hT.2.2.2.2.2.2.1 hF_xIh ⟨Nat.le_of_ble_eq_true rfl, Nat.le_of_ble_eq_true rfl⟩) ⟨pc_blind, va_recv hK hP (ci := 1) (q := (RJx35411, TJx35411, 4)) (q0 := 8) rfl rfl, fun U hU hW => ⟨rfl, hC29 U hU hW⟩⟩ rfl rfl hl.1 rfl (lv_room (Nat.le_of_ble_eq_true rfl)) dX9_isLooked_24 ⟨(Nat.le_of_ble_eq_true rfl), (Nat.le_of_ble_eq_true rfl)⟩) hS (fun q9 _ h9 => hF26 q9 h9) hF26 (fun r31 u30 t30 H30 L30 ht30 hvm30 hw30 hB30 hz30 hk30 hS => ?_)
  have hP := pq_keep hP hD [8, 9] rfl hk30 hB30.1 ht30
  have hG : s.heap.size + 1 ≤ H30.size := Nat.le_trans hG hz30
  refine W.eq (g2 := F0 m 29 ls [.int 1]) (by rw [hw30]) ?_
  refine lv_if_eq (tgt := 65) hx hb dX9_isLooked_29 (by decide) (fun cz => absurd cz (by decide)) (fun _ => ?_)
  refine lv_aload_n hx hb dX9_isLooked_32 rfl (lv_at hl 2 rfl) ?_
  have hM34 := k730_next l hl9 dC dI z a13 h1 h2 h3 h4 h5 h6 h7 h8 h9 H30.size kc0
  obtain ⟨hF32, hC35⟩ := pc_M hM34 hP hD hK hS hX hT hA [8, 9, 10] [0] rfl rfl rfl
  refine va_callFr (va_runF (As := []) (rest := []) (hK.1 1 (RJx35411, TJx35411, 4) rfl).2 ⟨hx, hb, hml, hown, hts⟩ hM34 (va_cwF 0 hts (gF q_308 q_309 q_310 q_246 q_307) rfl rfl rfl hT.2.2.2.2.2.2.2.1 hF_xIn ⟨Nat.le_of_ble_eq_true rfl, Nat.le_of_ble_eq_true rfl⟩) ⟨pc_blind, va_recv hK hP (ci := 1) (q := (RJx35411, TJx35411, 4)) (q0 := 8) rfl rfl, fun U hU hW => ⟨rfl, hC35 U hU hW⟩⟩ rfl rfl hl.1 rfl (lv_room (Nat.le_of_ble_eq_true rfl)) dX9_isLooked_33 ⟨(Nat.le_of_ble_eq_true rfl), (Nat.le_of_ble_eq_true rfl)⟩) hS (fun q9 _ h9 => hF32 q9 h9) hF32 (fun u36 r37 t36 H36 L36 ht36 hvm36 hw36 hB36 hz36 hk36 hS => ?_)
  obtain ⟨hr36, hB36⟩ := hB36
  obtain ⟨hP, hD, hK⟩ := pq_jn (wz := [(h0, ce21 h1 o0 o1 o2), (h3, ce49), (h4, ce49), (h5, ce49), (h6, ce49), (h7, ce49), (h8, ce49), (h9, ce49), (a13, ce374 h1), (h1, ce331 h2), (h2, ce330 kc0 h3 h4 h5 h6 h7 h8 h9)]) (tz := [(kc0, .object "java/lang/Object")]) hP hD hK [8, 9, 10] [] rfl hk36 hF32 hB36.1 ht36 hvm36 rfl rfl
  have hG : s.heap.size + 1 ≤ H36.size := Nat.le_trans hG hz36
  refine W.eq (g2 := F0 m 38 ls [.ref h4]) (by rw [hr36]) ?_
  refine va_castE (nm := RX8) hx hb hown (hts _ q_273) (va_recv hK hP (ci := 7) (q := (RX8, TX8, 6)) (q0 := 2) rfl rfl) dX9_isLooked_38 ?_
  refine lv_astore (lv' := [(4, .ref h4), (2, .int 0), (3, .ref a13), (0, .ref h0), (1, .int 4)]) hx hb dX9_isLooked_41 hl (by decide) rfl (fun ls hl => ?_)
  refine lv_iload_n hx hb dX9_isLooked_43 rfl (lv_at hl 1 rfl) ?_
  refine lv_if_ne (tgt := 56) hx hb dX9_isLooked_44 (by decide) (fun cz => absurd (by decide) cz) (fun _ => ?_)
  refine lv_aload hx hb dX9_isLooked_47 (lv_at hl 0 rfl) ?_
  refine va_get (D := (dC, dI)) (ci := 7) (v := .int (-1)) (C := RX8) (T := TX8) (N := 6) hx hb hts in_X8 hown hK hP 2 rfl rfl 5 (by decide) (hts _ q_423) (fun _ h9 => h9) rfl dX9_isLooked_49 ?_
  refine lv_iload_n hx hb dX9_isLooked_52 rfl (lv_at hl 4 rfl) ?_
  refine lv_icmp_ne (tgt := 60) hx hb dX9_isLooked_53 (by decide) (fun _ => ?_) (fun cz => absurd cz (by decide))
  refine lv_iconst (v := 0) hx hb dX9_isLooked_60 (by decide) ?_
  refine lv_istore_n (lv' := [(2, .int 0), (4, .ref h4), (3, .ref a13), (0, .ref h0), (1, .int 4)]) hx hb dX9_isLooked_61 rfl hl (by decide) rfl (fun ls hl => ?_)
  refine lv_goto (tgt := 23) hx hb dX9_isLooked_62 (by decide) ?_
  refine lv_aload_n hx hb dX9_isLooked_23 rfl (lv_at hl 2 rfl) ?_
  have hM40 := k731_hasNext l hl9 dC dI z a13 h1 h2 H36.size
  obtain ⟨hF38, hC41⟩ := pc_M hM40 hP hD hK hS hX hT hA [8, 9] [] rfl rfl rfl
  refine va_callFi (va_runF (As := []) (rest := []) (hK.1 1 (RJx35411, TJx35411, 4) rfl).2 ⟨hx, hb, hml, hown, hts⟩ hM40 (va_cwF 0 hts (gF q_261 q_262 q_263 q_246 q_260) rfl rfl rfl hT.2.2.2.2.2.2.1 hF_xIh ⟨Nat.le_of_ble_eq_true rfl, Nat.le_of_ble_eq_true rfl⟩) ⟨pc_blind, va_recv hK hP (ci := 1) (q := (RJx35411, TJx35411, 4)) (q0 := 8) rfl rfl, fun U hU hW => ⟨rfl, hC41 U hU hW⟩⟩ rfl rfl hl.1 rfl (lv_room (Nat.le_of_ble_eq_true rfl)) dX9_isLooked_24 ⟨(Nat.le_of_ble_eq_true rfl), (Nat.le_of_ble_eq_true rfl)⟩) hS (fun q9 _ h9 => hF38 q9 h9) hF38 (fun r43 u42 t42 H42 L42 ht42 hvm42 hw42 hB42 hz42 hk42 hS => ?_)
  have hP := pq_keep hP hD [8, 9] rfl hk42 hB42.1 ht42
  have hG : s.heap.size + 1 ≤ H42.size := Nat.le_trans hG hz42
  refine W.eq (g2 := F0 m 29 ls [.int 1]) (by rw [hw42]) ?_
  refine lv_if_eq (tgt := 65) hx hb dX9_isLooked_29 (by decide) (fun cz => absurd cz (by decide)) (fun _ => ?_)
  refine lv_aload_n hx hb dX9_isLooked_32 rfl (lv_at hl 2 rfl) ?_
  have hM46 := k733_next l hl9 dC dI z a13 h1 h2 h3 h4 h5 h6 h7 h8 h9 H42.size kc0
  obtain ⟨hF44, hC47⟩ := pc_M hM46 hP hD hK hS hX hT hA [8, 9, 10] [0] rfl rfl rfl
  refine va_callFr (va_runF (As := []) (rest := []) (hK.1 1 (RJx35411, TJx35411, 4) rfl).2 ⟨hx, hb, hml, hown, hts⟩ hM46 (va_cwF 0 hts (gF q_308 q_309 q_310 q_246 q_307) rfl rfl rfl hT.2.2.2.2.2.2.2.1 hF_xIn ⟨Nat.le_of_ble_eq_true rfl, Nat.le_of_ble_eq_true rfl⟩) ⟨pc_blind, va_recv hK hP (ci := 1) (q := (RJx35411, TJx35411, 4)) (q0 := 8) rfl rfl, fun U hU hW => ⟨rfl, hC47 U hU hW⟩⟩ rfl rfl hl.1 rfl (lv_room (Nat.le_of_ble_eq_true rfl)) dX9_isLooked_33 ⟨(Nat.le_of_ble_eq_true rfl), (Nat.le_of_ble_eq_true rfl)⟩) hS (fun q9 _ h9 => hF44 q9 h9) hF44 (fun u48 r49 t48 H48 L48 ht48 hvm48 hw48 hB48 hz48 hk48 hS => ?_)
  obtain ⟨hr48, hB48⟩ := hB48
  obtain ⟨hP, hD, hK⟩ := pq_jn (wz := [(h0, ce21 h1 o0 o1 o2), (h3, ce49), (h4, ce49), (h5, ce49), (h6, ce49), (h7, ce49), (h8, ce49), (h9, ce49), (a13, ce376 h1), (h1, ce331 h2), (h2, ce330 kc0 h3 h4 h5 h6 h7 h8 h9)]) (tz := [(kc0, .object "java/lang/Object")]) hP hD hK [8, 9, 10] [] rfl hk48 hF44 hB48.1 ht48 hvm48 rfl rfl
  have hG : s.heap.size + 1 ≤ H48.size := Nat.le_trans hG hz48
  refine W.eq (g2 := F0 m 38 ls [.ref h5]) (by rw [hr48]) ?_
  refine va_castE (nm := RX8) hx hb hown (hts _ q_273) (va_recv hK hP (ci := 7) (q := (RX8, TX8, 6)) (q0 := 3) rfl rfl) dX9_isLooked_38 ?_
  refine lv_astore (lv' := [(4, .ref h5), (2, .int 0), (3, .ref a13), (0, .ref h0), (1, .int 4)]) hx hb dX9_isLooked_41 hl (by decide) rfl (fun ls hl => ?_)
  refine lv_iload_n hx hb dX9_isLooked_43 rfl (lv_at hl 1 rfl) ?_
  refine lv_if_ne (tgt := 56) hx hb dX9_isLooked_44 (by decide) (fun cz => absurd (by decide) cz) (fun _ => ?_)
  refine lv_aload hx hb dX9_isLooked_47 (lv_at hl 0 rfl) ?_
  refine va_get (D := (dC, dI)) (ci := 7) (v := .int (-1)) (C := RX8) (T := TX8) (N := 6) hx hb hts in_X8 hown hK hP 3 rfl rfl 5 (by decide) (hts _ q_423) (fun _ h9 => h9) rfl dX9_isLooked_49 ?_
  refine lv_iload_n hx hb dX9_isLooked_52 rfl (lv_at hl 4 rfl) ?_
  refine lv_icmp_ne (tgt := 60) hx hb dX9_isLooked_53 (by decide) (fun _ => ?_) (fun cz => absurd cz (by decide))
  refine lv_iconst (v := 0) hx hb dX9_isLooked_60 (by decide) ?_
  refine lv_istore_n (lv' := [(2, .int 0), (4, .ref h5), (3, .ref a13), (0, .ref h0), (1, .int 4)]) hx hb dX9_isLooked_61 rfl hl (by decide) rfl (fun ls hl => ?_)
  refine lv_goto (tgt := 23) hx hb dX9_isLooked_62 (by decide) ?_
  refine lv_aload_n hx hb dX9_isLooked_23 rfl (lv_at hl 2 rfl) ?_
  have hM52 := k734_hasNext l hl9 dC dI z a13 h1 h2 H48.size
  obtain ⟨hF50, hC53⟩ := pc_M hM52 hP hD hK hS hX hT hA [8, 9] [] rfl rfl rfl
  refine va_callFi (va_runF (As := []) (rest := []) (hK.1 1 (RJx35411, TJx35411, 4) rfl).2 ⟨hx, hb, hml, hown, hts⟩ hM52 (va_cwF 0 hts (gF q_261 q_262 q_263 q_246 q_260) rfl rfl rfl hT.2.2.2.2.2.2.1 hF_xIh ⟨Nat.le_of_ble_eq_true rfl, Nat.le_of_ble_eq_true rfl⟩) ⟨pc_blind, va_recv hK hP (ci := 1) (q := (RJx35411, TJx35411, 4)) (q0 := 8) rfl rfl, fun U hU hW => ⟨rfl, hC53 U hU hW⟩⟩ rfl rfl hl.1 rfl (lv_room (Nat.le_of_ble_eq_true rfl)) dX9_isLooked_24 ⟨(Nat.le_of_ble_eq_true rfl), (Nat.le_of_ble_eq_true rfl)⟩) hS (fun q9 _ h9 => hF50 q9 h9) hF50 (fun r55 u54 t54 H54 L54 ht54 hvm54 hw54 hB54 hz54 hk54 hS => ?_)
  have hP := pq_keep hP hD [8, 9] rfl hk54 hB54.1 ht54
  have hG : s.heap.size + 1 ≤ H54.size := Nat.le_trans hG hz54
  refine W.eq (g2 := F0 m 29 ls [.int 1]) (by rw [hw54]) ?_
  refine lv_if_eq (tgt := 65) hx hb dX9_isLooked_29 (by decide) (fun cz => absurd cz (by decide)) (fun _ => ?_)
  refine lv_aload_n hx hb dX9_isLooked_32 rfl (lv_at hl 2 rfl) ?_
  have hM58 := k736_next l hl9 dC dI z a13 h1 h2 h3 h4 h5 h6 h7 h8 h9 H54.size kc0
  obtain ⟨hF56, hC59⟩ := pc_M hM58 hP hD hK hS hX hT hA [8, 9, 10] [0] rfl rfl rfl
  refine va_callFr (va_runF (As := []) (rest := []) (hK.1 1 (RJx35411, TJx35411, 4) rfl).2 ⟨hx, hb, hml, hown, hts⟩ hM58 (va_cwF 0 hts (gF q_308 q_309 q_310 q_246 q_307) rfl rfl rfl hT.2.2.2.2.2.2.2.1 hF_xIn ⟨Nat.le_of_ble_eq_true rfl, Nat.le_of_ble_eq_true rfl⟩) ⟨pc_blind, va_recv hK hP (ci := 1) (q := (RJx35411, TJx35411, 4)) (q0 := 8) rfl rfl, fun U hU hW => ⟨rfl, hC59 U hU hW⟩⟩ rfl rfl hl.1 rfl (lv_room (Nat.le_of_ble_eq_true rfl)) dX9_isLooked_33 ⟨(Nat.le_of_ble_eq_true rfl), (Nat.le_of_ble_eq_true rfl)⟩) hS (fun q9 _ h9 => hF56 q9 h9) hF56 (fun u60 r61 t60 H60 L60 ht60 hvm60 hw60 hB60 hz60 hk60 hS => ?_)
  obtain ⟨hr60, hB60⟩ := hB60
  obtain ⟨hP, hD, hK⟩ := pq_jn (wz := [(h0, ce21 h1 o0 o1 o2), (h3, ce49), (h4, ce49), (h5, ce49), (h6, ce49), (h7, ce49), (h8, ce49), (h9, ce49), (a13, ce378 h1), (h1, ce331 h2), (h2, ce330 kc0 h3 h4 h5 h6 h7 h8 h9)]) (tz := [(kc0, .object "java/lang/Object")]) hP hD hK [8, 9, 10] [] rfl hk60 hF56 hB60.1 ht60 hvm60 rfl rfl
  have hG : s.heap.size + 1 ≤ H60.size := Nat.le_trans hG hz60
  refine W.eq (g2 := F0 m 38 ls [.ref h6]) (by rw [hr60]) ?_
  refine va_castE (nm := RX8) hx hb hown (hts _ q_273) (va_recv hK hP (ci := 7) (q := (RX8, TX8, 6)) (q0 := 4) rfl rfl) dX9_isLooked_38 ?_
  refine lv_astore (lv' := [(4, .ref h6), (2, .int 0), (3, .ref a13), (0, .ref h0), (1, .int 4)]) hx hb dX9_isLooked_41 hl (by decide) rfl (fun ls hl => ?_)
  refine lv_iload_n hx hb dX9_isLooked_43 rfl (lv_at hl 1 rfl) ?_
  refine lv_if_ne (tgt := 56) hx hb dX9_isLooked_44 (by decide) (fun cz => absurd (by decide) cz) (fun _ => ?_)
  refine lv_aload hx hb dX9_isLooked_47 (lv_at hl 0 rfl) ?_
  refine va_get (D := (dC, dI)) (ci := 7) (v := .int (-1)) (C := RX8) (T := TX8) (N := 6) hx hb hts in_X8 hown hK hP 4 rfl rfl 5 (by decide) (hts _ q_423) (fun _ h9 => h9) rfl dX9_isLooked_49 ?_
  refine lv_iload_n hx hb dX9_isLooked_52 rfl (lv_at hl 4 rfl) ?_
  refine lv_icmp_ne (tgt := 60) hx hb dX9_isLooked_53 (by decide) (fun _ => ?_) (fun cz => absurd cz (by decide))
  refine lv_iconst (v := 0) hx hb dX9_isLooked_60 (by decide) ?_
  refine lv_istore_n (lv' := [(2, .int 0), (4, .ref h6), (3, .ref a13), (0, .ref h0), (1, .int 4)]) hx hb dX9_isLooked_61 rfl hl (by decide) rfl (fun ls hl => ?_)
  refine lv_goto (tgt := 23) hx hb dX9_isLooked_62 (by decide) ?_
  refine lv_aload_n hx hb dX9_isLooked_23 rfl (lv_at hl 2 rfl) ?_
  have hM64 := k737_hasNext l hl9 dC dI z a13 h1 h2 H60.size
  obtain ⟨hF62, hC65⟩ := pc_M hM64 hP hD hK hS hX hT hA [8, 9] [] rfl rfl rfl
  refine va_callFi (va_runF (As := []) (rest := []) (hK.1 1 (RJx35411, TJx35411, 4) rfl).2 ⟨hx, hb, hml, hown, hts⟩ hM64 (va_cwF 0 hts (gF q_261 q_262 q_263 q_246 q_260) rfl rfl rfl hT.2.2.2.2.2.2.1 hF_xIh ⟨Nat.le_of_ble_eq_true rfl, Nat.le_of_ble_eq_true rfl⟩) ⟨pc_blind, va_recv hK hP (ci := 1) (q := (RJx35411, TJx35411, 4)) (q0 := 8) rfl rfl, fun U hU hW => ⟨rfl, hC65 U hU hW⟩⟩ rfl rfl hl.1 rfl (lv_room (Nat.le_of_ble_eq_true rfl)) dX9_isLooked_24 ⟨(Nat.le_of_ble_eq_true rfl), (Nat.le_of_ble_eq_true rfl)⟩) hS (fun q9 _ h9 => hF62 q9 h9) hF62 (fun r67 u66 t66 H66 L66 ht66 hvm66 hw66 hB66 hz66 hk66 hS => ?_)
  have hP := pq_keep hP hD [8, 9] rfl hk66 hB66.1 ht66
  have hG : s.heap.size + 1 ≤ H66.size := Nat.le_trans hG hz66
  refine W.eq (g2 := F0 m 29 ls [.int 1]) (by rw [hw66]) ?_
  refine lv_if_eq (tgt := 65) hx hb dX9_isLooked_29 (by decide) (fun cz => absurd cz (by decide)) (fun _ => ?_)
  refine lv_aload_n hx hb dX9_isLooked_32 rfl (lv_at hl 2 rfl) ?_
  have hM70 := k739_next l hl9 dC dI z a13 h1 h2 h3 h4 h5 h6 h7 h8 h9 H66.size kc0
  obtain ⟨hF68, hC71⟩ := pc_M hM70 hP hD hK hS hX hT hA [8, 9, 10] [0] rfl rfl rfl
  refine va_callFr (va_runF (As := []) (rest := []) (hK.1 1 (RJx35411, TJx35411, 4) rfl).2 ⟨hx, hb, hml, hown, hts⟩ hM70 (va_cwF 0 hts (gF q_308 q_309 q_310 q_246 q_307) rfl rfl rfl hT.2.2.2.2.2.2.2.1 hF_xIn ⟨Nat.le_of_ble_eq_true rfl, Nat.le_of_ble_eq_true rfl⟩) ⟨pc_blind, va_recv hK hP (ci := 1) (q := (RJx35411, TJx35411, 4)) (q0 := 8) rfl rfl, fun U hU hW => ⟨rfl, hC71 U hU hW⟩⟩ rfl rfl hl.1 rfl (lv_room (Nat.le_of_ble_eq_true rfl)) dX9_isLooked_33 ⟨(Nat.le_of_ble_eq_true rfl), (Nat.le_of_ble_eq_true rfl)⟩) hS (fun q9 _ h9 => hF68 q9 h9) hF68 (fun u72 r73 t72 H72 L72 ht72 hvm72 hw72 hB72 hz72 hk72 hS => ?_)
  obtain ⟨hr72, hB72⟩ := hB72
  obtain ⟨hP, hD, hK⟩ := pq_jn (wz := [(h0, ce21 h1 o0 o1 o2), (h3, ce49), (h4, ce49), (h5, ce49), (h6, ce49), (h7, ce49), (h8, ce49), (h9, ce49), (a13, ce380 h1), (h1, ce331 h2), (h2, ce330 kc0 h3 h4 h5 h6 h7 h8 h9)]) (tz := [(kc0, .object "java/lang/Object")]) hP hD hK [8, 9, 10] [] rfl hk72 hF68 hB72.1 ht72 hvm72 rfl rfl
  have hG : s.heap.size + 1 ≤ H72.size := Nat.le_trans hG hz72
  refine W.eq (g2 := F0 m 38 ls [.ref h7]) (by rw [hr72]) ?_
  refine va_castE (nm := RX8) hx hb hown (hts _ q_273) (va_recv hK hP (ci := 7) (q := (RX8, TX8, 6)) (q0 := 5) rfl rfl) dX9_isLooked_38 ?_
  refine lv_astore (lv' := [(4, .ref h7), (2, .int 0), (3, .ref a13), (0, .ref h0), (1, .int 4)]) hx hb dX9_isLooked_41 hl (by decide) rfl (fun ls hl => ?_)
  refine lv_iload_n hx hb dX9_isLooked_43 rfl (lv_at hl 1 rfl) ?_
  refine lv_if_ne (tgt := 56) hx hb dX9_isLooked_44 (by decide) (fun cz => absurd (by decide) cz) (fun _ => ?_)
  refine lv_aload hx hb dX9_isLooked_47 (lv_at hl 0 rfl) ?_
  refine va_get (D := (dC, dI)) (ci := 7) (v := .int (-1)) (C := RX8) (T := TX8) (N := 6) hx hb hts in_X8 hown hK hP 5 rfl rfl 5 (by decide) (hts _ q_423) (fun _ h9 => h9) rfl dX9_isLooked_49 ?_
  refine lv_iload_n hx hb dX9_isLooked_52 rfl (lv_at hl 4 rfl) ?_
  refine lv_icmp_ne (tgt := 60) hx hb dX9_isLooked_53 (by decide) (fun _ => ?_) (fun cz => absurd cz (by decide))
  refine lv_iconst (v := 0) hx hb dX9_isLooked_60 (by decide) ?_
  refine lv_istore_n (lv' := [(2, .int 0), (4, .ref h7), (3, .ref a13), (0, .ref h0), (1, .int 4)]) hx hb dX9_isLooked_61 rfl hl (by decide) rfl (fun ls hl => ?_)
  refine lv_goto (tgt := 23) hx hb dX9_isLooked_62 (by decide) ?_
  refine lv_aload_n hx hb dX9_isLooked_23 rfl (lv_at hl 2 rfl) ?_
  have hM76 := k740_hasNext l hl9 dC dI z a13 h1 h2 H72.size
  obtain ⟨hF74, hC77⟩ := pc_M hM76 hP hD hK hS hX hT hA [8, 9] [] rfl rfl rfl
  refine va_callFi (va_runF (As := []) (rest := []) (hK.1 1 (RJx35411, TJx35411, 4) rfl).2 ⟨hx, hb, hml, hown, hts⟩ hM76 (va_cwF 0 hts (gF q_261 q_262 q_263 q_246 q_260) rfl rfl rfl hT.2.2.2.2.2.2.1 hF_xIh ⟨Nat.le_of_ble_eq_true rfl, Nat.le_of_ble_eq_true rfl⟩) ⟨pc_blind, va_recv hK hP (ci := 1) (q := (RJx35411, TJx35411, 4)) (q0 := 8) rfl rfl, fun U hU hW => ⟨rfl, hC77 U hU hW⟩⟩ rfl rfl hl.1 rfl (lv_room (Nat.le_of_ble_eq_true rfl)) dX9_isLooked_24 ⟨(Nat.le_of_ble_eq_true rfl), (Nat.le_of_ble_eq_true rfl)⟩) hS (fun q9 _ h9 => hF74 q9 h9) hF74 (fun r79 u78 t78 H78 L78 ht78 hvm78 hw78 hB78 hz78 hk78 hS => ?_)
  have hP := pq_keep hP hD [8, 9] rfl hk78 hB78.1 ht78
  have hG : s.heap.size + 1 ≤ H78.size := Nat.le_trans hG hz78
  refine W.eq (g2 := F0 m 29 ls [.int 1]) (by rw [hw78]) ?_
  refine lv_if_eq (tgt := 65) hx hb dX9_isLooked_29 (by decide) (fun cz => absurd cz (by decide)) (fun _ => ?_)
  refine lv_aload_n hx hb dX9_isLooked_32 rfl (lv_at hl 2 rfl) ?_
  have hM82 := k742_next l hl9 dC dI z a13 h1 h2 h3 h4 h5 h6 h7 h8 h9 H78.size kc0
  obtain ⟨hF80, hC83⟩ := pc_M hM82 hP hD hK hS hX hT hA [8, 9, 10] [0] rfl rfl rfl
  refine va_callFr (va_runF (As := []) (rest := []) (hK.1 1 (RJx35411, TJx35411, 4) rfl).2 ⟨hx, hb, hml, hown, hts⟩ hM82 (va_cwF 0 hts (gF q_308 q_309 q_310 q_246 q_307) rfl rfl rfl hT.2.2.2.2.2.2.2.1 hF_xIn ⟨Nat.le_of_ble_eq_true rfl, Nat.le_of_ble_eq_true rfl⟩) ⟨pc_blind, va_recv hK hP (ci := 1) (q := (RJx35411, TJx35411, 4)) (q0 := 8) rfl rfl, fun U hU hW => ⟨rfl, hC83 U hU hW⟩⟩ rfl rfl hl.1 rfl (lv_room (Nat.le_of_ble_eq_true rfl)) dX9_isLooked_33 ⟨(Nat.le_of_ble_eq_true rfl), (Nat.le_of_ble_eq_true rfl)⟩) hS (fun q9 _ h9 => hF80 q9 h9) hF80 (fun u84 r85 t84 H84 L84 ht84 hvm84 hw84 hB84 hz84 hk84 hS => ?_)
  obtain ⟨hr84, hB84⟩ := hB84
  obtain ⟨hP, hD, hK⟩ := pq_jn (wz := [(h0, ce21 h1 o0 o1 o2), (h3, ce49), (h4, ce49), (h5, ce49), (h6, ce49), (h7, ce49), (h8, ce49), (h9, ce49), (a13, ce382 h1), (h1, ce331 h2), (h2, ce330 kc0 h3 h4 h5 h6 h7 h8 h9)]) (tz := [(kc0, .object "java/lang/Object")]) hP hD hK [8, 9, 10] [] rfl hk84 hF80 hB84.1 ht84 hvm84 rfl rfl
  have hG : s.heap.size + 1 ≤ H84.size := Nat.le_trans hG hz84
  refine W.eq (g2 := F0 m 38 ls [.ref h8]) (by rw [hr84]) ?_
  refine va_castE (nm := RX8) hx hb hown (hts _ q_273) (va_recv hK hP (ci := 7) (q := (RX8, TX8, 6)) (q0 := 6) rfl rfl) dX9_isLooked_38 ?_
  refine lv_astore (lv' := [(4, .ref h8), (2, .int 0), (3, .ref a13), (0, .ref h0), (1, .int 4)]) hx hb dX9_isLooked_41 hl (by decide) rfl (fun ls hl => ?_)
  refine lv_iload_n hx hb dX9_isLooked_43 rfl (lv_at hl 1 rfl) ?_
  refine lv_if_ne (tgt := 56) hx hb dX9_isLooked_44 (by decide) (fun cz => absurd (by decide) cz) (fun _ => ?_)
  refine lv_aload hx hb dX9_isLooked_47 (lv_at hl 0 rfl) ?_
  refine va_get (D := (dC, dI)) (ci := 7) (v := .int (-1)) (C := RX8) (T := TX8) (N := 6) hx hb hts in_X8 hown hK hP 6 rfl rfl 5 (by decide) (hts _ q_423) (fun _ h9 => h9) rfl dX9_isLooked_49 ?_
  refine lv_iload_n hx hb dX9_isLooked_52 rfl (lv_at hl 4 rfl) ?_
  refine lv_icmp_ne (tgt := 60) hx hb dX9_isLooked_53 (by decide) (fun _ => ?_) (fun cz => absurd cz (by decide))
  refine lv_iconst (v := 0) hx hb dX9_isLooked_60 (by decide) ?_
  refine lv_istore_n (lv' := [(2, .int 0), (4, .ref h8), (3, .ref a13), (0, .ref h0), (1, .int 4)]) hx hb dX9_isLooked_61 rfl hl (by decide) rfl (fun ls hl => ?_)
  refine lv_goto (tgt := 23) hx hb dX9_isLooked_62 (by decide) ?_
  refine lv_aload_n hx hb dX9_isLooked_23 rfl (lv_at hl 2 rfl) ?_
  have hM88 := k743_hasNext l hl9 dC dI z a13 h1 h2 H84.size
  obtain ⟨hF86, hC89⟩ := pc_M hM88 hP hD hK hS hX hT hA [8, 9] [] rfl rfl rfl
  refine va_callFi (va_runF (As := []) (rest := []) (hK.1 1 (RJx35411, TJx35411, 4) rfl).2 ⟨hx, hb, hml, hown, hts⟩ hM88 (va_cwF 0 hts (gF q_261 q_262 q_263 q_246 q_260) rfl rfl rfl hT.2.2.2.2.2.2.1 hF_xIh ⟨Nat.le_of_ble_eq_true rfl, Nat.le_of_ble_eq_true rfl⟩) ⟨pc_blind, va_recv hK hP (ci := 1) (q := (RJx35411, TJx35411, 4)) (q0 := 8) rfl rfl, fun U hU hW => ⟨rfl, hC89 U hU hW⟩⟩ rfl rfl hl.1 rfl (lv_room (Nat.le_of_ble_eq_true rfl)) dX9_isLooked_24 ⟨(Nat.le_of_ble_eq_true rfl), (Nat.le_of_ble_eq_true rfl)⟩) hS (fun q9 _ h9 => hF86 q9 h9) hF86 (fun r91 u90 t90 H90 L90 ht90 hvm90 hw90 hB90 hz90 hk90 hS => ?_)
  have hP := pq_keep hP hD [8, 9] rfl hk90 hB90.1 ht90
  have hG : s.heap.size + 1 ≤ H90.size := Nat.le_trans hG hz90
  refine W.eq (g2 := F0 m 29 ls [.int 1]) (by rw [hw90]) ?_
  refine lv_if_eq (tgt := 65) hx hb dX9_isLooked_29 (by decide) (fun cz => absurd cz (by decide)) (fun _ => ?_)
  refine lv_aload_n hx hb dX9_isLooked_32 rfl (lv_at hl 2 rfl) ?_
  have hM94 := k745_next l hl9 dC dI z a13 h1 h2 h3 h4 h5 h6 h7 h8 h9 H90.size kc0
  obtain ⟨hF92, hC95⟩ := pc_M hM94 hP hD hK hS hX hT hA [8, 9, 10] [0] rfl rfl rfl
  refine va_callFr (va_runF (As := []) (rest := []) (hK.1 1 (RJx35411, TJx35411, 4) rfl).2 ⟨hx, hb, hml, hown, hts⟩ hM94 (va_cwF 0 hts (gF q_308 q_309 q_310 q_246 q_307) rfl rfl rfl hT.2.2.2.2.2.2.2.1 hF_xIn ⟨Nat.le_of_ble_eq_true rfl, Nat.le_of_ble_eq_true rfl⟩) ⟨pc_blind, va_recv hK hP (ci := 1) (q := (RJx35411, TJx35411, 4)) (q0 := 8) rfl rfl, fun U hU hW => ⟨rfl, hC95 U hU hW⟩⟩ rfl rfl hl.1 rfl (lv_room (Nat.le_of_ble_eq_true rfl)) dX9_isLooked_33 ⟨(Nat.le_of_ble_eq_true rfl), (Nat.le_of_ble_eq_true rfl)⟩) hS (fun q9 _ h9 => hF92 q9 h9) hF92 (fun u96 r97 t96 H96 L96 ht96 hvm96 hw96 hB96 hz96 hk96 hS => ?_)
  obtain ⟨hr96, hB96⟩ := hB96
  obtain ⟨hP, hD, hK⟩ := pq_jn (wz := [(h0, ce21 h1 o0 o1 o2), (h3, ce49), (h4, ce49), (h5, ce49), (h6, ce49), (h7, ce49), (h8, ce49), (h9, ce49), (a13, ce384 h1), (h1, ce331 h2), (h2, ce330 kc0 h3 h4 h5 h6 h7 h8 h9)]) (tz := [(kc0, .object "java/lang/Object")]) hP hD hK [8, 9, 10] [] rfl hk96 hF92 hB96.1 ht96 hvm96 rfl rfl
  have hG : s.heap.size + 1 ≤ H96.size := Nat.le_trans hG hz96
  refine W.eq (g2 := F0 m 38 ls [.ref h9]) (by rw [hr96]) ?_
  refine va_castE (nm := RX8) hx hb hown (hts _ q_273) (va_recv hK hP (ci := 7) (q := (RX8, TX8, 6)) (q0 := 7) rfl rfl) dX9_isLooked_38 ?_
  refine lv_astore (lv' := [(4, .ref h9), (2, .int 0), (3, .ref a13), (0, .ref h0), (1, .int 4)]) hx hb dX9_isLooked_41 hl (by decide) rfl (fun ls hl => ?_)
  refine lv_iload_n hx hb dX9_isLooked_43 rfl (lv_at hl 1 rfl) ?_
  refine lv_if_ne (tgt := 56) hx hb dX9_isLooked_44 (by decide) (fun cz => absurd (by decide) cz) (fun _ => ?_)
  refine lv_aload hx hb dX9_isLooked_47 (lv_at hl 0 rfl) ?_
  refine va_get (D := (dC, dI)) (ci := 7) (v := .int (-1)) (C := RX8) (T := TX8) (N := 6) hx hb hts in_X8 hown hK hP 7 rfl rfl 5 (by decide) (hts _ q_423) (fun _ h9 => h9) rfl dX9_isLooked_49 ?_
  refine lv_iload_n hx hb dX9_isLooked_52 rfl (lv_at hl 4 rfl) ?_
  refine lv_icmp_ne (tgt := 60) hx hb dX9_isLooked_53 (by decide) (fun _ => ?_) (fun cz => absurd cz (by decide))
  refine lv_iconst (v := 0) hx hb dX9_isLooked_60 (by decide) ?_
  refine lv_istore_n (lv' := [(2, .int 0), (4, .ref h9), (3, .ref a13), (0, .ref h0), (1, .int 4)]) hx hb dX9_isLooked_61 rfl hl (by decide) rfl (fun ls hl => ?_)
  refine lv_goto (tgt := 23) hx hb dX9_isLooked_62 (by decide) ?_
  refine lv_aload_n hx hb dX9_isLooked_23 rfl (lv_at hl 2 rfl) ?_
  have hM100 := k746_hasNext l hl9 dC dI z a13 h1 h2 H96.size
  obtain ⟨hF98, hC101⟩ := pc_M hM100 hP hD hK hS hX hT hA [8, 9] [] rfl rfl rfl
  refine va_callFi (va_runF (As := []) (rest := []) (hK.1 1 (RJx35411, TJx35411, 4) rfl).2 ⟨hx, hb, hml, hown, hts⟩ hM100 (va_cwF 0 hts (gF q_261 q_262 q_263 q_246 q_260) rfl rfl rfl hT.2.2.2.2.2.2.1 hF_xIh ⟨Nat.le_of_ble_eq_true rfl, Nat.le_of_ble_eq_true rfl⟩) ⟨pc_blind, va_recv hK hP (ci := 1) (q := (RJx35411, TJx35411, 4)) (q0 := 8) rfl rfl, fun U hU hW => ⟨rfl, hC101 U hU hW⟩⟩ rfl rfl hl.1 rfl (lv_room (Nat.le_of_ble_eq_true rfl)) dX9_isLooked_24 ⟨(Nat.le_of_ble_eq_true rfl), (Nat.le_of_ble_eq_true rfl)⟩) hS (fun q9 _ h9 => hF98 q9 h9) hF98 (fun r103 u102 t102 H102 L102 ht102 hvm102 hw102 hB102 hz102 hk102 hS => ?_)
  have hP := pq_keep hP hD [8, 9] rfl hk102 hB102.1 ht102
  have hG : s.heap.size + 1 ≤ H102.size := Nat.le_trans hG hz102
  refine W.eq (g2 := F0 m 29 ls [.int 0]) (by rw [hw102]) ?_
  refine lv_if_eq (tgt := 65) hx hb dX9_isLooked_29 (by decide) (fun _ => ?_) (fun cz => absurd (by decide) cz)
  refine lv_iload_n hx hb dX9_isLooked_65 rfl (lv_at hl 0 rfl) ?_
  exact W.zret (v := 0) (ty := .boolean) hx hb hr rfl (fun t9 ht9 hW9 => ⟨⟨0, (), rfl, rfl, ⟨pq_mk2 hP hD hK [0, 9, 10, 1, 2, 3, 4, 5, 6, 7] [0] rfl rfl rfl ht9 hW9, by rw [ht9]; exact Nat.le_trans (Nat.add_le_add_left (Nat.le_of_ble_eq_true rfl) _) hG⟩⟩, hS.F ht9⟩) hS.2.2 dX9_isLooked_66

set_option maxHeartbeats 4000000 in
set_option maxRecDepth 100000 in
theorem k951_isLooked (l : Launch) (hl9 : l.stackTraces = false) (dC : Nat → ClassId) (dI : Nat → Nat → Nat) (z : XZ) (h0 h1 h2 h3 h4 h5 h6 h7 h8 h9 : Nat) (o0 o1 o2 : Nat) (sz : Nat) (kc0 : ClassId) : Met l yX9_isLooked (.code yX9_isLooked cX9_isLooked 5 (some .boolean) :: wsL_law) ({ frames := 3, cells := 1, slots := 4, locals := 64 }) (va_Pc [.ref h0, .int 5] (PC (dC, dI) [(h0, ce21 h1 o0 o1 o2), (h1, ce331 h2), (h2, ce330 kc0 h3 h4 h5 h6 h7 h8 h9), (h3, ce49), (h4, ce49), (h5, ce49), (h6, ce49), (h7, ce49), (h8, ce49), (h9, ce49)] [(kc0, .object "java/lang/Object")] sz z)) (va_Qi (fun (r : Int32) (_ : Unit) => r = 0) (fun (_ : Unit) (t : State) => PG (dC, dI) [(h0, ce21 h1 o0 o1 o2), (h1, ce331 h2), (h2, ce330 kc0 h3 h4 h5 h6 h7 h8 h9), (h3, ce49), (h4, ce49), (h5, ce49), (h6, ce49), (h7, ce49), (h8, ce49), (h9, ce49)] [(kc0, .object "java/lang/Object")] (va_A [(h0, ce21 h1 o0 o1 o2), (h1, ce331 h2), (h2, ce330 kc0 h3 h4 h5 h6 h7 h8 h9), (h3, ce49), (h4, ce49), (h5, ce49), (h6, ce49), (h7, ce49), (h8, ce49), (h9, ce49)] sz) sz 1 t) (va_A [(h0, ce21 h1 o0 o1 o2), (h1, ce331 h2), (h2, ce330 kc0 h3 h4 h5 h6 h7 h8 h9), (h3, ce49), (h4, ce49), (h5, ce49), (h6, ce49), (h7, ce49), (h8, ce49), (h9, ce49)] sz)) 1 4 (va_A [(h0, ce21 h1 o0 o1 o2), (h1, ce331 h2), (h2, ce330 kc0 h3 h4 h5 h6 h7 h8 h9), (h3, ce49), (h4, ce49), (h5, ce49), (h6, ce49), (h7, ce49), (h8, ce49), (h9, ce49)] sz) := by
  refine Met.ofW (cc := cX9_isLooked) (maxL := 5) (ret := (some .boolean)) (by decide) rfl ?_
  intro p e s m args below meth c s₁ B hml hv
  obtain ⟨rfl, hsz, hP, hK, hD0, hX, hT⟩ := hv
  have hx := B.exec
  have hb := B.bytes
  have hr := B.returns
  have hts0 := atoms_spec (ws := .code yX9_isLooked cX9_isLooked 5 (some .boolean) :: wsL_law) B.pre
  have hts := xTail hts0
  have hown : s.vm.findClass RX9 = some m.cls := xown B.named rfl
  have hlocks := B.notSynchronized
  subst hsz
  have hD := hD0.self (sz := s.heap.size)
  generalize hAe : va_A [(h0, ce21 h1 o0 o1 o2), (h1, ce331 h2), (h2, ce330 kc0 h3 h4 h5 h6 h7 h8 h9), (h3, ce49), (h4, ce49), (h5, ce49), (h6, ce49), (h7, ce49), (h8, ce49), (h9, ce49)] s.heap.size = A at hD hX ⊢
  have hA : ∀ q : Nat, s.heap.size ≤ q → A q := fun q h => by rw [← hAe]; exact Or.inr h
  have hS : va_S A s.heap s.heap [] := va_S.rf
  have hG : s.heap.size + 0 ≤ s.heap.size := Nat.le_refl _
  have hl := lv_entry ([.ref h0, .int 5]) (n := 5) (Nat.le_of_ble_eq_true rfl)
  rw [lg_entry_eq]
  generalize (lg_sl ([.ref h0, .int 5]) ++ List.replicate (5 - (lg_sl ([.ref h0, .int 5])).length) Slot.unset).toArray = ls at hl ⊢
  have hl : lv_has ls 5 [(0, .ref h0), (1, .int 5)] := hl
  refine lv_aload_n hx hb dX9_isLooked_0 rfl (lv_at hl 0 rfl) ?_
  refine va_get (D := (dC, dI)) (ci := 8) (v := .ref h1) (C := RX9) (T := TX9) (N := 6) hx hb hts in_X9 hown hK hP 0 rfl rfl 1 (by decide) (hts _ q_64) (fun _ h9 => h9) rfl dX9_isLooked_1 ?_
  refine lv_iload_n hx hb dX9_isLooked_4 rfl (lv_at hl 1 rfl) ?_
  have hM3 := k652_get l hl9 dC dI z h1 h2 h3 h4 h5 h6 h7 h8 h9 s.heap.size kc0
  obtain ⟨hF1, hC4⟩ := pc_M hM3 hP hD hK hS hX hT hA [1, 2] [0] rfl rfl rfl
  refine va_callr (va_runV (As := [.int 5]) (rest := []) ⟨hx, hb, hml, hown, hts⟩ hM3 (cwV 1 hts (gV q_315 q_157 q_158 q_12 q_155) rfl rfl rfl hV_Jx4a65c_get_915e3 ⟨Nat.le_of_ble_eq_true rfl, Nat.le_of_ble_eq_true rfl⟩) ⟨pc_blind, va_recv hK hP (ci := 0) (q := (RJx4a65c, TJx4a65c, 3)) (q0 := 1) rfl rfl, fun U hU hW => ⟨rfl, hC4 U hU hW⟩⟩ rfl rfl hl.1 rfl (lv_room (Nat.le_of_ble_eq_true rfl)) dX9_isLooked_5 ⟨(Nat.le_of_ble_eq_true rfl), (Nat.le_of_ble_eq_true rfl)⟩) hS (fun q9 _ h9 => hF1 q9 h9) hF1 (fun u5 r6 t5 H5 L5 ht5 hvm5 hw5 hB5 hz5 hk5 hS => ?_)
  obtain ⟨hr5, hB5⟩ := hB5
  have hP := pq_keep hP hD [1, 2] rfl hk5 hB5.1 ht5
  have hG : s.heap.size + 0 ≤ H5.size := Nat.le_trans hG hz5
  refine W.eq (g2 := F0 m 8 ls [.ref h8]) (by rw [hr5]) ?_
  refine va_castE (nm := RX8) hx hb hown (hts _ q_273) (va_recv hK hP (ci := 7) (q := (RX8, TX8, 6)) (q0 := 8) rfl rfl) dX9_isLooked_8 ?_
  refine va_get (D := (dC, dI)) (ci := 7) (v := .int 0) (C := RX8) (T := TX8) (N := 6) hx hb hts in_X8 hown hK hP 8 rfl rfl 4 (by decide) (hts _ q_422) (fun _ h9 => h9) rfl dX9_isLooked_11 ?_
  refine lv_istore_n (lv' := [(2, .int 0), (0, .ref h0), (1, .int 5)]) hx hb dX9_isLooked_14 rfl hl (by decide) rfl (fun ls hl => ?_)
  refine lv_aload_n hx hb dX9_isLooked_15 rfl (lv_at hl 1 rfl) ?_
  refine va_get (D := (dC, dI)) (ci := 8) (v := .ref h1) (C := RX9) (T := TX9) (N := 6) hx hb hts in_X9 hown hK hP 0 rfl rfl 1 (by decide) (hts _ q_64) (fun _ h9 => h9) rfl dX9_isLooked_16 ?_
  have hM9 := k724_iterator l hl9 dC dI z h1 h2 H5.size
  obtain ⟨hF7, hC10⟩ := pc_M hM9 hP hD hK hS hX hT hA [1] [] rfl rfl rfl
  refine va_callr (va_runV (As := []) (rest := []) ⟨hx, hb, hml, hown, hts⟩ hM9 (cwV 0 hts (gV q_256 q_257 q_258 q_12 q_255) rfl rfl rfl hV_Jx4a65c_iterator_32c93 ⟨Nat.le_of_ble_eq_true rfl, Nat.le_of_ble_eq_true rfl⟩) ⟨pc_blind, va_recv hK hP (ci := 0) (q := (RJx4a65c, TJx4a65c, 3)) (q0 := 1) rfl rfl, fun U hU hW => ⟨rfl, hC10 U hU hW⟩⟩ rfl rfl hl.1 rfl (lv_room (Nat.le_of_ble_eq_true rfl)) dX9_isLooked_19 ⟨(Nat.le_of_ble_eq_true rfl), (Nat.le_of_ble_eq_true rfl)⟩) hS (fun q9 _ h9 => hF7 q9 h9) hF7 (fun u11 r12 t11 H11 L11 ht11 hvm11 hw11 hB11 hz11 hk11 hS => ?_)
  obtain ⟨a13, hr11, hB11⟩ := hB11
  obtain ⟨hP, hD, hK⟩ := pq_jn (wz := [(h0, ce21 h1 o0 o1 o2), (h2, ce330 kc0 h3 h4 h5 h6 h7 h8 h9), (h3, ce49), (h4, ce49), (h5, ce49), (h6, ce49), (h7, ce49), (h8, ce49), (h9, ce49), (h1, ce331 h2), (a13, ce370 h1)]) (tz := [(kc0, .object "java/lang/Object")]) hP hD hK [1] [0] rfl hk11 hF7 hB11.1 ht11 hvm11 rfl rfl
  have hG : s.heap.size + 1 ≤ H11.size := va_gr (g := 0) (g1 := 1) hG (by rw [← ht11]; exact hB11.2)
  refine W.eq (g2 := F0 m 22 ls [.ref a13]) (by rw [hr11]) ?_
  refine W.widen (k := 1) (n := 4) (by decide) (by decide) ?_
  refine lv_astore_n (lv' := [(3, .ref a13), (2, .int 0), (0, .ref h0), (1, .int 5)]) hx hb dX9_isLooked_22 rfl hl (by decide) rfl (fun ls hl => ?_)
  refine lv_aload_n hx hb dX9_isLooked_23 rfl (lv_at hl 0 rfl) ?_
  have hM16 := k725_hasNext l hl9 dC dI z a13 h1 h2 H11.size
  obtain ⟨hF14, hC17⟩ := pc_M hM16 hP hD hK hS hX hT hA [10, 9] [] rfl rfl rfl
  refine va_callFi (va_runF (As := []) (rest := []) (hK.1 1 (RJx35411, TJx35411, 4) rfl).2 ⟨hx, hb, hml, hown, hts⟩ hM16 (va_cwF 0 hts (gF q_261 q_262 q_263 q_246 q_260) rfl rfl rfl hT.2.2.2.2.2.2.1 hF_xIh ⟨Nat.le_of_ble_eq_true rfl, Nat.le_of_ble_eq_true rfl⟩) ⟨pc_blind, va_recv hK hP (ci := 1) (q := (RJx35411, TJx35411, 4)) (q0 := 10) rfl rfl, fun U hU hW => ⟨rfl, hC17 U hU hW⟩⟩ rfl rfl hl.1 rfl (lv_room (Nat.le_of_ble_eq_true rfl)) dX9_isLooked_24 ⟨(Nat.le_of_ble_eq_true rfl), (Nat.le_of_ble_eq_true rfl)⟩) hS (fun q9 _ h9 => hF14 q9 h9) hF14 (fun r19 u18 t18 H18 L18 ht18 hvm18 hw18 hB18 hz18 hk18 hS => ?_)
  have hP := pq_keep hP hD [10, 9] rfl hk18 hB18.1 ht18
  have hG : s.heap.size + 1 ≤ H18.size := Nat.le_trans hG hz18
  refine W.eq (g2 := F0 m 29 ls [.int 1]) (by rw [hw18]) ?_
  refine lv_if_eq (tgt := 65) hx hb dX9_isLooked_29 (by decide) (fun cz => absurd cz (by decide)) (fun _ => ?_)
  refine lv_aload_n hx hb dX9_isLooked_32 rfl (lv_at hl 0 rfl) ?_
  have hM22 := k727_next l hl9 dC dI z a13 h1 h2 h3 h4 h5 h6 h7 h8 h9 H18.size kc0
  obtain ⟨hF20, hC23⟩ := pc_M hM22 hP hD hK hS hX hT hA [10, 9, 1] [0] rfl rfl rfl
  refine va_callFr (va_runF (As := []) (rest := []) (hK.1 1 (RJx35411, TJx35411, 4) rfl).2 ⟨hx, hb, hml, hown, hts⟩ hM22 (va_cwF 0 hts (gF q_308 q_309 q_310 q_246 q_307) rfl rfl rfl hT.2.2.2.2.2.2.2.1 hF_xIn ⟨Nat.le_of_ble_eq_true rfl, Nat.le_of_ble_eq_true rfl⟩) ⟨pc_blind, va_recv hK hP (ci := 1) (q := (RJx35411, TJx35411, 4)) (q0 := 10) rfl rfl, fun U hU hW => ⟨rfl, hC23 U hU hW⟩⟩ rfl rfl hl.1 rfl (lv_room (Nat.le_of_ble_eq_true rfl)) dX9_isLooked_33 ⟨(Nat.le_of_ble_eq_true rfl), (Nat.le_of_ble_eq_true rfl)⟩) hS (fun q9 _ h9 => hF20 q9 h9) hF20 (fun u24 r25 t24 H24 L24 ht24 hvm24 hw24 hB24 hz24 hk24 hS => ?_)
  obtain ⟨hr24, hB24⟩ := hB24
  obtain ⟨hP, hD, hK⟩ := pq_jn (wz := [(h0, ce21 h1 o0 o1 o2), (h3, ce49), (h4, ce49), (h5, ce49), (h6, ce49), (h7, ce49), (h8, ce49), (h9, ce49), (a13, ce372 h1), (h1, ce331 h2), (h2, ce330 kc0 h3 h4 h5 h6 h7 h8 h9)]) (tz := [(kc0, .object "java/lang/Object")]) hP hD hK [10, 9, 1] [] rfl hk24 hF20 hB24.1 ht24 hvm24 rfl rfl
  have hG : s.heap.size + 1 ≤ H24.size := Nat.le_trans hG hz24
  refine W.eq (g2 := F0 m 38 ls [.ref h3]) (by rw [hr24]) ?_
  refine va_castE (nm := RX8) hx hb hown (hts _ q_273) (va_recv hK hP (ci := 7) (q := (RX8, TX8, 6)) (q0 := 1) rfl rfl) dX9_isLooked_38 ?_
  refine lv_astore (lv' := [(4, .ref h3), (3, .ref a13), (2, .int 0), (0, .ref h0), (1, .int 5)]) hx hb dX9_isLooked_41 hl (by decide) rfl (fun ls hl => ?_)
  refine lv_iload_n hx hb dX9_isLooked_43 rfl (lv_at hl 2 rfl) ?_
  refine lv_if_ne (tgt := 56) hx hb dX9_isLooked_44 (by decide) (fun cz => absurd (by decide) cz) (fun _ => ?_)
  refine lv_aload hx hb dX9_isLooked_47 (lv_at hl 0 rfl) ?_
  refine va_get (D := (dC, dI)) (ci := 7) (v := .int (-1)) (C := RX8) (T := TX8) (N := 6) hx hb hts in_X8 hown hK hP 1 rfl rfl 5 (by decide) (hts _ q_423) (fun _ h9 => h9) rfl dX9_isLooked_49 ?_
  refine lv_iload_n hx hb dX9_isLooked_52 rfl (lv_at hl 4 rfl) ?_
  refine lv_icmp_ne (tgt := 60) hx hb dX9_isLooked_53 (by decide) (fun _ => ?_) (fun cz => absurd cz (by decide))
  refine lv_iconst (v := 0) hx hb dX9_isLooked_60 (by decide) ?_
  refine lv_istore_n (lv' := [(2, .int 0), (4, .ref h3), (3, .ref a13), (0, .ref h0), (1, .int 5)]) hx hb dX9_isLooked_61 rfl hl (by decide) rfl (fun ls hl => ?_)
  refine lv_goto (tgt := 23) hx hb dX9_isLooked_62 (by decide) ?_
  refine lv_aload_n hx hb dX9_isLooked_23 rfl (lv_at hl 2 rfl) ?_
  have hM28 := k728_hasNext l hl9 dC dI z a13 h1 h2 H24.size
  obtain ⟨hF26, hC29⟩ := pc_M hM28 hP hD hK hS hX hT hA [8, 9] [] rfl rfl rfl
  refine va_callFi (va_runF (As := []) (rest := []) (hK.1 1 (RJx35411, TJx35411, 4) rfl).2 ⟨hx, hb, hml, hown, hts⟩ hM28 (va_cwF 0 hts (gF q_261 q_262 q_263 q_246 q_260) rfl rfl rfl hT.2.2.2.2.2.2.1 hF_xIh ⟨Nat.le_of_ble_eq_true rfl, Nat.le_of_ble_eq_true rfl⟩) ⟨pc_blind, va_recv hK hP (ci := 1) (q := (RJx35411, TJx35411, 4)) (q0 := 8) rfl rfl, fun U hU hW => ⟨rfl, hC29 U hU hW⟩⟩ rfl rfl hl.1 rfl (lv_room (Nat.le_of_ble_eq_true rfl)) dX9_isLooked_24 ⟨(Nat.le_of_ble_eq_true rfl), (Nat.le_of_ble_eq_true rfl)⟩) hS (fun q9 _ h9 => hF26 q9 h9) hF26 (fun r31 u30 t30 H30 L30 ht30 hvm30 hw30 hB30 hz30 hk30 hS => ?_)
  have hP := pq_keep hP hD [8, 9] rfl hk30 hB30.1 ht30
  have hG : s.heap.size + 1 ≤ H30.size := Nat.le_trans hG hz30
  refine W.eq (g2 := F0 m 29 ls [.int 1]) (by rw [hw30]) ?_
  refine lv_if_eq (tgt := 65) hx hb dX9_isLooked_29 (by decide) (fun cz => absurd cz (by decide)) (fun _ => ?_)
  refine lv_aload_n hx hb dX9_isLooked_32 rfl (lv_at hl 2 rfl) ?_
  have hM34 := k730_next l hl9 dC dI z a13 h1 h2 h3 h4 h5 h6 h7 h8 h9 H30.size kc0
  obtain ⟨hF32, hC35⟩ := pc_M hM34 hP hD hK hS hX hT hA [8, 9, 10] [0] rfl rfl rfl
  refine va_callFr (va_runF (As := []) (rest := []) (hK.1 1 (RJx35411, TJx35411, 4) rfl).2 ⟨hx, hb, hml, hown, hts⟩ hM34 (va_cwF 0 hts (gF q_308 q_309 q_310 q_246 q_307) rfl rfl rfl hT.2.2.2.2.2.2.2.1 hF_xIn ⟨Nat.le_of_ble_eq_true rfl, Nat.le_of_ble_eq_true rfl⟩) ⟨pc_blind, va_recv hK hP (ci := 1) (q := (RJx35411, TJx35411, 4)) (q0 := 8) rfl rfl, fun U hU hW => ⟨rfl, hC35 U hU hW⟩⟩ rfl rfl hl.1 rfl (lv_room (Nat.le_of_ble_eq_true rfl)) dX9_isLooked_33 ⟨(Nat.le_of_ble_eq_true rfl), (Nat.le_of_ble_eq_true rfl)⟩) hS (fun q9 _ h9 => hF32 q9 h9) hF32 (fun u36 r37 t36 H36 L36 ht36 hvm36 hw36 hB36 hz36 hk36 hS => ?_)
  obtain ⟨hr36, hB36⟩ := hB36
  obtain ⟨hP, hD, hK⟩ := pq_jn (wz := [(h0, ce21 h1 o0 o1 o2), (h3, ce49), (h4, ce49), (h5, ce49), (h6, ce49), (h7, ce49), (h8, ce49), (h9, ce49), (a13, ce374 h1), (h1, ce331 h2), (h2, ce330 kc0 h3 h4 h5 h6 h7 h8 h9)]) (tz := [(kc0, .object "java/lang/Object")]) hP hD hK [8, 9, 10] [] rfl hk36 hF32 hB36.1 ht36 hvm36 rfl rfl
  have hG : s.heap.size + 1 ≤ H36.size := Nat.le_trans hG hz36
  refine W.eq (g2 := F0 m 38 ls [.ref h4]) (by rw [hr36]) ?_
  refine va_castE (nm := RX8) hx hb hown (hts _ q_273) (va_recv hK hP (ci := 7) (q := (RX8, TX8, 6)) (q0 := 2) rfl rfl) dX9_isLooked_38 ?_
  refine lv_astore (lv' := [(4, .ref h4), (2, .int 0), (3, .ref a13), (0, .ref h0), (1, .int 5)]) hx hb dX9_isLooked_41 hl (by decide) rfl (fun ls hl => ?_)
  refine lv_iload_n hx hb dX9_isLooked_43 rfl (lv_at hl 1 rfl) ?_
  refine lv_if_ne (tgt := 56) hx hb dX9_isLooked_44 (by decide) (fun cz => absurd (by decide) cz) (fun _ => ?_)
  refine lv_aload hx hb dX9_isLooked_47 (lv_at hl 0 rfl) ?_
  refine va_get (D := (dC, dI)) (ci := 7) (v := .int (-1)) (C := RX8) (T := TX8) (N := 6) hx hb hts in_X8 hown hK hP 2 rfl rfl 5 (by decide) (hts _ q_423) (fun _ h9 => h9) rfl dX9_isLooked_49 ?_
  refine lv_iload_n hx hb dX9_isLooked_52 rfl (lv_at hl 4 rfl) ?_
  refine lv_icmp_ne (tgt := 60) hx hb dX9_isLooked_53 (by decide) (fun _ => ?_) (fun cz => absurd cz (by decide))
  refine lv_iconst (v := 0) hx hb dX9_isLooked_60 (by decide) ?_
  refine lv_istore_n (lv' := [(2, .int 0), (4, .ref h4), (3, .ref a13), (0, .ref h0), (1, .int 5)]) hx hb dX9_isLooked_61 rfl hl (by decide) rfl (fun ls hl => ?_)
  refine lv_goto (tgt := 23) hx hb dX9_isLooked_62 (by decide) ?_
  refine lv_aload_n hx hb dX9_isLooked_23 rfl (lv_at hl 2 rfl) ?_
  have hM40 := k731_hasNext l hl9 dC dI z a13 h1 h2 H36.size
  obtain ⟨hF38, hC41⟩ := pc_M hM40 hP hD hK hS hX hT hA [8, 9] [] rfl rfl rfl
  refine va_callFi (va_runF (As := []) (rest := []) (hK.1 1 (RJx35411, TJx35411, 4) rfl).2 ⟨hx, hb, hml, hown, hts⟩ hM40 (va_cwF 0 hts (gF q_261 q_262 q_263 q_246 q_260) rfl rfl rfl hT.2.2.2.2.2.2.1 hF_xIh ⟨Nat.le_of_ble_eq_true rfl, Nat.le_of_ble_eq_true rfl⟩) ⟨pc_blind, va_recv hK hP (ci := 1) (q := (RJx35411, TJx35411, 4)) (q0 := 8) rfl rfl, fun U hU hW => ⟨rfl, hC41 U hU hW⟩⟩ rfl rfl hl.1 rfl (lv_room (Nat.le_of_ble_eq_true rfl)) dX9_isLooked_24 ⟨(Nat.le_of_ble_eq_true rfl), (Nat.le_of_ble_eq_true rfl)⟩) hS (fun q9 _ h9 => hF38 q9 h9) hF38 (fun r43 u42 t42 H42 L42 ht42 hvm42 hw42 hB42 hz42 hk42 hS => ?_)
  have hP := pq_keep hP hD [8, 9] rfl hk42 hB42.1 ht42
  have hG : s.heap.size + 1 ≤ H42.size := Nat.le_trans hG hz42
  refine W.eq (g2 := F0 m 29 ls [.int 1]) (by rw [hw42]) ?_
  refine lv_if_eq (tgt := 65) hx hb dX9_isLooked_29 (by decide) (fun cz => absurd cz (by decide)) (fun _ => ?_)
  refine lv_aload_n hx hb dX9_isLooked_32 rfl (lv_at hl 2 rfl) ?_
  have hM46 := k733_next l hl9 dC dI z a13 h1 h2 h3 h4 h5 h6 h7 h8 h9 H42.size kc0
  obtain ⟨hF44, hC47⟩ := pc_M hM46 hP hD hK hS hX hT hA [8, 9, 10] [0] rfl rfl rfl
  refine va_callFr (va_runF (As := []) (rest := []) (hK.1 1 (RJx35411, TJx35411, 4) rfl).2 ⟨hx, hb, hml, hown, hts⟩ hM46 (va_cwF 0 hts (gF q_308 q_309 q_310 q_246 q_307) rfl rfl rfl hT.2.2.2.2.2.2.2.1 hF_xIn ⟨Nat.le_of_ble_eq_true rfl, Nat.le_of_ble_eq_true rfl⟩) ⟨pc_blind, va_recv hK hP (ci := 1) (q := (RJx35411, TJx35411, 4)) (q0 := 8) rfl rfl, fun U hU hW => ⟨rfl, hC47 U hU hW⟩⟩ rfl rfl hl.1 rfl (lv_room (Nat.le_of_ble_eq_true rfl)) dX9_isLooked_33 ⟨(Nat.le_of_ble_eq_true rfl), (Nat.le_of_ble_eq_true rfl)⟩) hS (fun q9 _ h9 => hF44 q9 h9) hF44 (fun u48 r49 t48 H48 L48 ht48 hvm48 hw48 hB48 hz48 hk48 hS => ?_)
  obtain ⟨hr48, hB48⟩ := hB48
  obtain ⟨hP, hD, hK⟩ := pq_jn (wz := [(h0, ce21 h1 o0 o1 o2), (h3, ce49), (h4, ce49), (h5, ce49), (h6, ce49), (h7, ce49), (h8, ce49), (h9, ce49), (a13, ce376 h1), (h1, ce331 h2), (h2, ce330 kc0 h3 h4 h5 h6 h7 h8 h9)]) (tz := [(kc0, .object "java/lang/Object")]) hP hD hK [8, 9, 10] [] rfl hk48 hF44 hB48.1 ht48 hvm48 rfl rfl
  have hG : s.heap.size + 1 ≤ H48.size := Nat.le_trans hG hz48
  refine W.eq (g2 := F0 m 38 ls [.ref h5]) (by rw [hr48]) ?_
  refine va_castE (nm := RX8) hx hb hown (hts _ q_273) (va_recv hK hP (ci := 7) (q := (RX8, TX8, 6)) (q0 := 3) rfl rfl) dX9_isLooked_38 ?_
  refine lv_astore (lv' := [(4, .ref h5), (2, .int 0), (3, .ref a13), (0, .ref h0), (1, .int 5)]) hx hb dX9_isLooked_41 hl (by decide) rfl (fun ls hl => ?_)
  refine lv_iload_n hx hb dX9_isLooked_43 rfl (lv_at hl 1 rfl) ?_
  refine lv_if_ne (tgt := 56) hx hb dX9_isLooked_44 (by decide) (fun cz => absurd (by decide) cz) (fun _ => ?_)
  refine lv_aload hx hb dX9_isLooked_47 (lv_at hl 0 rfl) ?_
  refine va_get (D := (dC, dI)) (ci := 7) (v := .int (-1)) (C := RX8) (T := TX8) (N := 6) hx hb hts in_X8 hown hK hP 3 rfl rfl 5 (by decide) (hts _ q_423) (fun _ h9 => h9) rfl dX9_isLooked_49 ?_
  refine lv_iload_n hx hb dX9_isLooked_52 rfl (lv_at hl 4 rfl) ?_
  refine lv_icmp_ne (tgt := 60) hx hb dX9_isLooked_53 (by decide) (fun _ => ?_) (fun cz => absurd cz (by decide))
  refine lv_iconst (v := 0) hx hb dX9_isLooked_60 (by decide) ?_
  refine lv_istore_n (lv' := [(2, .int 0), (4, .ref h5), (3, .ref a13), (0, .ref h0), (1, .int 5)]) hx hb dX9_isLooked_61 rfl hl (by decide) rfl (fun ls hl => ?_)
  refine lv_goto (tgt := 23) hx hb dX9_isLooked_62 (by decide) ?_
  refine lv_aload_n hx hb dX9_isLooked_23 rfl (lv_at hl 2 rfl) ?_
  have hM52 := k734_hasNext l hl9 dC dI z a13 h1 h2 H48.size
  obtain ⟨hF50, hC53⟩ := pc_M hM52 hP hD hK hS hX hT hA [8, 9] [] rfl rfl rfl
  refine va_callFi (va_runF (As := []) (rest := []) (hK.1 1 (RJx35411, TJx35411, 4) rfl).2 ⟨hx, hb, hml, hown, hts⟩ hM52 (va_cwF 0 hts (gF q_261 q_262 q_263 q_246 q_260) rfl rfl rfl hT.2.2.2.2.2.2.1 hF_xIh ⟨Nat.le_of_ble_eq_true rfl, Nat.le_of_ble_eq_true rfl⟩) ⟨pc_blind, va_recv hK hP (ci := 1) (q := (RJx35411, TJx35411, 4)) (q0 := 8) rfl rfl, fun U hU hW => ⟨rfl, hC53 U hU hW⟩⟩ rfl rfl hl.1 rfl (lv_room (Nat.le_of_ble_eq_true rfl)) dX9_isLooked_24 ⟨(Nat.le_of_ble_eq_true rfl), (Nat.le_of_ble_eq_true rfl)⟩) hS (fun q9 _ h9 => hF50 q9 h9) hF50 (fun r55 u54 t54 H54 L54 ht54 hvm54 hw54 hB54 hz54 hk54 hS => ?_)
  have hP := pq_keep hP hD [8, 9] rfl hk54 hB54.1 ht54
  have hG : s.heap.size + 1 ≤ H54.size := Nat.le_trans hG hz54
  refine W.eq (g2 := F0 m 29 ls [.int 1]) (by rw [hw54]) ?_
  refine lv_if_eq (tgt := 65) hx hb dX9_isLooked_29 (by decide) (fun cz => absurd cz (by decide)) (fun _ => ?_)
  refine lv_aload_n hx hb dX9_isLooked_32 rfl (lv_at hl 2 rfl) ?_
  have hM58 := k736_next l hl9 dC dI z a13 h1 h2 h3 h4 h5 h6 h7 h8 h9 H54.size kc0
  obtain ⟨hF56, hC59⟩ := pc_M hM58 hP hD hK hS hX hT hA [8, 9, 10] [0] rfl rfl rfl
  refine va_callFr (va_runF (As := []) (rest := []) (hK.1 1 (RJx35411, TJx35411, 4) rfl).2 ⟨hx, hb, hml, hown, hts⟩ hM58 (va_cwF 0 hts (gF q_308 q_309 q_310 q_246 q_307) rfl rfl rfl hT.2.2.2.2.2.2.2.1 hF_xIn ⟨Nat.le_of_ble_eq_true rfl, Nat.le_of_ble_eq_true rfl⟩) ⟨pc_blind, va_recv hK hP (ci := 1) (q := (RJx35411, TJx35411, 4)) (q0 := 8) rfl rfl, fun U hU hW => ⟨rfl, hC59 U hU hW⟩⟩ rfl rfl hl.1 rfl (lv_room (Nat.le_of_ble_eq_true rfl)) dX9_isLooked_33 ⟨(Nat.le_of_ble_eq_true rfl), (Nat.le_of_ble_eq_true rfl)⟩) hS (fun q9 _ h9 => hF56 q9 h9) hF56 (fun u60 r61 t60 H60 L60 ht60 hvm60 hw60 hB60 hz60 hk60 hS => ?_)
  obtain ⟨hr60, hB60⟩ := hB60
  obtain ⟨hP, hD, hK⟩ := pq_jn (wz := [(h0, ce21 h1 o0 o1 o2), (h3, ce49), (h4, ce49), (h5, ce49), (h6, ce49), (h7, ce49), (h8, ce49), (h9, ce49), (a13, ce378 h1), (h1, ce331 h2), (h2, ce330 kc0 h3 h4 h5 h6 h7 h8 h9)]) (tz := [(kc0, .object "java/lang/Object")]) hP hD hK [8, 9, 10] [] rfl hk60 hF56 hB60.1 ht60 hvm60 rfl rfl
  have hG : s.heap.size + 1 ≤ H60.size := Nat.le_trans hG hz60
  refine W.eq (g2 := F0 m 38 ls [.ref h6]) (by rw [hr60]) ?_
  refine va_castE (nm := RX8) hx hb hown (hts _ q_273) (va_recv hK hP (ci := 7) (q := (RX8, TX8, 6)) (q0 := 4) rfl rfl) dX9_isLooked_38 ?_
  refine lv_astore (lv' := [(4, .ref h6), (2, .int 0), (3, .ref a13), (0, .ref h0), (1, .int 5)]) hx hb dX9_isLooked_41 hl (by decide) rfl (fun ls hl => ?_)
  refine lv_iload_n hx hb dX9_isLooked_43 rfl (lv_at hl 1 rfl) ?_
  refine lv_if_ne (tgt := 56) hx hb dX9_isLooked_44 (by decide) (fun cz => absurd (by decide) cz) (fun _ => ?_)
  refine lv_aload hx hb dX9_isLooked_47 (lv_at hl 0 rfl) ?_
  refine va_get (D := (dC, dI)) (ci := 7) (v := .int (-1)) (C := RX8) (T := TX8) (N := 6) hx hb hts in_X8 hown hK hP 4 rfl rfl 5 (by decide) (hts _ q_423) (fun _ h9 => h9) rfl dX9_isLooked_49 ?_
  refine lv_iload_n hx hb dX9_isLooked_52 rfl (lv_at hl 4 rfl) ?_
  refine lv_icmp_ne (tgt := 60) hx hb dX9_isLooked_53 (by decide) (fun _ => ?_) (fun cz => absurd cz (by decide))
  refine lv_iconst (v := 0) hx hb dX9_isLooked_60 (by decide) ?_
  refine lv_istore_n (lv' := [(2, .int 0), (4, .ref h6), (3, .ref a13), (0, .ref h0), (1, .int 5)]) hx hb dX9_isLooked_61 rfl hl (by decide) rfl (fun ls hl => ?_)
  refine lv_goto (tgt := 23) hx hb dX9_isLooked_62 (by decide) ?_
  refine lv_aload_n hx hb dX9_isLooked_23 rfl (lv_at hl 2 rfl) ?_
  have hM64 := k737_hasNext l hl9 dC dI z a13 h1 h2 H60.size
  obtain ⟨hF62, hC65⟩ := pc_M hM64 hP hD hK hS hX hT hA [8, 9] [] rfl rfl rfl
  refine va_callFi (va_runF (As := []) (rest := []) (hK.1 1 (RJx35411, TJx35411, 4) rfl).2 ⟨hx, hb, hml, hown, hts⟩ hM64 (va_cwF 0 hts (gF q_261 q_262 q_263 q_246 q_260) rfl rfl rfl hT.2.2.2.2.2.2.1 hF_xIh ⟨Nat.le_of_ble_eq_true rfl, Nat.le_of_ble_eq_true rfl⟩) ⟨pc_blind, va_recv hK hP (ci := 1) (q := (RJx35411, TJx35411, 4)) (q0 := 8) rfl rfl, fun U hU hW => ⟨rfl, hC65 U hU hW⟩⟩ rfl rfl hl.1 rfl (lv_room (Nat.le_of_ble_eq_true rfl)) dX9_isLooked_24 ⟨(Nat.le_of_ble_eq_true rfl), (Nat.le_of_ble_eq_true rfl)⟩) hS (fun q9 _ h9 => hF62 q9 h9) hF62 (fun r67 u66 t66 H66 L66 ht66 hvm66 hw66 hB66 hz66 hk66 hS => ?_)
  have hP := pq_keep hP hD [8, 9] rfl hk66 hB66.1 ht66
  have hG : s.heap.size + 1 ≤ H66.size := Nat.le_trans hG hz66
  refine W.eq (g2 := F0 m 29 ls [.int 1]) (by rw [hw66]) ?_
  refine lv_if_eq (tgt := 65) hx hb dX9_isLooked_29 (by decide) (fun cz => absurd cz (by decide)) (fun _ => ?_)
  refine lv_aload_n hx hb dX9_isLooked_32 rfl (lv_at hl 2 rfl) ?_
  have hM70 := k739_next l hl9 dC dI z a13 h1 h2 h3 h4 h5 h6 h7 h8 h9 H66.size kc0
  obtain ⟨hF68, hC71⟩ := pc_M hM70 hP hD hK hS hX hT hA [8, 9, 10] [0] rfl rfl rfl
  refine va_callFr (va_runF (As := []) (rest := []) (hK.1 1 (RJx35411, TJx35411, 4) rfl).2 ⟨hx, hb, hml, hown, hts⟩ hM70 (va_cwF 0 hts (gF q_308 q_309 q_310 q_246 q_307) rfl rfl rfl hT.2.2.2.2.2.2.2.1 hF_xIn ⟨Nat.le_of_ble_eq_true rfl, Nat.le_of_ble_eq_true rfl⟩) ⟨pc_blind, va_recv hK hP (ci := 1) (q := (RJx35411, TJx35411, 4)) (q0 := 8) rfl rfl, fun U hU hW => ⟨rfl, hC71 U hU hW⟩⟩ rfl rfl hl.1 rfl (lv_room (Nat.le_of_ble_eq_true rfl)) dX9_isLooked_33 ⟨(Nat.le_of_ble_eq_true rfl), (Nat.le_of_ble_eq_true rfl)⟩) hS (fun q9 _ h9 => hF68 q9 h9) hF68 (fun u72 r73 t72 H72 L72 ht72 hvm72 hw72 hB72 hz72 hk72 hS => ?_)
  obtain ⟨hr72, hB72⟩ := hB72
  obtain ⟨hP, hD, hK⟩ := pq_jn (wz := [(h0, ce21 h1 o0 o1 o2), (h3, ce49), (h4, ce49), (h5, ce49), (h6, ce49), (h7, ce49), (h8, ce49), (h9, ce49), (a13, ce380 h1), (h1, ce331 h2), (h2, ce330 kc0 h3 h4 h5 h6 h7 h8 h9)]) (tz := [(kc0, .object "java/lang/Object")]) hP hD hK [8, 9, 10] [] rfl hk72 hF68 hB72.1 ht72 hvm72 rfl rfl
  have hG : s.heap.size + 1 ≤ H72.size := Nat.le_trans hG hz72
  refine W.eq (g2 := F0 m 38 ls [.ref h7]) (by rw [hr72]) ?_
  refine va_castE (nm := RX8) hx hb hown (hts _ q_273) (va_recv hK hP (ci := 7) (q := (RX8, TX8, 6)) (q0 := 5) rfl rfl) dX9_isLooked_38 ?_
  refine lv_astore (lv' := [(4, .ref h7), (2, .int 0), (3, .ref a13), (0, .ref h0), (1, .int 5)]) hx hb dX9_isLooked_41 hl (by decide) rfl (fun ls hl => ?_)
  refine lv_iload_n hx hb dX9_isLooked_43 rfl (lv_at hl 1 rfl) ?_
  refine lv_if_ne (tgt := 56) hx hb dX9_isLooked_44 (by decide) (fun cz => absurd (by decide) cz) (fun _ => ?_)
  refine lv_aload hx hb dX9_isLooked_47 (lv_at hl 0 rfl) ?_
  refine va_get (D := (dC, dI)) (ci := 7) (v := .int (-1)) (C := RX8) (T := TX8) (N := 6) hx hb hts in_X8 hown hK hP 5 rfl rfl 5 (by decide) (hts _ q_423) (fun _ h9 => h9) rfl dX9_isLooked_49 ?_
  refine lv_iload_n hx hb dX9_isLooked_52 rfl (lv_at hl 4 rfl) ?_
  refine lv_icmp_ne (tgt := 60) hx hb dX9_isLooked_53 (by decide) (fun _ => ?_) (fun cz => absurd cz (by decide))
  refine lv_iconst (v := 0) hx hb dX9_isLooked_60 (by decide) ?_
  refine lv_istore_n (lv' := [(2, .int 0), (4, .ref h7), (3, .ref a13), (0, .ref h0), (1, .int 5)]) hx hb dX9_isLooked_61 rfl hl (by decide) rfl (fun ls hl => ?_)
  refine lv_goto (tgt := 23) hx hb dX9_isLooked_62 (by decide) ?_
  refine lv_aload_n hx hb dX9_isLooked_23 rfl (lv_at hl 2 rfl) ?_
  have hM76 := k740_hasNext l hl9 dC dI z a13 h1 h2 H72.size
  obtain ⟨hF74, hC77⟩ := pc_M hM76 hP hD hK hS hX hT hA [8, 9] [] rfl rfl rfl
  refine va_callFi (va_runF (As := []) (rest := []) (hK.1 1 (RJx35411, TJx35411, 4) rfl).2 ⟨hx, hb, hml, hown, hts⟩ hM76 (va_cwF 0 hts (gF q_261 q_262 q_263 q_246 q_260) rfl rfl rfl hT.2.2.2.2.2.2.1 hF_xIh ⟨Nat.le_of_ble_eq_true rfl, Nat.le_of_ble_eq_true rfl⟩) ⟨pc_blind, va_recv hK hP (ci := 1) (q := (RJx35411, TJx35411, 4)) (q0 := 8) rfl rfl, fun U hU hW => ⟨rfl, hC77 U hU hW⟩⟩ rfl rfl hl.1 rfl (lv_room (Nat.le_of_ble_eq_true rfl)) dX9_isLooked_24 ⟨(Nat.le_of_ble_eq_true rfl), (Nat.le_of_ble_eq_true rfl)⟩) hS (fun q9 _ h9 => hF74 q9 h9) hF74 (fun r79 u78 t78 H78 L78 ht78 hvm78 hw78 hB78 hz78 hk78 hS => ?_)
  have hP := pq_keep hP hD [8, 9] rfl hk78 hB78.1 ht78
  have hG : s.heap.size + 1 ≤ H78.size := Nat.le_trans hG hz78
  refine W.eq (g2 := F0 m 29 ls [.int 1]) (by rw [hw78]) ?_
  refine lv_if_eq (tgt := 65) hx hb dX9_isLooked_29 (by decide) (fun cz => absurd cz (by decide)) (fun _ => ?_)
  refine lv_aload_n hx hb dX9_isLooked_32 rfl (lv_at hl 2 rfl) ?_
  have hM82 := k742_next l hl9 dC dI z a13 h1 h2 h3 h4 h5 h6 h7 h8 h9 H78.size kc0
  obtain ⟨hF80, hC83⟩ := pc_M hM82 hP hD hK hS hX hT hA [8, 9, 10] [0] rfl rfl rfl
  refine va_callFr (va_runF (As := []) (rest := []) (hK.1 1 (RJx35411, TJx35411, 4) rfl).2 ⟨hx, hb, hml, hown, hts⟩ hM82 (va_cwF 0 hts (gF q_308 q_309 q_310 q_246 q_307) rfl rfl rfl hT.2.2.2.2.2.2.2.1 hF_xIn ⟨Nat.le_of_ble_eq_true rfl, Nat.le_of_ble_eq_true rfl⟩) ⟨pc_blind, va_recv hK hP (ci := 1) (q := (RJx35411, TJx35411, 4)) (q0 := 8) rfl rfl, fun U hU hW => ⟨rfl, hC83 U hU hW⟩⟩ rfl rfl hl.1 rfl (lv_room (Nat.le_of_ble_eq_true rfl)) dX9_isLooked_33 ⟨(Nat.le_of_ble_eq_true rfl), (Nat.le_of_ble_eq_true rfl)⟩) hS (fun q9 _ h9 => hF80 q9 h9) hF80 (fun u84 r85 t84 H84 L84 ht84 hvm84 hw84 hB84 hz84 hk84 hS => ?_)
  obtain ⟨hr84, hB84⟩ := hB84
  obtain ⟨hP, hD, hK⟩ := pq_jn (wz := [(h0, ce21 h1 o0 o1 o2), (h3, ce49), (h4, ce49), (h5, ce49), (h6, ce49), (h7, ce49), (h8, ce49), (h9, ce49), (a13, ce382 h1), (h1, ce331 h2), (h2, ce330 kc0 h3 h4 h5 h6 h7 h8 h9)]) (tz := [(kc0, .object "java/lang/Object")]) hP hD hK [8, 9, 10] [] rfl hk84 hF80 hB84.1 ht84 hvm84 rfl rfl
  have hG : s.heap.size + 1 ≤ H84.size := Nat.le_trans hG hz84
  refine W.eq (g2 := F0 m 38 ls [.ref h8]) (by rw [hr84]) ?_
  refine va_castE (nm := RX8) hx hb hown (hts _ q_273) (va_recv hK hP (ci := 7) (q := (RX8, TX8, 6)) (q0 := 6) rfl rfl) dX9_isLooked_38 ?_
  refine lv_astore (lv' := [(4, .ref h8), (2, .int 0), (3, .ref a13), (0, .ref h0), (1, .int 5)]) hx hb dX9_isLooked_41 hl (by decide) rfl (fun ls hl => ?_)
  refine lv_iload_n hx hb dX9_isLooked_43 rfl (lv_at hl 1 rfl) ?_
  refine lv_if_ne (tgt := 56) hx hb dX9_isLooked_44 (by decide) (fun cz => absurd (by decide) cz) (fun _ => ?_)
  refine lv_aload hx hb dX9_isLooked_47 (lv_at hl 0 rfl) ?_
  refine va_get (D := (dC, dI)) (ci := 7) (v := .int (-1)) (C := RX8) (T := TX8) (N := 6) hx hb hts in_X8 hown hK hP 6 rfl rfl 5 (by decide) (hts _ q_423) (fun _ h9 => h9) rfl dX9_isLooked_49 ?_
  refine lv_iload_n hx hb dX9_isLooked_52 rfl (lv_at hl 4 rfl) ?_
  refine lv_icmp_ne (tgt := 60) hx hb dX9_isLooked_53 (by decide) (fun _ => ?_) (fun cz => absurd cz (by decide))
  refine lv_iconst (v := 0) hx hb dX9_isLooked_60 (by decide) ?_
  refine lv_istore_n (lv' := [(2, .int 0), (4, .ref h8), (3, .ref a13), (0, .ref h0), (1, .int 5)]) hx hb dX9_isLooked_61 rfl hl (by decide) rfl (fun ls hl => ?_)
  refine lv_goto (tgt := 23) hx hb dX9_isLooked_62 (by decide) ?_
  refine lv_aload_n hx hb dX9_isLooked_23 rfl (lv_at hl 2 rfl) ?_
  have hM88 := k743_hasNext l hl9 dC dI z a13 h1 h2 H84.size
  obtain ⟨hF86, hC89⟩ := pc_M hM88 hP hD hK hS hX hT hA [8, 9] [] rfl rfl rfl
  refine va_callFi (va_runF (As := []) (rest := []) (hK.1 1 (RJx35411, TJx35411, 4) rfl).2 ⟨hx, hb, hml, hown, hts⟩ hM88 (va_cwF 0 hts (gF q_261 q_262 q_263 q_246 q_260) rfl rfl rfl hT.2.2.2.2.2.2.1 hF_xIh ⟨Nat.le_of_ble_eq_true rfl, Nat.le_of_ble_eq_true rfl⟩) ⟨pc_blind, va_recv hK hP (ci := 1) (q := (RJx35411, TJx35411, 4)) (q0 := 8) rfl rfl, fun U hU hW => ⟨rfl, hC89 U hU hW⟩⟩ rfl rfl hl.1 rfl (lv_room (Nat.le_of_ble_eq_true rfl)) dX9_isLooked_24 ⟨(Nat.le_of_ble_eq_true rfl), (Nat.le_of_ble_eq_true rfl)⟩) hS (fun q9 _ h9 => hF86 q9 h9) hF86 (fun r91 u90 t90 H90 L90 ht90 hvm90 hw90 hB90 hz90 hk90 hS => ?_)
  have hP := pq_keep hP hD [8, 9] rfl hk90 hB90.1 ht90
  have hG : s.heap.size + 1 ≤ H90.size := Nat.le_trans hG hz90
  refine W.eq (g2 := F0 m 29 ls [.int 1]) (by rw [hw90]) ?_
  refine lv_if_eq (tgt := 65) hx hb dX9_isLooked_29 (by decide) (fun cz => absurd cz (by decide)) (fun _ => ?_)
  refine lv_aload_n hx hb dX9_isLooked_32 rfl (lv_at hl 2 rfl) ?_
  have hM94 := k745_next l hl9 dC dI z a13 h1 h2 h3 h4 h5 h6 h7 h8 h9 H90.size kc0
  obtain ⟨hF92, hC95⟩ := pc_M hM94 hP hD hK hS hX hT hA [8, 9, 10] [0] rfl rfl rfl
  refine va_callFr (va_runF (As := []) (rest := []) (hK.1 1 (RJx35411, TJx35411, 4) rfl).2 ⟨hx, hb, hml, hown, hts⟩ hM94 (va_cwF 0 hts (gF q_308 q_309 q_310 q_246 q_307) rfl rfl rfl hT.2.2.2.2.2.2.2.1 hF_xIn ⟨Nat.le_of_ble_eq_true rfl, Nat.le_of_ble_eq_true rfl⟩) ⟨pc_blind, va_recv hK hP (ci := 1) (q := (RJx35411, TJx35411, 4)) (q0 := 8) rfl rfl, fun U hU hW => ⟨rfl, hC95 U hU hW⟩⟩ rfl rfl hl.1 rfl (lv_room (Nat.le_of_ble_eq_true rfl)) dX9_isLooked_33 ⟨(Nat.le_of_ble_eq_true rfl), (Nat.le_of_ble_eq_true rfl)⟩) hS (fun q9 _ h9 => hF92 q9 h9) hF92 (fun u96 r97 t96 H96 L96 ht96 hvm96 hw96 hB96 hz96 hk96 hS => ?_)
  obtain ⟨hr96, hB96⟩ := hB96
  obtain ⟨hP, hD, hK⟩ := pq_jn (wz := [(h0, ce21 h1 o0 o1 o2), (h3, ce49), (h4, ce49), (h5, ce49), (h6, ce49), (h7, ce49), (h8, ce49), (h9, ce49), (a13, ce384 h1), (h1, ce331 h2), (h2, ce330 kc0 h3 h4 h5 h6 h7 h8 h9)]) (tz := [(kc0, .object "java/lang/Object")]) hP hD hK [8, 9, 10] [] rfl hk96 hF92 hB96.1 ht96 hvm96 rfl rfl
  have hG : s.heap.size + 1 ≤ H96.size := Nat.le_trans hG hz96
  refine W.eq (g2 := F0 m 38 ls [.ref h9]) (by rw [hr96]) ?_
  refine va_castE (nm := RX8) hx hb hown (hts _ q_273) (va_recv hK hP (ci := 7) (q := (RX8, TX8, 6)) (q0 := 7) rfl rfl) dX9_isLooked_38 ?_
  refine lv_astore (lv' := [(4, .ref h9), (2, .int 0), (3, .ref a13), (0, .ref h0), (1, .int 5)]) hx hb dX9_isLooked_41 hl (by decide) rfl (fun ls hl => ?_)
  refine lv_iload_n hx hb dX9_isLooked_43 rfl (lv_at hl 1 rfl) ?_
  refine lv_if_ne (tgt := 56) hx hb dX9_isLooked_44 (by decide) (fun cz => absurd (by decide) cz) (fun _ => ?_)
  refine lv_aload hx hb dX9_isLooked_47 (lv_at hl 0 rfl) ?_
  refine va_get (D := (dC, dI)) (ci := 7) (v := .int (-1)) (C := RX8) (T := TX8) (N := 6) hx hb hts in_X8 hown hK hP 7 rfl rfl 5 (by decide) (hts _ q_423) (fun _ h9 => h9) rfl dX9_isLooked_49 ?_
  refine lv_iload_n hx hb dX9_isLooked_52 rfl (lv_at hl 4 rfl) ?_
  refine lv_icmp_ne (tgt := 60) hx hb dX9_isLooked_53 (by decide) (fun _ => ?_) (fun cz => absurd cz (by decide))
  refine lv_iconst (v := 0) hx hb dX9_isLooked_60 (by decide) ?_
  refine lv_istore_n (lv' := [(2, .int 0), (4, .ref h9), (3, .ref a13), (0, .ref h0), (1, .int 5)]) hx hb dX9_isLooked_61 rfl hl (by decide) rfl (fun ls hl => ?_)
  refine lv_goto (tgt := 23) hx hb dX9_isLooked_62 (by decide) ?_
  refine lv_aload_n hx hb dX9_isLooked_23 rfl (lv_at hl 2 rfl) ?_
  have hM100 := k746_hasNext l hl9 dC dI z a13 h1 h2 H96.size
  obtain ⟨hF98, hC101⟩ := pc_M hM100 hP hD hK hS hX hT hA [8, 9] [] rfl rfl rfl
  refine va_callFi (va_runF (As := []) (rest := []) (hK.1 1 (RJx35411, TJx35411, 4) rfl).2 ⟨hx, hb, hml, hown, hts⟩ hM100 (va_cwF 0 hts (gF q_261 q_262 q_263 q_246 q_260) rfl rfl rfl hT.2.2.2.2.2.2.1 hF_xIh ⟨Nat.le_of_ble_eq_true rfl, Nat.le_of_ble_eq_true rfl⟩) ⟨pc_blind, va_recv hK hP (ci := 1) (q := (RJx35411, TJx35411, 4)) (q0 := 8) rfl rfl, fun U hU hW => ⟨rfl, hC101 U hU hW⟩⟩ rfl rfl hl.1 rfl (lv_room (Nat.le_of_ble_eq_true rfl)) dX9_isLooked_24 ⟨(Nat.le_of_ble_eq_true rfl), (Nat.le_of_ble_eq_true rfl)⟩) hS (fun q9 _ h9 => hF98 q9 h9) hF98 (fun r103 u102 t102 H102 L102 ht102 hvm102 hw102 hB102 hz102 hk102 hS => ?_)
  have hP := pq_keep hP hD [8, 9] rfl hk102 hB102.1 ht102
  have hG : s.heap.size + 1 ≤ H102.size := Nat.le_trans hG hz102
  refine W.eq (g2 := F0 m 29 ls [.int 0]) (by rw [hw102]) ?_
  refine lv_if_eq (tgt := 65) hx hb dX9_isLooked_29 (by decide) (fun _ => ?_) (fun cz => absurd (by decide) cz)
  refine lv_iload_n hx hb dX9_isLooked_65 rfl (lv_at hl 0 rfl) ?_
  exact W.zret (v := 0) (ty := .boolean) hx hb hr rfl (fun t9 ht9 hW9 => ⟨⟨0, (), rfl, rfl, ⟨pq_mk2 hP hD hK [0, 9, 10, 1, 2, 3, 4, 5, 6, 7] [0] rfl rfl rfl ht9 hW9, by rw [ht9]; exact Nat.le_trans (Nat.add_le_add_left (Nat.le_of_ble_eq_true rfl) _) hG⟩⟩, hS.F ht9⟩) hS.2.2 dX9_isLooked_66

set_option maxHeartbeats 4000000 in
set_option maxRecDepth 100000 in
theorem k952_isLooked (l : Launch) (hl9 : l.stackTraces = false) (dC : Nat → ClassId) (dI : Nat → Nat → Nat) (z : XZ) (h0 h1 h2 h3 h4 h5 h6 h7 h8 h9 : Nat) (o0 o1 o2 : Nat) (sz : Nat) (kc0 : ClassId) : Met l yX9_isLooked (.code yX9_isLooked cX9_isLooked 5 (some .boolean) :: wsL_law) ({ frames := 3, cells := 1, slots := 4, locals := 64 }) (va_Pc [.ref h0, .int 6] (PC (dC, dI) [(h0, ce21 h1 o0 o1 o2), (h1, ce331 h2), (h2, ce330 kc0 h3 h4 h5 h6 h7 h8 h9), (h3, ce49), (h4, ce49), (h5, ce49), (h6, ce49), (h7, ce49), (h8, ce49), (h9, ce49)] [(kc0, .object "java/lang/Object")] sz z)) (va_Qi (fun (r : Int32) (_ : Unit) => r = 0) (fun (_ : Unit) (t : State) => PG (dC, dI) [(h0, ce21 h1 o0 o1 o2), (h1, ce331 h2), (h2, ce330 kc0 h3 h4 h5 h6 h7 h8 h9), (h3, ce49), (h4, ce49), (h5, ce49), (h6, ce49), (h7, ce49), (h8, ce49), (h9, ce49)] [(kc0, .object "java/lang/Object")] (va_A [(h0, ce21 h1 o0 o1 o2), (h1, ce331 h2), (h2, ce330 kc0 h3 h4 h5 h6 h7 h8 h9), (h3, ce49), (h4, ce49), (h5, ce49), (h6, ce49), (h7, ce49), (h8, ce49), (h9, ce49)] sz) sz 1 t) (va_A [(h0, ce21 h1 o0 o1 o2), (h1, ce331 h2), (h2, ce330 kc0 h3 h4 h5 h6 h7 h8 h9), (h3, ce49), (h4, ce49), (h5, ce49), (h6, ce49), (h7, ce49), (h8, ce49), (h9, ce49)] sz)) 1 4 (va_A [(h0, ce21 h1 o0 o1 o2), (h1, ce331 h2), (h2, ce330 kc0 h3 h4 h5 h6 h7 h8 h9), (h3, ce49), (h4, ce49), (h5, ce49), (h6, ce49), (h7, ce49), (h8, ce49), (h9, ce49)] sz) := by
  refine Met.ofW (cc := cX9_isLooked) (maxL := 5) (ret := (some .boolean)) (by decide) rfl ?_
  intro p e s m args below meth c s₁ B hml hv
  obtain ⟨rfl, hsz, hP, hK, hD0, hX, hT⟩ := hv
  have hx := B.exec
  have hb := B.bytes
  have hr := B.returns
  have hts0 := atoms_spec (ws := .code yX9_isLooked cX9_isLooked 5 (some .boolean) :: wsL_law) B.pre
  have hts := xTail hts0
  have hown : s.vm.findClass RX9 = some m.cls := xown B.named rfl
  have hlocks := B.notSynchronized
  subst hsz
  have hD := hD0.self (sz := s.heap.size)
  generalize hAe : va_A [(h0, ce21 h1 o0 o1 o2), (h1, ce331 h2), (h2, ce330 kc0 h3 h4 h5 h6 h7 h8 h9), (h3, ce49), (h4, ce49), (h5, ce49), (h6, ce49), (h7, ce49), (h8, ce49), (h9, ce49)] s.heap.size = A at hD hX ⊢
  have hA : ∀ q : Nat, s.heap.size ≤ q → A q := fun q h => by rw [← hAe]; exact Or.inr h
  have hS : va_S A s.heap s.heap [] := va_S.rf
  have hG : s.heap.size + 0 ≤ s.heap.size := Nat.le_refl _
  have hl := lv_entry ([.ref h0, .int 6]) (n := 5) (Nat.le_of_ble_eq_true rfl)
  rw [lg_entry_eq]
  generalize (lg_sl ([.ref h0, .int 6]) ++ List.replicate (5 - (lg_sl ([.ref h0, .int 6])).length) Slot.unset).toArray = ls at hl ⊢
  have hl : lv_has ls 5 [(0, .ref h0), (1, .int 6)] := hl
  refine lv_aload_n hx hb dX9_isLooked_0 rfl (lv_at hl 0 rfl) ?_
  refine va_get (D := (dC, dI)) (ci := 8) (v := .ref h1) (C := RX9) (T := TX9) (N := 6) hx hb hts in_X9 hown hK hP 0 rfl rfl 1 (by decide) (hts _ q_64) (fun _ h9 => h9) rfl dX9_isLooked_1 ?_
  refine lv_iload_n hx hb dX9_isLooked_4 rfl (lv_at hl 1 rfl) ?_
  have hM3 := k656_get l hl9 dC dI z h1 h2 h3 h4 h5 h6 h7 h8 h9 s.heap.size kc0
  obtain ⟨hF1, hC4⟩ := pc_M hM3 hP hD hK hS hX hT hA [1, 2] [0] rfl rfl rfl
  refine va_callr (va_runV (As := [.int 6]) (rest := []) ⟨hx, hb, hml, hown, hts⟩ hM3 (cwV 1 hts (gV q_315 q_157 q_158 q_12 q_155) rfl rfl rfl hV_Jx4a65c_get_915e3 ⟨Nat.le_of_ble_eq_true rfl, Nat.le_of_ble_eq_true rfl⟩) ⟨pc_blind, va_recv hK hP (ci := 0) (q := (RJx4a65c, TJx4a65c, 3)) (q0 := 1) rfl rfl, fun U hU hW => ⟨rfl, hC4 U hU hW⟩⟩ rfl rfl hl.1 rfl (lv_room (Nat.le_of_ble_eq_true rfl)) dX9_isLooked_5 ⟨(Nat.le_of_ble_eq_true rfl), (Nat.le_of_ble_eq_true rfl)⟩) hS (fun q9 _ h9 => hF1 q9 h9) hF1 (fun u5 r6 t5 H5 L5 ht5 hvm5 hw5 hB5 hz5 hk5 hS => ?_)
  obtain ⟨hr5, hB5⟩ := hB5
  have hP := pq_keep hP hD [1, 2] rfl hk5 hB5.1 ht5
  have hG : s.heap.size + 0 ≤ H5.size := Nat.le_trans hG hz5
  refine W.eq (g2 := F0 m 8 ls [.ref h9]) (by rw [hr5]) ?_
  refine va_castE (nm := RX8) hx hb hown (hts _ q_273) (va_recv hK hP (ci := 7) (q := (RX8, TX8, 6)) (q0 := 9) rfl rfl) dX9_isLooked_8 ?_
  refine va_get (D := (dC, dI)) (ci := 7) (v := .int 0) (C := RX8) (T := TX8) (N := 6) hx hb hts in_X8 hown hK hP 9 rfl rfl 4 (by decide) (hts _ q_422) (fun _ h9 => h9) rfl dX9_isLooked_11 ?_
  refine lv_istore_n (lv' := [(2, .int 0), (0, .ref h0), (1, .int 6)]) hx hb dX9_isLooked_14 rfl hl (by decide) rfl (fun ls hl => ?_)
  refine lv_aload_n hx hb dX9_isLooked_15 rfl (lv_at hl 1 rfl) ?_
  refine va_get (D := (dC, dI)) (ci := 8) (v := .ref h1) (C := RX9) (T := TX9) (N := 6) hx hb hts in_X9 hown hK hP 0 rfl rfl 1 (by decide) (hts _ q_64) (fun _ h9 => h9) rfl dX9_isLooked_16 ?_
  have hM9 := k724_iterator l hl9 dC dI z h1 h2 H5.size
  obtain ⟨hF7, hC10⟩ := pc_M hM9 hP hD hK hS hX hT hA [1] [] rfl rfl rfl
  refine va_callr (va_runV (As := []) (rest := []) ⟨hx, hb, hml, hown, hts⟩ hM9 (cwV 0 hts (gV q_256 q_257 q_258 q_12 q_255) rfl rfl rfl hV_Jx4a65c_iterator_32c93 ⟨Nat.le_of_ble_eq_true rfl, Nat.le_of_ble_eq_true rfl⟩) ⟨pc_blind, va_recv hK hP (ci := 0) (q := (RJx4a65c, TJx4a65c, 3)) (q0 := 1) rfl rfl, fun U hU hW => ⟨rfl, hC10 U hU hW⟩⟩ rfl rfl hl.1 rfl (lv_room (Nat.le_of_ble_eq_true rfl)) dX9_isLooked_19 ⟨(Nat.le_of_ble_eq_true rfl), (Nat.le_of_ble_eq_true rfl)⟩) hS (fun q9 _ h9 => hF7 q9 h9) hF7 (fun u11 r12 t11 H11 L11 ht11 hvm11 hw11 hB11 hz11 hk11 hS => ?_)
  obtain ⟨a13, hr11, hB11⟩ := hB11
  obtain ⟨hP, hD, hK⟩ := pq_jn (wz := [(h0, ce21 h1 o0 o1 o2), (h2, ce330 kc0 h3 h4 h5 h6 h7 h8 h9), (h3, ce49), (h4, ce49), (h5, ce49), (h6, ce49), (h7, ce49), (h8, ce49), (h9, ce49), (h1, ce331 h2), (a13, ce370 h1)]) (tz := [(kc0, .object "java/lang/Object")]) hP hD hK [1] [0] rfl hk11 hF7 hB11.1 ht11 hvm11 rfl rfl
  have hG : s.heap.size + 1 ≤ H11.size := va_gr (g := 0) (g1 := 1) hG (by rw [← ht11]; exact hB11.2)
  refine W.eq (g2 := F0 m 22 ls [.ref a13]) (by rw [hr11]) ?_
  refine W.widen (k := 1) (n := 4) (by decide) (by decide) ?_
  refine lv_astore_n (lv' := [(3, .ref a13), (2, .int 0), (0, .ref h0), (1, .int 6)]) hx hb dX9_isLooked_22 rfl hl (by decide) rfl (fun ls hl => ?_)
  refine lv_aload_n hx hb dX9_isLooked_23 rfl (lv_at hl 0 rfl) ?_
  have hM16 := k725_hasNext l hl9 dC dI z a13 h1 h2 H11.size
  obtain ⟨hF14, hC17⟩ := pc_M hM16 hP hD hK hS hX hT hA [10, 9] [] rfl rfl rfl
  refine va_callFi (va_runF (As := []) (rest := []) (hK.1 1 (RJx35411, TJx35411, 4) rfl).2 ⟨hx, hb, hml, hown, hts⟩ hM16 (va_cwF 0 hts (gF q_261 q_262 q_263 q_246 q_260) rfl rfl rfl hT.2.2.2.2.2.2.1 hF_xIh ⟨Nat.le_of_ble_eq_true rfl, Nat.le_of_ble_eq_true rfl⟩) ⟨pc_blind, va_recv hK hP (ci := 1) (q := (RJx35411, TJx35411, 4)) (q0 := 10) rfl rfl, fun U hU hW => ⟨rfl, hC17 U hU hW⟩⟩ rfl rfl hl.1 rfl (lv_room (Nat.le_of_ble_eq_true rfl)) dX9_isLooked_24 ⟨(Nat.le_of_ble_eq_true rfl), (Nat.le_of_ble_eq_true rfl)⟩) hS (fun q9 _ h9 => hF14 q9 h9) hF14 (fun r19 u18 t18 H18 L18 ht18 hvm18 hw18 hB18 hz18 hk18 hS => ?_)
  have hP := pq_keep hP hD [10, 9] rfl hk18 hB18.1 ht18
  have hG : s.heap.size + 1 ≤ H18.size := Nat.le_trans hG hz18
  refine W.eq (g2 := F0 m 29 ls [.int 1]) (by rw [hw18]) ?_
  refine lv_if_eq (tgt := 65) hx hb dX9_isLooked_29 (by decide) (fun cz => absurd cz (by decide)) (fun _ => ?_)
  refine lv_aload_n hx hb dX9_isLooked_32 rfl (lv_at hl 0 rfl) ?_
  have hM22 := k727_next l hl9 dC dI z a13 h1 h2 h3 h4 h5 h6 h7 h8 h9 H18.size kc0
  obtain ⟨hF20, hC23⟩ := pc_M hM22 hP hD hK hS hX hT hA [10, 9, 1] [0] rfl rfl rfl
  refine va_callFr (va_runF (As := []) (rest := []) (hK.1 1 (RJx35411, TJx35411, 4) rfl).2 ⟨hx, hb, hml, hown, hts⟩ hM22 (va_cwF 0 hts (gF q_308 q_309 q_310 q_246 q_307) rfl rfl rfl hT.2.2.2.2.2.2.2.1 hF_xIn ⟨Nat.le_of_ble_eq_true rfl, Nat.le_of_ble_eq_true rfl⟩) ⟨pc_blind, va_recv hK hP (ci := 1) (q := (RJx35411, TJx35411, 4)) (q0 := 10) rfl rfl, fun U hU hW => ⟨rfl, hC23 U hU hW⟩⟩ rfl rfl hl.1 rfl (lv_room (Nat.le_of_ble_eq_true rfl)) dX9_isLooked_33 ⟨(Nat.le_of_ble_eq_true rfl), (Nat.le_of_ble_eq_true rfl)⟩) hS (fun q9 _ h9 => hF20 q9 h9) hF20 (fun u24 r25 t24 H24 L24 ht24 hvm24 hw24 hB24 hz24 hk24 hS => ?_)
  obtain ⟨hr24, hB24⟩ := hB24
  obtain ⟨hP, hD, hK⟩ := pq_jn (wz := [(h0, ce21 h1 o0 o1 o2), (h3, ce49), (h4, ce49), (h5, ce49), (h6, ce49), (h7, ce49), (h8, ce49), (h9, ce49), (a13, ce372 h1), (h1, ce331 h2), (h2, ce330 kc0 h3 h4 h5 h6 h7 h8 h9)]) (tz := [(kc0, .object "java/lang/Object")]) hP hD hK [10, 9, 1] [] rfl hk24 hF20 hB24.1 ht24 hvm24 rfl rfl
  have hG : s.heap.size + 1 ≤ H24.size := Nat.le_trans hG hz24
  refine W.eq (g2 := F0 m 38 ls [.ref h3]) (by rw [hr24]) ?_
  refine va_castE (nm := RX8) hx hb hown (hts _ q_273) (va_recv hK hP (ci := 7) (q := (RX8, TX8, 6)) (q0 := 1) rfl rfl) dX9_isLooked_38 ?_
  refine lv_astore (lv' := [(4, .ref h3), (3, .ref a13), (2, .int 0), (0, .ref h0), (1, .int 6)]) hx hb dX9_isLooked_41 hl (by decide) rfl (fun ls hl => ?_)
  refine lv_iload_n hx hb dX9_isLooked_43 rfl (lv_at hl 2 rfl) ?_
  refine lv_if_ne (tgt := 56) hx hb dX9_isLooked_44 (by decide) (fun cz => absurd (by decide) cz) (fun _ => ?_)
  refine lv_aload hx hb dX9_isLooked_47 (lv_at hl 0 rfl) ?_
  refine va_get (D := (dC, dI)) (ci := 7) (v := .int (-1)) (C := RX8) (T := TX8) (N := 6) hx hb hts in_X8 hown hK hP 1 rfl rfl 5 (by decide) (hts _ q_423) (fun _ h9 => h9) rfl dX9_isLooked_49 ?_
  refine lv_iload_n hx hb dX9_isLooked_52 rfl (lv_at hl 4 rfl) ?_
  refine lv_icmp_ne (tgt := 60) hx hb dX9_isLooked_53 (by decide) (fun _ => ?_) (fun cz => absurd cz (by decide))
  refine lv_iconst (v := 0) hx hb dX9_isLooked_60 (by decide) ?_
  refine lv_istore_n (lv' := [(2, .int 0), (4, .ref h3), (3, .ref a13), (0, .ref h0), (1, .int 6)]) hx hb dX9_isLooked_61 rfl hl (by decide) rfl (fun ls hl => ?_)
  refine lv_goto (tgt := 23) hx hb dX9_isLooked_62 (by decide) ?_
  refine lv_aload_n hx hb dX9_isLooked_23 rfl (lv_at hl 2 rfl) ?_
  have hM28 := k728_hasNext l hl9 dC dI z a13 h1 h2 H24.size
  obtain ⟨hF26, hC29⟩ := pc_M hM28 hP hD hK hS hX hT hA [8, 9] [] rfl rfl rfl
  refine va_callFi (va_runF (As := []) (rest := []) (hK.1 1 (RJx35411, TJx35411, 4) rfl).2 ⟨hx, hb, hml, hown, hts⟩ hM28 (va_cwF 0 hts (gF q_261 q_262 q_263 q_246 q_260) rfl rfl rfl hT.2.2.2.2.2.2.1 hF_xIh ⟨Nat.le_of_ble_eq_true rfl, Nat.le_of_ble_eq_true rfl⟩) ⟨pc_blind, va_recv hK hP (ci := 1) (q := (RJx35411, TJx35411, 4)) (q0 := 8) rfl rfl, fun U hU hW => ⟨rfl, hC29 U hU hW⟩⟩ rfl rfl hl.1 rfl (lv_room (Nat.le_of_ble_eq_true rfl)) dX9_isLooked_24 ⟨(Nat.le_of_ble_eq_true rfl), (Nat.le_of_ble_eq_true rfl)⟩) hS (fun q9 _ h9 => hF26 q9 h9) hF26 (fun r31 u30 t30 H30 L30 ht30 hvm30 hw30 hB30 hz30 hk30 hS => ?_)
  have hP := pq_keep hP hD [8, 9] rfl hk30 hB30.1 ht30
  have hG : s.heap.size + 1 ≤ H30.size := Nat.le_trans hG hz30
  refine W.eq (g2 := F0 m 29 ls [.int 1]) (by rw [hw30]) ?_
  refine lv_if_eq (tgt := 65) hx hb dX9_isLooked_29 (by decide) (fun cz => absurd cz (by decide)) (fun _ => ?_)
  refine lv_aload_n hx hb dX9_isLooked_32 rfl (lv_at hl 2 rfl) ?_
  have hM34 := k730_next l hl9 dC dI z a13 h1 h2 h3 h4 h5 h6 h7 h8 h9 H30.size kc0
  obtain ⟨hF32, hC35⟩ := pc_M hM34 hP hD hK hS hX hT hA [8, 9, 10] [0] rfl rfl rfl
  refine va_callFr (va_runF (As := []) (rest := []) (hK.1 1 (RJx35411, TJx35411, 4) rfl).2 ⟨hx, hb, hml, hown, hts⟩ hM34 (va_cwF 0 hts (gF q_308 q_309 q_310 q_246 q_307) rfl rfl rfl hT.2.2.2.2.2.2.2.1 hF_xIn ⟨Nat.le_of_ble_eq_true rfl, Nat.le_of_ble_eq_true rfl⟩) ⟨pc_blind, va_recv hK hP (ci := 1) (q := (RJx35411, TJx35411, 4)) (q0 := 8) rfl rfl, fun U hU hW => ⟨rfl, hC35 U hU hW⟩⟩ rfl rfl hl.1 rfl (lv_room (Nat.le_of_ble_eq_true rfl)) dX9_isLooked_33 ⟨(Nat.le_of_ble_eq_true rfl), (Nat.le_of_ble_eq_true rfl)⟩) hS (fun q9 _ h9 => hF32 q9 h9) hF32 (fun u36 r37 t36 H36 L36 ht36 hvm36 hw36 hB36 hz36 hk36 hS => ?_)
  obtain ⟨hr36, hB36⟩ := hB36
  obtain ⟨hP, hD, hK⟩ := pq_jn (wz := [(h0, ce21 h1 o0 o1 o2), (h3, ce49), (h4, ce49), (h5, ce49), (h6, ce49), (h7, ce49), (h8, ce49), (h9, ce49), (a13, ce374 h1), (h1, ce331 h2), (h2, ce330 kc0 h3 h4 h5 h6 h7 h8 h9)]) (tz := [(kc0, .object "java/lang/Object")]) hP hD hK [8, 9, 10] [] rfl hk36 hF32 hB36.1 ht36 hvm36 rfl rfl
  have hG : s.heap.size + 1 ≤ H36.size := Nat.le_trans hG hz36
  refine W.eq (g2 := F0 m 38 ls [.ref h4]) (by rw [hr36]) ?_
  refine va_castE (nm := RX8) hx hb hown (hts _ q_273) (va_recv hK hP (ci := 7) (q := (RX8, TX8, 6)) (q0 := 2) rfl rfl) dX9_isLooked_38 ?_
  refine lv_astore (lv' := [(4, .ref h4), (2, .int 0), (3, .ref a13), (0, .ref h0), (1, .int 6)]) hx hb dX9_isLooked_41 hl (by decide) rfl (fun ls hl => ?_)
  refine lv_iload_n hx hb dX9_isLooked_43 rfl (lv_at hl 1 rfl) ?_
  refine lv_if_ne (tgt := 56) hx hb dX9_isLooked_44 (by decide) (fun cz => absurd (by decide) cz) (fun _ => ?_)
  refine lv_aload hx hb dX9_isLooked_47 (lv_at hl 0 rfl) ?_
  refine va_get (D := (dC, dI)) (ci := 7) (v := .int (-1)) (C := RX8) (T := TX8) (N := 6) hx hb hts in_X8 hown hK hP 2 rfl rfl 5 (by decide) (hts _ q_423) (fun _ h9 => h9) rfl dX9_isLooked_49 ?_
  refine lv_iload_n hx hb dX9_isLooked_52 rfl (lv_at hl 4 rfl) ?_
  refine lv_icmp_ne (tgt := 60) hx hb dX9_isLooked_53 (by decide) (fun _ => ?_) (fun cz => absurd cz (by decide))
  refine lv_iconst (v := 0) hx hb dX9_isLooked_60 (by decide) ?_
  refine lv_istore_n (lv' := [(2, .int 0), (4, .ref h4), (3, .ref a13), (0, .ref h0), (1, .int 6)]) hx hb dX9_isLooked_61 rfl hl (by decide) rfl (fun ls hl => ?_)
  refine lv_goto (tgt := 23) hx hb dX9_isLooked_62 (by decide) ?_
  refine lv_aload_n hx hb dX9_isLooked_23 rfl (lv_at hl 2 rfl) ?_
  have hM40 := k731_hasNext l hl9 dC dI z a13 h1 h2 H36.size
  obtain ⟨hF38, hC41⟩ := pc_M hM40 hP hD hK hS hX hT hA [8, 9] [] rfl rfl rfl
  refine va_callFi (va_runF (As := []) (rest := []) (hK.1 1 (RJx35411, TJx35411, 4) rfl).2 ⟨hx, hb, hml, hown, hts⟩ hM40 (va_cwF 0 hts (gF q_261 q_262 q_263 q_246 q_260) rfl rfl rfl hT.2.2.2.2.2.2.1 hF_xIh ⟨Nat.le_of_ble_eq_true rfl, Nat.le_of_ble_eq_true rfl⟩) ⟨pc_blind, va_recv hK hP (ci := 1) (q := (RJx35411, TJx35411, 4)) (q0 := 8) rfl rfl, fun U hU hW => ⟨rfl, hC41 U hU hW⟩⟩ rfl rfl hl.1 rfl (lv_room (Nat.le_of_ble_eq_true rfl)) dX9_isLooked_24 ⟨(Nat.le_of_ble_eq_true rfl), (Nat.le_of_ble_eq_true rfl)⟩) hS (fun q9 _ h9 => hF38 q9 h9) hF38 (fun r43 u42 t42 H42 L42 ht42 hvm42 hw42 hB42 hz42 hk42 hS => ?_)
  have hP := pq_keep hP hD [8, 9] rfl hk42 hB42.1 ht42
  have hG : s.heap.size + 1 ≤ H42.size := Nat.le_trans hG hz42
  refine W.eq (g2 := F0 m 29 ls [.int 1]) (by rw [hw42]) ?_
  refine lv_if_eq (tgt := 65) hx hb dX9_isLooked_29 (by decide) (fun cz => absurd cz (by decide)) (fun _ => ?_)
  refine lv_aload_n hx hb dX9_isLooked_32 rfl (lv_at hl 2 rfl) ?_
  have hM46 := k733_next l hl9 dC dI z a13 h1 h2 h3 h4 h5 h6 h7 h8 h9 H42.size kc0
  obtain ⟨hF44, hC47⟩ := pc_M hM46 hP hD hK hS hX hT hA [8, 9, 10] [0] rfl rfl rfl
  refine va_callFr (va_runF (As := []) (rest := []) (hK.1 1 (RJx35411, TJx35411, 4) rfl).2 ⟨hx, hb, hml, hown, hts⟩ hM46 (va_cwF 0 hts (gF q_308 q_309 q_310 q_246 q_307) rfl rfl rfl hT.2.2.2.2.2.2.2.1 hF_xIn ⟨Nat.le_of_ble_eq_true rfl, Nat.le_of_ble_eq_true rfl⟩) ⟨pc_blind, va_recv hK hP (ci := 1) (q := (RJx35411, TJx35411, 4)) (q0 := 8) rfl rfl, fun U hU hW => ⟨rfl, hC47 U hU hW⟩⟩ rfl rfl hl.1 rfl (lv_room (Nat.le_of_ble_eq_true rfl)) dX9_isLooked_33 ⟨(Nat.le_of_ble_eq_true rfl), (Nat.le_of_ble_eq_true rfl)⟩) hS (fun q9 _ h9 => hF44 q9 h9) hF44 (fun u48 r49 t48 H48 L48 ht48 hvm48 hw48 hB48 hz48 hk48 hS => ?_)
  obtain ⟨hr48, hB48⟩ := hB48
  obtain ⟨hP, hD, hK⟩ := pq_jn (wz := [(h0, ce21 h1 o0 o1 o2), (h3, ce49), (h4, ce49), (h5, ce49), (h6, ce49), (h7, ce49), (h8, ce49), (h9, ce49), (a13, ce376 h1), (h1, ce331 h2), (h2, ce330 kc0 h3 h4 h5 h6 h7 h8 h9)]) (tz := [(kc0, .object "java/lang/Object")]) hP hD hK [8, 9, 10] [] rfl hk48 hF44 hB48.1 ht48 hvm48 rfl rfl
  have hG : s.heap.size + 1 ≤ H48.size := Nat.le_trans hG hz48
  refine W.eq (g2 := F0 m 38 ls [.ref h5]) (by rw [hr48]) ?_
  refine va_castE (nm := RX8) hx hb hown (hts _ q_273) (va_recv hK hP (ci := 7) (q := (RX8, TX8, 6)) (q0 := 3) rfl rfl) dX9_isLooked_38 ?_
  refine lv_astore (lv' := [(4, .ref h5), (2, .int 0), (3, .ref a13), (0, .ref h0), (1, .int 6)]) hx hb dX9_isLooked_41 hl (by decide) rfl (fun ls hl => ?_)
  refine lv_iload_n hx hb dX9_isLooked_43 rfl (lv_at hl 1 rfl) ?_
  refine lv_if_ne (tgt := 56) hx hb dX9_isLooked_44 (by decide) (fun cz => absurd (by decide) cz) (fun _ => ?_)
  refine lv_aload hx hb dX9_isLooked_47 (lv_at hl 0 rfl) ?_
  refine va_get (D := (dC, dI)) (ci := 7) (v := .int (-1)) (C := RX8) (T := TX8) (N := 6) hx hb hts in_X8 hown hK hP 3 rfl rfl 5 (by decide) (hts _ q_423) (fun _ h9 => h9) rfl dX9_isLooked_49 ?_
  refine lv_iload_n hx hb dX9_isLooked_52 rfl (lv_at hl 4 rfl) ?_
  refine lv_icmp_ne (tgt := 60) hx hb dX9_isLooked_53 (by decide) (fun _ => ?_) (fun cz => absurd cz (by decide))
  refine lv_iconst (v := 0) hx hb dX9_isLooked_60 (by decide) ?_
  refine lv_istore_n (lv' := [(2, .int 0), (4, .ref h5), (3, .ref a13), (0, .ref h0), (1, .int 6)]) hx hb dX9_isLooked_61 rfl hl (by decide) rfl (fun ls hl => ?_)
  refine lv_goto (tgt := 23) hx hb dX9_isLooked_62 (by decide) ?_
  refine lv_aload_n hx hb dX9_isLooked_23 rfl (lv_at hl 2 rfl) ?_
  have hM52 := k734_hasNext l hl9 dC dI z a13 h1 h2 H48.size
  obtain ⟨hF50, hC53⟩ := pc_M hM52 hP hD hK hS hX hT hA [8, 9] [] rfl rfl rfl
  refine va_callFi (va_runF (As := []) (rest := []) (hK.1 1 (RJx35411, TJx35411, 4) rfl).2 ⟨hx, hb, hml, hown, hts⟩ hM52 (va_cwF 0 hts (gF q_261 q_262 q_263 q_246 q_260) rfl rfl rfl hT.2.2.2.2.2.2.1 hF_xIh ⟨Nat.le_of_ble_eq_true rfl, Nat.le_of_ble_eq_true rfl⟩) ⟨pc_blind, va_recv hK hP (ci := 1) (q := (RJx35411, TJx35411, 4)) (q0 := 8) rfl rfl, fun U hU hW => ⟨rfl, hC53 U hU hW⟩⟩ rfl rfl hl.1 rfl (lv_room (Nat.le_of_ble_eq_true rfl)) dX9_isLooked_24 ⟨(Nat.le_of_ble_eq_true rfl), (Nat.le_of_ble_eq_true rfl)⟩) hS (fun q9 _ h9 => hF50 q9 h9) hF50 (fun r55 u54 t54 H54 L54 ht54 hvm54 hw54 hB54 hz54 hk54 hS => ?_)
  have hP := pq_keep hP hD [8, 9] rfl hk54 hB54.1 ht54
  have hG : s.heap.size + 1 ≤ H54.size := Nat.le_trans hG hz54
  refine W.eq (g2 := F0 m 29 ls [.int 1]) (by rw [hw54]) ?_
  refine lv_if_eq (tgt := 65) hx hb dX9_isLooked_29 (by decide) (fun cz => absurd cz (by decide)) (fun _ => ?_)
  refine lv_aload_n hx hb dX9_isLooked_32 rfl (lv_at hl 2 rfl) ?_
  have hM58 := k736_next l hl9 dC dI z a13 h1 h2 h3 h4 h5 h6 h7 h8 h9 H54.size kc0
  obtain ⟨hF56, hC59⟩ := pc_M hM58 hP hD hK hS hX hT hA [8, 9, 10] [0] rfl rfl rfl
  refine va_callFr (va_runF (As := []) (rest := []) (hK.1 1 (RJx35411, TJx35411, 4) rfl).2 ⟨hx, hb, hml, hown, hts⟩ hM58 (va_cwF 0 hts (gF q_308 q_309 q_310 q_246 q_307) rfl rfl rfl hT.2.2.2.2.2.2.2.1 hF_xIn ⟨Nat.le_of_ble_eq_true rfl, Nat.le_of_ble_eq_true rfl⟩) ⟨pc_blind, va_recv hK hP (ci := 1) (q := (RJx35411, TJx35411, 4)) (q0 := 8) rfl rfl, fun U hU hW => ⟨rfl, hC59 U hU hW⟩⟩ rfl rfl hl.1 rfl (lv_room (Nat.le_of_ble_eq_true rfl)) dX9_isLooked_33 ⟨(Nat.le_of_ble_eq_true rfl), (Nat.le_of_ble_eq_true rfl)⟩) hS (fun q9 _ h9 => hF56 q9 h9) hF56 (fun u60 r61 t60 H60 L60 ht60 hvm60 hw60 hB60 hz60 hk60 hS => ?_)
  obtain ⟨hr60, hB60⟩ := hB60
  obtain ⟨hP, hD, hK⟩ := pq_jn (wz := [(h0, ce21 h1 o0 o1 o2), (h3, ce49), (h4, ce49), (h5, ce49), (h6, ce49), (h7, ce49), (h8, ce49), (h9, ce49), (a13, ce378 h1), (h1, ce331 h2), (h2, ce330 kc0 h3 h4 h5 h6 h7 h8 h9)]) (tz := [(kc0, .object "java/lang/Object")]) hP hD hK [8, 9, 10] [] rfl hk60 hF56 hB60.1 ht60 hvm60 rfl rfl
  have hG : s.heap.size + 1 ≤ H60.size := Nat.le_trans hG hz60
  refine W.eq (g2 := F0 m 38 ls [.ref h6]) (by rw [hr60]) ?_
  refine va_castE (nm := RX8) hx hb hown (hts _ q_273) (va_recv hK hP (ci := 7) (q := (RX8, TX8, 6)) (q0 := 4) rfl rfl) dX9_isLooked_38 ?_
  refine lv_astore (lv' := [(4, .ref h6), (2, .int 0), (3, .ref a13), (0, .ref h0), (1, .int 6)]) hx hb dX9_isLooked_41 hl (by decide) rfl (fun ls hl => ?_)
  refine lv_iload_n hx hb dX9_isLooked_43 rfl (lv_at hl 1 rfl) ?_
  refine lv_if_ne (tgt := 56) hx hb dX9_isLooked_44 (by decide) (fun cz => absurd (by decide) cz) (fun _ => ?_)
  refine lv_aload hx hb dX9_isLooked_47 (lv_at hl 0 rfl) ?_
  refine va_get (D := (dC, dI)) (ci := 7) (v := .int (-1)) (C := RX8) (T := TX8) (N := 6) hx hb hts in_X8 hown hK hP 4 rfl rfl 5 (by decide) (hts _ q_423) (fun _ h9 => h9) rfl dX9_isLooked_49 ?_
  refine lv_iload_n hx hb dX9_isLooked_52 rfl (lv_at hl 4 rfl) ?_
  refine lv_icmp_ne (tgt := 60) hx hb dX9_isLooked_53 (by decide) (fun _ => ?_) (fun cz => absurd cz (by decide))
  refine lv_iconst (v := 0) hx hb dX9_isLooked_60 (by decide) ?_
  refine lv_istore_n (lv' := [(2, .int 0), (4, .ref h6), (3, .ref a13), (0, .ref h0), (1, .int 6)]) hx hb dX9_isLooked_61 rfl hl (by decide) rfl (fun ls hl => ?_)
  refine lv_goto (tgt := 23) hx hb dX9_isLooked_62 (by decide) ?_
  refine lv_aload_n hx hb dX9_isLooked_23 rfl (lv_at hl 2 rfl) ?_
  have hM64 := k737_hasNext l hl9 dC dI z a13 h1 h2 H60.size
  obtain ⟨hF62, hC65⟩ := pc_M hM64 hP hD hK hS hX hT hA [8, 9] [] rfl rfl rfl
  refine va_callFi (va_runF (As := []) (rest := []) (hK.1 1 (RJx35411, TJx35411, 4) rfl).2 ⟨hx, hb, hml, hown, hts⟩ hM64 (va_cwF 0 hts (gF q_261 q_262 q_263 q_246 q_260) rfl rfl rfl hT.2.2.2.2.2.2.1 hF_xIh ⟨Nat.le_of_ble_eq_true rfl, Nat.le_of_ble_eq_true rfl⟩) ⟨pc_blind, va_recv hK hP (ci := 1) (q := (RJx35411, TJx35411, 4)) (q0 := 8) rfl rfl, fun U hU hW => ⟨rfl, hC65 U hU hW⟩⟩ rfl rfl hl.1 rfl (lv_room (Nat.le_of_ble_eq_true rfl)) dX9_isLooked_24 ⟨(Nat.le_of_ble_eq_true rfl), (Nat.le_of_ble_eq_true rfl)⟩) hS (fun q9 _ h9 => hF62 q9 h9) hF62 (fun r67 u66 t66 H66 L66 ht66 hvm66 hw66 hB66 hz66 hk66 hS => ?_)
  have hP := pq_keep hP hD [8, 9] rfl hk66 hB66.1 ht66
  have hG : s.heap.size + 1 ≤ H66.size := Nat.le_trans hG hz66
  refine W.eq (g2 := F0 m 29 ls [.int 1]) (by rw [hw66]) ?_
  refine lv_if_eq (tgt := 65) hx hb dX9_isLooked_29 (by decide) (fun cz => absurd cz (by decide)) (fun _ => ?_)
  refine lv_aload_n hx hb dX9_isLooked_32 rfl (lv_at hl 2 rfl) ?_
  have hM70 := k739_next l hl9 dC dI z a13 h1 h2 h3 h4 h5 h6 h7 h8 h9 H66.size kc0
  obtain ⟨hF68, hC71⟩ := pc_M hM70 hP hD hK hS hX hT hA [8, 9, 10] [0] rfl rfl rfl
  refine va_callFr (va_runF (As := []) (rest := []) (hK.1 1 (RJx35411, TJx35411, 4) rfl).2 ⟨hx, hb, hml, hown, hts⟩ hM70 (va_cwF 0 hts (gF q_308 q_309 q_310 q_246 q_307) rfl rfl rfl hT.2.2.2.2.2.2.2.1 hF_xIn ⟨Nat.le_of_ble_eq_true rfl, Nat.le_of_ble_eq_true rfl⟩) ⟨pc_blind, va_recv hK hP (ci := 1) (q := (RJx35411, TJx35411, 4)) (q0 := 8) rfl rfl, fun U hU hW => ⟨rfl, hC71 U hU hW⟩⟩ rfl rfl hl.1 rfl (lv_room (Nat.le_of_ble_eq_true rfl)) dX9_isLooked_33 ⟨(Nat.le_of_ble_eq_true rfl), (Nat.le_of_ble_eq_true rfl)⟩) hS (fun q9 _ h9 => hF68 q9 h9) hF68 (fun u72 r73 t72 H72 L72 ht72 hvm72 hw72 hB72 hz72 hk72 hS => ?_)
  obtain ⟨hr72, hB72⟩ := hB72
  obtain ⟨hP, hD, hK⟩ := pq_jn (wz := [(h0, ce21 h1 o0 o1 o2), (h3, ce49), (h4, ce49), (h5, ce49), (h6, ce49), (h7, ce49), (h8, ce49), (h9, ce49), (a13, ce380 h1), (h1, ce331 h2), (h2, ce330 kc0 h3 h4 h5 h6 h7 h8 h9)]) (tz := [(kc0, .object "java/lang/Object")]) hP hD hK [8, 9, 10] [] rfl hk72 hF68 hB72.1 ht72 hvm72 rfl rfl
  have hG : s.heap.size + 1 ≤ H72.size := Nat.le_trans hG hz72
  refine W.eq (g2 := F0 m 38 ls [.ref h7]) (by rw [hr72]) ?_
  refine va_castE (nm := RX8) hx hb hown (hts _ q_273) (va_recv hK hP (ci := 7) (q := (RX8, TX8, 6)) (q0 := 5) rfl rfl) dX9_isLooked_38 ?_
  refine lv_astore (lv' := [(4, .ref h7), (2, .int 0), (3, .ref a13), (0, .ref h0), (1, .int 6)]) hx hb dX9_isLooked_41 hl (by decide) rfl (fun ls hl => ?_)
  refine lv_iload_n hx hb dX9_isLooked_43 rfl (lv_at hl 1 rfl) ?_
  refine lv_if_ne (tgt := 56) hx hb dX9_isLooked_44 (by decide) (fun cz => absurd (by decide) cz) (fun _ => ?_)
  refine lv_aload hx hb dX9_isLooked_47 (lv_at hl 0 rfl) ?_
  refine va_get (D := (dC, dI)) (ci := 7) (v := .int (-1)) (C := RX8) (T := TX8) (N := 6) hx hb hts in_X8 hown hK hP 5 rfl rfl 5 (by decide) (hts _ q_423) (fun _ h9 => h9) rfl dX9_isLooked_49 ?_
  refine lv_iload_n hx hb dX9_isLooked_52 rfl (lv_at hl 4 rfl) ?_
  refine lv_icmp_ne (tgt := 60) hx hb dX9_isLooked_53 (by decide) (fun _ => ?_) (fun cz => absurd cz (by decide))
  refine lv_iconst (v := 0) hx hb dX9_isLooked_60 (by decide) ?_
  refine lv_istore_n (lv' := [(2, .int 0), (4, .ref h7), (3, .ref a13), (0, .ref h0), (1, .int 6)]) hx hb dX9_isLooked_61 rfl hl (by decide) rfl (fun ls hl => ?_)
  refine lv_goto (tgt := 23) hx hb dX9_isLooked_62 (by decide) ?_
  refine lv_aload_n hx hb dX9_isLooked_23 rfl (lv_at hl 2 rfl) ?_
  have hM76 := k740_hasNext l hl9 dC dI z a13 h1 h2 H72.size
  obtain ⟨hF74, hC77⟩ := pc_M hM76 hP hD hK hS hX hT hA [8, 9] [] rfl rfl rfl
  refine va_callFi (va_runF (As := []) (rest := []) (hK.1 1 (RJx35411, TJx35411, 4) rfl).2 ⟨hx, hb, hml, hown, hts⟩ hM76 (va_cwF 0 hts (gF q_261 q_262 q_263 q_246 q_260) rfl rfl rfl hT.2.2.2.2.2.2.1 hF_xIh ⟨Nat.le_of_ble_eq_true rfl, Nat.le_of_ble_eq_true rfl⟩) ⟨pc_blind, va_recv hK hP (ci := 1) (q := (RJx35411, TJx35411, 4)) (q0 := 8) rfl rfl, fun U hU hW => ⟨rfl, hC77 U hU hW⟩⟩ rfl rfl hl.1 rfl (lv_room (Nat.le_of_ble_eq_true rfl)) dX9_isLooked_24 ⟨(Nat.le_of_ble_eq_true rfl), (Nat.le_of_ble_eq_true rfl)⟩) hS (fun q9 _ h9 => hF74 q9 h9) hF74 (fun r79 u78 t78 H78 L78 ht78 hvm78 hw78 hB78 hz78 hk78 hS => ?_)
  have hP := pq_keep hP hD [8, 9] rfl hk78 hB78.1 ht78
  have hG : s.heap.size + 1 ≤ H78.size := Nat.le_trans hG hz78
  refine W.eq (g2 := F0 m 29 ls [.int 1]) (by rw [hw78]) ?_
  refine lv_if_eq (tgt := 65) hx hb dX9_isLooked_29 (by decide) (fun cz => absurd cz (by decide)) (fun _ => ?_)
  refine lv_aload_n hx hb dX9_isLooked_32 rfl (lv_at hl 2 rfl) ?_
  have hM82 := k742_next l hl9 dC dI z a13 h1 h2 h3 h4 h5 h6 h7 h8 h9 H78.size kc0
  obtain ⟨hF80, hC83⟩ := pc_M hM82 hP hD hK hS hX hT hA [8, 9, 10] [0] rfl rfl rfl
  refine va_callFr (va_runF (As := []) (rest := []) (hK.1 1 (RJx35411, TJx35411, 4) rfl).2 ⟨hx, hb, hml, hown, hts⟩ hM82 (va_cwF 0 hts (gF q_308 q_309 q_310 q_246 q_307) rfl rfl rfl hT.2.2.2.2.2.2.2.1 hF_xIn ⟨Nat.le_of_ble_eq_true rfl, Nat.le_of_ble_eq_true rfl⟩) ⟨pc_blind, va_recv hK hP (ci := 1) (q := (RJx35411, TJx35411, 4)) (q0 := 8) rfl rfl, fun U hU hW => ⟨rfl, hC83 U hU hW⟩⟩ rfl rfl hl.1 rfl (lv_room (Nat.le_of_ble_eq_true rfl)) dX9_isLooked_33 ⟨(Nat.le_of_ble_eq_true rfl), (Nat.le_of_ble_eq_true rfl)⟩) hS (fun q9 _ h9 => hF80 q9 h9) hF80 (fun u84 r85 t84 H84 L84 ht84 hvm84 hw84 hB84 hz84 hk84 hS => ?_)
  obtain ⟨hr84, hB84⟩ := hB84
  obtain ⟨hP, hD, hK⟩ := pq_jn (wz := [(h0, ce21 h1 o0 o1 o2), (h3, ce49), (h4, ce49), (h5, ce49), (h6, ce49), (h7, ce49), (h8, ce49), (h9, ce49), (a13, ce382 h1), (h1, ce331 h2), (h2, ce330 kc0 h3 h4 h5 h6 h7 h8 h9)]) (tz := [(kc0, .object "java/lang/Object")]) hP hD hK [8, 9, 10] [] rfl hk84 hF80 hB84.1 ht84 hvm84 rfl rfl
  have hG : s.heap.size + 1 ≤ H84.size := Nat.le_trans hG hz84
  refine W.eq (g2 := F0 m 38 ls [.ref h8]) (by rw [hr84]) ?_
  refine va_castE (nm := RX8) hx hb hown (hts _ q_273) (va_recv hK hP (ci := 7) (q := (RX8, TX8, 6)) (q0 := 6) rfl rfl) dX9_isLooked_38 ?_
  refine lv_astore (lv' := [(4, .ref h8), (2, .int 0), (3, .ref a13), (0, .ref h0), (1, .int 6)]) hx hb dX9_isLooked_41 hl (by decide) rfl (fun ls hl => ?_)
  refine lv_iload_n hx hb dX9_isLooked_43 rfl (lv_at hl 1 rfl) ?_
  refine lv_if_ne (tgt := 56) hx hb dX9_isLooked_44 (by decide) (fun cz => absurd (by decide) cz) (fun _ => ?_)
  refine lv_aload hx hb dX9_isLooked_47 (lv_at hl 0 rfl) ?_
  refine va_get (D := (dC, dI)) (ci := 7) (v := .int (-1)) (C := RX8) (T := TX8) (N := 6) hx hb hts in_X8 hown hK hP 6 rfl rfl 5 (by decide) (hts _ q_423) (fun _ h9 => h9) rfl dX9_isLooked_49 ?_
  refine lv_iload_n hx hb dX9_isLooked_52 rfl (lv_at hl 4 rfl) ?_
  refine lv_icmp_ne (tgt := 60) hx hb dX9_isLooked_53 (by decide) (fun _ => ?_) (fun cz => absurd cz (by decide))
  refine lv_iconst (v := 0) hx hb dX9_isLooked_60 (by decide) ?_
  refine lv_istore_n (lv' := [(2, .int 0), (4, .ref h8), (3, .ref a13), (0, .ref h0), (1, .int 6)]) hx hb dX9_isLooked_61 rfl hl (by decide) rfl (fun ls hl => ?_)
  refine lv_goto (tgt := 23) hx hb dX9_isLooked_62 (by decide) ?_
  refine lv_aload_n hx hb dX9_isLooked_23 rfl (lv_at hl 2 rfl) ?_
  have hM88 := k743_hasNext l hl9 dC dI z a13 h1 h2 H84.size
  obtain ⟨hF86, hC89⟩ := pc_M hM88 hP hD hK hS hX hT hA [8, 9] [] rfl rfl rfl
  refine va_callFi (va_runF (As := []) (rest := []) (hK.1 1 (RJx35411, TJx35411, 4) rfl).2 ⟨hx, hb, hml, hown, hts⟩ hM88 (va_cwF 0 hts (gF q_261 q_262 q_263 q_246 q_260) rfl rfl rfl hT.2.2.2.2.2.2.1 hF_xIh ⟨Nat.le_of_ble_eq_true rfl, Nat.le_of_ble_eq_true rfl⟩) ⟨pc_blind, va_recv hK hP (ci := 1) (q := (RJx35411, TJx35411, 4)) (q0 := 8) rfl rfl, fun U hU hW => ⟨rfl, hC89 U hU hW⟩⟩ rfl rfl hl.1 rfl (lv_room (Nat.le_of_ble_eq_true rfl)) dX9_isLooked_24 ⟨(Nat.le_of_ble_eq_true rfl), (Nat.le_of_ble_eq_true rfl)⟩) hS (fun q9 _ h9 => hF86 q9 h9) hF86 (fun r91 u90 t90 H90 L90 ht90 hvm90 hw90 hB90 hz90 hk90 hS => ?_)
  have hP := pq_keep hP hD [8, 9] rfl hk90 hB90.1 ht90
  have hG : s.heap.size + 1 ≤ H90.size := Nat.le_trans hG hz90
  refine W.eq (g2 := F0 m 29 ls [.int 1]) (by rw [hw90]) ?_
  refine lv_if_eq (tgt := 65) hx hb dX9_isLooked_29 (by decide) (fun cz => absurd cz (by decide)) (fun _ => ?_)
  refine lv_aload_n hx hb dX9_isLooked_32 rfl (lv_at hl 2 rfl) ?_
  have hM94 := k745_next l hl9 dC dI z a13 h1 h2 h3 h4 h5 h6 h7 h8 h9 H90.size kc0
  obtain ⟨hF92, hC95⟩ := pc_M hM94 hP hD hK hS hX hT hA [8, 9, 10] [0] rfl rfl rfl
  refine va_callFr (va_runF (As := []) (rest := []) (hK.1 1 (RJx35411, TJx35411, 4) rfl).2 ⟨hx, hb, hml, hown, hts⟩ hM94 (va_cwF 0 hts (gF q_308 q_309 q_310 q_246 q_307) rfl rfl rfl hT.2.2.2.2.2.2.2.1 hF_xIn ⟨Nat.le_of_ble_eq_true rfl, Nat.le_of_ble_eq_true rfl⟩) ⟨pc_blind, va_recv hK hP (ci := 1) (q := (RJx35411, TJx35411, 4)) (q0 := 8) rfl rfl, fun U hU hW => ⟨rfl, hC95 U hU hW⟩⟩ rfl rfl hl.1 rfl (lv_room (Nat.le_of_ble_eq_true rfl)) dX9_isLooked_33 ⟨(Nat.le_of_ble_eq_true rfl), (Nat.le_of_ble_eq_true rfl)⟩) hS (fun q9 _ h9 => hF92 q9 h9) hF92 (fun u96 r97 t96 H96 L96 ht96 hvm96 hw96 hB96 hz96 hk96 hS => ?_)
  obtain ⟨hr96, hB96⟩ := hB96
  obtain ⟨hP, hD, hK⟩ := pq_jn (wz := [(h0, ce21 h1 o0 o1 o2), (h3, ce49), (h4, ce49), (h5, ce49), (h6, ce49), (h7, ce49), (h8, ce49), (h9, ce49), (a13, ce384 h1), (h1, ce331 h2), (h2, ce330 kc0 h3 h4 h5 h6 h7 h8 h9)]) (tz := [(kc0, .object "java/lang/Object")]) hP hD hK [8, 9, 10] [] rfl hk96 hF92 hB96.1 ht96 hvm96 rfl rfl
  have hG : s.heap.size + 1 ≤ H96.size := Nat.le_trans hG hz96
  refine W.eq (g2 := F0 m 38 ls [.ref h9]) (by rw [hr96]) ?_
  refine va_castE (nm := RX8) hx hb hown (hts _ q_273) (va_recv hK hP (ci := 7) (q := (RX8, TX8, 6)) (q0 := 7) rfl rfl) dX9_isLooked_38 ?_
  refine lv_astore (lv' := [(4, .ref h9), (2, .int 0), (3, .ref a13), (0, .ref h0), (1, .int 6)]) hx hb dX9_isLooked_41 hl (by decide) rfl (fun ls hl => ?_)
  refine lv_iload_n hx hb dX9_isLooked_43 rfl (lv_at hl 1 rfl) ?_
  refine lv_if_ne (tgt := 56) hx hb dX9_isLooked_44 (by decide) (fun cz => absurd (by decide) cz) (fun _ => ?_)
  refine lv_aload hx hb dX9_isLooked_47 (lv_at hl 0 rfl) ?_
  refine va_get (D := (dC, dI)) (ci := 7) (v := .int (-1)) (C := RX8) (T := TX8) (N := 6) hx hb hts in_X8 hown hK hP 7 rfl rfl 5 (by decide) (hts _ q_423) (fun _ h9 => h9) rfl dX9_isLooked_49 ?_
  refine lv_iload_n hx hb dX9_isLooked_52 rfl (lv_at hl 4 rfl) ?_
  refine lv_icmp_ne (tgt := 60) hx hb dX9_isLooked_53 (by decide) (fun _ => ?_) (fun cz => absurd cz (by decide))
  refine lv_iconst (v := 0) hx hb dX9_isLooked_60 (by decide) ?_
  refine lv_istore_n (lv' := [(2, .int 0), (4, .ref h9), (3, .ref a13), (0, .ref h0), (1, .int 6)]) hx hb dX9_isLooked_61 rfl hl (by decide) rfl (fun ls hl => ?_)
  refine lv_goto (tgt := 23) hx hb dX9_isLooked_62 (by decide) ?_
  refine lv_aload_n hx hb dX9_isLooked_23 rfl (lv_at hl 2 rfl) ?_
  have hM100 := k746_hasNext l hl9 dC dI z a13 h1 h2 H96.size
  obtain ⟨hF98, hC101⟩ := pc_M hM100 hP hD hK hS hX hT hA [8, 9] [] rfl rfl rfl
  refine va_callFi (va_runF (As := []) (rest := []) (hK.1 1 (RJx35411, TJx35411, 4) rfl).2 ⟨hx, hb, hml, hown, hts⟩ hM100 (va_cwF 0 hts (gF q_261 q_262 q_263 q_246 q_260) rfl rfl rfl hT.2.2.2.2.2.2.1 hF_xIh ⟨Nat.le_of_ble_eq_true rfl, Nat.le_of_ble_eq_true rfl⟩) ⟨pc_blind, va_recv hK hP (ci := 1) (q := (RJx35411, TJx35411, 4)) (q0 := 8) rfl rfl, fun U hU hW => ⟨rfl, hC101 U hU hW⟩⟩ rfl rfl hl.1 rfl (lv_room (Nat.le_of_ble_eq_true rfl)) dX9_isLooked_24 ⟨(Nat.le_of_ble_eq_true rfl), (Nat.le_of_ble_eq_true rfl)⟩) hS (fun q9 _ h9 => hF98 q9 h9) hF98 (fun r103 u102 t102 H102 L102 ht102 hvm102 hw102 hB102 hz102 hk102 hS => ?_)
  have hP := pq_keep hP hD [8, 9] rfl hk102 hB102.1 ht102
  have hG : s.heap.size + 1 ≤ H102.size := Nat.le_trans hG hz102
  refine W.eq (g2 := F0 m 29 ls [.int 0]) (by rw [hw102]) ?_
  refine lv_if_eq (tgt := 65) hx hb dX9_isLooked_29 (by decide) (fun _ => ?_) (fun cz => absurd (by decide) cz)
  refine lv_iload_n hx hb dX9_isLooked_65 rfl (lv_at hl 0 rfl) ?_
  exact W.zret (v := 0) (ty := .boolean) hx hb hr rfl (fun t9 ht9 hW9 => ⟨⟨0, (), rfl, rfl, ⟨pq_mk2 hP hD hK [0, 9, 10, 1, 2, 3, 4, 5, 6, 7] [0] rfl rfl rfl ht9 hW9, by rw [ht9]; exact Nat.le_trans (Nat.add_le_add_left (Nat.le_of_ble_eq_true rfl) _) hG⟩⟩, hS.F ht9⟩) hS.2.2 dX9_isLooked_66

set_option maxHeartbeats 4000000 in
set_option maxRecDepth 100000 in
theorem k953_showsIt (l : Launch) (hl9 : l.stackTraces = false) (dC : Nat → ClassId) (dI : Nat → Nat → Nat) (z : XZ) (h0 h1 h2 h3 h4 h5 h6 h7 h8 h9 h10 h11 h12 : Nat) (o0 : Nat) (sz : Nat) (kc0 kc1 : ClassId) : Met l yX9_showsIt (.code yX9_showsIt cX9_showsIt 8 (some .boolean) :: wsL_law) ({ frames := 4, cells := 27, slots := 252, locals := 94 }) (va_Pc [.ref h0, .int 0, .int 48, .int 0] (PC (dC, dI) [(h0, ce21 h1 h2 o0 h3), (h1, ce331 h4), (h2, ce3 z.1), (h3, ce366 h5), (h4, ce330 kc0 h6 h7 h8 h9 h10 h11 h12), (h5, ce330 kc1 (z.2.2.1 128) (z.2.2.1 129) (z.2.2.1 130) (z.2.2.1 131) (z.2.2.1 132) (z.2.2.1 133) (z.2.2.1 134)), (h6, ce49), (h7, ce49), (h8, ce49), (h9, ce49), (h10, ce49), (h11, ce49), (h12, ce49)] [(kc0, .object "java/lang/Object"), (kc1, .object "java/lang/Object")] sz z)) (va_Qi (fun (r : Int32) (_ : Unit) => r = 0) (fun (_ : Unit) (t : State) => PG (dC, dI) [(h0, ce21 h1 h2 o0 h3), (h1, ce331 h4), (h2, ce3 z.1), (h3, ce366 h5), (h4, ce330 kc0 h6 h7 h8 h9 h10 h11 h12), (h5, ce330 kc1 (z.2.2.1 128) (z.2.2.1 129) (z.2.2.1 130) (z.2.2.1 131) (z.2.2.1 132) (z.2.2.1 133) (z.2.2.1 134)), (h6, ce49), (h7, ce49), (h8, ce49), (h9, ce49), (h10, ce49), (h11, ce49), (h12, ce49)] [(kc0, .object "java/lang/Object"), (kc1, .object "java/lang/Object")] (va_A [(h0, ce21 h1 h2 o0 h3), (h1, ce331 h4), (h2, ce3 z.1), (h3, ce366 h5), (h4, ce330 kc0 h6 h7 h8 h9 h10 h11 h12), (h5, ce330 kc1 (z.2.2.1 128) (z.2.2.1 129) (z.2.2.1 130) (z.2.2.1 131) (z.2.2.1 132) (z.2.2.1 133) (z.2.2.1 134)), (h6, ce49), (h7, ce49), (h8, ce49), (h9, ce49), (h10, ce49), (h11, ce49), (h12, ce49)] sz) sz 27 t) (va_A [(h0, ce21 h1 h2 o0 h3), (h1, ce331 h4), (h2, ce3 z.1), (h3, ce366 h5), (h4, ce330 kc0 h6 h7 h8 h9 h10 h11 h12), (h5, ce330 kc1 (z.2.2.1 128) (z.2.2.1 129) (z.2.2.1 130) (z.2.2.1 131) (z.2.2.1 132) (z.2.2.1 133) (z.2.2.1 134)), (h6, ce49), (h7, ce49), (h8, ce49), (h9, ce49), (h10, ce49), (h11, ce49), (h12, ce49)] sz)) 27 252 (va_A [(h0, ce21 h1 h2 o0 h3), (h1, ce331 h4), (h2, ce3 z.1), (h3, ce366 h5), (h4, ce330 kc0 h6 h7 h8 h9 h10 h11 h12), (h5, ce330 kc1 (z.2.2.1 128) (z.2.2.1 129) (z.2.2.1 130) (z.2.2.1 131) (z.2.2.1 132) (z.2.2.1 133) (z.2.2.1 134)), (h6, ce49), (h7, ce49), (h8, ce49), (h9, ce49), (h10, ce49), (h11, ce49), (h12, ce49)] sz) := by
  refine Met.ofW (cc := cX9_showsIt) (maxL := 8) (ret := (some .boolean)) (by decide) rfl ?_
  intro p e s m args below meth c s₁ B hml hv
  obtain ⟨rfl, hsz, hP, hK, hD0, hX, hT⟩ := hv
  have hx := B.exec
  have hb := B.bytes
  have hr := B.returns
  have hts0 := atoms_spec (ws := .code yX9_showsIt cX9_showsIt 8 (some .boolean) :: wsL_law) B.pre
  have hts := xTail hts0
  have hown : s.vm.findClass RX9 = some m.cls := xown B.named rfl
  have hlocks := B.notSynchronized
  subst hsz
  have hD := hD0.self (sz := s.heap.size)
  generalize hAe : va_A [(h0, ce21 h1 h2 o0 h3), (h1, ce331 h4), (h2, ce3 z.1), (h3, ce366 h5), (h4, ce330 kc0 h6 h7 h8 h9 h10 h11 h12), (h5, ce330 kc1 (z.2.2.1 128) (z.2.2.1 129) (z.2.2.1 130) (z.2.2.1 131) (z.2.2.1 132) (z.2.2.1 133) (z.2.2.1 134)), (h6, ce49), (h7, ce49), (h8, ce49), (h9, ce49), (h10, ce49), (h11, ce49), (h12, ce49)] s.heap.size = A at hD hX ⊢
  have hA : ∀ q : Nat, s.heap.size ≤ q → A q := fun q h => by rw [← hAe]; exact Or.inr h
  have hS : va_S A s.heap s.heap [] := va_S.rf
  have hG : s.heap.size + 0 ≤ s.heap.size := Nat.le_refl _
  have hl := lv_entry ([.ref h0, .int 0, .int 48, .int 0]) (n := 8) (Nat.le_of_ble_eq_true rfl)
  rw [lg_entry_eq]
  generalize (lg_sl ([.ref h0, .int 0, .int 48, .int 0]) ++ List.replicate (8 - (lg_sl ([.ref h0, .int 0, .int 48, .int 0])).length) Slot.unset).toArray = ls at hl ⊢
  have hl : lv_has ls 8 [(0, .ref h0), (1, .int 0), (2, .int 48), (3, .int 0)] := hl
  refine lv_aload_n hx hb dX9_showsIt_0 rfl (lv_at hl 0 rfl) ?_
  refine lv_aload_n hx hb dX9_showsIt_1 rfl (lv_at hl 0 rfl) ?_
  refine lv_iload_n hx hb dX9_showsIt_2 rfl (lv_at hl 3 rfl) ?_
  have hM3 := k943_valuesOf l hl9 dC dI z h0 h1 h4 h6 h7 h8 h9 h10 h11 h12 h2 o0 h3 s.heap.size kc0
  obtain ⟨hF1, hC4⟩ := pc_M hM3 hP hD hK hS hX hT hA [0, 1, 4, 6, 7, 8, 9, 10, 11, 12] [0] rfl rfl rfl
  refine va_callr (va_runV (As := [.int 0]) (rest := [.ref h0]) ⟨hx, hb, hml, hown, hts⟩ hM3 (cwV 1 hts (gV q_419 q_420 q_421 q_60 q_418) rfl rfl rfl hV_X9_valuesOf ⟨Nat.le_of_ble_eq_true rfl, Nat.le_of_ble_eq_true rfl⟩) ⟨pc_blind, va_recv hK hP (ci := 8) (q := (RX9, TX9, 6)) (q0 := 0) rfl rfl, fun U hU hW => ⟨rfl, hC4 U hU hW⟩⟩ rfl rfl hl.1 rfl (lv_room (Nat.le_of_ble_eq_true rfl)) dX9_showsIt_3 ⟨(Nat.le_of_ble_eq_true rfl), (Nat.le_of_ble_eq_true rfl)⟩) hS (fun q9 _ h9 => hF1 q9 h9) hF1 (fun u5 r6 t5 H5 L5 ht5 hvm5 hw5 hB5 hz5 hk5 hS => ?_)
  obtain ⟨a7, k8, hr5, hB5⟩ := hB5
  obtain ⟨hP, hD, hK⟩ := pq_jn (wz := [(h2, ce3 z.1), (h3, ce366 h5), (h5, ce330 kc1 (z.2.2.1 128) (z.2.2.1 129) (z.2.2.1 130) (z.2.2.1 131) (z.2.2.1 132) (z.2.2.1 133) (z.2.2.1 134)), (h0, ce21 h1 h2 o0 h3), (h1, ce331 h4), (h4, ce330 kc0 h6 h7 h8 h9 h10 h11 h12), (h6, ce49), (h7, ce49), (h8, ce49), (h9, ce49), (h10, ce49), (h11, ce49), (h12, ce49), (a7, ce447 k8)]) (tz := [(kc1, .object "java/lang/Object"), (kc0, .object "java/lang/Object"), (k8, .char)]) hP hD hK [0, 1, 4, 6, 7, 8, 9, 10, 11, 12] [1] rfl hk5 hF1 hB5.1 ht5 hvm5 rfl rfl
  have hG : s.heap.size + 1 ≤ H5.size := va_gr (g := 0) (g1 := 1) hG (by rw [← ht5]; exact hB5.2)
  refine W.eq (g2 := F0 m 6 ls [.ref a7, .ref h0]) (by rw [hr5]) ?_
  refine W.widen (k := 1) (n := 40) (by decide) (by decide) ?_
  refine lv_iload_n hx hb dX9_showsIt_6 rfl (lv_at hl 1 rfl) ?_
  refine lv_iload_n hx hb dX9_showsIt_7 rfl (lv_at hl 2 rfl) ?_
  have hM11 := k944_settledAll l hl9 dC dI z h0 a7 h1 h2 h3 h4 h5 h6 h7 h8 h9 h10 h11 h12 o0 H5.size k8 kc0 kc1
  obtain ⟨hF9, hC12⟩ := pc_M hM11 hP hD hK hS hX hT hA [3, 13, 4, 0, 1, 5, 2, 6, 7, 8, 9, 10, 11, 12] [2, 1, 0] rfl rfl rfl
  refine va_callr (va_runV (As := [.ref a7, .int 0, .int 48]) (rest := []) ⟨hx, hb, hml, hown, hts⟩ hM11 (cwV 3 hts (gV q_328 q_329 q_330 q_60 q_327) rfl rfl rfl hV_X9_settledAll ⟨Nat.le_of_ble_eq_true rfl, Nat.le_of_ble_eq_true rfl⟩) ⟨pc_blind, va_recv hK hP (ci := 8) (q := (RX9, TX9, 6)) (q0 := 3) rfl rfl, fun U hU hW => ⟨rfl, hC12 U hU hW⟩⟩ rfl rfl hl.1 rfl (lv_room (Nat.le_of_ble_eq_true rfl)) dX9_showsIt_8 ⟨(Nat.le_of_ble_eq_true rfl), (Nat.le_of_ble_eq_true rfl)⟩) hS (fun q9 _ h9 => hF9 q9 h9) hF9 (fun u13 r14 t13 H13 L13 ht13 hvm13 hw13 hB13 hz13 hk13 hS => ?_)
  obtain ⟨a15, k16, hr13, hB13⟩ := hB13
  obtain ⟨hP, hD, hK⟩ := pq_jn (wz := [(h0, ce21 h1 h2 o0 h3), (a7, ce447 k8), (h1, ce331 h4), (h2, ce3 z.1), (h3, ce366 h5), (h4, ce330 kc0 h6 h7 h8 h9 h10 h11 h12), (h5, ce330 kc1 (z.2.2.1 128) (z.2.2.1 129) (z.2.2.1 130) (z.2.2.1 131) (z.2.2.1 132) (z.2.2.1 133) (z.2.2.1 134)), (h6, ce49), (h7, ce49), (h8, ce49), (h9, ce49), (h10, ce49), (h11, ce49), (h12, ce49), (a15, ce447 k16)]) (tz := [(k8, .char), (kc0, .object "java/lang/Object"), (kc1, .object "java/lang/Object"), (k16, .char)]) hP hD hK [3, 13, 4, 0, 1, 5, 2, 6, 7, 8, 9, 10, 11, 12] [] rfl hk13 hF9 hB13.1 ht13 hvm13 rfl rfl
  have hG : s.heap.size + 10 ≤ H13.size := va_gr (g := 1) (g1 := 9) hG (by rw [← ht13]; exact hB13.2)
  refine W.eq (g2 := F0 m 11 ls [.ref a15]) (by rw [hr13]) ?_
  refine W.widen (k := 10) (n := 112) (by decide) (by decide) ?_
  refine lv_astore (lv' := [(4, .ref a15), (0, .ref h0), (1, .int 0), (2, .int 48), (3, .int 0)]) hx hb dX9_showsIt_11 hl (by decide) rfl (fun ls hl => ?_)
  refine lv_aload_n hx hb dX9_showsIt_13 rfl (lv_at hl 1 rfl) ?_
  refine lv_aload_n hx hb dX9_showsIt_14 rfl (lv_at hl 1 rfl) ?_
  refine lv_iload_n hx hb dX9_showsIt_15 rfl (lv_at hl 4 rfl) ?_
  have hM19 := k943_valuesOf l hl9 dC dI z h0 h1 h4 h6 h7 h8 h9 h10 h11 h12 h2 o0 h3 H13.size kc0
  obtain ⟨hF17, hC20⟩ := pc_M hM19 hP hD hK hS hX hT hA [0, 2, 5, 7, 8, 9, 10, 11, 12, 13] [1] rfl rfl rfl
  refine va_callr (va_runV (As := [.int 0]) (rest := [.ref h0]) ⟨hx, hb, hml, hown, hts⟩ hM19 (cwV 1 hts (gV q_419 q_420 q_421 q_60 q_418) rfl rfl rfl hV_X9_valuesOf ⟨Nat.le_of_ble_eq_true rfl, Nat.le_of_ble_eq_true rfl⟩) ⟨pc_blind, va_recv hK hP (ci := 8) (q := (RX9, TX9, 6)) (q0 := 0) rfl rfl, fun U hU hW => ⟨rfl, hC20 U hU hW⟩⟩ rfl rfl hl.1 rfl (lv_room (Nat.le_of_ble_eq_true rfl)) dX9_showsIt_16 ⟨(Nat.le_of_ble_eq_true rfl), (Nat.le_of_ble_eq_true rfl)⟩) hS (fun q9 _ h9 => hF17 q9 h9) hF17 (fun u21 r22 t21 H21 L21 ht21 hvm21 hw21 hB21 hz21 hk21 hS => ?_)
  obtain ⟨a23, k24, hr21, hB21⟩ := hB21
  obtain ⟨hP, hD, hK⟩ := pq_jn (wz := [(a7, ce447 k8), (h2, ce3 z.1), (h3, ce366 h5), (h5, ce330 kc1 (z.2.2.1 128) (z.2.2.1 129) (z.2.2.1 130) (z.2.2.1 131) (z.2.2.1 132) (z.2.2.1 133) (z.2.2.1 134)), (a15, ce447 k16), (h0, ce21 h1 h2 o0 h3), (h1, ce331 h4), (h4, ce330 kc0 h6 h7 h8 h9 h10 h11 h12), (h6, ce49), (h7, ce49), (h8, ce49), (h9, ce49), (h10, ce49), (h11, ce49), (h12, ce49), (a23, ce447 k24)]) (tz := [(k8, .char), (kc1, .object "java/lang/Object"), (k16, .char), (kc0, .object "java/lang/Object"), (k24, .char)]) hP hD hK [0, 2, 5, 7, 8, 9, 10, 11, 12, 13] [0, 2, 3] rfl hk21 hF17 hB21.1 ht21 hvm21 rfl rfl
  have hG : s.heap.size + 11 ≤ H21.size := va_gr (g := 10) (g1 := 1) hG (by rw [← ht21]; exact hB21.2)
  refine W.eq (g2 := F0 m 19 ls [.ref a23, .ref h0]) (by rw [hr21]) ?_
  refine W.widen (k := 11) (n := 152) (by decide) (by decide) ?_
  refine lv_iconst (v := (-1)) hx hb dX9_showsIt_19 (by decide) ?_
  refine lv_bipush (v := 120) hx hb dX9_showsIt_20 (by decide) ?_
  have hM27 := k945_settledAll l hl9 dC dI z h0 a23 h1 h2 h3 h4 h5 h6 h7 h8 h9 h10 h11 h12 o0 H21.size k24 kc0 kc1
  obtain ⟨hF25, hC28⟩ := pc_M hM27 hP hD hK hS hX hT hA [5, 15, 6, 1, 2, 7, 3, 8, 9, 10, 11, 12, 13, 14] [4, 3, 1] rfl rfl rfl
  refine va_callr (va_runV (As := [.ref a23, .int (-1), .int 120]) (rest := []) ⟨hx, hb, hml, hown, hts⟩ hM27 (cwV 3 hts (gV q_328 q_329 q_330 q_60 q_327) rfl rfl rfl hV_X9_settledAll ⟨Nat.le_of_ble_eq_true rfl, Nat.le_of_ble_eq_true rfl⟩) ⟨pc_blind, va_recv hK hP (ci := 8) (q := (RX9, TX9, 6)) (q0 := 5) rfl rfl, fun U hU hW => ⟨rfl, hC28 U hU hW⟩⟩ rfl rfl hl.1 rfl (lv_room (Nat.le_of_ble_eq_true rfl)) dX9_showsIt_22 ⟨(Nat.le_of_ble_eq_true rfl), (Nat.le_of_ble_eq_true rfl)⟩) hS (fun q9 _ h9 => hF25 q9 h9) hF25 (fun u29 r30 t29 H29 L29 ht29 hvm29 hw29 hB29 hz29 hk29 hS => ?_)
  obtain ⟨a31, k32, hr29, hB29⟩ := hB29
  obtain ⟨hP, hD, hK⟩ := pq_jn (wz := [(a7, ce447 k8), (a15, ce447 k16), (h0, ce21 h1 h2 o0 h3), (a23, ce447 k24), (h1, ce331 h4), (h2, ce3 z.1), (h3, ce366 h5), (h4, ce330 kc0 h6 h7 h8 h9 h10 h11 h12), (h5, ce330 kc1 (z.2.2.1 128) (z.2.2.1 129) (z.2.2.1 130) (z.2.2.1 131) (z.2.2.1 132) (z.2.2.1 133) (z.2.2.1 134)), (h6, ce49), (h7, ce49), (h8, ce49), (h9, ce49), (h10, ce49), (h11, ce49), (h12, ce49), (a31, ce447 k32)]) (tz := [(k8, .char), (k16, .char), (k24, .char), (kc0, .object "java/lang/Object"), (kc1, .object "java/lang/Object"), (k32, .char)]) hP hD hK [5, 15, 6, 1, 2, 7, 3, 8, 9, 10, 11, 12, 13, 14] [0, 2] rfl hk29 hF25 hB29.1 ht29 hvm29 rfl rfl
  have hG : s.heap.size + 20 ≤ H29.size := va_gr (g := 11) (g1 := 9) hG (by rw [← ht29]; exact hB29.2)
  refine W.eq (g2 := F0 m 25 ls [.ref a31]) (by rw [hr29]) ?_
  refine W.widen (k := 20) (n := 224) (by decide) (by decide) ?_
  refine lv_astore (lv' := [(5, .ref a31), (4, .ref a15), (0, .ref h0), (1, .int 0), (2, .int 48), (3, .int 0)]) hx hb dX9_showsIt_25 hl (by decide) rfl (fun ls hl => ?_)
  refine lv_iconst (v := 0) hx hb dX9_showsIt_27 (by decide) ?_
  refine lv_istore (lv' := [(6, .int 0), (5, .ref a31), (4, .ref a15), (0, .ref h0), (1, .int 0), (2, .int 48), (3, .int 0)]) hx hb dX9_showsIt_28 hl (by decide) rfl (fun ls hl => ?_)
  refine lv_iconst (v := 0) hx hb dX9_showsIt_30 (by decide) ?_
  refine lv_istore (lv' := [(7, .int 0), (6, .int 0), (5, .ref a31), (4, .ref a15), (0, .ref h0), (1, .int 0), (2, .int 48), (3, .int 0)]) hx hb dX9_showsIt_31 hl (by decide) rfl (fun ls hl => ?_)
  refine lv_iload hx hb dX9_showsIt_33 (lv_at hl 0 rfl) ?_
  refine lv_aload_n hx hb dX9_showsIt_35 rfl (lv_at hl 4 rfl) ?_
  refine va_get (D := (dC, dI)) (ci := 8) (v := .ref h1) (C := RX9) (T := TX9) (N := 6) hx hb hts in_X9 hown hK hP 2 rfl rfl 1 (by decide) (hts _ q_64) (fun _ h9 => h9) rfl dX9_showsIt_36 ?_
  have hM35 := k20_size l hl9 dC dI z h1 h4 H29.size 7 7
  obtain ⟨hF33, hC36⟩ := pc_M hM35 hP hD hK hS hX hT hA [4] [] rfl rfl rfl
  refine va_calli (va_runV (As := []) (rest := [.int 0]) ⟨hx, hb, hml, hown, hts⟩ hM35 (cwV 0 hts (gV q_272 q_77 q_78 q_12 q_75) rfl rfl rfl hV_Jx4a65c_size_8abf5 ⟨Nat.le_of_ble_eq_true rfl, Nat.le_of_ble_eq_true rfl⟩) ⟨pc_blind, va_recv hK hP (ci := 0) (q := (RJx4a65c, TJx4a65c, 3)) (q0 := 4) rfl rfl, fun U hU hW => ⟨rfl, hC36 U hU hW⟩⟩ rfl rfl hl.1 rfl (lv_room (Nat.le_of_ble_eq_true rfl)) dX9_showsIt_39 ⟨(Nat.le_of_ble_eq_true rfl), (Nat.le_of_ble_eq_true rfl)⟩) hS (fun q9 _ h9 => hF33 q9 h9) hF33 (fun r38 u37 t37 H37 L37 ht37 hvm37 hw37 hB37 hz37 hk37 hS => ?_)
  have hP := pq_keep hP hD [4] rfl hk37 hB37.1 ht37
  have hG : s.heap.size + 20 ≤ H37.size := Nat.le_trans hG hz37
  refine W.eq (g2 := F0 m 42 ls [.int 7, .int 0]) (by rw [hw37]) ?_
  refine lv_icmp_ge (tgt := 125) hx hb dX9_showsIt_42 (by decide) (fun cz => absurd cz (by decide)) (fun _ => ?_)
  refine lv_iload hx hb dX9_showsIt_45 (lv_at hl 1 rfl) ?_
  refine lv_if_ne (tgt := 125) hx hb dX9_showsIt_47 (by decide) (fun cz => absurd (by decide) cz) (fun _ => ?_)
  refine lv_aload_n hx hb dX9_showsIt_50 rfl (lv_at hl 4 rfl) ?_
  refine lv_iload hx hb dX9_showsIt_51 (lv_at hl 0 rfl) ?_
  have hM41 := k946_isLooked l hl9 dC dI z h0 h1 h4 h6 h7 h8 h9 h10 h11 h12 h2 o0 h3 H37.size kc0
  obtain ⟨hF39, hC42⟩ := pc_M hM41 hP hD hK hS hX hT hA [2, 4, 7, 9, 10, 11, 12, 13, 14, 15] [3] rfl rfl rfl
  refine va_calli (va_runV (As := [.int 0]) (rest := []) ⟨hx, hb, hml, hown, hts⟩ hM41 (cwV 1 hts (gV q_425 q_426 q_427 q_60 q_424) rfl rfl rfl hV_X9_isLooked ⟨Nat.le_of_ble_eq_true rfl, Nat.le_of_ble_eq_true rfl⟩) ⟨pc_blind, va_recv hK hP (ci := 8) (q := (RX9, TX9, 6)) (q0 := 2) rfl rfl, fun U hU hW => ⟨rfl, hC42 U hU hW⟩⟩ rfl rfl hl.1 rfl (lv_room (Nat.le_of_ble_eq_true rfl)) dX9_showsIt_53 ⟨(Nat.le_of_ble_eq_true rfl), (Nat.le_of_ble_eq_true rfl)⟩) hS (fun q9 _ h9 => hF39 q9 h9) hF39 (fun r44 u43 t43 H43 L43 ht43 hvm43 hw43 hB43 hz43 hk43 hS => ?_)
  have hP := pq_keep hP hD [2, 4, 7, 9, 10, 11, 12, 13, 14, 15] rfl hk43 hB43.1 ht43
  have hG : s.heap.size + 21 ≤ H43.size := va_gr (g := 20) (g1 := 1) hG (by rw [← ht43]; exact hB43.2)
  refine W.eq (g2 := F0 m 56 ls [.int 0]) (by rw [hw43]) ?_
  refine W.widen (k := 21) (n := 228) (by decide) (by decide) ?_
  refine lv_if_eq (tgt := 119) hx hb dX9_showsIt_56 (by decide) (fun _ => ?_) (fun cz => absurd (by decide) cz)
  refine lv_iinc (v := 1) (lv' := [(7, .int 1), (6, .int 0), (5, .ref a31), (4, .ref a15), (0, .ref h0), (1, .int 0), (2, .int 48), (3, .int 0)]) hx hb dX9_showsIt_119 hl (k := 0) rfl (by decide) (by decide) rfl (fun ls hl => ?_)
  refine lv_goto (tgt := 33) hx hb dX9_showsIt_122 (by decide) ?_
  refine lv_iload hx hb dX9_showsIt_33 (lv_at hl 0 rfl) ?_
  refine lv_aload_n hx hb dX9_showsIt_35 rfl (lv_at hl 4 rfl) ?_
  refine va_get (D := (dC, dI)) (ci := 8) (v := .ref h1) (C := RX9) (T := TX9) (N := 6) hx hb hts in_X9 hown hK hP 2 rfl rfl 1 (by decide) (hts _ q_64) (fun _ h9 => h9) rfl dX9_showsIt_36 ?_
  have hM47 := k20_size l hl9 dC dI z h1 h4 H43.size 7 7
  obtain ⟨hF45, hC48⟩ := pc_M hM47 hP hD hK hS hX hT hA [4] [] rfl rfl rfl
  refine va_calli (va_runV (As := []) (rest := [.int 1]) ⟨hx, hb, hml, hown, hts⟩ hM47 (cwV 0 hts (gV q_272 q_77 q_78 q_12 q_75) rfl rfl rfl hV_Jx4a65c_size_8abf5 ⟨Nat.le_of_ble_eq_true rfl, Nat.le_of_ble_eq_true rfl⟩) ⟨pc_blind, va_recv hK hP (ci := 0) (q := (RJx4a65c, TJx4a65c, 3)) (q0 := 4) rfl rfl, fun U hU hW => ⟨rfl, hC48 U hU hW⟩⟩ rfl rfl hl.1 rfl (lv_room (Nat.le_of_ble_eq_true rfl)) dX9_showsIt_39 ⟨(Nat.le_of_ble_eq_true rfl), (Nat.le_of_ble_eq_true rfl)⟩) hS (fun q9 _ h9 => hF45 q9 h9) hF45 (fun r50 u49 t49 H49 L49 ht49 hvm49 hw49 hB49 hz49 hk49 hS => ?_)
  have hP := pq_keep hP hD [4] rfl hk49 hB49.1 ht49
  have hG : s.heap.size + 21 ≤ H49.size := Nat.le_trans hG hz49
  refine W.eq (g2 := F0 m 42 ls [.int 7, .int 1]) (by rw [hw49]) ?_
  refine lv_icmp_ge (tgt := 125) hx hb dX9_showsIt_42 (by decide) (fun cz => absurd cz (by decide)) (fun _ => ?_)
  refine lv_iload hx hb dX9_showsIt_45 (lv_at hl 1 rfl) ?_
  refine lv_if_ne (tgt := 125) hx hb dX9_showsIt_47 (by decide) (fun cz => absurd (by decide) cz) (fun _ => ?_)
  refine lv_aload_n hx hb dX9_showsIt_50 rfl (lv_at hl 4 rfl) ?_
  refine lv_iload hx hb dX9_showsIt_51 (lv_at hl 0 rfl) ?_
  have hM53 := k947_isLooked l hl9 dC dI z h0 h1 h4 h6 h7 h8 h9 h10 h11 h12 h2 o0 h3 H49.size kc0
  obtain ⟨hF51, hC54⟩ := pc_M hM53 hP hD hK hS hX hT hA [2, 4, 7, 9, 10, 11, 12, 13, 14, 15] [3] rfl rfl rfl
  refine va_calli (va_runV (As := [.int 1]) (rest := []) ⟨hx, hb, hml, hown, hts⟩ hM53 (cwV 1 hts (gV q_425 q_426 q_427 q_60 q_424) rfl rfl rfl hV_X9_isLooked ⟨Nat.le_of_ble_eq_true rfl, Nat.le_of_ble_eq_true rfl⟩) ⟨pc_blind, va_recv hK hP (ci := 8) (q := (RX9, TX9, 6)) (q0 := 2) rfl rfl, fun U hU hW => ⟨rfl, hC54 U hU hW⟩⟩ rfl rfl hl.1 rfl (lv_room (Nat.le_of_ble_eq_true rfl)) dX9_showsIt_53 ⟨(Nat.le_of_ble_eq_true rfl), (Nat.le_of_ble_eq_true rfl)⟩) hS (fun q9 _ h9 => hF51 q9 h9) hF51 (fun r56 u55 t55 H55 L55 ht55 hvm55 hw55 hB55 hz55 hk55 hS => ?_)
  have hP := pq_keep hP hD [2, 4, 7, 9, 10, 11, 12, 13, 14, 15] rfl hk55 hB55.1 ht55
  have hG : s.heap.size + 22 ≤ H55.size := va_gr (g := 21) (g1 := 1) hG (by rw [← ht55]; exact hB55.2)
  refine W.eq (g2 := F0 m 56 ls [.int 0]) (by rw [hw55]) ?_
  refine W.widen (k := 22) (n := 232) (by decide) (by decide) ?_
  refine lv_if_eq (tgt := 119) hx hb dX9_showsIt_56 (by decide) (fun _ => ?_) (fun cz => absurd (by decide) cz)
  refine lv_iinc (v := 2) (lv' := [(7, .int 2), (6, .int 0), (5, .ref a31), (4, .ref a15), (0, .ref h0), (1, .int 0), (2, .int 48), (3, .int 0)]) hx hb dX9_showsIt_119 hl (k := 0) rfl (by decide) (by decide) rfl (fun ls hl => ?_)
  refine lv_goto (tgt := 33) hx hb dX9_showsIt_122 (by decide) ?_
  refine lv_iload hx hb dX9_showsIt_33 (lv_at hl 0 rfl) ?_
  refine lv_aload_n hx hb dX9_showsIt_35 rfl (lv_at hl 4 rfl) ?_
  refine va_get (D := (dC, dI)) (ci := 8) (v := .ref h1) (C := RX9) (T := TX9) (N := 6) hx hb hts in_X9 hown hK hP 2 rfl rfl 1 (by decide) (hts _ q_64) (fun _ h9 => h9) rfl dX9_showsIt_36 ?_
  have hM59 := k20_size l hl9 dC dI z h1 h4 H55.size 7 7
  obtain ⟨hF57, hC60⟩ := pc_M hM59 hP hD hK hS hX hT hA [4] [] rfl rfl rfl
  refine va_calli (va_runV (As := []) (rest := [.int 2]) ⟨hx, hb, hml, hown, hts⟩ hM59 (cwV 0 hts (gV q_272 q_77 q_78 q_12 q_75) rfl rfl rfl hV_Jx4a65c_size_8abf5 ⟨Nat.le_of_ble_eq_true rfl, Nat.le_of_ble_eq_true rfl⟩) ⟨pc_blind, va_recv hK hP (ci := 0) (q := (RJx4a65c, TJx4a65c, 3)) (q0 := 4) rfl rfl, fun U hU hW => ⟨rfl, hC60 U hU hW⟩⟩ rfl rfl hl.1 rfl (lv_room (Nat.le_of_ble_eq_true rfl)) dX9_showsIt_39 ⟨(Nat.le_of_ble_eq_true rfl), (Nat.le_of_ble_eq_true rfl)⟩) hS (fun q9 _ h9 => hF57 q9 h9) hF57 (fun r62 u61 t61 H61 L61 ht61 hvm61 hw61 hB61 hz61 hk61 hS => ?_)
  have hP := pq_keep hP hD [4] rfl hk61 hB61.1 ht61
  have hG : s.heap.size + 22 ≤ H61.size := Nat.le_trans hG hz61
  refine W.eq (g2 := F0 m 42 ls [.int 7, .int 2]) (by rw [hw61]) ?_
  refine lv_icmp_ge (tgt := 125) hx hb dX9_showsIt_42 (by decide) (fun cz => absurd cz (by decide)) (fun _ => ?_)
  refine lv_iload hx hb dX9_showsIt_45 (lv_at hl 1 rfl) ?_
  refine lv_if_ne (tgt := 125) hx hb dX9_showsIt_47 (by decide) (fun cz => absurd (by decide) cz) (fun _ => ?_)
  refine lv_aload_n hx hb dX9_showsIt_50 rfl (lv_at hl 4 rfl) ?_
  refine lv_iload hx hb dX9_showsIt_51 (lv_at hl 0 rfl) ?_
  have hM65 := k948_isLooked l hl9 dC dI z h0 h1 h4 h6 h7 h8 h9 h10 h11 h12 h2 o0 h3 H61.size kc0
  obtain ⟨hF63, hC66⟩ := pc_M hM65 hP hD hK hS hX hT hA [2, 4, 7, 9, 10, 11, 12, 13, 14, 15] [3] rfl rfl rfl
  refine va_calli (va_runV (As := [.int 2]) (rest := []) ⟨hx, hb, hml, hown, hts⟩ hM65 (cwV 1 hts (gV q_425 q_426 q_427 q_60 q_424) rfl rfl rfl hV_X9_isLooked ⟨Nat.le_of_ble_eq_true rfl, Nat.le_of_ble_eq_true rfl⟩) ⟨pc_blind, va_recv hK hP (ci := 8) (q := (RX9, TX9, 6)) (q0 := 2) rfl rfl, fun U hU hW => ⟨rfl, hC66 U hU hW⟩⟩ rfl rfl hl.1 rfl (lv_room (Nat.le_of_ble_eq_true rfl)) dX9_showsIt_53 ⟨(Nat.le_of_ble_eq_true rfl), (Nat.le_of_ble_eq_true rfl)⟩) hS (fun q9 _ h9 => hF63 q9 h9) hF63 (fun r68 u67 t67 H67 L67 ht67 hvm67 hw67 hB67 hz67 hk67 hS => ?_)
  have hP := pq_keep hP hD [2, 4, 7, 9, 10, 11, 12, 13, 14, 15] rfl hk67 hB67.1 ht67
  have hG : s.heap.size + 23 ≤ H67.size := va_gr (g := 22) (g1 := 1) hG (by rw [← ht67]; exact hB67.2)
  refine W.eq (g2 := F0 m 56 ls [.int 0]) (by rw [hw67]) ?_
  refine W.widen (k := 23) (n := 236) (by decide) (by decide) ?_
  refine lv_if_eq (tgt := 119) hx hb dX9_showsIt_56 (by decide) (fun _ => ?_) (fun cz => absurd (by decide) cz)
  refine lv_iinc (v := 3) (lv' := [(7, .int 3), (6, .int 0), (5, .ref a31), (4, .ref a15), (0, .ref h0), (1, .int 0), (2, .int 48), (3, .int 0)]) hx hb dX9_showsIt_119 hl (k := 0) rfl (by decide) (by decide) rfl (fun ls hl => ?_)
  refine lv_goto (tgt := 33) hx hb dX9_showsIt_122 (by decide) ?_
  refine lv_iload hx hb dX9_showsIt_33 (lv_at hl 0 rfl) ?_
  refine lv_aload_n hx hb dX9_showsIt_35 rfl (lv_at hl 4 rfl) ?_
  refine va_get (D := (dC, dI)) (ci := 8) (v := .ref h1) (C := RX9) (T := TX9) (N := 6) hx hb hts in_X9 hown hK hP 2 rfl rfl 1 (by decide) (hts _ q_64) (fun _ h9 => h9) rfl dX9_showsIt_36 ?_
  have hM71 := k20_size l hl9 dC dI z h1 h4 H67.size 7 7
  obtain ⟨hF69, hC72⟩ := pc_M hM71 hP hD hK hS hX hT hA [4] [] rfl rfl rfl
  refine va_calli (va_runV (As := []) (rest := [.int 3]) ⟨hx, hb, hml, hown, hts⟩ hM71 (cwV 0 hts (gV q_272 q_77 q_78 q_12 q_75) rfl rfl rfl hV_Jx4a65c_size_8abf5 ⟨Nat.le_of_ble_eq_true rfl, Nat.le_of_ble_eq_true rfl⟩) ⟨pc_blind, va_recv hK hP (ci := 0) (q := (RJx4a65c, TJx4a65c, 3)) (q0 := 4) rfl rfl, fun U hU hW => ⟨rfl, hC72 U hU hW⟩⟩ rfl rfl hl.1 rfl (lv_room (Nat.le_of_ble_eq_true rfl)) dX9_showsIt_39 ⟨(Nat.le_of_ble_eq_true rfl), (Nat.le_of_ble_eq_true rfl)⟩) hS (fun q9 _ h9 => hF69 q9 h9) hF69 (fun r74 u73 t73 H73 L73 ht73 hvm73 hw73 hB73 hz73 hk73 hS => ?_)
  have hP := pq_keep hP hD [4] rfl hk73 hB73.1 ht73
  have hG : s.heap.size + 23 ≤ H73.size := Nat.le_trans hG hz73
  refine W.eq (g2 := F0 m 42 ls [.int 7, .int 3]) (by rw [hw73]) ?_
  refine lv_icmp_ge (tgt := 125) hx hb dX9_showsIt_42 (by decide) (fun cz => absurd cz (by decide)) (fun _ => ?_)
  refine lv_iload hx hb dX9_showsIt_45 (lv_at hl 1 rfl) ?_
  refine lv_if_ne (tgt := 125) hx hb dX9_showsIt_47 (by decide) (fun cz => absurd (by decide) cz) (fun _ => ?_)
  refine lv_aload_n hx hb dX9_showsIt_50 rfl (lv_at hl 4 rfl) ?_
  refine lv_iload hx hb dX9_showsIt_51 (lv_at hl 0 rfl) ?_
  have hM77 := k949_isLooked l hl9 dC dI z h0 h1 h4 h6 h7 h8 h9 h10 h11 h12 h2 o0 h3 H73.size kc0
  obtain ⟨hF75, hC78⟩ := pc_M hM77 hP hD hK hS hX hT hA [2, 4, 7, 9, 10, 11, 12, 13, 14, 15] [3] rfl rfl rfl
  refine va_calli (va_runV (As := [.int 3]) (rest := []) ⟨hx, hb, hml, hown, hts⟩ hM77 (cwV 1 hts (gV q_425 q_426 q_427 q_60 q_424) rfl rfl rfl hV_X9_isLooked ⟨Nat.le_of_ble_eq_true rfl, Nat.le_of_ble_eq_true rfl⟩) ⟨pc_blind, va_recv hK hP (ci := 8) (q := (RX9, TX9, 6)) (q0 := 2) rfl rfl, fun U hU hW => ⟨rfl, hC78 U hU hW⟩⟩ rfl rfl hl.1 rfl (lv_room (Nat.le_of_ble_eq_true rfl)) dX9_showsIt_53 ⟨(Nat.le_of_ble_eq_true rfl), (Nat.le_of_ble_eq_true rfl)⟩) hS (fun q9 _ h9 => hF75 q9 h9) hF75 (fun r80 u79 t79 H79 L79 ht79 hvm79 hw79 hB79 hz79 hk79 hS => ?_)
  have hP := pq_keep hP hD [2, 4, 7, 9, 10, 11, 12, 13, 14, 15] rfl hk79 hB79.1 ht79
  have hG : s.heap.size + 24 ≤ H79.size := va_gr (g := 23) (g1 := 1) hG (by rw [← ht79]; exact hB79.2)
  refine W.eq (g2 := F0 m 56 ls [.int 0]) (by rw [hw79]) ?_
  refine W.widen (k := 24) (n := 240) (by decide) (by decide) ?_
  refine lv_if_eq (tgt := 119) hx hb dX9_showsIt_56 (by decide) (fun _ => ?_) (fun cz => absurd (by decide) cz)
  refine lv_iinc (v := 4) (lv' := [(7, .int 4), (6, .int 0), (5, .ref a31), (4, .ref a15), (0, .ref h0), (1, .int 0), (2, .int 48), (3, .int 0)]) hx hb dX9_showsIt_119 hl (k := 0) rfl (by decide) (by decide) rfl (fun ls hl => ?_)
  refine lv_goto (tgt := 33) hx hb dX9_showsIt_122 (by decide) ?_
  refine lv_iload hx hb dX9_showsIt_33 (lv_at hl 0 rfl) ?_
  refine lv_aload_n hx hb dX9_showsIt_35 rfl (lv_at hl 4 rfl) ?_
  refine va_get (D := (dC, dI)) (ci := 8) (v := .ref h1) (C := RX9) (T := TX9) (N := 6) hx hb hts in_X9 hown hK hP 2 rfl rfl 1 (by decide) (hts _ q_64) (fun _ h9 => h9) rfl dX9_showsIt_36 ?_
  have hM83 := k20_size l hl9 dC dI z h1 h4 H79.size 7 7
  obtain ⟨hF81, hC84⟩ := pc_M hM83 hP hD hK hS hX hT hA [4] [] rfl rfl rfl
  refine va_calli (va_runV (As := []) (rest := [.int 4]) ⟨hx, hb, hml, hown, hts⟩ hM83 (cwV 0 hts (gV q_272 q_77 q_78 q_12 q_75) rfl rfl rfl hV_Jx4a65c_size_8abf5 ⟨Nat.le_of_ble_eq_true rfl, Nat.le_of_ble_eq_true rfl⟩) ⟨pc_blind, va_recv hK hP (ci := 0) (q := (RJx4a65c, TJx4a65c, 3)) (q0 := 4) rfl rfl, fun U hU hW => ⟨rfl, hC84 U hU hW⟩⟩ rfl rfl hl.1 rfl (lv_room (Nat.le_of_ble_eq_true rfl)) dX9_showsIt_39 ⟨(Nat.le_of_ble_eq_true rfl), (Nat.le_of_ble_eq_true rfl)⟩) hS (fun q9 _ h9 => hF81 q9 h9) hF81 (fun r86 u85 t85 H85 L85 ht85 hvm85 hw85 hB85 hz85 hk85 hS => ?_)
  have hP := pq_keep hP hD [4] rfl hk85 hB85.1 ht85
  have hG : s.heap.size + 24 ≤ H85.size := Nat.le_trans hG hz85
  refine W.eq (g2 := F0 m 42 ls [.int 7, .int 4]) (by rw [hw85]) ?_
  refine lv_icmp_ge (tgt := 125) hx hb dX9_showsIt_42 (by decide) (fun cz => absurd cz (by decide)) (fun _ => ?_)
  refine lv_iload hx hb dX9_showsIt_45 (lv_at hl 1 rfl) ?_
  refine lv_if_ne (tgt := 125) hx hb dX9_showsIt_47 (by decide) (fun cz => absurd (by decide) cz) (fun _ => ?_)
  refine lv_aload_n hx hb dX9_showsIt_50 rfl (lv_at hl 4 rfl) ?_
  refine lv_iload hx hb dX9_showsIt_51 (lv_at hl 0 rfl) ?_
  have hM89 := k950_isLooked l hl9 dC dI z h0 h1 h4 h6 h7 h8 h9 h10 h11 h12 h2 o0 h3 H85.size kc0
  obtain ⟨hF87, hC90⟩ := pc_M hM89 hP hD hK hS hX hT hA [2, 4, 7, 9, 10, 11, 12, 13, 14, 15] [3] rfl rfl rfl
  refine va_calli (va_runV (As := [.int 4]) (rest := []) ⟨hx, hb, hml, hown, hts⟩ hM89 (cwV 1 hts (gV q_425 q_426 q_427 q_60 q_424) rfl rfl rfl hV_X9_isLooked ⟨Nat.le_of_ble_eq_true rfl, Nat.le_of_ble_eq_true rfl⟩) ⟨pc_blind, va_recv hK hP (ci := 8) (q := (RX9, TX9, 6)) (q0 := 2) rfl rfl, fun U hU hW => ⟨rfl, hC90 U hU hW⟩⟩ rfl rfl hl.1 rfl (lv_room (Nat.le_of_ble_eq_true rfl)) dX9_showsIt_53 ⟨(Nat.le_of_ble_eq_true rfl), (Nat.le_of_ble_eq_true rfl)⟩) hS (fun q9 _ h9 => hF87 q9 h9) hF87 (fun r92 u91 t91 H91 L91 ht91 hvm91 hw91 hB91 hz91 hk91 hS => ?_)
  have hP := pq_keep hP hD [2, 4, 7, 9, 10, 11, 12, 13, 14, 15] rfl hk91 hB91.1 ht91
  have hG : s.heap.size + 25 ≤ H91.size := va_gr (g := 24) (g1 := 1) hG (by rw [← ht91]; exact hB91.2)
  refine W.eq (g2 := F0 m 56 ls [.int 0]) (by rw [hw91]) ?_
  refine W.widen (k := 25) (n := 244) (by decide) (by decide) ?_
  refine lv_if_eq (tgt := 119) hx hb dX9_showsIt_56 (by decide) (fun _ => ?_) (fun cz => absurd (by decide) cz)
  refine lv_iinc (v := 5) (lv' := [(7, .int 5), (6, .int 0), (5, .ref a31), (4, .ref a15), (0, .ref h0), (1, .int 0), (2, .int 48), (3, .int 0)]) hx hb dX9_showsIt_119 hl (k := 0) rfl (by decide) (by decide) rfl (fun ls hl => ?_)
  refine lv_goto (tgt := 33) hx hb dX9_showsIt_122 (by decide) ?_
  refine lv_iload hx hb dX9_showsIt_33 (lv_at hl 0 rfl) ?_
  refine lv_aload_n hx hb dX9_showsIt_35 rfl (lv_at hl 4 rfl) ?_
  refine va_get (D := (dC, dI)) (ci := 8) (v := .ref h1) (C := RX9) (T := TX9) (N := 6) hx hb hts in_X9 hown hK hP 2 rfl rfl 1 (by decide) (hts _ q_64) (fun _ h9 => h9) rfl dX9_showsIt_36 ?_
  have hM95 := k20_size l hl9 dC dI z h1 h4 H91.size 7 7
  obtain ⟨hF93, hC96⟩ := pc_M hM95 hP hD hK hS hX hT hA [4] [] rfl rfl rfl
  refine va_calli (va_runV (As := []) (rest := [.int 5]) ⟨hx, hb, hml, hown, hts⟩ hM95 (cwV 0 hts (gV q_272 q_77 q_78 q_12 q_75) rfl rfl rfl hV_Jx4a65c_size_8abf5 ⟨Nat.le_of_ble_eq_true rfl, Nat.le_of_ble_eq_true rfl⟩) ⟨pc_blind, va_recv hK hP (ci := 0) (q := (RJx4a65c, TJx4a65c, 3)) (q0 := 4) rfl rfl, fun U hU hW => ⟨rfl, hC96 U hU hW⟩⟩ rfl rfl hl.1 rfl (lv_room (Nat.le_of_ble_eq_true rfl)) dX9_showsIt_39 ⟨(Nat.le_of_ble_eq_true rfl), (Nat.le_of_ble_eq_true rfl)⟩) hS (fun q9 _ h9 => hF93 q9 h9) hF93 (fun r98 u97 t97 H97 L97 ht97 hvm97 hw97 hB97 hz97 hk97 hS => ?_)
  have hP := pq_keep hP hD [4] rfl hk97 hB97.1 ht97
  have hG : s.heap.size + 25 ≤ H97.size := Nat.le_trans hG hz97
  refine W.eq (g2 := F0 m 42 ls [.int 7, .int 5]) (by rw [hw97]) ?_
  refine lv_icmp_ge (tgt := 125) hx hb dX9_showsIt_42 (by decide) (fun cz => absurd cz (by decide)) (fun _ => ?_)
  refine lv_iload hx hb dX9_showsIt_45 (lv_at hl 1 rfl) ?_
  refine lv_if_ne (tgt := 125) hx hb dX9_showsIt_47 (by decide) (fun cz => absurd (by decide) cz) (fun _ => ?_)
  refine lv_aload_n hx hb dX9_showsIt_50 rfl (lv_at hl 4 rfl) ?_
  refine lv_iload hx hb dX9_showsIt_51 (lv_at hl 0 rfl) ?_
  have hM101 := k951_isLooked l hl9 dC dI z h0 h1 h4 h6 h7 h8 h9 h10 h11 h12 h2 o0 h3 H97.size kc0
  obtain ⟨hF99, hC102⟩ := pc_M hM101 hP hD hK hS hX hT hA [2, 4, 7, 9, 10, 11, 12, 13, 14, 15] [3] rfl rfl rfl
  refine va_calli (va_runV (As := [.int 5]) (rest := []) ⟨hx, hb, hml, hown, hts⟩ hM101 (cwV 1 hts (gV q_425 q_426 q_427 q_60 q_424) rfl rfl rfl hV_X9_isLooked ⟨Nat.le_of_ble_eq_true rfl, Nat.le_of_ble_eq_true rfl⟩) ⟨pc_blind, va_recv hK hP (ci := 8) (q := (RX9, TX9, 6)) (q0 := 2) rfl rfl, fun U hU hW => ⟨rfl, hC102 U hU hW⟩⟩ rfl rfl hl.1 rfl (lv_room (Nat.le_of_ble_eq_true rfl)) dX9_showsIt_53 ⟨(Nat.le_of_ble_eq_true rfl), (Nat.le_of_ble_eq_true rfl)⟩) hS (fun q9 _ h9 => hF99 q9 h9) hF99 (fun r104 u103 t103 H103 L103 ht103 hvm103 hw103 hB103 hz103 hk103 hS => ?_)
  have hP := pq_keep hP hD [2, 4, 7, 9, 10, 11, 12, 13, 14, 15] rfl hk103 hB103.1 ht103
  have hG : s.heap.size + 26 ≤ H103.size := va_gr (g := 25) (g1 := 1) hG (by rw [← ht103]; exact hB103.2)
  refine W.eq (g2 := F0 m 56 ls [.int 0]) (by rw [hw103]) ?_
  refine W.widen (k := 26) (n := 248) (by decide) (by decide) ?_
  refine lv_if_eq (tgt := 119) hx hb dX9_showsIt_56 (by decide) (fun _ => ?_) (fun cz => absurd (by decide) cz)
  refine lv_iinc (v := 6) (lv' := [(7, .int 6), (6, .int 0), (5, .ref a31), (4, .ref a15), (0, .ref h0), (1, .int 0), (2, .int 48), (3, .int 0)]) hx hb dX9_showsIt_119 hl (k := 0) rfl (by decide) (by decide) rfl (fun ls hl => ?_)
  refine lv_goto (tgt := 33) hx hb dX9_showsIt_122 (by decide) ?_
  refine lv_iload hx hb dX9_showsIt_33 (lv_at hl 0 rfl) ?_
  refine lv_aload_n hx hb dX9_showsIt_35 rfl (lv_at hl 4 rfl) ?_
  refine va_get (D := (dC, dI)) (ci := 8) (v := .ref h1) (C := RX9) (T := TX9) (N := 6) hx hb hts in_X9 hown hK hP 2 rfl rfl 1 (by decide) (hts _ q_64) (fun _ h9 => h9) rfl dX9_showsIt_36 ?_
  have hM107 := k20_size l hl9 dC dI z h1 h4 H103.size 7 7
  obtain ⟨hF105, hC108⟩ := pc_M hM107 hP hD hK hS hX hT hA [4] [] rfl rfl rfl
  refine va_calli (va_runV (As := []) (rest := [.int 6]) ⟨hx, hb, hml, hown, hts⟩ hM107 (cwV 0 hts (gV q_272 q_77 q_78 q_12 q_75) rfl rfl rfl hV_Jx4a65c_size_8abf5 ⟨Nat.le_of_ble_eq_true rfl, Nat.le_of_ble_eq_true rfl⟩) ⟨pc_blind, va_recv hK hP (ci := 0) (q := (RJx4a65c, TJx4a65c, 3)) (q0 := 4) rfl rfl, fun U hU hW => ⟨rfl, hC108 U hU hW⟩⟩ rfl rfl hl.1 rfl (lv_room (Nat.le_of_ble_eq_true rfl)) dX9_showsIt_39 ⟨(Nat.le_of_ble_eq_true rfl), (Nat.le_of_ble_eq_true rfl)⟩) hS (fun q9 _ h9 => hF105 q9 h9) hF105 (fun r110 u109 t109 H109 L109 ht109 hvm109 hw109 hB109 hz109 hk109 hS => ?_)
  have hP := pq_keep hP hD [4] rfl hk109 hB109.1 ht109
  have hG : s.heap.size + 26 ≤ H109.size := Nat.le_trans hG hz109
  refine W.eq (g2 := F0 m 42 ls [.int 7, .int 6]) (by rw [hw109]) ?_
  refine lv_icmp_ge (tgt := 125) hx hb dX9_showsIt_42 (by decide) (fun cz => absurd cz (by decide)) (fun _ => ?_)
  refine lv_iload hx hb dX9_showsIt_45 (lv_at hl 1 rfl) ?_
  refine lv_if_ne (tgt := 125) hx hb dX9_showsIt_47 (by decide) (fun cz => absurd (by decide) cz) (fun _ => ?_)
  refine lv_aload_n hx hb dX9_showsIt_50 rfl (lv_at hl 4 rfl) ?_
  refine lv_iload hx hb dX9_showsIt_51 (lv_at hl 0 rfl) ?_
  have hM113 := k952_isLooked l hl9 dC dI z h0 h1 h4 h6 h7 h8 h9 h10 h11 h12 h2 o0 h3 H109.size kc0
  obtain ⟨hF111, hC114⟩ := pc_M hM113 hP hD hK hS hX hT hA [2, 4, 7, 9, 10, 11, 12, 13, 14, 15] [3] rfl rfl rfl
  refine va_calli (va_runV (As := [.int 6]) (rest := []) ⟨hx, hb, hml, hown, hts⟩ hM113 (cwV 1 hts (gV q_425 q_426 q_427 q_60 q_424) rfl rfl rfl hV_X9_isLooked ⟨Nat.le_of_ble_eq_true rfl, Nat.le_of_ble_eq_true rfl⟩) ⟨pc_blind, va_recv hK hP (ci := 8) (q := (RX9, TX9, 6)) (q0 := 2) rfl rfl, fun U hU hW => ⟨rfl, hC114 U hU hW⟩⟩ rfl rfl hl.1 rfl (lv_room (Nat.le_of_ble_eq_true rfl)) dX9_showsIt_53 ⟨(Nat.le_of_ble_eq_true rfl), (Nat.le_of_ble_eq_true rfl)⟩) hS (fun q9 _ h9 => hF111 q9 h9) hF111 (fun r116 u115 t115 H115 L115 ht115 hvm115 hw115 hB115 hz115 hk115 hS => ?_)
  have hP := pq_keep hP hD [2, 4, 7, 9, 10, 11, 12, 13, 14, 15] rfl hk115 hB115.1 ht115
  have hG : s.heap.size + 27 ≤ H115.size := va_gr (g := 26) (g1 := 1) hG (by rw [← ht115]; exact hB115.2)
  refine W.eq (g2 := F0 m 56 ls [.int 0]) (by rw [hw115]) ?_
  refine W.widen (k := 27) (n := 252) (by decide) (by decide) ?_
  refine lv_if_eq (tgt := 119) hx hb dX9_showsIt_56 (by decide) (fun _ => ?_) (fun cz => absurd (by decide) cz)
  refine lv_iinc (v := 7) (lv' := [(7, .int 7), (6, .int 0), (5, .ref a31), (4, .ref a15), (0, .ref h0), (1, .int 0), (2, .int 48), (3, .int 0)]) hx hb dX9_showsIt_119 hl (k := 0) rfl (by decide) (by decide) rfl (fun ls hl => ?_)
  refine lv_goto (tgt := 33) hx hb dX9_showsIt_122 (by decide) ?_
  refine lv_iload hx hb dX9_showsIt_33 (lv_at hl 0 rfl) ?_
  refine lv_aload_n hx hb dX9_showsIt_35 rfl (lv_at hl 4 rfl) ?_
  refine va_get (D := (dC, dI)) (ci := 8) (v := .ref h1) (C := RX9) (T := TX9) (N := 6) hx hb hts in_X9 hown hK hP 2 rfl rfl 1 (by decide) (hts _ q_64) (fun _ h9 => h9) rfl dX9_showsIt_36 ?_
  have hM119 := k20_size l hl9 dC dI z h1 h4 H115.size 7 7
  obtain ⟨hF117, hC120⟩ := pc_M hM119 hP hD hK hS hX hT hA [4] [] rfl rfl rfl
  refine va_calli (va_runV (As := []) (rest := [.int 7]) ⟨hx, hb, hml, hown, hts⟩ hM119 (cwV 0 hts (gV q_272 q_77 q_78 q_12 q_75) rfl rfl rfl hV_Jx4a65c_size_8abf5 ⟨Nat.le_of_ble_eq_true rfl, Nat.le_of_ble_eq_true rfl⟩) ⟨pc_blind, va_recv hK hP (ci := 0) (q := (RJx4a65c, TJx4a65c, 3)) (q0 := 4) rfl rfl, fun U hU hW => ⟨rfl, hC120 U hU hW⟩⟩ rfl rfl hl.1 rfl (lv_room (Nat.le_of_ble_eq_true rfl)) dX9_showsIt_39 ⟨(Nat.le_of_ble_eq_true rfl), (Nat.le_of_ble_eq_true rfl)⟩) hS (fun q9 _ h9 => hF117 q9 h9) hF117 (fun r122 u121 t121 H121 L121 ht121 hvm121 hw121 hB121 hz121 hk121 hS => ?_)
  have hP := pq_keep hP hD [4] rfl hk121 hB121.1 ht121
  have hG : s.heap.size + 27 ≤ H121.size := Nat.le_trans hG hz121
  refine W.eq (g2 := F0 m 42 ls [.int 7, .int 7]) (by rw [hw121]) ?_
  refine lv_icmp_ge (tgt := 125) hx hb dX9_showsIt_42 (by decide) (fun _ => ?_) (fun cz => absurd (by decide) cz)
  refine lv_iload hx hb dX9_showsIt_125 (lv_at hl 1 rfl) ?_
  exact W.zret (v := 0) (ty := .boolean) hx hb hr rfl (fun t9 ht9 hW9 => ⟨⟨0, (), rfl, rfl, ⟨pq_mk2 hP hD hK [2, 4, 5, 6, 7, 8, 9, 10, 11, 12, 13, 14, 15] [3, 4] rfl rfl rfl ht9 hW9, by rw [ht9]; exact Nat.le_trans (Nat.add_le_add_left (Nat.le_of_ble_eq_true rfl) _) hG⟩⟩, hS.F ht9⟩) hS.2.2 dX9_showsIt_127

set_option maxHeartbeats 4000000 in
set_option maxRecDepth 100000 in
theorem k954_next (l : Launch) (hl9 : l.stackTraces = false) (dC : Nat → ClassId) (dI : Nat → Nat → Nat) (z : XZ) (h0 h1 h2 : Nat) (sz : Nat) (kc0 : ClassId) : Met l yJx35411_next_0502b (.code yJx35411_next_0502b cJx35411_next_0502b 3 (some (.object "java/lang/Object")) :: wsL_law) ({ frames := 1, cells := 0, slots := 0, locals := 20 }) (va_Pc [.ref h0] (PC (dC, dI) [(h0, ce372 h1), (h1, ce331 h2), (h2, ce330 kc0 (z.2.2.1 128) (z.2.2.1 128) (z.2.2.1 128) (z.2.2.1 128) (z.2.2.1 128) (z.2.2.1 128) (z.2.2.1 128))] [(kc0, .object "java/lang/Object")] sz z)) (va_Qr (fun (_ : Unit) => True) (fun (_ : Unit) (ra : Nat) (t : State) => ra = (z.2.2.1 128) ∧ PG (dC, dI) [(h0, ce374 h1), (h1, ce331 h2), (h2, ce330 kc0 (z.2.2.1 128) (z.2.2.1 128) (z.2.2.1 128) (z.2.2.1 128) (z.2.2.1 128) (z.2.2.1 128) (z.2.2.1 128))] [(kc0, .object "java/lang/Object")] (va_A [(h0, ce372 h1), (h1, ce331 h2), (h2, ce330 kc0 (z.2.2.1 128) (z.2.2.1 128) (z.2.2.1 128) (z.2.2.1 128) (z.2.2.1 128) (z.2.2.1 128) (z.2.2.1 128))] sz) sz 0 t) (va_A [(h0, ce372 h1), (h1, ce331 h2), (h2, ce330 kc0 (z.2.2.1 128) (z.2.2.1 128) (z.2.2.1 128) (z.2.2.1 128) (z.2.2.1 128) (z.2.2.1 128) (z.2.2.1 128))] sz)) 0 0 (va_A [(h0, ce372 h1), (h1, ce331 h2), (h2, ce330 kc0 (z.2.2.1 128) (z.2.2.1 128) (z.2.2.1 128) (z.2.2.1 128) (z.2.2.1 128) (z.2.2.1 128) (z.2.2.1 128))] sz) := by
  refine Met.ofW (cc := cJx35411_next_0502b) (maxL := 3) (ret := (some (.object "java/lang/Object"))) (by decide) rfl ?_
  intro p e s m args below meth c s₁ B hml hv
  obtain ⟨rfl, hsz, hP, hK, hD0, hX, hT⟩ := hv
  have hx := B.exec
  have hb := B.bytes
  have hr := B.returns
  have hts0 := atoms_spec (ws := .code yJx35411_next_0502b cJx35411_next_0502b 3 (some (.object "java/lang/Object")) :: wsL_law) B.pre
  have hts := xTail hts0
  have hown : s.vm.findClass RJx35411 = some m.cls := xown B.named rfl
  have hlocks := B.notSynchronized
  subst hsz
  have hD := hD0.self (sz := s.heap.size)
  generalize hAe : va_A [(h0, ce372 h1), (h1, ce331 h2), (h2, ce330 kc0 (z.2.2.1 128) (z.2.2.1 128) (z.2.2.1 128) (z.2.2.1 128) (z.2.2.1 128) (z.2.2.1 128) (z.2.2.1 128))] s.heap.size = A at hD hX ⊢
  have hA : ∀ q : Nat, s.heap.size ≤ q → A q := fun q h => by rw [← hAe]; exact Or.inr h
  have hS : va_S A s.heap s.heap [] := va_S.rf
  have hG : s.heap.size + 0 ≤ s.heap.size := Nat.le_refl _
  have hl := lv_entry ([.ref h0]) (n := 3) (Nat.le_of_ble_eq_true rfl)
  rw [lg_entry_eq]
  generalize (lg_sl ([.ref h0]) ++ List.replicate (3 - (lg_sl ([.ref h0])).length) Slot.unset).toArray = ls at hl ⊢
  have hl : lv_has ls 3 [(0, .ref h0)] := hl
  refine lv_aload_n hx hb dJx35411_next_0502b_0 rfl (lv_at hl 0 rfl) ?_
  have hM3 := k729_checkForComodification l hl9 dC dI z h0 h1 h2 s.heap.size
  obtain ⟨hF1, hC4⟩ := pc_M hM3 hP hD hK hS hX hT hA [0, 1] [] rfl rfl rfl
  refine va_callv (va_runV (As := []) (rest := []) ⟨hx, hb, hml, hown, hts⟩ hM3 (cwV 0 hts (gV q_303 q_304 q_305 q_246 q_302) rfl rfl rfl hV_Jx35411_checkForComodification_da8c8 ⟨Nat.le_of_ble_eq_true rfl, Nat.le_of_ble_eq_true rfl⟩) ⟨pc_blind, va_recv hK hP (ci := 1) (q := (RJx35411, TJx35411, 4)) (q0 := 0) rfl rfl, fun U hU hW => ⟨rfl, hC4 U hU hW⟩⟩ rfl rfl hl.1 rfl (lv_room (Nat.le_of_ble_eq_true rfl)) dJx35411_next_0502b_1 ⟨(Nat.le_of_ble_eq_true rfl), (Nat.le_of_ble_eq_true rfl)⟩) hS (fun q9 _ h9 => hF1 q9 h9) hF1 (fun u5 t5 H5 L5 ht5 hvm5 hw5 hB5 hz5 hk5 hS => ?_)
  have hP := pq_keep hP hD [0, 1] rfl hk5 hB5.1 ht5
  have hG : s.heap.size + 0 ≤ H5.size := Nat.le_trans hG hz5
  refine lv_aload_n hx hb dJx35411_next_0502b_4 rfl (lv_at hl 0 rfl) ?_
  refine va_get (D := (dC, dI)) (ci := 1) (v := .int 1) (C := RJx35411) (T := TJx35411) (N := 4) hx hb hts in_Jx35411 hown hK hP 0 rfl rfl 0 (by decide) (hts _ q_259) (fun _ h9 => h9) rfl dJx35411_next_0502b_5 ?_
  refine lv_istore_n (lv' := [(1, .int 1), (0, .ref h0)]) hx hb dJx35411_next_0502b_8 rfl hl (by decide) rfl (fun ls hl => ?_)
  refine lv_iload_n hx hb dJx35411_next_0502b_9 rfl (lv_at hl 0 rfl) ?_
  refine lv_aload_n hx hb dJx35411_next_0502b_10 rfl (lv_at hl 1 rfl) ?_
  refine va_get (D := (dC, dI)) (ci := 1) (v := .ref h1) (C := RJx35411) (T := TJx35411) (N := 4) hx hb hts in_Jx35411 hown hK hP 0 rfl rfl 3 (by decide) (hts _ q_247) (fun _ h9 => h9) rfl dJx35411_next_0502b_11 ?_
  refine va_getN (D := (dC, dI)) (ci := 0) (v := .int 7) (C := RJx4a65c) (T := TJx4a65c) (N := 3) hx hb hts in_Jx4a65c hown hK hP 1 rfl rfl 2 (by decide) (va_Nw.use rfl hT.2.2.2.2.1) (fun _ h9 => h9) rfl dJx35411_next_0502b_14 ?_
  refine lv_icmp_lt (tgt := 28) hx hb dJx35411_next_0502b_17 (by decide) (fun _ => ?_) (fun cz => absurd (by decide) cz)
  refine lv_aload_n hx hb dJx35411_next_0502b_28 rfl (lv_at hl 1 rfl) ?_
  refine va_get (D := (dC, dI)) (ci := 1) (v := .ref h1) (C := RJx35411) (T := TJx35411) (N := 4) hx hb hts in_Jx35411 hown hK hP 0 rfl rfl 3 (by decide) (hts _ q_247) (fun _ h9 => h9) rfl dJx35411_next_0502b_29 ?_
  refine va_get (D := (dC, dI)) (ci := 0) (v := .ref h2) (C := RJx4a65c) (T := TJx4a65c) (N := 3) hx hb hts in_Jx4a65c hown hK hP 1 rfl rfl 1 (by decide) (hts _ q_306) (fun _ h9 => h9) rfl dJx35411_next_0502b_32 ?_
  refine lv_astore_n (lv' := [(2, .ref h2), (1, .int 1), (0, .ref h0)]) hx hb dJx35411_next_0502b_35 rfl hl (by decide) rfl (fun ls hl => ?_)
  refine lv_iload_n hx hb dJx35411_next_0502b_36 rfl (lv_at hl 1 rfl) ?_
  refine lv_aload_n hx hb dJx35411_next_0502b_37 rfl (lv_at hl 0 rfl) ?_
  refine va_alen hx hb hK hP 2 0 rfl rfl (v := 10) rfl dJx35411_next_0502b_38 ?_
  refine lv_icmp_lt (tgt := 50) hx hb dJx35411_next_0502b_39 (by decide) (fun _ => ?_) (fun cz => absurd (by decide) cz)
  refine lv_aload_n hx hb dJx35411_next_0502b_50 rfl (lv_at hl 2 rfl) ?_
  refine lv_iload_n hx hb dJx35411_next_0502b_51 rfl (lv_at hl 1 rfl) ?_
  refine lv_iconst (v := 1) hx hb dJx35411_next_0502b_52 (by decide) ?_
  refine lv_iadd hx hb dJx35411_next_0502b_53 ?_
  refine lv_topi (fun y7 ey7 => ?_)
  obtain rfl : y7 = 2 := ey7.trans (by decide)
  refine va_put (D := (dC, dI)) (ci := 1) (v := .int 2) (ty := .int) (C := RJx35411) (T := TJx35411) (N := 4) hx hb hts in_Jx35411 tyJx35411 tyJx35411_ok nmJx35411 hown hK hP hD (va_Sre hS) 0 rfl rfl 0 (by decide) (hts _ q_259) (fun _ h9 => h9) rfl (by decide +kernel) rfl rfl (Nat.le_of_ble_eq_true rfl) dJx35411_next_0502b_54 (fun H8 _ hP hD hS' => ?_)
  have hG : s.heap.size + 0 ≤ H8.size := Nat.le_trans hG hS'.1
  have hS := va_Str hS hS'
  have hP : va_P (dC, dI) xCl [(h0, ce373 h1), (h1, ce331 h2), (h2, ce330 kc0 (z.2.2.1 128) (z.2.2.1 128) (z.2.2.1 128) (z.2.2.1 128) (z.2.2.1 128) (z.2.2.1 128) (z.2.2.1 128))] H8 := hP
  have hD := vd_as hP hD rfl
  refine lv_aload_n hx hb dJx35411_next_0502b_57 rfl (lv_at hl 0 rfl) ?_
  refine lv_aload_n hx hb dJx35411_next_0502b_58 rfl (lv_at hl 2 rfl) ?_
  refine lv_iload_n hx hb dJx35411_next_0502b_59 rfl (lv_at hl 1 rfl) ?_
  refine lv_dup_x1 hx hb dJx35411_next_0502b_60 rfl rfl ?_
  refine va_put (D := (dC, dI)) (ci := 1) (v := .int 1) (ty := .int) (C := RJx35411) (T := TJx35411) (N := 4) hx hb hts in_Jx35411 tyJx35411 tyJx35411_ok nmJx35411 hown hK hP hD (va_Sre hS) 0 rfl rfl 1 (by decide) (hts _ q_249) (fun _ h9 => h9) rfl (by decide +kernel) rfl rfl (Nat.le_of_ble_eq_true rfl) dJx35411_next_0502b_61 (fun H9 _ hP hD hS' => ?_)
  have hG : s.heap.size + 0 ≤ H9.size := Nat.le_trans hG hS'.1
  have hS := va_Str hS hS'
  have hP : va_P (dC, dI) xCl [(h0, ce374 h1), (h1, ce331 h2), (h2, ce330 kc0 (z.2.2.1 128) (z.2.2.1 128) (z.2.2.1 128) (z.2.2.1 128) (z.2.2.1 128) (z.2.2.1 128) (z.2.2.1 128))] H9 := hP
  have hD := vd_as hP hD rfl
  refine va_aldq hx hb hK hP 2 0 rfl rfl (i := 1) (by unfold vp_in; decide) dJx35411_next_0502b_64 ?_
  refine W.eq (g2 := F0 m 65 ls [.ref (z.2.2.1 128)]) rfl ?_
  exact W.aret (v := .ref (z.2.2.1 128)) hx hb hr (by first | exact Or.inl ⟨_, rfl⟩ | exact Or.inr ⟨_, rfl⟩) (Or.inr ⟨_, rfl⟩) (fun t9 ht9 hW9 => ⟨⟨(), (z.2.2.1 128), rfl, trivial, ⟨rfl, ⟨pq_mk2 hP hD hK [0, 1, 2] [0] rfl rfl rfl ht9 hW9, by rw [ht9]; exact Nat.le_trans (Nat.add_le_add_left (Nat.le_of_ble_eq_true rfl) _) hG⟩⟩⟩, hS.F ht9⟩) hS.2.2 dJx35411_next_0502b_65

set_option maxHeartbeats 4000000 in
set_option maxRecDepth 100000 in
theorem k955_next (l : Launch) (hl9 : l.stackTraces = false) (dC : Nat → ClassId) (dI : Nat → Nat → Nat) (z : XZ) (h0 h1 h2 : Nat) (sz : Nat) (kc0 : ClassId) : Met l yJx35411_next_0502b (.code yJx35411_next_0502b cJx35411_next_0502b 3 (some (.object "java/lang/Object")) :: wsL_law) ({ frames := 1, cells := 0, slots := 0, locals := 20 }) (va_Pc [.ref h0] (PC (dC, dI) [(h0, ce374 h1), (h1, ce331 h2), (h2, ce330 kc0 (z.2.2.1 128) (z.2.2.1 128) (z.2.2.1 128) (z.2.2.1 128) (z.2.2.1 128) (z.2.2.1 128) (z.2.2.1 128))] [(kc0, .object "java/lang/Object")] sz z)) (va_Qr (fun (_ : Unit) => True) (fun (_ : Unit) (ra : Nat) (t : State) => ra = (z.2.2.1 128) ∧ PG (dC, dI) [(h0, ce376 h1), (h1, ce331 h2), (h2, ce330 kc0 (z.2.2.1 128) (z.2.2.1 128) (z.2.2.1 128) (z.2.2.1 128) (z.2.2.1 128) (z.2.2.1 128) (z.2.2.1 128))] [(kc0, .object "java/lang/Object")] (va_A [(h0, ce374 h1), (h1, ce331 h2), (h2, ce330 kc0 (z.2.2.1 128) (z.2.2.1 128) (z.2.2.1 128) (z.2.2.1 128) (z.2.2.1 128) (z.2.2.1 128) (z.2.2.1 128))] sz) sz 0 t) (va_A [(h0, ce374 h1), (h1, ce331 h2), (h2, ce330 kc0 (z.2.2.1 128) (z.2.2.1 128) (z.2.2.1 128) (z.2.2.1 128) (z.2.2.1 128) (z.2.2.1 128) (z.2.2.1 128))] sz)) 0 0 (va_A [(h0, ce374 h1), (h1, ce331 h2), (h2, ce330 kc0 (z.2.2.1 128) (z.2.2.1 128) (z.2.2.1 128) (z.2.2.1 128) (z.2.2.1 128) (z.2.2.1 128) (z.2.2.1 128))] sz) := by
  refine Met.ofW (cc := cJx35411_next_0502b) (maxL := 3) (ret := (some (.object "java/lang/Object"))) (by decide) rfl ?_
  intro p e s m args below meth c s₁ B hml hv
  obtain ⟨rfl, hsz, hP, hK, hD0, hX, hT⟩ := hv
  have hx := B.exec
  have hb := B.bytes
  have hr := B.returns
  have hts0 := atoms_spec (ws := .code yJx35411_next_0502b cJx35411_next_0502b 3 (some (.object "java/lang/Object")) :: wsL_law) B.pre
  have hts := xTail hts0
  have hown : s.vm.findClass RJx35411 = some m.cls := xown B.named rfl
  have hlocks := B.notSynchronized
  subst hsz
  have hD := hD0.self (sz := s.heap.size)
  generalize hAe : va_A [(h0, ce374 h1), (h1, ce331 h2), (h2, ce330 kc0 (z.2.2.1 128) (z.2.2.1 128) (z.2.2.1 128) (z.2.2.1 128) (z.2.2.1 128) (z.2.2.1 128) (z.2.2.1 128))] s.heap.size = A at hD hX ⊢
  have hA : ∀ q : Nat, s.heap.size ≤ q → A q := fun q h => by rw [← hAe]; exact Or.inr h
  have hS : va_S A s.heap s.heap [] := va_S.rf
  have hG : s.heap.size + 0 ≤ s.heap.size := Nat.le_refl _
  have hl := lv_entry ([.ref h0]) (n := 3) (Nat.le_of_ble_eq_true rfl)
  rw [lg_entry_eq]
  generalize (lg_sl ([.ref h0]) ++ List.replicate (3 - (lg_sl ([.ref h0])).length) Slot.unset).toArray = ls at hl ⊢
  have hl : lv_has ls 3 [(0, .ref h0)] := hl
  refine lv_aload_n hx hb dJx35411_next_0502b_0 rfl (lv_at hl 0 rfl) ?_
  have hM3 := k732_checkForComodification l hl9 dC dI z h0 h1 h2 s.heap.size
  obtain ⟨hF1, hC4⟩ := pc_M hM3 hP hD hK hS hX hT hA [0, 1] [] rfl rfl rfl
  refine va_callv (va_runV (As := []) (rest := []) ⟨hx, hb, hml, hown, hts⟩ hM3 (cwV 0 hts (gV q_303 q_304 q_305 q_246 q_302) rfl rfl rfl hV_Jx35411_checkForComodification_da8c8 ⟨Nat.le_of_ble_eq_true rfl, Nat.le_of_ble_eq_true rfl⟩) ⟨pc_blind, va_recv hK hP (ci := 1) (q := (RJx35411, TJx35411, 4)) (q0 := 0) rfl rfl, fun U hU hW => ⟨rfl, hC4 U hU hW⟩⟩ rfl rfl hl.1 rfl (lv_room (Nat.le_of_ble_eq_true rfl)) dJx35411_next_0502b_1 ⟨(Nat.le_of_ble_eq_true rfl), (Nat.le_of_ble_eq_true rfl)⟩) hS (fun q9 _ h9 => hF1 q9 h9) hF1 (fun u5 t5 H5 L5 ht5 hvm5 hw5 hB5 hz5 hk5 hS => ?_)
  have hP := pq_keep hP hD [0, 1] rfl hk5 hB5.1 ht5
  have hG : s.heap.size + 0 ≤ H5.size := Nat.le_trans hG hz5
  refine lv_aload_n hx hb dJx35411_next_0502b_4 rfl (lv_at hl 0 rfl) ?_
  refine va_get (D := (dC, dI)) (ci := 1) (v := .int 2) (C := RJx35411) (T := TJx35411) (N := 4) hx hb hts in_Jx35411 hown hK hP 0 rfl rfl 0 (by decide) (hts _ q_259) (fun _ h9 => h9) rfl dJx35411_next_0502b_5 ?_
  refine lv_istore_n (lv' := [(1, .int 2), (0, .ref h0)]) hx hb dJx35411_next_0502b_8 rfl hl (by decide) rfl (fun ls hl => ?_)
  refine lv_iload_n hx hb dJx35411_next_0502b_9 rfl (lv_at hl 0 rfl) ?_
  refine lv_aload_n hx hb dJx35411_next_0502b_10 rfl (lv_at hl 1 rfl) ?_
  refine va_get (D := (dC, dI)) (ci := 1) (v := .ref h1) (C := RJx35411) (T := TJx35411) (N := 4) hx hb hts in_Jx35411 hown hK hP 0 rfl rfl 3 (by decide) (hts _ q_247) (fun _ h9 => h9) rfl dJx35411_next_0502b_11 ?_
  refine va_getN (D := (dC, dI)) (ci := 0) (v := .int 7) (C := RJx4a65c) (T := TJx4a65c) (N := 3) hx hb hts in_Jx4a65c hown hK hP 1 rfl rfl 2 (by decide) (va_Nw.use rfl hT.2.2.2.2.1) (fun _ h9 => h9) rfl dJx35411_next_0502b_14 ?_
  refine lv_icmp_lt (tgt := 28) hx hb dJx35411_next_0502b_17 (by decide) (fun _ => ?_) (fun cz => absurd (by decide) cz)
  refine lv_aload_n hx hb dJx35411_next_0502b_28 rfl (lv_at hl 1 rfl) ?_
  refine va_get (D := (dC, dI)) (ci := 1) (v := .ref h1) (C := RJx35411) (T := TJx35411) (N := 4) hx hb hts in_Jx35411 hown hK hP 0 rfl rfl 3 (by decide) (hts _ q_247) (fun _ h9 => h9) rfl dJx35411_next_0502b_29 ?_
  refine va_get (D := (dC, dI)) (ci := 0) (v := .ref h2) (C := RJx4a65c) (T := TJx4a65c) (N := 3) hx hb hts in_Jx4a65c hown hK hP 1 rfl rfl 1 (by decide) (hts _ q_306) (fun _ h9 => h9) rfl dJx35411_next_0502b_32 ?_
  refine lv_astore_n (lv' := [(2, .ref h2), (1, .int 2), (0, .ref h0)]) hx hb dJx35411_next_0502b_35 rfl hl (by decide) rfl (fun ls hl => ?_)
  refine lv_iload_n hx hb dJx35411_next_0502b_36 rfl (lv_at hl 1 rfl) ?_
  refine lv_aload_n hx hb dJx35411_next_0502b_37 rfl (lv_at hl 0 rfl) ?_
  refine va_alen hx hb hK hP 2 0 rfl rfl (v := 10) rfl dJx35411_next_0502b_38 ?_
  refine lv_icmp_lt (tgt := 50) hx hb dJx35411_next_0502b_39 (by decide) (fun _ => ?_) (fun cz => absurd (by decide) cz)
  refine lv_aload_n hx hb dJx35411_next_0502b_50 rfl (lv_at hl 2 rfl) ?_
  refine lv_iload_n hx hb dJx35411_next_0502b_51 rfl (lv_at hl 1 rfl) ?_
  refine lv_iconst (v := 1) hx hb dJx35411_next_0502b_52 (by decide) ?_
  refine lv_iadd hx hb dJx35411_next_0502b_53 ?_
  refine lv_topi (fun y7 ey7 => ?_)
  obtain rfl : y7 = 3 := ey7.trans (by decide)
  refine va_put (D := (dC, dI)) (ci := 1) (v := .int 3) (ty := .int) (C := RJx35411) (T := TJx35411) (N := 4) hx hb hts in_Jx35411 tyJx35411 tyJx35411_ok nmJx35411 hown hK hP hD (va_Sre hS) 0 rfl rfl 0 (by decide) (hts _ q_259) (fun _ h9 => h9) rfl (by decide +kernel) rfl rfl (Nat.le_of_ble_eq_true rfl) dJx35411_next_0502b_54 (fun H8 _ hP hD hS' => ?_)
  have hG : s.heap.size + 0 ≤ H8.size := Nat.le_trans hG hS'.1
  have hS := va_Str hS hS'
  have hP : va_P (dC, dI) xCl [(h0, ce375 h1), (h1, ce331 h2), (h2, ce330 kc0 (z.2.2.1 128) (z.2.2.1 128) (z.2.2.1 128) (z.2.2.1 128) (z.2.2.1 128) (z.2.2.1 128) (z.2.2.1 128))] H8 := hP
  have hD := vd_as hP hD rfl
  refine lv_aload_n hx hb dJx35411_next_0502b_57 rfl (lv_at hl 0 rfl) ?_
  refine lv_aload_n hx hb dJx35411_next_0502b_58 rfl (lv_at hl 2 rfl) ?_
  refine lv_iload_n hx hb dJx35411_next_0502b_59 rfl (lv_at hl 1 rfl) ?_
  refine lv_dup_x1 hx hb dJx35411_next_0502b_60 rfl rfl ?_
  refine va_put (D := (dC, dI)) (ci := 1) (v := .int 2) (ty := .int) (C := RJx35411) (T := TJx35411) (N := 4) hx hb hts in_Jx35411 tyJx35411 tyJx35411_ok nmJx35411 hown hK hP hD (va_Sre hS) 0 rfl rfl 1 (by decide) (hts _ q_249) (fun _ h9 => h9) rfl (by decide +kernel) rfl rfl (Nat.le_of_ble_eq_true rfl) dJx35411_next_0502b_61 (fun H9 _ hP hD hS' => ?_)
  have hG : s.heap.size + 0 ≤ H9.size := Nat.le_trans hG hS'.1
  have hS := va_Str hS hS'
  have hP : va_P (dC, dI) xCl [(h0, ce376 h1), (h1, ce331 h2), (h2, ce330 kc0 (z.2.2.1 128) (z.2.2.1 128) (z.2.2.1 128) (z.2.2.1 128) (z.2.2.1 128) (z.2.2.1 128) (z.2.2.1 128))] H9 := hP
  have hD := vd_as hP hD rfl
  refine va_aldq hx hb hK hP 2 0 rfl rfl (i := 2) (by unfold vp_in; decide) dJx35411_next_0502b_64 ?_
  refine W.eq (g2 := F0 m 65 ls [.ref (z.2.2.1 128)]) rfl ?_
  exact W.aret (v := .ref (z.2.2.1 128)) hx hb hr (by first | exact Or.inl ⟨_, rfl⟩ | exact Or.inr ⟨_, rfl⟩) (Or.inr ⟨_, rfl⟩) (fun t9 ht9 hW9 => ⟨⟨(), (z.2.2.1 128), rfl, trivial, ⟨rfl, ⟨pq_mk2 hP hD hK [0, 1, 2] [0] rfl rfl rfl ht9 hW9, by rw [ht9]; exact Nat.le_trans (Nat.add_le_add_left (Nat.le_of_ble_eq_true rfl) _) hG⟩⟩⟩, hS.F ht9⟩) hS.2.2 dJx35411_next_0502b_65

set_option maxHeartbeats 4000000 in
set_option maxRecDepth 100000 in
theorem k956_next (l : Launch) (hl9 : l.stackTraces = false) (dC : Nat → ClassId) (dI : Nat → Nat → Nat) (z : XZ) (h0 h1 h2 : Nat) (sz : Nat) (kc0 : ClassId) : Met l yJx35411_next_0502b (.code yJx35411_next_0502b cJx35411_next_0502b 3 (some (.object "java/lang/Object")) :: wsL_law) ({ frames := 1, cells := 0, slots := 0, locals := 20 }) (va_Pc [.ref h0] (PC (dC, dI) [(h0, ce376 h1), (h1, ce331 h2), (h2, ce330 kc0 (z.2.2.1 128) (z.2.2.1 128) (z.2.2.1 128) (z.2.2.1 128) (z.2.2.1 128) (z.2.2.1 128) (z.2.2.1 128))] [(kc0, .object "java/lang/Object")] sz z)) (va_Qr (fun (_ : Unit) => True) (fun (_ : Unit) (ra : Nat) (t : State) => ra = (z.2.2.1 128) ∧ PG (dC, dI) [(h0, ce378 h1), (h1, ce331 h2), (h2, ce330 kc0 (z.2.2.1 128) (z.2.2.1 128) (z.2.2.1 128) (z.2.2.1 128) (z.2.2.1 128) (z.2.2.1 128) (z.2.2.1 128))] [(kc0, .object "java/lang/Object")] (va_A [(h0, ce376 h1), (h1, ce331 h2), (h2, ce330 kc0 (z.2.2.1 128) (z.2.2.1 128) (z.2.2.1 128) (z.2.2.1 128) (z.2.2.1 128) (z.2.2.1 128) (z.2.2.1 128))] sz) sz 0 t) (va_A [(h0, ce376 h1), (h1, ce331 h2), (h2, ce330 kc0 (z.2.2.1 128) (z.2.2.1 128) (z.2.2.1 128) (z.2.2.1 128) (z.2.2.1 128) (z.2.2.1 128) (z.2.2.1 128))] sz)) 0 0 (va_A [(h0, ce376 h1), (h1, ce331 h2), (h2, ce330 kc0 (z.2.2.1 128) (z.2.2.1 128) (z.2.2.1 128) (z.2.2.1 128) (z.2.2.1 128) (z.2.2.1 128) (z.2.2.1 128))] sz) := by
  refine Met.ofW (cc := cJx35411_next_0502b) (maxL := 3) (ret := (some (.object "java/lang/Object"))) (by decide) rfl ?_
  intro p e s m args below meth c s₁ B hml hv
  obtain ⟨rfl, hsz, hP, hK, hD0, hX, hT⟩ := hv
  have hx := B.exec
  have hb := B.bytes
  have hr := B.returns
  have hts0 := atoms_spec (ws := .code yJx35411_next_0502b cJx35411_next_0502b 3 (some (.object "java/lang/Object")) :: wsL_law) B.pre
  have hts := xTail hts0
  have hown : s.vm.findClass RJx35411 = some m.cls := xown B.named rfl
  have hlocks := B.notSynchronized
  subst hsz
  have hD := hD0.self (sz := s.heap.size)
  generalize hAe : va_A [(h0, ce376 h1), (h1, ce331 h2), (h2, ce330 kc0 (z.2.2.1 128) (z.2.2.1 128) (z.2.2.1 128) (z.2.2.1 128) (z.2.2.1 128) (z.2.2.1 128) (z.2.2.1 128))] s.heap.size = A at hD hX ⊢
  have hA : ∀ q : Nat, s.heap.size ≤ q → A q := fun q h => by rw [← hAe]; exact Or.inr h
  have hS : va_S A s.heap s.heap [] := va_S.rf
  have hG : s.heap.size + 0 ≤ s.heap.size := Nat.le_refl _
  have hl := lv_entry ([.ref h0]) (n := 3) (Nat.le_of_ble_eq_true rfl)
  rw [lg_entry_eq]
  generalize (lg_sl ([.ref h0]) ++ List.replicate (3 - (lg_sl ([.ref h0])).length) Slot.unset).toArray = ls at hl ⊢
  have hl : lv_has ls 3 [(0, .ref h0)] := hl
  refine lv_aload_n hx hb dJx35411_next_0502b_0 rfl (lv_at hl 0 rfl) ?_
  have hM3 := k735_checkForComodification l hl9 dC dI z h0 h1 h2 s.heap.size
  obtain ⟨hF1, hC4⟩ := pc_M hM3 hP hD hK hS hX hT hA [0, 1] [] rfl rfl rfl
  refine va_callv (va_runV (As := []) (rest := []) ⟨hx, hb, hml, hown, hts⟩ hM3 (cwV 0 hts (gV q_303 q_304 q_305 q_246 q_302) rfl rfl rfl hV_Jx35411_checkForComodification_da8c8 ⟨Nat.le_of_ble_eq_true rfl, Nat.le_of_ble_eq_true rfl⟩) ⟨pc_blind, va_recv hK hP (ci := 1) (q := (RJx35411, TJx35411, 4)) (q0 := 0) rfl rfl, fun U hU hW => ⟨rfl, hC4 U hU hW⟩⟩ rfl rfl hl.1 rfl (lv_room (Nat.le_of_ble_eq_true rfl)) dJx35411_next_0502b_1 ⟨(Nat.le_of_ble_eq_true rfl), (Nat.le_of_ble_eq_true rfl)⟩) hS (fun q9 _ h9 => hF1 q9 h9) hF1 (fun u5 t5 H5 L5 ht5 hvm5 hw5 hB5 hz5 hk5 hS => ?_)
  have hP := pq_keep hP hD [0, 1] rfl hk5 hB5.1 ht5
  have hG : s.heap.size + 0 ≤ H5.size := Nat.le_trans hG hz5
  refine lv_aload_n hx hb dJx35411_next_0502b_4 rfl (lv_at hl 0 rfl) ?_
  refine va_get (D := (dC, dI)) (ci := 1) (v := .int 3) (C := RJx35411) (T := TJx35411) (N := 4) hx hb hts in_Jx35411 hown hK hP 0 rfl rfl 0 (by decide) (hts _ q_259) (fun _ h9 => h9) rfl dJx35411_next_0502b_5 ?_
  refine lv_istore_n (lv' := [(1, .int 3), (0, .ref h0)]) hx hb dJx35411_next_0502b_8 rfl hl (by decide) rfl (fun ls hl => ?_)
  refine lv_iload_n hx hb dJx35411_next_0502b_9 rfl (lv_at hl 0 rfl) ?_
  refine lv_aload_n hx hb dJx35411_next_0502b_10 rfl (lv_at hl 1 rfl) ?_
  refine va_get (D := (dC, dI)) (ci := 1) (v := .ref h1) (C := RJx35411) (T := TJx35411) (N := 4) hx hb hts in_Jx35411 hown hK hP 0 rfl rfl 3 (by decide) (hts _ q_247) (fun _ h9 => h9) rfl dJx35411_next_0502b_11 ?_
  refine va_getN (D := (dC, dI)) (ci := 0) (v := .int 7) (C := RJx4a65c) (T := TJx4a65c) (N := 3) hx hb hts in_Jx4a65c hown hK hP 1 rfl rfl 2 (by decide) (va_Nw.use rfl hT.2.2.2.2.1) (fun _ h9 => h9) rfl dJx35411_next_0502b_14 ?_
  refine lv_icmp_lt (tgt := 28) hx hb dJx35411_next_0502b_17 (by decide) (fun _ => ?_) (fun cz => absurd (by decide) cz)
  refine lv_aload_n hx hb dJx35411_next_0502b_28 rfl (lv_at hl 1 rfl) ?_
  refine va_get (D := (dC, dI)) (ci := 1) (v := .ref h1) (C := RJx35411) (T := TJx35411) (N := 4) hx hb hts in_Jx35411 hown hK hP 0 rfl rfl 3 (by decide) (hts _ q_247) (fun _ h9 => h9) rfl dJx35411_next_0502b_29 ?_
  refine va_get (D := (dC, dI)) (ci := 0) (v := .ref h2) (C := RJx4a65c) (T := TJx4a65c) (N := 3) hx hb hts in_Jx4a65c hown hK hP 1 rfl rfl 1 (by decide) (hts _ q_306) (fun _ h9 => h9) rfl dJx35411_next_0502b_32 ?_
  refine lv_astore_n (lv' := [(2, .ref h2), (1, .int 3), (0, .ref h0)]) hx hb dJx35411_next_0502b_35 rfl hl (by decide) rfl (fun ls hl => ?_)
  refine lv_iload_n hx hb dJx35411_next_0502b_36 rfl (lv_at hl 1 rfl) ?_
  refine lv_aload_n hx hb dJx35411_next_0502b_37 rfl (lv_at hl 0 rfl) ?_
  refine va_alen hx hb hK hP 2 0 rfl rfl (v := 10) rfl dJx35411_next_0502b_38 ?_
  refine lv_icmp_lt (tgt := 50) hx hb dJx35411_next_0502b_39 (by decide) (fun _ => ?_) (fun cz => absurd (by decide) cz)
  refine lv_aload_n hx hb dJx35411_next_0502b_50 rfl (lv_at hl 2 rfl) ?_
  refine lv_iload_n hx hb dJx35411_next_0502b_51 rfl (lv_at hl 1 rfl) ?_
  refine lv_iconst (v := 1) hx hb dJx35411_next_0502b_52 (by decide) ?_
  refine lv_iadd hx hb dJx35411_next_0502b_53 ?_
  refine lv_topi (fun y7 ey7 => ?_)
  obtain rfl : y7 = 4 := ey7.trans (by decide)
  refine va_put (D := (dC, dI)) (ci := 1) (v := .int 4) (ty := .int) (C := RJx35411) (T := TJx35411) (N := 4) hx hb hts in_Jx35411 tyJx35411 tyJx35411_ok nmJx35411 hown hK hP hD (va_Sre hS) 0 rfl rfl 0 (by decide) (hts _ q_259) (fun _ h9 => h9) rfl (by decide +kernel) rfl rfl (Nat.le_of_ble_eq_true rfl) dJx35411_next_0502b_54 (fun H8 _ hP hD hS' => ?_)
  have hG : s.heap.size + 0 ≤ H8.size := Nat.le_trans hG hS'.1
  have hS := va_Str hS hS'
  have hP : va_P (dC, dI) xCl [(h0, ce377 h1), (h1, ce331 h2), (h2, ce330 kc0 (z.2.2.1 128) (z.2.2.1 128) (z.2.2.1 128) (z.2.2.1 128) (z.2.2.1 128) (z.2.2.1 128) (z.2.2.1 128))] H8 := hP
  have hD := vd_as hP hD rfl
  refine lv_aload_n hx hb dJx35411_next_0502b_57 rfl (lv_at hl 0 rfl) ?_
  refine lv_aload_n hx hb dJx35411_next_0502b_58 rfl (lv_at hl 2 rfl) ?_
  refine lv_iload_n hx hb dJx35411_next_0502b_59 rfl (lv_at hl 1 rfl) ?_
  refine lv_dup_x1 hx hb dJx35411_next_0502b_60 rfl rfl ?_
  refine va_put (D := (dC, dI)) (ci := 1) (v := .int 3) (ty := .int) (C := RJx35411) (T := TJx35411) (N := 4) hx hb hts in_Jx35411 tyJx35411 tyJx35411_ok nmJx35411 hown hK hP hD (va_Sre hS) 0 rfl rfl 1 (by decide) (hts _ q_249) (fun _ h9 => h9) rfl (by decide +kernel) rfl rfl (Nat.le_of_ble_eq_true rfl) dJx35411_next_0502b_61 (fun H9 _ hP hD hS' => ?_)
  have hG : s.heap.size + 0 ≤ H9.size := Nat.le_trans hG hS'.1
  have hS := va_Str hS hS'
  have hP : va_P (dC, dI) xCl [(h0, ce378 h1), (h1, ce331 h2), (h2, ce330 kc0 (z.2.2.1 128) (z.2.2.1 128) (z.2.2.1 128) (z.2.2.1 128) (z.2.2.1 128) (z.2.2.1 128) (z.2.2.1 128))] H9 := hP
  have hD := vd_as hP hD rfl
  refine va_aldq hx hb hK hP 2 0 rfl rfl (i := 3) (by unfold vp_in; decide) dJx35411_next_0502b_64 ?_
  refine W.eq (g2 := F0 m 65 ls [.ref (z.2.2.1 128)]) rfl ?_
  exact W.aret (v := .ref (z.2.2.1 128)) hx hb hr (by first | exact Or.inl ⟨_, rfl⟩ | exact Or.inr ⟨_, rfl⟩) (Or.inr ⟨_, rfl⟩) (fun t9 ht9 hW9 => ⟨⟨(), (z.2.2.1 128), rfl, trivial, ⟨rfl, ⟨pq_mk2 hP hD hK [0, 1, 2] [0] rfl rfl rfl ht9 hW9, by rw [ht9]; exact Nat.le_trans (Nat.add_le_add_left (Nat.le_of_ble_eq_true rfl) _) hG⟩⟩⟩, hS.F ht9⟩) hS.2.2 dJx35411_next_0502b_65

set_option maxHeartbeats 4000000 in
set_option maxRecDepth 100000 in
theorem k957_next (l : Launch) (hl9 : l.stackTraces = false) (dC : Nat → ClassId) (dI : Nat → Nat → Nat) (z : XZ) (h0 h1 h2 : Nat) (sz : Nat) (kc0 : ClassId) : Met l yJx35411_next_0502b (.code yJx35411_next_0502b cJx35411_next_0502b 3 (some (.object "java/lang/Object")) :: wsL_law) ({ frames := 1, cells := 0, slots := 0, locals := 20 }) (va_Pc [.ref h0] (PC (dC, dI) [(h0, ce378 h1), (h1, ce331 h2), (h2, ce330 kc0 (z.2.2.1 128) (z.2.2.1 128) (z.2.2.1 128) (z.2.2.1 128) (z.2.2.1 128) (z.2.2.1 128) (z.2.2.1 128))] [(kc0, .object "java/lang/Object")] sz z)) (va_Qr (fun (_ : Unit) => True) (fun (_ : Unit) (ra : Nat) (t : State) => ra = (z.2.2.1 128) ∧ PG (dC, dI) [(h0, ce380 h1), (h1, ce331 h2), (h2, ce330 kc0 (z.2.2.1 128) (z.2.2.1 128) (z.2.2.1 128) (z.2.2.1 128) (z.2.2.1 128) (z.2.2.1 128) (z.2.2.1 128))] [(kc0, .object "java/lang/Object")] (va_A [(h0, ce378 h1), (h1, ce331 h2), (h2, ce330 kc0 (z.2.2.1 128) (z.2.2.1 128) (z.2.2.1 128) (z.2.2.1 128) (z.2.2.1 128) (z.2.2.1 128) (z.2.2.1 128))] sz) sz 0 t) (va_A [(h0, ce378 h1), (h1, ce331 h2), (h2, ce330 kc0 (z.2.2.1 128) (z.2.2.1 128) (z.2.2.1 128) (z.2.2.1 128) (z.2.2.1 128) (z.2.2.1 128) (z.2.2.1 128))] sz)) 0 0 (va_A [(h0, ce378 h1), (h1, ce331 h2), (h2, ce330 kc0 (z.2.2.1 128) (z.2.2.1 128) (z.2.2.1 128) (z.2.2.1 128) (z.2.2.1 128) (z.2.2.1 128) (z.2.2.1 128))] sz) := by
  refine Met.ofW (cc := cJx35411_next_0502b) (maxL := 3) (ret := (some (.object "java/lang/Object"))) (by decide) rfl ?_
  intro p e s m args below meth c s₁ B hml hv
  obtain ⟨rfl, hsz, hP, hK, hD0, hX, hT⟩ := hv
  have hx := B.exec
  have hb := B.bytes
  have hr := B.returns
  have hts0 := atoms_spec (ws := .code yJx35411_next_0502b cJx35411_next_0502b 3 (some (.object "java/lang/Object")) :: wsL_law) B.pre
  have hts := xTail hts0
  have hown : s.vm.findClass RJx35411 = some m.cls := xown B.named rfl
  have hlocks := B.notSynchronized
  subst hsz
  have hD := hD0.self (sz := s.heap.size)
  generalize hAe : va_A [(h0, ce378 h1), (h1, ce331 h2), (h2, ce330 kc0 (z.2.2.1 128) (z.2.2.1 128) (z.2.2.1 128) (z.2.2.1 128) (z.2.2.1 128) (z.2.2.1 128) (z.2.2.1 128))] s.heap.size = A at hD hX ⊢
  have hA : ∀ q : Nat, s.heap.size ≤ q → A q := fun q h => by rw [← hAe]; exact Or.inr h
  have hS : va_S A s.heap s.heap [] := va_S.rf
  have hG : s.heap.size + 0 ≤ s.heap.size := Nat.le_refl _
  have hl := lv_entry ([.ref h0]) (n := 3) (Nat.le_of_ble_eq_true rfl)
  rw [lg_entry_eq]
  generalize (lg_sl ([.ref h0]) ++ List.replicate (3 - (lg_sl ([.ref h0])).length) Slot.unset).toArray = ls at hl ⊢
  have hl : lv_has ls 3 [(0, .ref h0)] := hl
  refine lv_aload_n hx hb dJx35411_next_0502b_0 rfl (lv_at hl 0 rfl) ?_
  have hM3 := k738_checkForComodification l hl9 dC dI z h0 h1 h2 s.heap.size
  obtain ⟨hF1, hC4⟩ := pc_M hM3 hP hD hK hS hX hT hA [0, 1] [] rfl rfl rfl
  refine va_callv (va_runV (As := []) (rest := []) ⟨hx, hb, hml, hown, hts⟩ hM3 (cwV 0 hts (gV q_303 q_304 q_305 q_246 q_302) rfl rfl rfl hV_Jx35411_checkForComodification_da8c8 ⟨Nat.le_of_ble_eq_true rfl, Nat.le_of_ble_eq_true rfl⟩) ⟨pc_blind, va_recv hK hP (ci := 1) (q := (RJx35411, TJx35411, 4)) (q0 := 0) rfl rfl, fun U hU hW => ⟨rfl, hC4 U hU hW⟩⟩ rfl rfl hl.1 rfl (lv_room (Nat.le_of_ble_eq_true rfl)) dJx35411_next_0502b_1 ⟨(Nat.le_of_ble_eq_true rfl), (Nat.le_of_ble_eq_true rfl)⟩) hS (fun q9 _ h9 => hF1 q9 h9) hF1 (fun u5 t5 H5 L5 ht5 hvm5 hw5 hB5 hz5 hk5 hS => ?_)
  have hP := pq_keep hP hD [0, 1] rfl hk5 hB5.1 ht5
  have hG : s.heap.size + 0 ≤ H5.size := Nat.le_trans hG hz5
  refine lv_aload_n hx hb dJx35411_next_0502b_4 rfl (lv_at hl 0 rfl) ?_
  refine va_get (D := (dC, dI)) (ci := 1) (v := .int 4) (C := RJx35411) (T := TJx35411) (N := 4) hx hb hts in_Jx35411 hown hK hP 0 rfl rfl 0 (by decide) (hts _ q_259) (fun _ h9 => h9) rfl dJx35411_next_0502b_5 ?_
  refine lv_istore_n (lv' := [(1, .int 4), (0, .ref h0)]) hx hb dJx35411_next_0502b_8 rfl hl (by decide) rfl (fun ls hl => ?_)
  refine lv_iload_n hx hb dJx35411_next_0502b_9 rfl (lv_at hl 0 rfl) ?_
  refine lv_aload_n hx hb dJx35411_next_0502b_10 rfl (lv_at hl 1 rfl) ?_
  refine va_get (D := (dC, dI)) (ci := 1) (v := .ref h1) (C := RJx35411) (T := TJx35411) (N := 4) hx hb hts in_Jx35411 hown hK hP 0 rfl rfl 3 (by decide) (hts _ q_247) (fun _ h9 => h9) rfl dJx35411_next_0502b_11 ?_
  refine va_getN (D := (dC, dI)) (ci := 0) (v := .int 7) (C := RJx4a65c) (T := TJx4a65c) (N := 3) hx hb hts in_Jx4a65c hown hK hP 1 rfl rfl 2 (by decide) (va_Nw.use rfl hT.2.2.2.2.1) (fun _ h9 => h9) rfl dJx35411_next_0502b_14 ?_
  refine lv_icmp_lt (tgt := 28) hx hb dJx35411_next_0502b_17 (by decide) (fun _ => ?_) (fun cz => absurd (by decide) cz)
  refine lv_aload_n hx hb dJx35411_next_0502b_28 rfl (lv_at hl 1 rfl) ?_
  refine va_get (D := (dC, dI)) (ci := 1) (v := .ref h1) (C := RJx35411) (T := TJx35411) (N := 4) hx hb hts in_Jx35411 hown hK hP 0 rfl rfl 3 (by decide) (hts _ q_247) (fun _ h9 => h9) rfl dJx35411_next_0502b_29 ?_
  refine va_get (D := (dC, dI)) (ci := 0) (v := .ref h2) (C := RJx4a65c) (T := TJx4a65c) (N := 3) hx hb hts in_Jx4a65c hown hK hP 1 rfl rfl 1 (by decide) (hts _ q_306) (fun _ h9 => h9) rfl dJx35411_next_0502b_32 ?_
  refine lv_astore_n (lv' := [(2, .ref h2), (1, .int 4), (0, .ref h0)]) hx hb dJx35411_next_0502b_35 rfl hl (by decide) rfl (fun ls hl => ?_)
  refine lv_iload_n hx hb dJx35411_next_0502b_36 rfl (lv_at hl 1 rfl) ?_
  refine lv_aload_n hx hb dJx35411_next_0502b_37 rfl (lv_at hl 0 rfl) ?_
  refine va_alen hx hb hK hP 2 0 rfl rfl (v := 10) rfl dJx35411_next_0502b_38 ?_
  refine lv_icmp_lt (tgt := 50) hx hb dJx35411_next_0502b_39 (by decide) (fun _ => ?_) (fun cz => absurd (by decide) cz)
  refine lv_aload_n hx hb dJx35411_next_0502b_50 rfl (lv_at hl 2 rfl) ?_
  refine lv_iload_n hx hb dJx35411_next_0502b_51 rfl (lv_at hl 1 rfl) ?_
  refine lv_iconst (v := 1) hx hb dJx35411_next_0502b_52 (by decide) ?_
  refine lv_iadd hx hb dJx35411_next_0502b_53 ?_
  refine lv_topi (fun y7 ey7 => ?_)
  obtain rfl : y7 = 5 := ey7.trans (by decide)
  refine va_put (D := (dC, dI)) (ci := 1) (v := .int 5) (ty := .int) (C := RJx35411) (T := TJx35411) (N := 4) hx hb hts in_Jx35411 tyJx35411 tyJx35411_ok nmJx35411 hown hK hP hD (va_Sre hS) 0 rfl rfl 0 (by decide) (hts _ q_259) (fun _ h9 => h9) rfl (by decide +kernel) rfl rfl (Nat.le_of_ble_eq_true rfl) dJx35411_next_0502b_54 (fun H8 _ hP hD hS' => ?_)
  have hG : s.heap.size + 0 ≤ H8.size := Nat.le_trans hG hS'.1
  have hS := va_Str hS hS'
  have hP : va_P (dC, dI) xCl [(h0, ce379 h1), (h1, ce331 h2), (h2, ce330 kc0 (z.2.2.1 128) (z.2.2.1 128) (z.2.2.1 128) (z.2.2.1 128) (z.2.2.1 128) (z.2.2.1 128) (z.2.2.1 128))] H8 := hP
  have hD := vd_as hP hD rfl
  refine lv_aload_n hx hb dJx35411_next_0502b_57 rfl (lv_at hl 0 rfl) ?_
  refine lv_aload_n hx hb dJx35411_next_0502b_58 rfl (lv_at hl 2 rfl) ?_
  refine lv_iload_n hx hb dJx35411_next_0502b_59 rfl (lv_at hl 1 rfl) ?_
  refine lv_dup_x1 hx hb dJx35411_next_0502b_60 rfl rfl ?_
  refine va_put (D := (dC, dI)) (ci := 1) (v := .int 4) (ty := .int) (C := RJx35411) (T := TJx35411) (N := 4) hx hb hts in_Jx35411 tyJx35411 tyJx35411_ok nmJx35411 hown hK hP hD (va_Sre hS) 0 rfl rfl 1 (by decide) (hts _ q_249) (fun _ h9 => h9) rfl (by decide +kernel) rfl rfl (Nat.le_of_ble_eq_true rfl) dJx35411_next_0502b_61 (fun H9 _ hP hD hS' => ?_)
  have hG : s.heap.size + 0 ≤ H9.size := Nat.le_trans hG hS'.1
  have hS := va_Str hS hS'
  have hP : va_P (dC, dI) xCl [(h0, ce380 h1), (h1, ce331 h2), (h2, ce330 kc0 (z.2.2.1 128) (z.2.2.1 128) (z.2.2.1 128) (z.2.2.1 128) (z.2.2.1 128) (z.2.2.1 128) (z.2.2.1 128))] H9 := hP
  have hD := vd_as hP hD rfl
  refine va_aldq hx hb hK hP 2 0 rfl rfl (i := 4) (by unfold vp_in; decide) dJx35411_next_0502b_64 ?_
  refine W.eq (g2 := F0 m 65 ls [.ref (z.2.2.1 128)]) rfl ?_
  exact W.aret (v := .ref (z.2.2.1 128)) hx hb hr (by first | exact Or.inl ⟨_, rfl⟩ | exact Or.inr ⟨_, rfl⟩) (Or.inr ⟨_, rfl⟩) (fun t9 ht9 hW9 => ⟨⟨(), (z.2.2.1 128), rfl, trivial, ⟨rfl, ⟨pq_mk2 hP hD hK [0, 1, 2] [0] rfl rfl rfl ht9 hW9, by rw [ht9]; exact Nat.le_trans (Nat.add_le_add_left (Nat.le_of_ble_eq_true rfl) _) hG⟩⟩⟩, hS.F ht9⟩) hS.2.2 dJx35411_next_0502b_65

set_option maxHeartbeats 4000000 in
set_option maxRecDepth 100000 in
theorem k958_next (l : Launch) (hl9 : l.stackTraces = false) (dC : Nat → ClassId) (dI : Nat → Nat → Nat) (z : XZ) (h0 h1 h2 : Nat) (sz : Nat) (kc0 : ClassId) : Met l yJx35411_next_0502b (.code yJx35411_next_0502b cJx35411_next_0502b 3 (some (.object "java/lang/Object")) :: wsL_law) ({ frames := 1, cells := 0, slots := 0, locals := 20 }) (va_Pc [.ref h0] (PC (dC, dI) [(h0, ce380 h1), (h1, ce331 h2), (h2, ce330 kc0 (z.2.2.1 128) (z.2.2.1 128) (z.2.2.1 128) (z.2.2.1 128) (z.2.2.1 128) (z.2.2.1 128) (z.2.2.1 128))] [(kc0, .object "java/lang/Object")] sz z)) (va_Qr (fun (_ : Unit) => True) (fun (_ : Unit) (ra : Nat) (t : State) => ra = (z.2.2.1 128) ∧ PG (dC, dI) [(h0, ce382 h1), (h1, ce331 h2), (h2, ce330 kc0 (z.2.2.1 128) (z.2.2.1 128) (z.2.2.1 128) (z.2.2.1 128) (z.2.2.1 128) (z.2.2.1 128) (z.2.2.1 128))] [(kc0, .object "java/lang/Object")] (va_A [(h0, ce380 h1), (h1, ce331 h2), (h2, ce330 kc0 (z.2.2.1 128) (z.2.2.1 128) (z.2.2.1 128) (z.2.2.1 128) (z.2.2.1 128) (z.2.2.1 128) (z.2.2.1 128))] sz) sz 0 t) (va_A [(h0, ce380 h1), (h1, ce331 h2), (h2, ce330 kc0 (z.2.2.1 128) (z.2.2.1 128) (z.2.2.1 128) (z.2.2.1 128) (z.2.2.1 128) (z.2.2.1 128) (z.2.2.1 128))] sz)) 0 0 (va_A [(h0, ce380 h1), (h1, ce331 h2), (h2, ce330 kc0 (z.2.2.1 128) (z.2.2.1 128) (z.2.2.1 128) (z.2.2.1 128) (z.2.2.1 128) (z.2.2.1 128) (z.2.2.1 128))] sz) := by
  refine Met.ofW (cc := cJx35411_next_0502b) (maxL := 3) (ret := (some (.object "java/lang/Object"))) (by decide) rfl ?_
  intro p e s m args below meth c s₁ B hml hv
  obtain ⟨rfl, hsz, hP, hK, hD0, hX, hT⟩ := hv
  have hx := B.exec
  have hb := B.bytes
  have hr := B.returns
  have hts0 := atoms_spec (ws := .code yJx35411_next_0502b cJx35411_next_0502b 3 (some (.object "java/lang/Object")) :: wsL_law) B.pre
  have hts := xTail hts0
  have hown : s.vm.findClass RJx35411 = some m.cls := xown B.named rfl
  have hlocks := B.notSynchronized
  subst hsz
  have hD := hD0.self (sz := s.heap.size)
  generalize hAe : va_A [(h0, ce380 h1), (h1, ce331 h2), (h2, ce330 kc0 (z.2.2.1 128) (z.2.2.1 128) (z.2.2.1 128) (z.2.2.1 128) (z.2.2.1 128) (z.2.2.1 128) (z.2.2.1 128))] s.heap.size = A at hD hX ⊢
  have hA : ∀ q : Nat, s.heap.size ≤ q → A q := fun q h => by rw [← hAe]; exact Or.inr h
  have hS : va_S A s.heap s.heap [] := va_S.rf
  have hG : s.heap.size + 0 ≤ s.heap.size := Nat.le_refl _
  have hl := lv_entry ([.ref h0]) (n := 3) (Nat.le_of_ble_eq_true rfl)
  rw [lg_entry_eq]
  generalize (lg_sl ([.ref h0]) ++ List.replicate (3 - (lg_sl ([.ref h0])).length) Slot.unset).toArray = ls at hl ⊢
  have hl : lv_has ls 3 [(0, .ref h0)] := hl
  refine lv_aload_n hx hb dJx35411_next_0502b_0 rfl (lv_at hl 0 rfl) ?_
  have hM3 := k741_checkForComodification l hl9 dC dI z h0 h1 h2 s.heap.size
  obtain ⟨hF1, hC4⟩ := pc_M hM3 hP hD hK hS hX hT hA [0, 1] [] rfl rfl rfl
  refine va_callv (va_runV (As := []) (rest := []) ⟨hx, hb, hml, hown, hts⟩ hM3 (cwV 0 hts (gV q_303 q_304 q_305 q_246 q_302) rfl rfl rfl hV_Jx35411_checkForComodification_da8c8 ⟨Nat.le_of_ble_eq_true rfl, Nat.le_of_ble_eq_true rfl⟩) ⟨pc_blind, va_recv hK hP (ci := 1) (q := (RJx35411, TJx35411, 4)) (q0 := 0) rfl rfl, fun U hU hW => ⟨rfl, hC4 U hU hW⟩⟩ rfl rfl hl.1 rfl (lv_room (Nat.le_of_ble_eq_true rfl)) dJx35411_next_0502b_1 ⟨(Nat.le_of_ble_eq_true rfl), (Nat.le_of_ble_eq_true rfl)⟩) hS (fun q9 _ h9 => hF1 q9 h9) hF1 (fun u5 t5 H5 L5 ht5 hvm5 hw5 hB5 hz5 hk5 hS => ?_)
  have hP := pq_keep hP hD [0, 1] rfl hk5 hB5.1 ht5
  have hG : s.heap.size + 0 ≤ H5.size := Nat.le_trans hG hz5
  refine lv_aload_n hx hb dJx35411_next_0502b_4 rfl (lv_at hl 0 rfl) ?_
  refine va_get (D := (dC, dI)) (ci := 1) (v := .int 5) (C := RJx35411) (T := TJx35411) (N := 4) hx hb hts in_Jx35411 hown hK hP 0 rfl rfl 0 (by decide) (hts _ q_259) (fun _ h9 => h9) rfl dJx35411_next_0502b_5 ?_
  refine lv_istore_n (lv' := [(1, .int 5), (0, .ref h0)]) hx hb dJx35411_next_0502b_8 rfl hl (by decide) rfl (fun ls hl => ?_)
  refine lv_iload_n hx hb dJx35411_next_0502b_9 rfl (lv_at hl 0 rfl) ?_
  refine lv_aload_n hx hb dJx35411_next_0502b_10 rfl (lv_at hl 1 rfl) ?_
  refine va_get (D := (dC, dI)) (ci := 1) (v := .ref h1) (C := RJx35411) (T := TJx35411) (N := 4) hx hb hts in_Jx35411 hown hK hP 0 rfl rfl 3 (by decide) (hts _ q_247) (fun _ h9 => h9) rfl dJx35411_next_0502b_11 ?_
  refine va_getN (D := (dC, dI)) (ci := 0) (v := .int 7) (C := RJx4a65c) (T := TJx4a65c) (N := 3) hx hb hts in_Jx4a65c hown hK hP 1 rfl rfl 2 (by decide) (va_Nw.use rfl hT.2.2.2.2.1) (fun _ h9 => h9) rfl dJx35411_next_0502b_14 ?_
  refine lv_icmp_lt (tgt := 28) hx hb dJx35411_next_0502b_17 (by decide) (fun _ => ?_) (fun cz => absurd (by decide) cz)
  refine lv_aload_n hx hb dJx35411_next_0502b_28 rfl (lv_at hl 1 rfl) ?_
  refine va_get (D := (dC, dI)) (ci := 1) (v := .ref h1) (C := RJx35411) (T := TJx35411) (N := 4) hx hb hts in_Jx35411 hown hK hP 0 rfl rfl 3 (by decide) (hts _ q_247) (fun _ h9 => h9) rfl dJx35411_next_0502b_29 ?_
  refine va_get (D := (dC, dI)) (ci := 0) (v := .ref h2) (C := RJx4a65c) (T := TJx4a65c) (N := 3) hx hb hts in_Jx4a65c hown hK hP 1 rfl rfl 1 (by decide) (hts _ q_306) (fun _ h9 => h9) rfl dJx35411_next_0502b_32 ?_
  refine lv_astore_n (lv' := [(2, .ref h2), (1, .int 5), (0, .ref h0)]) hx hb dJx35411_next_0502b_35 rfl hl (by decide) rfl (fun ls hl => ?_)
  refine lv_iload_n hx hb dJx35411_next_0502b_36 rfl (lv_at hl 1 rfl) ?_
  refine lv_aload_n hx hb dJx35411_next_0502b_37 rfl (lv_at hl 0 rfl) ?_
  refine va_alen hx hb hK hP 2 0 rfl rfl (v := 10) rfl dJx35411_next_0502b_38 ?_
  refine lv_icmp_lt (tgt := 50) hx hb dJx35411_next_0502b_39 (by decide) (fun _ => ?_) (fun cz => absurd (by decide) cz)
  refine lv_aload_n hx hb dJx35411_next_0502b_50 rfl (lv_at hl 2 rfl) ?_
  refine lv_iload_n hx hb dJx35411_next_0502b_51 rfl (lv_at hl 1 rfl) ?_
  refine lv_iconst (v := 1) hx hb dJx35411_next_0502b_52 (by decide) ?_
  refine lv_iadd hx hb dJx35411_next_0502b_53 ?_
  refine lv_topi (fun y7 ey7 => ?_)
  obtain rfl : y7 = 6 := ey7.trans (by decide)
  refine va_put (D := (dC, dI)) (ci := 1) (v := .int 6) (ty := .int) (C := RJx35411) (T := TJx35411) (N := 4) hx hb hts in_Jx35411 tyJx35411 tyJx35411_ok nmJx35411 hown hK hP hD (va_Sre hS) 0 rfl rfl 0 (by decide) (hts _ q_259) (fun _ h9 => h9) rfl (by decide +kernel) rfl rfl (Nat.le_of_ble_eq_true rfl) dJx35411_next_0502b_54 (fun H8 _ hP hD hS' => ?_)
  have hG : s.heap.size + 0 ≤ H8.size := Nat.le_trans hG hS'.1
  have hS := va_Str hS hS'
  have hP : va_P (dC, dI) xCl [(h0, ce381 h1), (h1, ce331 h2), (h2, ce330 kc0 (z.2.2.1 128) (z.2.2.1 128) (z.2.2.1 128) (z.2.2.1 128) (z.2.2.1 128) (z.2.2.1 128) (z.2.2.1 128))] H8 := hP
  have hD := vd_as hP hD rfl
  refine lv_aload_n hx hb dJx35411_next_0502b_57 rfl (lv_at hl 0 rfl) ?_
  refine lv_aload_n hx hb dJx35411_next_0502b_58 rfl (lv_at hl 2 rfl) ?_
  refine lv_iload_n hx hb dJx35411_next_0502b_59 rfl (lv_at hl 1 rfl) ?_
  refine lv_dup_x1 hx hb dJx35411_next_0502b_60 rfl rfl ?_
  refine va_put (D := (dC, dI)) (ci := 1) (v := .int 5) (ty := .int) (C := RJx35411) (T := TJx35411) (N := 4) hx hb hts in_Jx35411 tyJx35411 tyJx35411_ok nmJx35411 hown hK hP hD (va_Sre hS) 0 rfl rfl 1 (by decide) (hts _ q_249) (fun _ h9 => h9) rfl (by decide +kernel) rfl rfl (Nat.le_of_ble_eq_true rfl) dJx35411_next_0502b_61 (fun H9 _ hP hD hS' => ?_)
  have hG : s.heap.size + 0 ≤ H9.size := Nat.le_trans hG hS'.1
  have hS := va_Str hS hS'
  have hP : va_P (dC, dI) xCl [(h0, ce382 h1), (h1, ce331 h2), (h2, ce330 kc0 (z.2.2.1 128) (z.2.2.1 128) (z.2.2.1 128) (z.2.2.1 128) (z.2.2.1 128) (z.2.2.1 128) (z.2.2.1 128))] H9 := hP
  have hD := vd_as hP hD rfl
  refine va_aldq hx hb hK hP 2 0 rfl rfl (i := 5) (by unfold vp_in; decide) dJx35411_next_0502b_64 ?_
  refine W.eq (g2 := F0 m 65 ls [.ref (z.2.2.1 128)]) rfl ?_
  exact W.aret (v := .ref (z.2.2.1 128)) hx hb hr (by first | exact Or.inl ⟨_, rfl⟩ | exact Or.inr ⟨_, rfl⟩) (Or.inr ⟨_, rfl⟩) (fun t9 ht9 hW9 => ⟨⟨(), (z.2.2.1 128), rfl, trivial, ⟨rfl, ⟨pq_mk2 hP hD hK [0, 1, 2] [0] rfl rfl rfl ht9 hW9, by rw [ht9]; exact Nat.le_trans (Nat.add_le_add_left (Nat.le_of_ble_eq_true rfl) _) hG⟩⟩⟩, hS.F ht9⟩) hS.2.2 dJx35411_next_0502b_65

set_option maxHeartbeats 4000000 in
set_option maxRecDepth 100000 in
theorem k959_next (l : Launch) (hl9 : l.stackTraces = false) (dC : Nat → ClassId) (dI : Nat → Nat → Nat) (z : XZ) (h0 h1 h2 : Nat) (sz : Nat) (kc0 : ClassId) : Met l yJx35411_next_0502b (.code yJx35411_next_0502b cJx35411_next_0502b 3 (some (.object "java/lang/Object")) :: wsL_law) ({ frames := 1, cells := 0, slots := 0, locals := 20 }) (va_Pc [.ref h0] (PC (dC, dI) [(h0, ce382 h1), (h1, ce331 h2), (h2, ce330 kc0 (z.2.2.1 128) (z.2.2.1 128) (z.2.2.1 128) (z.2.2.1 128) (z.2.2.1 128) (z.2.2.1 128) (z.2.2.1 128))] [(kc0, .object "java/lang/Object")] sz z)) (va_Qr (fun (_ : Unit) => True) (fun (_ : Unit) (ra : Nat) (t : State) => ra = (z.2.2.1 128) ∧ PG (dC, dI) [(h0, ce384 h1), (h1, ce331 h2), (h2, ce330 kc0 (z.2.2.1 128) (z.2.2.1 128) (z.2.2.1 128) (z.2.2.1 128) (z.2.2.1 128) (z.2.2.1 128) (z.2.2.1 128))] [(kc0, .object "java/lang/Object")] (va_A [(h0, ce382 h1), (h1, ce331 h2), (h2, ce330 kc0 (z.2.2.1 128) (z.2.2.1 128) (z.2.2.1 128) (z.2.2.1 128) (z.2.2.1 128) (z.2.2.1 128) (z.2.2.1 128))] sz) sz 0 t) (va_A [(h0, ce382 h1), (h1, ce331 h2), (h2, ce330 kc0 (z.2.2.1 128) (z.2.2.1 128) (z.2.2.1 128) (z.2.2.1 128) (z.2.2.1 128) (z.2.2.1 128) (z.2.2.1 128))] sz)) 0 0 (va_A [(h0, ce382 h1), (h1, ce331 h2), (h2, ce330 kc0 (z.2.2.1 128) (z.2.2.1 128) (z.2.2.1 128) (z.2.2.1 128) (z.2.2.1 128) (z.2.2.1 128) (z.2.2.1 128))] sz) := by
  refine Met.ofW (cc := cJx35411_next_0502b) (maxL := 3) (ret := (some (.object "java/lang/Object"))) (by decide) rfl ?_
  intro p e s m args below meth c s₁ B hml hv
  obtain ⟨rfl, hsz, hP, hK, hD0, hX, hT⟩ := hv
  have hx := B.exec
  have hb := B.bytes
  have hr := B.returns
  have hts0 := atoms_spec (ws := .code yJx35411_next_0502b cJx35411_next_0502b 3 (some (.object "java/lang/Object")) :: wsL_law) B.pre
  have hts := xTail hts0
  have hown : s.vm.findClass RJx35411 = some m.cls := xown B.named rfl
  have hlocks := B.notSynchronized
  subst hsz
  have hD := hD0.self (sz := s.heap.size)
  generalize hAe : va_A [(h0, ce382 h1), (h1, ce331 h2), (h2, ce330 kc0 (z.2.2.1 128) (z.2.2.1 128) (z.2.2.1 128) (z.2.2.1 128) (z.2.2.1 128) (z.2.2.1 128) (z.2.2.1 128))] s.heap.size = A at hD hX ⊢
  have hA : ∀ q : Nat, s.heap.size ≤ q → A q := fun q h => by rw [← hAe]; exact Or.inr h
  have hS : va_S A s.heap s.heap [] := va_S.rf
  have hG : s.heap.size + 0 ≤ s.heap.size := Nat.le_refl _
  have hl := lv_entry ([.ref h0]) (n := 3) (Nat.le_of_ble_eq_true rfl)
  rw [lg_entry_eq]
  generalize (lg_sl ([.ref h0]) ++ List.replicate (3 - (lg_sl ([.ref h0])).length) Slot.unset).toArray = ls at hl ⊢
  have hl : lv_has ls 3 [(0, .ref h0)] := hl
  refine lv_aload_n hx hb dJx35411_next_0502b_0 rfl (lv_at hl 0 rfl) ?_
  have hM3 := k744_checkForComodification l hl9 dC dI z h0 h1 h2 s.heap.size
  obtain ⟨hF1, hC4⟩ := pc_M hM3 hP hD hK hS hX hT hA [0, 1] [] rfl rfl rfl
  refine va_callv (va_runV (As := []) (rest := []) ⟨hx, hb, hml, hown, hts⟩ hM3 (cwV 0 hts (gV q_303 q_304 q_305 q_246 q_302) rfl rfl rfl hV_Jx35411_checkForComodification_da8c8 ⟨Nat.le_of_ble_eq_true rfl, Nat.le_of_ble_eq_true rfl⟩) ⟨pc_blind, va_recv hK hP (ci := 1) (q := (RJx35411, TJx35411, 4)) (q0 := 0) rfl rfl, fun U hU hW => ⟨rfl, hC4 U hU hW⟩⟩ rfl rfl hl.1 rfl (lv_room (Nat.le_of_ble_eq_true rfl)) dJx35411_next_0502b_1 ⟨(Nat.le_of_ble_eq_true rfl), (Nat.le_of_ble_eq_true rfl)⟩) hS (fun q9 _ h9 => hF1 q9 h9) hF1 (fun u5 t5 H5 L5 ht5 hvm5 hw5 hB5 hz5 hk5 hS => ?_)
  have hP := pq_keep hP hD [0, 1] rfl hk5 hB5.1 ht5
  have hG : s.heap.size + 0 ≤ H5.size := Nat.le_trans hG hz5
  refine lv_aload_n hx hb dJx35411_next_0502b_4 rfl (lv_at hl 0 rfl) ?_
  refine va_get (D := (dC, dI)) (ci := 1) (v := .int 6) (C := RJx35411) (T := TJx35411) (N := 4) hx hb hts in_Jx35411 hown hK hP 0 rfl rfl 0 (by decide) (hts _ q_259) (fun _ h9 => h9) rfl dJx35411_next_0502b_5 ?_
  refine lv_istore_n (lv' := [(1, .int 6), (0, .ref h0)]) hx hb dJx35411_next_0502b_8 rfl hl (by decide) rfl (fun ls hl => ?_)
  refine lv_iload_n hx hb dJx35411_next_0502b_9 rfl (lv_at hl 0 rfl) ?_
  refine lv_aload_n hx hb dJx35411_next_0502b_10 rfl (lv_at hl 1 rfl) ?_
  refine va_get (D := (dC, dI)) (ci := 1) (v := .ref h1) (C := RJx35411) (T := TJx35411) (N := 4) hx hb hts in_Jx35411 hown hK hP 0 rfl rfl 3 (by decide) (hts _ q_247) (fun _ h9 => h9) rfl dJx35411_next_0502b_11 ?_
  refine va_getN (D := (dC, dI)) (ci := 0) (v := .int 7) (C := RJx4a65c) (T := TJx4a65c) (N := 3) hx hb hts in_Jx4a65c hown hK hP 1 rfl rfl 2 (by decide) (va_Nw.use rfl hT.2.2.2.2.1) (fun _ h9 => h9) rfl dJx35411_next_0502b_14 ?_
  refine lv_icmp_lt (tgt := 28) hx hb dJx35411_next_0502b_17 (by decide) (fun _ => ?_) (fun cz => absurd (by decide) cz)
  refine lv_aload_n hx hb dJx35411_next_0502b_28 rfl (lv_at hl 1 rfl) ?_
  refine va_get (D := (dC, dI)) (ci := 1) (v := .ref h1) (C := RJx35411) (T := TJx35411) (N := 4) hx hb hts in_Jx35411 hown hK hP 0 rfl rfl 3 (by decide) (hts _ q_247) (fun _ h9 => h9) rfl dJx35411_next_0502b_29 ?_
  refine va_get (D := (dC, dI)) (ci := 0) (v := .ref h2) (C := RJx4a65c) (T := TJx4a65c) (N := 3) hx hb hts in_Jx4a65c hown hK hP 1 rfl rfl 1 (by decide) (hts _ q_306) (fun _ h9 => h9) rfl dJx35411_next_0502b_32 ?_
  refine lv_astore_n (lv' := [(2, .ref h2), (1, .int 6), (0, .ref h0)]) hx hb dJx35411_next_0502b_35 rfl hl (by decide) rfl (fun ls hl => ?_)
  refine lv_iload_n hx hb dJx35411_next_0502b_36 rfl (lv_at hl 1 rfl) ?_
  refine lv_aload_n hx hb dJx35411_next_0502b_37 rfl (lv_at hl 0 rfl) ?_
  refine va_alen hx hb hK hP 2 0 rfl rfl (v := 10) rfl dJx35411_next_0502b_38 ?_
  refine lv_icmp_lt (tgt := 50) hx hb dJx35411_next_0502b_39 (by decide) (fun _ => ?_) (fun cz => absurd (by decide) cz)
  refine lv_aload_n hx hb dJx35411_next_0502b_50 rfl (lv_at hl 2 rfl) ?_
  refine lv_iload_n hx hb dJx35411_next_0502b_51 rfl (lv_at hl 1 rfl) ?_
  refine lv_iconst (v := 1) hx hb dJx35411_next_0502b_52 (by decide) ?_
  refine lv_iadd hx hb dJx35411_next_0502b_53 ?_
  refine lv_topi (fun y7 ey7 => ?_)
  obtain rfl : y7 = 7 := ey7.trans (by decide)
  refine va_put (D := (dC, dI)) (ci := 1) (v := .int 7) (ty := .int) (C := RJx35411) (T := TJx35411) (N := 4) hx hb hts in_Jx35411 tyJx35411 tyJx35411_ok nmJx35411 hown hK hP hD (va_Sre hS) 0 rfl rfl 0 (by decide) (hts _ q_259) (fun _ h9 => h9) rfl (by decide +kernel) rfl rfl (Nat.le_of_ble_eq_true rfl) dJx35411_next_0502b_54 (fun H8 _ hP hD hS' => ?_)
  have hG : s.heap.size + 0 ≤ H8.size := Nat.le_trans hG hS'.1
  have hS := va_Str hS hS'
  have hP : va_P (dC, dI) xCl [(h0, ce383 h1), (h1, ce331 h2), (h2, ce330 kc0 (z.2.2.1 128) (z.2.2.1 128) (z.2.2.1 128) (z.2.2.1 128) (z.2.2.1 128) (z.2.2.1 128) (z.2.2.1 128))] H8 := hP
  have hD := vd_as hP hD rfl
  refine lv_aload_n hx hb dJx35411_next_0502b_57 rfl (lv_at hl 0 rfl) ?_
  refine lv_aload_n hx hb dJx35411_next_0502b_58 rfl (lv_at hl 2 rfl) ?_
  refine lv_iload_n hx hb dJx35411_next_0502b_59 rfl (lv_at hl 1 rfl) ?_
  refine lv_dup_x1 hx hb dJx35411_next_0502b_60 rfl rfl ?_
  refine va_put (D := (dC, dI)) (ci := 1) (v := .int 6) (ty := .int) (C := RJx35411) (T := TJx35411) (N := 4) hx hb hts in_Jx35411 tyJx35411 tyJx35411_ok nmJx35411 hown hK hP hD (va_Sre hS) 0 rfl rfl 1 (by decide) (hts _ q_249) (fun _ h9 => h9) rfl (by decide +kernel) rfl rfl (Nat.le_of_ble_eq_true rfl) dJx35411_next_0502b_61 (fun H9 _ hP hD hS' => ?_)
  have hG : s.heap.size + 0 ≤ H9.size := Nat.le_trans hG hS'.1
  have hS := va_Str hS hS'
  have hP : va_P (dC, dI) xCl [(h0, ce384 h1), (h1, ce331 h2), (h2, ce330 kc0 (z.2.2.1 128) (z.2.2.1 128) (z.2.2.1 128) (z.2.2.1 128) (z.2.2.1 128) (z.2.2.1 128) (z.2.2.1 128))] H9 := hP
  have hD := vd_as hP hD rfl
  refine va_aldq hx hb hK hP 2 0 rfl rfl (i := 6) (by unfold vp_in; decide) dJx35411_next_0502b_64 ?_
  refine W.eq (g2 := F0 m 65 ls [.ref (z.2.2.1 128)]) rfl ?_
  exact W.aret (v := .ref (z.2.2.1 128)) hx hb hr (by first | exact Or.inl ⟨_, rfl⟩ | exact Or.inr ⟨_, rfl⟩) (Or.inr ⟨_, rfl⟩) (fun t9 ht9 hW9 => ⟨⟨(), (z.2.2.1 128), rfl, trivial, ⟨rfl, ⟨pq_mk2 hP hD hK [0, 1, 2] [0] rfl rfl rfl ht9 hW9, by rw [ht9]; exact Nat.le_trans (Nat.add_le_add_left (Nat.le_of_ble_eq_true rfl) _) hG⟩⟩⟩, hS.F ht9⟩) hS.2.2 dJx35411_next_0502b_65
