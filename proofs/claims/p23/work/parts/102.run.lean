set_option maxHeartbeats 4000000 in
set_option maxRecDepth 100000 in
theorem k77_restart (l : Launch) (hl9 : l.stackTraces = false) (dC : Nat → ClassId) (dI : Nat → Nat → Nat) (z : XZ) (h0 h1 h2 h3 h4 h5 : Nat) (o0 : Nat) (sz : Nat) (kc0 : ClassId) : Met l yX9_restart (.code yX9_restart cX9_restart 4 none :: wsL_law) ({ frames := 6, cells := 9, slots := 150, locals := 134 }) (va_Pc [.ref h0] (PC (dC, dI) [(h0, ce21 h1 h2 o0 h3), (h1, ce36 h4), (h2, ce3 z.1), (h3, ce3 z.1), (h4, ce35 kc0 h5), (h5, ce49)] [(kc0, .object "java/lang/Object")] sz z)) (va_Qv (fun (_ : Unit) => True) (fun (_ : Unit) (t : State) => ∃ (n0 : Nat), ∃ (m0 : ClassId), PG (dC, dI) [(h0, ce21 h1 h2 o0 h3), (h1, ce36 h4), (h2, ce3 z.1), (h3, ce40 n0), (h4, ce35 kc0 h5), (h5, ce49), (n0, ce35 m0 (z.2.2.1 128))] [(kc0, .object "java/lang/Object"), (m0, .object "java/lang/Object")] (va_A [(h0, ce21 h1 h2 o0 h3), (h1, ce36 h4), (h2, ce3 z.1), (h3, ce3 z.1), (h4, ce35 kc0 h5), (h5, ce49)] sz) sz 9 t) (va_A [(h0, ce21 h1 h2 o0 h3), (h1, ce36 h4), (h2, ce3 z.1), (h3, ce3 z.1), (h4, ce35 kc0 h5), (h5, ce49)] sz)) 9 150 (va_A [(h0, ce21 h1 h2 o0 h3), (h1, ce36 h4), (h2, ce3 z.1), (h3, ce3 z.1), (h4, ce35 kc0 h5), (h5, ce49)] sz) := by
  refine Met.ofW (cc := cX9_restart) (maxL := 4) (ret := none) (by decide) rfl ?_
  intro p e s m args below meth c s₁ B hml hv
  obtain ⟨rfl, hsz, hP, hK, hD0, hX, hT⟩ := hv
  have hx := B.exec
  have hb := B.bytes
  have hr := B.returns
  have hts0 := atoms_spec (ws := .code yX9_restart cX9_restart 4 none :: wsL_law) B.pre
  have hts := xTail hts0
  have hown : s.vm.findClass RX9 = some m.cls := xown B.named rfl
  have hlocks := B.notSynchronized
  subst hsz
  have hD := hD0.self (sz := s.heap.size)
  generalize hAe : va_A [(h0, ce21 h1 h2 o0 h3), (h1, ce36 h4), (h2, ce3 z.1), (h3, ce3 z.1), (h4, ce35 kc0 h5), (h5, ce49)] s.heap.size = A at hD hX ⊢
  have hA : ∀ q : Nat, s.heap.size ≤ q → A q := fun q h => by rw [← hAe]; exact Or.inr h
  have hS : va_S A s.heap s.heap [] := va_S.rf
  have hG : s.heap.size + 0 ≤ s.heap.size := Nat.le_refl _
  have hl := lv_entry ([.ref h0]) (n := 4) (Nat.le_of_ble_eq_true rfl)
  rw [lg_entry_eq]
  generalize (lg_sl ([.ref h0]) ++ List.replicate (4 - (lg_sl ([.ref h0])).length) Slot.unset).toArray = ls at hl ⊢
  have hl : lv_has ls 4 [(0, .ref h0)] := hl
  refine lv_aload_n hx hb dX9_restart_0 rfl (lv_at hl 0 rfl) ?_
  refine lv_iconst (v := 0) hx hb dX9_restart_1 (by decide) ?_
  refine va_put (D := (dC, dI)) (ci := 8) (v := .int 0) (ty := .int) (C := RX9) (T := TX9) (N := 6) hx hb hts in_X9 tyX9 tyX9_ok nmX9 hown hK hP hD (va_Sre hS) 0 rfl rfl 5 (by decide) (hts _ q_289) (fun _ h9 => h9) rfl (by decide +kernel) rfl rfl (Nat.le_of_ble_eq_true rfl) dX9_restart_2 (fun H1 _ hP hD hS' => ?_)
  have hG : s.heap.size + 0 ≤ H1.size := Nat.le_trans hG hS'.1
  have hS := va_Str hS hS'
  have hP : va_P (dC, dI) xCl [(h0, ce21 h1 h2 o0 h3), (h1, ce36 h4), (h2, ce3 z.1), (h3, ce3 z.1), (h4, ce35 kc0 h5), (h5, ce49)] H1 := hP
  have hD := vd_as hP hD rfl
  refine lv_aload_n hx hb dX9_restart_5 rfl (lv_at hl 0 rfl) ?_
  have hM4 := k61_putInOrder l hl9 dC dI z h0 h1 h2 h3 o0 h4 H1.size
  obtain ⟨hF2, hC5⟩ := pc_M hM4 hP hD hK hS hX hT hA [0, 1, 2, 3] [] rfl rfl rfl
  refine va_callv (va_runV (As := []) (rest := []) ⟨hx, hb, hml, hown, hts⟩ hM4 (cwV 0 hts (gV q_299 q_300 q_301 q_60 q_298) rfl rfl rfl hV_X9_putInOrder ⟨Nat.le_of_ble_eq_true rfl, Nat.le_of_ble_eq_true rfl⟩) ⟨pc_blind, va_recv hK hP (ci := 8) (q := (RX9, TX9, 6)) (q0 := 0) rfl rfl, fun U hU hW => ⟨rfl, hC5 U hU hW⟩⟩ rfl rfl hl.1 rfl (lv_room (Nat.le_of_ble_eq_true rfl)) dX9_restart_6 ⟨(Nat.le_of_ble_eq_true rfl), (Nat.le_of_ble_eq_true rfl)⟩) hS (fun q9 _ h9 => hF2 q9 h9) hF2 (fun u6 t6 H6 L6 ht6 hvm6 hw6 hB6 hz6 hk6 hS => ?_)
  obtain ⟨a8, k9, hB6⟩ := hB6
  obtain ⟨hP, hD, hK⟩ := pq_jn (wz := [(h4, ce35 kc0 h5), (h5, ce49), (h0, ce21 h1 h2 o0 h3), (h1, ce36 h4), (h2, ce3 z.1), (h3, ce40 a8), (a8, ce35 k9 (z.2.2.1 128))]) (tz := [(kc0, .object "java/lang/Object"), (k9, .object "java/lang/Object")]) hP hD hK [0, 1, 2, 3] [0] rfl hk6 hF2 hB6.1 ht6 hvm6 rfl rfl
  have hG : s.heap.size + 3 ≤ H6.size := va_gr (g := 0) (g1 := 3) hG (by rw [← ht6]; exact hB6.2)
  refine W.widen (k := 3) (n := 54) (by decide) (by decide) ?_
  refine lv_aload_n hx hb dX9_restart_9 rfl (lv_at hl 0 rfl) ?_
  refine va_get (D := (dC, dI)) (ci := 8) (v := .ref h1) (C := RX9) (T := TX9) (N := 6) hx hb hts in_X9 hown hK hP 2 rfl rfl 1 (by decide) (hts _ q_64) (fun _ h9 => h9) rfl dX9_restart_10 ?_
  have hM12 := k63_iterator l hl9 dC dI z h1 h4 H6.size
  obtain ⟨hF10, hC13⟩ := pc_M hM12 hP hD hK hS hX hT hA [3] [] rfl rfl rfl
  refine va_callr (va_runV (As := []) (rest := []) ⟨hx, hb, hml, hown, hts⟩ hM12 (cwV 0 hts (gV q_256 q_257 q_258 q_12 q_255) rfl rfl rfl hV_Jx4a65c_iterator_32c93 ⟨Nat.le_of_ble_eq_true rfl, Nat.le_of_ble_eq_true rfl⟩) ⟨pc_blind, va_recv hK hP (ci := 0) (q := (RJx4a65c, TJx4a65c, 3)) (q0 := 3) rfl rfl, fun U hU hW => ⟨rfl, hC13 U hU hW⟩⟩ rfl rfl hl.1 rfl (lv_room (Nat.le_of_ble_eq_true rfl)) dX9_restart_13 ⟨(Nat.le_of_ble_eq_true rfl), (Nat.le_of_ble_eq_true rfl)⟩) hS (fun q9 _ h9 => hF10 q9 h9) hF10 (fun u14 r15 t14 H14 L14 ht14 hvm14 hw14 hB14 hz14 hk14 hS => ?_)
  obtain ⟨a16, hr14, hB14⟩ := hB14
  obtain ⟨hP, hD, hK⟩ := pq_jn (wz := [(h4, ce35 kc0 h5), (h5, ce49), (h0, ce21 h1 h2 o0 h3), (h2, ce3 z.1), (h3, ce40 a8), (a8, ce35 k9 (z.2.2.1 128)), (h1, ce36 h4), (a16, ce53 h1)]) (tz := [(kc0, .object "java/lang/Object"), (k9, .object "java/lang/Object")]) hP hD hK [3] [0, 1] rfl hk14 hF10 hB14.1 ht14 hvm14 rfl rfl
  have hG : s.heap.size + 4 ≤ H14.size := va_gr (g := 3) (g1 := 1) hG (by rw [← ht14]; exact hB14.2)
  refine W.eq (g2 := F0 m 16 ls [.ref a16]) (by rw [hr14]) ?_
  refine W.widen (k := 4) (n := 58) (by decide) (by decide) ?_
  refine lv_astore_n (lv' := [(1, .ref a16), (0, .ref h0)]) hx hb dX9_restart_16 rfl hl (by decide) rfl (fun ls hl => ?_)
  refine lv_aload_n hx hb dX9_restart_17 rfl (lv_at hl 0 rfl) ?_
  have hM19 := k64_hasNext l hl9 dC dI z a16 h1 h4 H14.size
  obtain ⟨hF17, hC20⟩ := pc_M hM19 hP hD hK hS hX hT hA [7, 6] [] rfl rfl rfl
  refine va_callFi (va_runF (As := []) (rest := []) (hK.1 1 (RJx35411, TJx35411, 4) rfl).2 ⟨hx, hb, hml, hown, hts⟩ hM19 (va_cwF 0 hts (gF q_261 q_262 q_263 q_246 q_260) rfl rfl rfl hT.2.2.2.2.2.2.1 hF_xIh ⟨Nat.le_of_ble_eq_true rfl, Nat.le_of_ble_eq_true rfl⟩) ⟨pc_blind, va_recv hK hP (ci := 1) (q := (RJx35411, TJx35411, 4)) (q0 := 7) rfl rfl, fun U hU hW => ⟨rfl, hC20 U hU hW⟩⟩ rfl rfl hl.1 rfl (lv_room (Nat.le_of_ble_eq_true rfl)) dX9_restart_18 ⟨(Nat.le_of_ble_eq_true rfl), (Nat.le_of_ble_eq_true rfl)⟩) hS (fun q9 _ h9 => hF17 q9 h9) hF17 (fun r22 u21 t21 H21 L21 ht21 hvm21 hw21 hB21 hz21 hk21 hS => ?_)
  have hP := pq_keep hP hD [7, 6] rfl hk21 hB21.1 ht21
  have hG : s.heap.size + 4 ≤ H21.size := Nat.le_trans hG hz21
  refine W.eq (g2 := F0 m 23 ls [.int 1]) (by rw [hw21]) ?_
  refine lv_if_eq (tgt := 55) hx hb dX9_restart_23 (by decide) (fun cz => absurd cz (by decide)) (fun _ => ?_)
  refine lv_aload_n hx hb dX9_restart_26 rfl (lv_at hl 0 rfl) ?_
  have hM25 := k66_next l hl9 dC dI z a16 h1 h4 h5 H21.size kc0
  obtain ⟨hF23, hC26⟩ := pc_M hM25 hP hD hK hS hX hT hA [7, 6, 0] [0] rfl rfl rfl
  refine va_callFr (va_runF (As := []) (rest := []) (hK.1 1 (RJx35411, TJx35411, 4) rfl).2 ⟨hx, hb, hml, hown, hts⟩ hM25 (va_cwF 0 hts (gF q_308 q_309 q_310 q_246 q_307) rfl rfl rfl hT.2.2.2.2.2.2.2.1 hF_xIn ⟨Nat.le_of_ble_eq_true rfl, Nat.le_of_ble_eq_true rfl⟩) ⟨pc_blind, va_recv hK hP (ci := 1) (q := (RJx35411, TJx35411, 4)) (q0 := 7) rfl rfl, fun U hU hW => ⟨rfl, hC26 U hU hW⟩⟩ rfl rfl hl.1 rfl (lv_room (Nat.le_of_ble_eq_true rfl)) dX9_restart_27 ⟨(Nat.le_of_ble_eq_true rfl), (Nat.le_of_ble_eq_true rfl)⟩) hS (fun q9 _ h9 => hF23 q9 h9) hF23 (fun u27 r28 t27 H27 L27 ht27 hvm27 hw27 hB27 hz27 hk27 hS => ?_)
  obtain ⟨hr27, hB27⟩ := hB27
  obtain ⟨hP, hD, hK⟩ := pq_jn (wz := [(h5, ce49), (h0, ce21 h1 h2 o0 h3), (h2, ce3 z.1), (h3, ce40 a8), (a8, ce35 k9 (z.2.2.1 128)), (a16, ce55 h1), (h1, ce36 h4), (h4, ce35 kc0 h5)]) (tz := [(k9, .object "java/lang/Object"), (kc0, .object "java/lang/Object")]) hP hD hK [7, 6, 0] [1] rfl hk27 hF23 hB27.1 ht27 hvm27 rfl rfl
  have hG : s.heap.size + 4 ≤ H27.size := Nat.le_trans hG hz27
  refine W.eq (g2 := F0 m 32 ls [.ref h5]) (by rw [hr27]) ?_
  refine va_castE (nm := RX8) hx hb hown (hts _ q_273) (va_recv hK hP (ci := 7) (q := (RX8, TX8, 6)) (q0 := 0) rfl rfl) dX9_restart_32 ?_
  refine lv_astore_n (lv' := [(2, .ref h5), (1, .ref a16), (0, .ref h0)]) hx hb dX9_restart_35 rfl hl (by decide) rfl (fun ls hl => ?_)
  refine lv_aload_n hx hb dX9_restart_36 rfl (lv_at hl 0 rfl) ?_
  refine lv_bipush (v := 120) hx hb dX9_restart_37 (by decide) ?_
  refine va_put (D := (dC, dI)) (ci := 7) (v := .int 120) (ty := .char) (C := RX8) (T := TX8) (N := 6) hx hb hts in_X8 tyX8 tyX8_ok nmX8 hown hK hP hD (va_Sre hS) 0 rfl rfl 1 (by decide) (hts _ q_311) (fun _ h9 => h9) rfl (by decide +kernel) rfl rfl (Nat.le_of_ble_eq_true rfl) dX9_restart_39 (fun H29 _ hP hD hS' => ?_)
  have hG : s.heap.size + 4 ≤ H29.size := Nat.le_trans hG hS'.1
  have hS := va_Str hS hS'
  have hP : va_P (dC, dI) xCl [(h5, ce49), (h0, ce21 h1 h2 o0 h3), (h2, ce3 z.1), (h3, ce40 a8), (a8, ce35 k9 (z.2.2.1 128)), (a16, ce55 h1), (h1, ce36 h4), (h4, ce35 kc0 h5)] H29 := hP
  have hD := vd_as hP hD rfl
  refine lv_aload_n hx hb dX9_restart_42 rfl (lv_at hl 0 rfl) ?_
  refine lv_iconst (v := 0) hx hb dX9_restart_43 (by decide) ?_
  refine va_put (D := (dC, dI)) (ci := 7) (v := .int 0) (ty := .int) (C := RX8) (T := TX8) (N := 6) hx hb hts in_X8 tyX8 tyX8_ok nmX8 hown hK hP hD (va_Sre hS) 0 rfl rfl 2 (by decide) (hts _ q_312) (fun _ h9 => h9) rfl (by decide +kernel) rfl rfl (Nat.le_of_ble_eq_true rfl) dX9_restart_44 (fun H30 _ hP hD hS' => ?_)
  have hG : s.heap.size + 4 ≤ H30.size := Nat.le_trans hG hS'.1
  have hS := va_Str hS hS'
  have hP : va_P (dC, dI) xCl [(h5, ce49), (h0, ce21 h1 h2 o0 h3), (h2, ce3 z.1), (h3, ce40 a8), (a8, ce35 k9 (z.2.2.1 128)), (a16, ce55 h1), (h1, ce36 h4), (h4, ce35 kc0 h5)] H30 := hP
  have hD := vd_as hP hD rfl
  refine lv_aload_n hx hb dX9_restart_47 rfl (lv_at hl 0 rfl) ?_
  refine lv_iconst (v := (-1)) hx hb dX9_restart_48 (by decide) ?_
  refine va_put (D := (dC, dI)) (ci := 7) (v := .int (-1)) (ty := .int) (C := RX8) (T := TX8) (N := 6) hx hb hts in_X8 tyX8 tyX8_ok nmX8 hown hK hP hD (va_Sre hS) 0 rfl rfl 3 (by decide) (hts _ q_313) (fun _ h9 => h9) rfl (by decide +kernel) rfl rfl (Nat.le_of_ble_eq_true rfl) dX9_restart_49 (fun H31 _ hP hD hS' => ?_)
  have hG : s.heap.size + 4 ≤ H31.size := Nat.le_trans hG hS'.1
  have hS := va_Str hS hS'
  have hP : va_P (dC, dI) xCl [(h5, ce49), (h0, ce21 h1 h2 o0 h3), (h2, ce3 z.1), (h3, ce40 a8), (a8, ce35 k9 (z.2.2.1 128)), (a16, ce55 h1), (h1, ce36 h4), (h4, ce35 kc0 h5)] H31 := hP
  have hD := vd_as hP hD rfl
  refine lv_goto (tgt := 17) hx hb dX9_restart_52 (by decide) ?_
  refine lv_aload_n hx hb dX9_restart_17 rfl (lv_at hl 1 rfl) ?_
  have hM34 := k67_hasNext l hl9 dC dI z a16 h1 h4 H31.size
  obtain ⟨hF32, hC35⟩ := pc_M hM34 hP hD hK hS hX hT hA [5, 6] [] rfl rfl rfl
  refine va_callFi (va_runF (As := []) (rest := []) (hK.1 1 (RJx35411, TJx35411, 4) rfl).2 ⟨hx, hb, hml, hown, hts⟩ hM34 (va_cwF 0 hts (gF q_261 q_262 q_263 q_246 q_260) rfl rfl rfl hT.2.2.2.2.2.2.1 hF_xIh ⟨Nat.le_of_ble_eq_true rfl, Nat.le_of_ble_eq_true rfl⟩) ⟨pc_blind, va_recv hK hP (ci := 1) (q := (RJx35411, TJx35411, 4)) (q0 := 5) rfl rfl, fun U hU hW => ⟨rfl, hC35 U hU hW⟩⟩ rfl rfl hl.1 rfl (lv_room (Nat.le_of_ble_eq_true rfl)) dX9_restart_18 ⟨(Nat.le_of_ble_eq_true rfl), (Nat.le_of_ble_eq_true rfl)⟩) hS (fun q9 _ h9 => hF32 q9 h9) hF32 (fun r37 u36 t36 H36 L36 ht36 hvm36 hw36 hB36 hz36 hk36 hS => ?_)
  have hP := pq_keep hP hD [5, 6] rfl hk36 hB36.1 ht36
  have hG : s.heap.size + 4 ≤ H36.size := Nat.le_trans hG hz36
  refine W.eq (g2 := F0 m 23 ls [.int 0]) (by rw [hw36]) ?_
  refine lv_if_eq (tgt := 55) hx hb dX9_restart_23 (by decide) (fun _ => ?_) (fun cz => absurd (by decide) cz)
  refine lv_aload_n hx hb dX9_restart_55 rfl (lv_at hl 2 rfl) ?_
  refine lv_aload_n hx hb dX9_restart_56 rfl (lv_at hl 2 rfl) ?_
  have hM40 := k68_valuesNow l hl9 dC dI z h0 h1 h4 h5 h2 o0 h3 H36.size kc0
  obtain ⟨hF38, hC41⟩ := pc_M hM40 hP hD hK hS hX hT hA [1, 6, 7, 0] [1] rfl rfl rfl
  refine va_callr (va_runV (As := []) (rest := [.ref h0]) ⟨hx, hb, hml, hown, hts⟩ hM40 (cwV 0 hts (gV q_317 q_318 q_319 q_60 q_316) rfl rfl rfl hV_X9_valuesNow ⟨Nat.le_of_ble_eq_true rfl, Nat.le_of_ble_eq_true rfl⟩) ⟨pc_blind, va_recv hK hP (ci := 8) (q := (RX9, TX9, 6)) (q0 := 1) rfl rfl, fun U hU hW => ⟨rfl, hC41 U hU hW⟩⟩ rfl rfl hl.1 rfl (lv_room (Nat.le_of_ble_eq_true rfl)) dX9_restart_57 ⟨(Nat.le_of_ble_eq_true rfl), (Nat.le_of_ble_eq_true rfl)⟩) hS (fun q9 _ h9 => hF38 q9 h9) hF38 (fun u42 r43 t42 H42 L42 ht42 hvm42 hw42 hB42 hz42 hk42 hS => ?_)
  obtain ⟨a44, k45, hr42, hB42⟩ := hB42
  obtain ⟨hP, hD, hK⟩ := pq_jn (wz := [(h2, ce3 z.1), (h3, ce40 a8), (a8, ce35 k9 (z.2.2.1 128)), (a16, ce55 h1), (h0, ce21 h1 h2 o0 h3), (h1, ce36 h4), (h4, ce35 kc0 h5), (h5, ce49), (a44, ce56 k45)]) (tz := [(k9, .object "java/lang/Object"), (kc0, .object "java/lang/Object"), (k45, .char)]) hP hD hK [1, 6, 7, 0] [0] rfl hk42 hF38 hB42.1 ht42 hvm42 rfl rfl
  have hG : s.heap.size + 5 ≤ H42.size := va_gr (g := 4) (g1 := 1) hG (by rw [← ht42]; exact hB42.2)
  refine W.eq (g2 := F0 m 60 ls [.ref a44, .ref h0]) (by rw [hr42]) ?_
  refine W.widen (k := 5) (n := 98) (by decide) (by decide) ?_
  refine lv_iconst (v := (-1)) hx hb dX9_restart_60 (by decide) ?_
  refine lv_bipush (v := 120) hx hb dX9_restart_61 (by decide) ?_
  have hM48 := k76_settledAll l hl9 dC dI z h0 a44 h1 h2 h3 h4 a8 h5 o0 H42.size k45 kc0 k9
  obtain ⟨hF46, hC49⟩ := pc_M hM48 hP hD hK hS hX hT hA [4, 8, 5, 0, 1, 6, 2, 7] [2, 1, 0] rfl rfl rfl
  refine va_callr (va_runV (As := [.ref a44, .int (-1), .int 120]) (rest := []) ⟨hx, hb, hml, hown, hts⟩ hM48 (cwV 3 hts (gV q_328 q_329 q_330 q_60 q_327) rfl rfl rfl hV_X9_settledAll ⟨Nat.le_of_ble_eq_true rfl, Nat.le_of_ble_eq_true rfl⟩) ⟨pc_blind, va_recv hK hP (ci := 8) (q := (RX9, TX9, 6)) (q0 := 4) rfl rfl, fun U hU hW => ⟨rfl, hC49 U hU hW⟩⟩ rfl rfl hl.1 rfl (lv_room (Nat.le_of_ble_eq_true rfl)) dX9_restart_63 ⟨(Nat.le_of_ble_eq_true rfl), (Nat.le_of_ble_eq_true rfl)⟩) hS (fun q9 _ h9 => hF46 q9 h9) hF46 (fun u50 r51 t50 H50 L50 ht50 hvm50 hw50 hB50 hz50 hk50 hS => ?_)
  obtain ⟨a52, k53, hr50, hB50⟩ := hB50
  obtain ⟨hP, hD, hK⟩ := pq_jn (wz := [(a16, ce55 h1), (h0, ce21 h1 h2 o0 h3), (a44, ce56 k45), (h1, ce36 h4), (h2, ce3 z.1), (h3, ce40 a8), (h4, ce35 kc0 h5), (a8, ce35 k9 (z.2.2.1 128)), (h5, ce49), (a52, ce56 k53)]) (tz := [(k45, .char), (kc0, .object "java/lang/Object"), (k9, .object "java/lang/Object"), (k53, .char)]) hP hD hK [4, 8, 5, 0, 1, 6, 2, 7] [] rfl hk50 hF46 hB50.1 ht50 hvm50 rfl rfl
  have hG : s.heap.size + 8 ≤ H50.size := va_gr (g := 5) (g1 := 3) hG (by rw [← ht50]; exact hB50.2)
  refine W.eq (g2 := F0 m 66 ls [.ref a52]) (by rw [hr50]) ?_
  refine W.widen (k := 8) (n := 146) (by decide) (by decide) ?_
  refine lv_astore_n (lv' := [(1, .ref a52), (2, .ref h5), (0, .ref h0)]) hx hb dX9_restart_66 rfl hl (by decide) rfl (fun ls hl => ?_)
  refine lv_iconst (v := 0) hx hb dX9_restart_67 (by decide) ?_
  refine lv_istore_n (lv' := [(2, .int 0), (1, .ref a52), (0, .ref h0)]) hx hb dX9_restart_68 rfl hl (by decide) rfl (fun ls hl => ?_)
  refine lv_iload_n hx hb dX9_restart_69 rfl (lv_at hl 0 rfl) ?_
  refine lv_aload_n hx hb dX9_restart_70 rfl (lv_at hl 2 rfl) ?_
  refine va_get (D := (dC, dI)) (ci := 8) (v := .ref h1) (C := RX9) (T := TX9) (N := 6) hx hb hts in_X9 hown hK hP 1 rfl rfl 1 (by decide) (hts _ q_64) (fun _ h9 => h9) rfl dX9_restart_71 ?_
  have hM56 := k20_size l hl9 dC dI z h1 h4 H50.size 1 1
  obtain ⟨hF54, hC57⟩ := pc_M hM56 hP hD hK hS hX hT hA [3] [] rfl rfl rfl
  refine va_calli (va_runV (As := []) (rest := [.int 0]) ⟨hx, hb, hml, hown, hts⟩ hM56 (cwV 0 hts (gV q_272 q_77 q_78 q_12 q_75) rfl rfl rfl hV_Jx4a65c_size_8abf5 ⟨Nat.le_of_ble_eq_true rfl, Nat.le_of_ble_eq_true rfl⟩) ⟨pc_blind, va_recv hK hP (ci := 0) (q := (RJx4a65c, TJx4a65c, 3)) (q0 := 3) rfl rfl, fun U hU hW => ⟨rfl, hC57 U hU hW⟩⟩ rfl rfl hl.1 rfl (lv_room (Nat.le_of_ble_eq_true rfl)) dX9_restart_74 ⟨(Nat.le_of_ble_eq_true rfl), (Nat.le_of_ble_eq_true rfl)⟩) hS (fun q9 _ h9 => hF54 q9 h9) hF54 (fun r59 u58 t58 H58 L58 ht58 hvm58 hw58 hB58 hz58 hk58 hS => ?_)
  have hP := pq_keep hP hD [3] rfl hk58 hB58.1 ht58
  have hG : s.heap.size + 8 ≤ H58.size := Nat.le_trans hG hz58
  refine W.eq (g2 := F0 m 77 ls [.int 1, .int 0]) (by rw [hw58]) ?_
  refine lv_icmp_ge (tgt := 103) hx hb dX9_restart_77 (by decide) (fun cz => absurd cz (by decide)) (fun _ => ?_)
  refine lv_aload_n hx hb dX9_restart_80 rfl (lv_at hl 2 rfl) ?_
  refine va_get (D := (dC, dI)) (ci := 8) (v := .ref h1) (C := RX9) (T := TX9) (N := 6) hx hb hts in_X9 hown hK hP 1 rfl rfl 1 (by decide) (hts _ q_64) (fun _ h9 => h9) rfl dX9_restart_81 ?_
  refine lv_iload_n hx hb dX9_restart_84 rfl (lv_at hl 0 rfl) ?_
  have hM62 := k24_get l hl9 dC dI z h1 h4 h5 H58.size kc0
  obtain ⟨hF60, hC63⟩ := pc_M hM62 hP hD hK hS hX hT hA [3, 6] [1] rfl rfl rfl
  refine va_callr (va_runV (As := [.int 0]) (rest := []) ⟨hx, hb, hml, hown, hts⟩ hM62 (cwV 1 hts (gV q_315 q_157 q_158 q_12 q_155) rfl rfl rfl hV_Jx4a65c_get_915e3 ⟨Nat.le_of_ble_eq_true rfl, Nat.le_of_ble_eq_true rfl⟩) ⟨pc_blind, va_recv hK hP (ci := 0) (q := (RJx4a65c, TJx4a65c, 3)) (q0 := 3) rfl rfl, fun U hU hW => ⟨rfl, hC63 U hU hW⟩⟩ rfl rfl hl.1 rfl (lv_room (Nat.le_of_ble_eq_true rfl)) dX9_restart_85 ⟨(Nat.le_of_ble_eq_true rfl), (Nat.le_of_ble_eq_true rfl)⟩) hS (fun q9 _ h9 => hF60 q9 h9) hF60 (fun u64 r65 t64 H64 L64 ht64 hvm64 hw64 hB64 hz64 hk64 hS => ?_)
  obtain ⟨hr64, hB64⟩ := hB64
  have hP := pq_keep hP hD [3, 6] rfl hk64 hB64.1 ht64
  have hG : s.heap.size + 8 ≤ H64.size := Nat.le_trans hG hz64
  refine W.eq (g2 := F0 m 88 ls [.ref h5]) (by rw [hr64]) ?_
  refine va_castE (nm := RX8) hx hb hown (hts _ q_273) (va_recv hK hP (ci := 7) (q := (RX8, TX8, 6)) (q0 := 8) rfl rfl) dX9_restart_88 ?_
  refine lv_aload_n hx hb dX9_restart_91 rfl (lv_at hl 1 rfl) ?_
  refine lv_iload_n hx hb dX9_restart_92 rfl (lv_at hl 0 rfl) ?_
  refine va_cald hx hb hK hP 9 3 rfl rfl (i := 0) (by unfold vp_in; decide) dX9_restart_93 ?_
  refine W.eq (g2 := F0 m 94 ls [.int 120, .ref h5]) rfl ?_
  refine va_put (D := (dC, dI)) (ci := 7) (v := .int 120) (ty := .char) (C := RX8) (T := TX8) (N := 6) hx hb hts in_X8 tyX8 tyX8_ok nmX8 hown hK hP hD (va_Sre hS) 8 rfl rfl 1 (by decide) (hts _ q_311) (fun _ h9 => h9) rfl (by decide +kernel) rfl rfl (Nat.le_of_ble_eq_true rfl) dX9_restart_94 (fun H66 _ hP hD hS' => ?_)
  have hG : s.heap.size + 8 ≤ H66.size := Nat.le_trans hG hS'.1
  have hS := va_Str hS hS'
  have hP : va_P (dC, dI) xCl [(a16, ce55 h1), (h0, ce21 h1 h2 o0 h3), (a44, ce56 k45), (h1, ce36 h4), (h2, ce3 z.1), (h3, ce40 a8), (h4, ce35 kc0 h5), (a8, ce35 k9 (z.2.2.1 128)), (h5, ce49), (a52, ce56 k53)] H66 := hP
  have hD := vd_as hP hD rfl
  refine lv_iinc (v := 1) (lv' := [(2, .int 1), (1, .ref a52), (0, .ref h0)]) hx hb dX9_restart_97 hl (k := 0) rfl (by decide) (by decide) rfl (fun ls hl => ?_)
  refine lv_goto (tgt := 69) hx hb dX9_restart_100 (by decide) ?_
  refine lv_iload_n hx hb dX9_restart_69 rfl (lv_at hl 0 rfl) ?_
  refine lv_aload_n hx hb dX9_restart_70 rfl (lv_at hl 2 rfl) ?_
  refine va_get (D := (dC, dI)) (ci := 8) (v := .ref h1) (C := RX9) (T := TX9) (N := 6) hx hb hts in_X9 hown hK hP 1 rfl rfl 1 (by decide) (hts _ q_64) (fun _ h9 => h9) rfl dX9_restart_71 ?_
  have hM69 := k20_size l hl9 dC dI z h1 h4 H66.size 1 1
  obtain ⟨hF67, hC70⟩ := pc_M hM69 hP hD hK hS hX hT hA [3] [] rfl rfl rfl
  refine va_calli (va_runV (As := []) (rest := [.int 1]) ⟨hx, hb, hml, hown, hts⟩ hM69 (cwV 0 hts (gV q_272 q_77 q_78 q_12 q_75) rfl rfl rfl hV_Jx4a65c_size_8abf5 ⟨Nat.le_of_ble_eq_true rfl, Nat.le_of_ble_eq_true rfl⟩) ⟨pc_blind, va_recv hK hP (ci := 0) (q := (RJx4a65c, TJx4a65c, 3)) (q0 := 3) rfl rfl, fun U hU hW => ⟨rfl, hC70 U hU hW⟩⟩ rfl rfl hl.1 rfl (lv_room (Nat.le_of_ble_eq_true rfl)) dX9_restart_74 ⟨(Nat.le_of_ble_eq_true rfl), (Nat.le_of_ble_eq_true rfl)⟩) hS (fun q9 _ h9 => hF67 q9 h9) hF67 (fun r72 u71 t71 H71 L71 ht71 hvm71 hw71 hB71 hz71 hk71 hS => ?_)
  have hP := pq_keep hP hD [3] rfl hk71 hB71.1 ht71
  have hG : s.heap.size + 8 ≤ H71.size := Nat.le_trans hG hz71
  refine W.eq (g2 := F0 m 77 ls [.int 1, .int 1]) (by rw [hw71]) ?_
  refine lv_icmp_ge (tgt := 103) hx hb dX9_restart_77 (by decide) (fun _ => ?_) (fun cz => absurd (by decide) cz)
  refine lv_aload_n hx hb dX9_restart_103 rfl (lv_at hl 2 rfl) ?_
  refine va_get (D := (dC, dI)) (ci := 8) (v := .ref h2) (C := RX9) (T := TX9) (N := 6) hx hb hts in_X9 hown hK hP 1 rfl rfl 2 (by decide) (hts _ q_65) (fun _ h9 => h9) rfl dX9_restart_104 ?_
  have hM75 := k49_iterator l hl9 dC dI z h2 H71.size
  obtain ⟨hF73, hC76⟩ := pc_M hM75 hP hD hK hS hX hT hA [4] [] rfl rfl rfl
  refine va_callr (va_runV (As := []) (rest := []) ⟨hx, hb, hml, hown, hts⟩ hM75 (cwV 0 hts (gV q_256 q_257 q_258 q_12 q_255) rfl rfl rfl hV_Jx4a65c_iterator_32c93 ⟨Nat.le_of_ble_eq_true rfl, Nat.le_of_ble_eq_true rfl⟩) ⟨pc_blind, va_recv hK hP (ci := 0) (q := (RJx4a65c, TJx4a65c, 3)) (q0 := 4) rfl rfl, fun U hU hW => ⟨rfl, hC76 U hU hW⟩⟩ rfl rfl hl.1 rfl (lv_room (Nat.le_of_ble_eq_true rfl)) dX9_restart_107 ⟨(Nat.le_of_ble_eq_true rfl), (Nat.le_of_ble_eq_true rfl)⟩) hS (fun q9 _ h9 => hF73 q9 h9) hF73 (fun u77 r78 t77 H77 L77 ht77 hvm77 hw77 hB77 hz77 hk77 hS => ?_)
  obtain ⟨a79, hr77, hB77⟩ := hB77
  obtain ⟨hP, hD, hK⟩ := pq_jn (wz := [(a16, ce55 h1), (h0, ce21 h1 h2 o0 h3), (a44, ce56 k45), (h1, ce36 h4), (h3, ce40 a8), (h4, ce35 kc0 h5), (a8, ce35 k9 (z.2.2.1 128)), (h5, ce49), (a52, ce56 k53), (h2, ce3 z.1), (a79, ce44 h2)]) (tz := [(k45, .char), (kc0, .object "java/lang/Object"), (k9, .object "java/lang/Object"), (k53, .char)]) hP hD hK [4] [0, 1, 2, 3] rfl hk77 hF73 hB77.1 ht77 hvm77 rfl rfl
  have hG : s.heap.size + 9 ≤ H77.size := va_gr (g := 8) (g1 := 1) hG (by rw [← ht77]; exact hB77.2)
  refine W.eq (g2 := F0 m 110 ls [.ref a79]) (by rw [hr77]) ?_
  refine W.widen (k := 9) (n := 150) (by decide) (by decide) ?_
  refine lv_astore_n (lv' := [(2, .ref a79), (1, .ref a52), (0, .ref h0)]) hx hb dX9_restart_110 rfl hl (by decide) rfl (fun ls hl => ?_)
  refine lv_aload_n hx hb dX9_restart_111 rfl (lv_at hl 0 rfl) ?_
  have hM82 := k50_hasNext l hl9 dC dI z a79 h2 H77.size
  obtain ⟨hF80, hC83⟩ := pc_M hM82 hP hD hK hS hX hT hA [10, 9] [] rfl rfl rfl
  refine va_callFi (va_runF (As := []) (rest := []) (hK.1 1 (RJx35411, TJx35411, 4) rfl).2 ⟨hx, hb, hml, hown, hts⟩ hM82 (va_cwF 0 hts (gF q_261 q_262 q_263 q_246 q_260) rfl rfl rfl hT.2.2.2.2.2.2.1 hF_xIh ⟨Nat.le_of_ble_eq_true rfl, Nat.le_of_ble_eq_true rfl⟩) ⟨pc_blind, va_recv hK hP (ci := 1) (q := (RJx35411, TJx35411, 4)) (q0 := 10) rfl rfl, fun U hU hW => ⟨rfl, hC83 U hU hW⟩⟩ rfl rfl hl.1 rfl (lv_room (Nat.le_of_ble_eq_true rfl)) dX9_restart_112 ⟨(Nat.le_of_ble_eq_true rfl), (Nat.le_of_ble_eq_true rfl)⟩) hS (fun q9 _ h9 => hF80 q9 h9) hF80 (fun r85 u84 t84 H84 L84 ht84 hvm84 hw84 hB84 hz84 hk84 hS => ?_)
  have hP := pq_keep hP hD [10, 9] rfl hk84 hB84.1 ht84
  have hG : s.heap.size + 9 ≤ H84.size := Nat.le_trans hG hz84
  refine W.eq (g2 := F0 m 117 ls [.int 0]) (by rw [hw84]) ?_
  refine lv_if_eq (tgt := 147) hx hb dX9_restart_117 (by decide) (fun _ => ?_) (fun cz => absurd (by decide) cz)
  exact W.vret hx hb hr (fun t9 ht9 hW9 => ⟨⟨(), rfl, trivial, ⟨a8, k9, ⟨pq_mk2 hP hD hK [1, 3, 9, 4, 5, 7, 6] [1, 2] rfl rfl rfl ht9 hW9, by rw [ht9]; exact Nat.le_trans (Nat.add_le_add_left (Nat.le_of_ble_eq_true rfl) _) hG⟩⟩⟩, hS.F ht9⟩) hS.2.2 dX9_restart_147

set_option maxHeartbeats 4000000 in
set_option maxRecDepth 100000 in
theorem k78_addSource (l : Launch) (hl9 : l.stackTraces = false) (dC : Nat → ClassId) (dI : Nat → Nat → Nat) (z : XZ) (h0 h1 h2 h3 : Nat) (o0 : Nat) (sz : Nat) : Met l yX9_addSource (.code yX9_addSource cX9_addSource 3 (some .int) :: wsL_law) ({ frames := 7, cells := 12, slots := 170, locals := 157 }) (va_Pc [.ref h0, .int 105] (PC (dC, dI) [(h0, ce21 h1 h2 o0 h3), (h1, ce3 z.1), (h2, ce3 z.1), (h3, ce3 z.1)] [] sz z)) (va_Qi (fun (r : Int32) (_ : Unit) => r = 0) (fun (_ : Unit) (t : State) => ∃ (n0 n1 n2 : Nat), ∃ (m0 m1 : ClassId), PG (dC, dI) [(h0, ce21 h1 h2 o0 h3), (h1, ce36 n0), (h2, ce3 z.1), (h3, ce40 n1), (n0, ce35 m0 n2), (n1, ce35 m1 (z.2.2.1 128)), (n2, ce49)] [(m0, .object "java/lang/Object"), (m1, .object "java/lang/Object")] (va_A [(h0, ce21 h1 h2 o0 h3), (h1, ce3 z.1), (h2, ce3 z.1), (h3, ce3 z.1)] sz) sz 12 t) (va_A [(h0, ce21 h1 h2 o0 h3), (h1, ce3 z.1), (h2, ce3 z.1), (h3, ce3 z.1)] sz)) 12 170 (va_A [(h0, ce21 h1 h2 o0 h3), (h1, ce3 z.1), (h2, ce3 z.1), (h3, ce3 z.1)] sz) := by
  refine Met.ofW (cc := cX9_addSource) (maxL := 3) (ret := (some .int)) (by decide) rfl ?_
  intro p e s m args below meth c s₁ B hml hv
  obtain ⟨rfl, hsz, hP, hK, hD0, hX, hT⟩ := hv
  have hx := B.exec
  have hb := B.bytes
  have hr := B.returns
  have hts0 := atoms_spec (ws := .code yX9_addSource cX9_addSource 3 (some .int) :: wsL_law) B.pre
  have hts := xTail hts0
  have hown : s.vm.findClass RX9 = some m.cls := xown B.named rfl
  have hlocks := B.notSynchronized
  subst hsz
  have hD := hD0.self (sz := s.heap.size)
  generalize hAe : va_A [(h0, ce21 h1 h2 o0 h3), (h1, ce3 z.1), (h2, ce3 z.1), (h3, ce3 z.1)] s.heap.size = A at hD hX ⊢
  have hA : ∀ q : Nat, s.heap.size ≤ q → A q := fun q h => by rw [← hAe]; exact Or.inr h
  have hS : va_S A s.heap s.heap [] := va_S.rf
  have hG : s.heap.size + 0 ≤ s.heap.size := Nat.le_refl _
  have hl := lv_entry ([.ref h0, .int 105]) (n := 3) (Nat.le_of_ble_eq_true rfl)
  rw [lg_entry_eq]
  generalize (lg_sl ([.ref h0, .int 105]) ++ List.replicate (3 - (lg_sl ([.ref h0, .int 105])).length) Slot.unset).toArray = ls at hl ⊢
  have hl : lv_has ls 3 [(0, .ref h0), (1, .int 105)] := hl
  refine lv_aload_n hx hb dX9_addSource_0 rfl (lv_at hl 0 rfl) ?_
  refine lv_aload_n hx hb dX9_addSource_1 rfl (lv_at hl 0 rfl) ?_
  have hM3 := k51_sources l hl9 dC dI z h0 h1 h2 o0 h3 s.heap.size
  obtain ⟨hF1, hC4⟩ := pc_M hM3 hP hD hK hS hX hT hA [0, 1] [] rfl rfl rfl
  refine va_calli (va_runV (As := []) (rest := [.ref h0]) ⟨hx, hb, hml, hown, hts⟩ hM3 (cwV 0 hts (gV q_265 q_266 q_267 q_60 q_264) rfl rfl rfl hV_X9_sources ⟨Nat.le_of_ble_eq_true rfl, Nat.le_of_ble_eq_true rfl⟩) ⟨pc_blind, va_recv hK hP (ci := 8) (q := (RX9, TX9, 6)) (q0 := 0) rfl rfl, fun U hU hW => ⟨rfl, hC4 U hU hW⟩⟩ rfl rfl hl.1 rfl (lv_room (Nat.le_of_ble_eq_true rfl)) dX9_addSource_2 ⟨(Nat.le_of_ble_eq_true rfl), (Nat.le_of_ble_eq_true rfl)⟩) hS (fun q9 _ h9 => hF1 q9 h9) hF1 (fun r6 u5 t5 H5 L5 ht5 hvm5 hw5 hB5 hz5 hk5 hS => ?_)
  have hP := pq_keep hP hD [0, 1] rfl hk5 hB5.1 ht5
  have hG : s.heap.size + 1 ≤ H5.size := va_gr (g := 0) (g1 := 1) hG (by rw [← ht5]; exact hB5.2)
  refine W.eq (g2 := F0 m 5 ls [.int 0, .ref h0]) (by rw [hw5]) ?_
  refine W.widen (k := 1) (n := 4) (by decide) (by decide) ?_
  refine lv_bipush (v := 8) hx hb dX9_addSource_5 (by decide) ?_
  refine lv_icmp_ne (tgt := 14) hx hb dX9_addSource_7 (by decide) (fun _ => ?_) (fun cz => absurd cz (by decide))
  refine lv_iconst (v := 0) hx hb dX9_addSource_14 (by decide) ?_
  refine lv_iconst (v := 1) hx hb dX9_addSource_15 (by decide) ?_
  have hM9 := k52_fails l hl9 dC dI z h0 h1 h2 o0 h3 H5.size
  obtain ⟨hF7, hC10⟩ := pc_M hM9 hP hD hK hS hX hT hA [0] [] rfl rfl rfl
  refine va_calli (va_runV (As := [.int 0, .int 1]) (rest := []) ⟨hx, hb, hml, hown, hts⟩ hM9 (cwV 2 hts (gV q_269 q_270 q_271 q_60 q_268) rfl rfl rfl hV_X9_fails ⟨Nat.le_of_ble_eq_true rfl, Nat.le_of_ble_eq_true rfl⟩) ⟨pc_blind, va_recv hK hP (ci := 8) (q := (RX9, TX9, 6)) (q0 := 0) rfl rfl, fun U hU hW => ⟨rfl, hC10 U hU hW⟩⟩ rfl rfl hl.1 rfl (lv_room (Nat.le_of_ble_eq_true rfl)) dX9_addSource_16 ⟨(Nat.le_of_ble_eq_true rfl), (Nat.le_of_ble_eq_true rfl)⟩) hS (fun q9 _ h9 => hF7 q9 h9) hF7 (fun r12 u11 t11 H11 L11 ht11 hvm11 hw11 hB11 hz11 hk11 hS => ?_)
  have hP := pq_keep hP hD [0] rfl hk11 hB11.1 ht11
  have hG : s.heap.size + 1 ≤ H11.size := Nat.le_trans hG hz11
  refine W.eq (g2 := F0 m 19 ls [.int 0]) (by rw [hw11]) ?_
  refine lv_if_ne (tgt := 47) hx hb dX9_addSource_19 (by decide) (fun cz => absurd (by decide) cz) (fun _ => ?_)
  refine lv_aload_n hx hb dX9_addSource_22 rfl (lv_at hl 0 rfl) ?_
  refine lv_aload_n hx hb dX9_addSource_23 rfl (lv_at hl 0 rfl) ?_
  refine va_get (D := (dC, dI)) (ci := 8) (v := .ref h1) (C := RX9) (T := TX9) (N := 6) hx hb hts in_X9 hown hK hP 0 rfl rfl 1 (by decide) (hts _ q_64) (fun _ h9 => h9) rfl dX9_addSource_24 ?_
  have hM15 := k9_size l hl9 dC dI z h1 H11.size 0 0
  obtain ⟨hF13, hC16⟩ := pc_M hM15 hP hD hK hS hX hT hA [1] [] rfl rfl rfl
  refine va_calli (va_runV (As := []) (rest := [.ref h0]) ⟨hx, hb, hml, hown, hts⟩ hM15 (cwV 0 hts (gV q_272 q_77 q_78 q_12 q_75) rfl rfl rfl hV_Jx4a65c_size_8abf5 ⟨Nat.le_of_ble_eq_true rfl, Nat.le_of_ble_eq_true rfl⟩) ⟨pc_blind, va_recv hK hP (ci := 0) (q := (RJx4a65c, TJx4a65c, 3)) (q0 := 1) rfl rfl, fun U hU hW => ⟨rfl, hC16 U hU hW⟩⟩ rfl rfl hl.1 rfl (lv_room (Nat.le_of_ble_eq_true rfl)) dX9_addSource_27 ⟨(Nat.le_of_ble_eq_true rfl), (Nat.le_of_ble_eq_true rfl)⟩) hS (fun q9 _ h9 => hF13 q9 h9) hF13 (fun r18 u17 t17 H17 L17 ht17 hvm17 hw17 hB17 hz17 hk17 hS => ?_)
  have hP := pq_keep hP hD [1] rfl hk17 hB17.1 ht17
  have hG : s.heap.size + 1 ≤ H17.size := Nat.le_trans hG hz17
  refine W.eq (g2 := F0 m 30 ls [.int 0, .ref h0]) (by rw [hw17]) ?_
  refine lv_bipush (v := 40) hx hb dX9_addSource_30 (by decide) ?_
  refine lv_icmp_ne (tgt := 39) hx hb dX9_addSource_32 (by decide) (fun _ => ?_) (fun cz => absurd cz (by decide))
  refine lv_iconst (v := 0) hx hb dX9_addSource_39 (by decide) ?_
  refine lv_iconst (v := 2) hx hb dX9_addSource_40 (by decide) ?_
  have hM21 := k53_fails l hl9 dC dI z h0 h1 h2 o0 h3 H17.size
  obtain ⟨hF19, hC22⟩ := pc_M hM21 hP hD hK hS hX hT hA [0] [] rfl rfl rfl
  refine va_calli (va_runV (As := [.int 0, .int 2]) (rest := []) ⟨hx, hb, hml, hown, hts⟩ hM21 (cwV 2 hts (gV q_269 q_270 q_271 q_60 q_268) rfl rfl rfl hV_X9_fails ⟨Nat.le_of_ble_eq_true rfl, Nat.le_of_ble_eq_true rfl⟩) ⟨pc_blind, va_recv hK hP (ci := 8) (q := (RX9, TX9, 6)) (q0 := 0) rfl rfl, fun U hU hW => ⟨rfl, hC22 U hU hW⟩⟩ rfl rfl hl.1 rfl (lv_room (Nat.le_of_ble_eq_true rfl)) dX9_addSource_41 ⟨(Nat.le_of_ble_eq_true rfl), (Nat.le_of_ble_eq_true rfl)⟩) hS (fun q9 _ h9 => hF19 q9 h9) hF19 (fun r24 u23 t23 H23 L23 ht23 hvm23 hw23 hB23 hz23 hk23 hS => ?_)
  have hP := pq_keep hP hD [0] rfl hk23 hB23.1 ht23
  have hG : s.heap.size + 1 ≤ H23.size := Nat.le_trans hG hz23
  refine W.eq (g2 := F0 m 44 ls [.int 0]) (by rw [hw23]) ?_
  refine lv_if_eq (tgt := 49) hx hb dX9_addSource_44 (by decide) (fun _ => ?_) (fun cz => absurd (by decide) cz)
  refine lv_aload_n hx hb dX9_addSource_49 rfl (lv_at hl 0 rfl) ?_
  refine lv_iload_n hx hb dX9_addSource_50 rfl (lv_at hl 1 rfl) ?_
  have hM27 := k57_add l hl9 dC dI z h0 h1 h2 o0 h3 H23.size
  obtain ⟨hF25, hC28⟩ := pc_M hM27 hP hD hK hS hX hT hA [0, 1] [] rfl rfl rfl
  refine va_calli (va_runV (As := [.int 105]) (rest := []) ⟨hx, hb, hml, hown, hts⟩ hM27 (cwV 1 hts (gV q_286 q_287 q_288 q_60 q_285) rfl rfl rfl hV_X9_add ⟨Nat.le_of_ble_eq_true rfl, Nat.le_of_ble_eq_true rfl⟩) ⟨pc_blind, va_recv hK hP (ci := 8) (q := (RX9, TX9, 6)) (q0 := 0) rfl rfl, fun U hU hW => ⟨rfl, hC28 U hU hW⟩⟩ rfl rfl hl.1 rfl (lv_room (Nat.le_of_ble_eq_true rfl)) dX9_addSource_51 ⟨(Nat.le_of_ble_eq_true rfl), (Nat.le_of_ble_eq_true rfl)⟩) hS (fun q9 _ h9 => hF25 q9 h9) hF25 (fun r30 u29 t29 H29 L29 ht29 hvm29 hw29 hB29 hz29 hk29 hS => ?_)
  obtain ⟨a31, a32, k33, hB29⟩ := hB29
  obtain ⟨hP, hD, hK⟩ := pq_jn (wz := [(h2, ce3 z.1), (h3, ce3 z.1), (h0, ce21 h1 h2 o0 h3), (h1, ce36 a31), (a31, ce35 k33 a32), (a32, ce49)]) (tz := [(k33, .object "java/lang/Object")]) hP hD hK [0, 1] [] rfl hk29 hF25 hB29.1 ht29 hvm29 rfl rfl
  have hG : s.heap.size + 3 ≤ H29.size := va_gr (g := 1) (g1 := 2) hG (by rw [← ht29]; exact hB29.2)
  refine W.eq (g2 := F0 m 54 ls [.int 0]) (by rw [hw29]) ?_
  refine W.widen (k := 3) (n := 20) (by decide) (by decide) ?_
  refine lv_istore_n (lv' := [(2, .int 0), (0, .ref h0), (1, .int 105)]) hx hb dX9_addSource_54 rfl hl (by decide) rfl (fun ls hl => ?_)
  refine lv_aload_n hx hb dX9_addSource_55 rfl (lv_at hl 1 rfl) ?_
  have hM36 := k77_restart l hl9 dC dI z h0 h1 h2 h3 a31 a32 o0 H29.size k33
  obtain ⟨hF34, hC37⟩ := pc_M hM36 hP hD hK hS hX hT hA [2, 3, 0, 1, 4, 5] [0] rfl rfl rfl
  refine va_callv (va_runV (As := []) (rest := []) ⟨hx, hb, hml, hown, hts⟩ hM36 (cwV 0 hts (gV q_332 q_333 q_334 q_60 q_331) rfl rfl rfl hV_X9_restart ⟨Nat.le_of_ble_eq_true rfl, Nat.le_of_ble_eq_true rfl⟩) ⟨pc_blind, va_recv hK hP (ci := 8) (q := (RX9, TX9, 6)) (q0 := 2) rfl rfl, fun U hU hW => ⟨rfl, hC37 U hU hW⟩⟩ rfl rfl hl.1 rfl (lv_room (Nat.le_of_ble_eq_true rfl)) dX9_addSource_56 ⟨(Nat.le_of_ble_eq_true rfl), (Nat.le_of_ble_eq_true rfl)⟩) hS (fun q9 _ h9 => hF34 q9 h9) hF34 (fun u38 t38 H38 L38 ht38 hvm38 hw38 hB38 hz38 hk38 hS => ?_)
  obtain ⟨a40, k41, hB38⟩ := hB38
  obtain ⟨hP, hD, hK⟩ := pq_jn (wz := [(h0, ce21 h1 h2 o0 h3), (h1, ce36 a31), (h2, ce3 z.1), (h3, ce40 a40), (a31, ce35 k33 a32), (a32, ce49), (a40, ce35 k41 (z.2.2.1 128))]) (tz := [(k33, .object "java/lang/Object"), (k41, .object "java/lang/Object")]) hP hD hK [2, 3, 0, 1, 4, 5] [] rfl hk38 hF34 hB38.1 ht38 hvm38 rfl rfl
  have hG : s.heap.size + 12 ≤ H38.size := va_gr (g := 3) (g1 := 9) hG (by rw [← ht38]; exact hB38.2)
  refine W.widen (k := 12) (n := 170) (by decide) (by decide) ?_
  refine lv_iload_n hx hb dX9_addSource_59 rfl (lv_at hl 0 rfl) ?_
  exact W.iret (v := 0) hx hb hr (fun t9 ht9 hW9 => ⟨⟨0, (), rfl, rfl, ⟨a31, a40, a32, k33, k41, ⟨pq_mk2 hP hD hK [0, 1, 2, 3, 4, 6, 5] [0, 1] rfl rfl rfl ht9 hW9, by rw [ht9]; exact Nat.le_trans (Nat.add_le_add_left (Nat.le_of_ble_eq_true rfl) _) hG⟩⟩⟩, hS.F ht9⟩) hS.2.2 dX9_addSource_60

set_option maxHeartbeats 4000000 in
set_option maxRecDepth 100000 in
theorem k79_addInput (l : Launch) (hl9 : l.stackTraces = false) (dC : Nat → ClassId) (dI : Nat → Nat → Nat) (z : XZ) (h0 h1 h2 h3 : Nat) (o0 : Nat) (sz : Nat) : Met l yX9_addInput (.code yX9_addInput cX9_addInput 1 (some .int) :: wsL_law) ({ frames := 8, cells := 12, slots := 170, locals := 179 }) (va_Pc [.ref h0] (PC (dC, dI) [(h0, ce21 h1 h2 o0 h3), (h1, ce3 z.1), (h2, ce3 z.1), (h3, ce3 z.1)] [] sz z)) (va_Qi (fun (r : Int32) (_ : Unit) => r = 0) (fun (_ : Unit) (t : State) => ∃ (n0 n1 n2 : Nat), ∃ (m0 m1 : ClassId), PG (dC, dI) [(h0, ce21 h1 h2 o0 h3), (h1, ce36 n0), (h2, ce3 z.1), (h3, ce40 n1), (n0, ce35 m0 n2), (n1, ce35 m1 (z.2.2.1 128)), (n2, ce49)] [(m0, .object "java/lang/Object"), (m1, .object "java/lang/Object")] (va_A [(h0, ce21 h1 h2 o0 h3), (h1, ce3 z.1), (h2, ce3 z.1), (h3, ce3 z.1)] sz) sz 12 t) (va_A [(h0, ce21 h1 h2 o0 h3), (h1, ce3 z.1), (h2, ce3 z.1), (h3, ce3 z.1)] sz)) 12 170 (va_A [(h0, ce21 h1 h2 o0 h3), (h1, ce3 z.1), (h2, ce3 z.1), (h3, ce3 z.1)] sz) := by
  refine Met.ofW (cc := cX9_addInput) (maxL := 1) (ret := (some .int)) (by decide) rfl ?_
  intro p e s m args below meth c s₁ B hml hv
  obtain ⟨rfl, hsz, hP, hK, hD0, hX, hT⟩ := hv
  have hx := B.exec
  have hb := B.bytes
  have hr := B.returns
  have hts0 := atoms_spec (ws := .code yX9_addInput cX9_addInput 1 (some .int) :: wsL_law) B.pre
  have hts := xTail hts0
  have hown : s.vm.findClass RX9 = some m.cls := xown B.named rfl
  have hlocks := B.notSynchronized
  subst hsz
  have hD := hD0.self (sz := s.heap.size)
  generalize hAe : va_A [(h0, ce21 h1 h2 o0 h3), (h1, ce3 z.1), (h2, ce3 z.1), (h3, ce3 z.1)] s.heap.size = A at hD hX ⊢
  have hA : ∀ q : Nat, s.heap.size ≤ q → A q := fun q h => by rw [← hAe]; exact Or.inr h
  have hS : va_S A s.heap s.heap [] := va_S.rf
  have hG : s.heap.size + 0 ≤ s.heap.size := Nat.le_refl _
  have hl := lv_entry ([.ref h0]) (n := 1) (Nat.le_of_ble_eq_true rfl)
  rw [lg_entry_eq]
  generalize (lg_sl ([.ref h0]) ++ List.replicate (1 - (lg_sl ([.ref h0])).length) Slot.unset).toArray = ls at hl ⊢
  have hl : lv_has ls 1 [(0, .ref h0)] := hl
  refine lv_aload_n hx hb dX9_addInput_0 rfl (lv_at hl 0 rfl) ?_
  refine lv_iconst (v := 0) hx hb dX9_addInput_1 (by decide) ?_
  refine va_put (D := (dC, dI)) (ci := 8) (v := .int 0) (ty := .int) (C := RX9) (T := TX9) (N := 6) hx hb hts in_X9 tyX9 tyX9_ok nmX9 hown hK hP hD (va_Sre hS) 0 rfl rfl 0 (by decide) (hts _ q_243) (fun _ h9 => h9) rfl (by decide +kernel) rfl rfl (Nat.le_of_ble_eq_true rfl) dX9_addInput_2 (fun H1 _ hP hD hS' => ?_)
  have hG : s.heap.size + 0 ≤ H1.size := Nat.le_trans hG hS'.1
  have hS := va_Str hS hS'
  have hP : va_P (dC, dI) xCl [(h0, ce21 h1 h2 o0 h3), (h1, ce3 z.1), (h2, ce3 z.1), (h3, ce3 z.1)] H1 := hP
  have hD := vd_as hP hD rfl
  refine lv_aload_n hx hb dX9_addInput_5 rfl (lv_at hl 0 rfl) ?_
  refine lv_bipush (v := 105) hx hb dX9_addInput_6 (by decide) ?_
  have hM4 := k78_addSource l hl9 dC dI z h0 h1 h2 h3 o0 H1.size
  obtain ⟨hF2, hC5⟩ := pc_M hM4 hP hD hK hS hX hT hA [0, 1, 2, 3] [] rfl rfl rfl
  refine va_calli (va_runV (As := [.int 105]) (rest := []) ⟨hx, hb, hml, hown, hts⟩ hM4 (cwV 1 hts (gV q_336 q_337 q_338 q_60 q_335) rfl rfl rfl hV_X9_addSource ⟨Nat.le_of_ble_eq_true rfl, Nat.le_of_ble_eq_true rfl⟩) ⟨pc_blind, va_recv hK hP (ci := 8) (q := (RX9, TX9, 6)) (q0 := 0) rfl rfl, fun U hU hW => ⟨rfl, hC5 U hU hW⟩⟩ rfl rfl hl.1 rfl (lv_room (Nat.le_of_ble_eq_true rfl)) dX9_addInput_8 ⟨(Nat.le_of_ble_eq_true rfl), (Nat.le_of_ble_eq_true rfl)⟩) hS (fun q9 _ h9 => hF2 q9 h9) hF2 (fun r7 u6 t6 H6 L6 ht6 hvm6 hw6 hB6 hz6 hk6 hS => ?_)
  obtain ⟨a8, a9, a10, k11, k12, hB6⟩ := hB6
  obtain ⟨hP, hD, hK⟩ := pq_jn (wz := [(h0, ce21 h1 h2 o0 h3), (h1, ce36 a8), (h2, ce3 z.1), (h3, ce40 a9), (a8, ce35 k11 a10), (a9, ce35 k12 (z.2.2.1 128)), (a10, ce49)]) (tz := [(k11, .object "java/lang/Object"), (k12, .object "java/lang/Object")]) hP hD hK [0, 1, 2, 3] [] rfl hk6 hF2 hB6.1 ht6 hvm6 rfl rfl
  have hG : s.heap.size + 12 ≤ H6.size := va_gr (g := 0) (g1 := 12) hG (by rw [← ht6]; exact hB6.2)
  refine W.eq (g2 := F0 m 11 ls [.int 0]) (by rw [hw6]) ?_
  refine W.widen (k := 12) (n := 170) (by decide) (by decide) ?_
  exact W.iret (v := 0) hx hb hr (fun t9 ht9 hW9 => ⟨⟨0, (), rfl, rfl, ⟨a8, a9, a10, k11, k12, ⟨pq_mk2 hP hD hK [0, 1, 2, 3, 4, 5, 6] [0, 1] rfl rfl rfl ht9 hW9, by rw [ht9]; exact Nat.le_trans (Nat.add_le_add_left (Nat.le_of_ble_eq_true rfl) _) hG⟩⟩⟩, hS.F ht9⟩) hS.2.2 dX9_addInput_11

set_option maxHeartbeats 4000000 in
set_option maxRecDepth 100000 in
theorem k80_requireRoomForSource (l : Launch) (hl9 : l.stackTraces = false) (dC : Nat → ClassId) (dI : Nat → Nat → Nat) (z : XZ) (h0 h1 h2 : Nat) (o0 o1 o2 o3 o4 o5 : Nat) (sz : Nat) : Met l yX6_requireRoomForSource (.code yX6_requireRoomForSource cX6_requireRoomForSource 1 none :: wsL_law) ({ frames := 1, cells := 0, slots := 0, locals := 20 }) (va_Pc [.ref h0] (PC (dC, dI) [(h0, ce16 h1 o0 o1), (h1, ce7 o2 h2 o3 o4), (h2, ce36 o5)] [] sz z)) (va_Qv (fun (_ : Unit) => True) (fun (_ : Unit) (t : State) => PG (dC, dI) [(h0, ce16 h1 o0 o1), (h1, ce7 o2 h2 o3 o4), (h2, ce36 o5)] [] (va_A [(h0, ce16 h1 o0 o1), (h1, ce7 o2 h2 o3 o4), (h2, ce36 o5)] sz) sz 0 t) (va_A [(h0, ce16 h1 o0 o1), (h1, ce7 o2 h2 o3 o4), (h2, ce36 o5)] sz)) 0 0 (va_A [(h0, ce16 h1 o0 o1), (h1, ce7 o2 h2 o3 o4), (h2, ce36 o5)] sz) := by
  refine Met.ofW (cc := cX6_requireRoomForSource) (maxL := 1) (ret := none) (by decide) rfl ?_
  intro p e s m args below meth c s₁ B hml hv
  obtain ⟨rfl, hsz, hP, hK, hD0, hX, hT⟩ := hv
  have hx := B.exec
  have hb := B.bytes
  have hr := B.returns
  have hts0 := atoms_spec (ws := .code yX6_requireRoomForSource cX6_requireRoomForSource 1 none :: wsL_law) B.pre
  have hts := xTail hts0
  have hown : s.vm.findClass RX6 = some m.cls := xown B.named rfl
  have hlocks := B.notSynchronized
  subst hsz
  have hD := hD0.self (sz := s.heap.size)
  generalize hAe : va_A [(h0, ce16 h1 o0 o1), (h1, ce7 o2 h2 o3 o4), (h2, ce36 o5)] s.heap.size = A at hD hX ⊢
  have hA : ∀ q : Nat, s.heap.size ≤ q → A q := fun q h => by rw [← hAe]; exact Or.inr h
  have hS : va_S A s.heap s.heap [] := va_S.rf
  have hG : s.heap.size + 0 ≤ s.heap.size := Nat.le_refl _
  have hl := lv_entry ([.ref h0]) (n := 1) (Nat.le_of_ble_eq_true rfl)
  rw [lg_entry_eq]
  generalize (lg_sl ([.ref h0]) ++ List.replicate (1 - (lg_sl ([.ref h0])).length) Slot.unset).toArray = ls at hl ⊢
  have hl : lv_has ls 1 [(0, .ref h0)] := hl
  refine lv_aload_n hx hb dX6_requireRoomForSource_0 rfl (lv_at hl 0 rfl) ?_
  refine va_get (D := (dC, dI)) (ci := 6) (v := .ref h1) (C := RX6) (T := TX6) (N := 3) hx hb hts in_X6 hown hK hP 0 rfl rfl 0 (by decide) (hts _ q_34) (fun _ h9 => h9) rfl dX6_requireRoomForSource_1 ?_
  refine va_get (D := (dC, dI)) (ci := 2) (v := .ref h2) (C := RX0) (T := TX0) (N := 4) hx hb hts in_X0 hown hK hP 1 rfl rfl 1 (by decide) (hts _ q_73) (fun _ h9 => h9) rfl dX6_requireRoomForSource_4 ?_
  have hM3 := k20_size l hl9 dC dI z h2 o5 s.heap.size 1 1
  obtain ⟨hF1, hC4⟩ := pc_M hM3 hP hD hK hS hX hT hA [2] [] rfl rfl rfl
  refine va_calli (va_runV (As := []) (rest := []) ⟨hx, hb, hml, hown, hts⟩ hM3 (cwV 0 hts (gV q_76 q_77 q_78 q_12 q_75) rfl rfl rfl hV_Jx4a65c_size_8abf5 ⟨Nat.le_of_ble_eq_true rfl, Nat.le_of_ble_eq_true rfl⟩) ⟨pc_blind, va_recv hK hP (ci := 0) (q := (RJx4a65c, TJx4a65c, 3)) (q0 := 2) rfl rfl, fun U hU hW => ⟨rfl, hC4 U hU hW⟩⟩ rfl rfl hl.1 rfl (lv_room (Nat.le_of_ble_eq_true rfl)) dX6_requireRoomForSource_7 ⟨(Nat.le_of_ble_eq_true rfl), (Nat.le_of_ble_eq_true rfl)⟩) hS (fun q9 _ h9 => hF1 q9 h9) hF1 (fun r6 u5 t5 H5 L5 ht5 hvm5 hw5 hB5 hz5 hk5 hS => ?_)
  have hP := pq_keep hP hD [2] rfl hk5 hB5.1 ht5
  have hG : s.heap.size + 0 ≤ H5.size := Nat.le_trans hG hz5
  refine W.eq (g2 := F0 m 10 ls [.int 1]) (by rw [hw5]) ?_
  refine lv_bipush (v := 8) hx hb dX6_requireRoomForSource_10 (by decide) ?_
  refine lv_icmp_lt (tgt := 26) hx hb dX6_requireRoomForSource_12 (by decide) (fun _ => ?_) (fun cz => absurd (by decide) cz)
  exact W.vret hx hb hr (fun t9 ht9 hW9 => ⟨⟨(), rfl, trivial, ⟨pq_mk2 hP hD hK [0, 1, 2] [] rfl rfl rfl ht9 hW9, by rw [ht9]; exact Nat.le_trans (Nat.add_le_add_left (Nat.le_of_ble_eq_true rfl) _) hG⟩⟩, hS.F ht9⟩) hS.2.2 dX6_requireRoomForSource_26

set_option maxHeartbeats 4000000 in
set_option maxRecDepth 100000 in
theorem k81_requireRoomForNet (l : Launch) (hl9 : l.stackTraces = false) (dC : Nat → ClassId) (dI : Nat → Nat → Nat) (z : XZ) (h0 h1 h2 : Nat) (o0 o1 o2 o3 o4 o5 : Nat) (sz : Nat) : Met l yX6_requireRoomForNet (.code yX6_requireRoomForNet cX6_requireRoomForNet 1 none :: wsL_law) ({ frames := 1, cells := 0, slots := 0, locals := 20 }) (va_Pc [.ref h0] (PC (dC, dI) [(h0, ce16 h1 o0 o1), (h1, ce7 h2 o2 o3 o4), (h2, ce36 o5)] [] sz z)) (va_Qv (fun (_ : Unit) => True) (fun (_ : Unit) (t : State) => PG (dC, dI) [(h0, ce16 h1 o0 o1), (h1, ce7 h2 o2 o3 o4), (h2, ce36 o5)] [] (va_A [(h0, ce16 h1 o0 o1), (h1, ce7 h2 o2 o3 o4), (h2, ce36 o5)] sz) sz 0 t) (va_A [(h0, ce16 h1 o0 o1), (h1, ce7 h2 o2 o3 o4), (h2, ce36 o5)] sz)) 0 0 (va_A [(h0, ce16 h1 o0 o1), (h1, ce7 h2 o2 o3 o4), (h2, ce36 o5)] sz) := by
  refine Met.ofW (cc := cX6_requireRoomForNet) (maxL := 1) (ret := none) (by decide) rfl ?_
  intro p e s m args below meth c s₁ B hml hv
  obtain ⟨rfl, hsz, hP, hK, hD0, hX, hT⟩ := hv
  have hx := B.exec
  have hb := B.bytes
  have hr := B.returns
  have hts0 := atoms_spec (ws := .code yX6_requireRoomForNet cX6_requireRoomForNet 1 none :: wsL_law) B.pre
  have hts := xTail hts0
  have hown : s.vm.findClass RX6 = some m.cls := xown B.named rfl
  have hlocks := B.notSynchronized
  subst hsz
  have hD := hD0.self (sz := s.heap.size)
  generalize hAe : va_A [(h0, ce16 h1 o0 o1), (h1, ce7 h2 o2 o3 o4), (h2, ce36 o5)] s.heap.size = A at hD hX ⊢
  have hA : ∀ q : Nat, s.heap.size ≤ q → A q := fun q h => by rw [← hAe]; exact Or.inr h
  have hS : va_S A s.heap s.heap [] := va_S.rf
  have hG : s.heap.size + 0 ≤ s.heap.size := Nat.le_refl _
  have hl := lv_entry ([.ref h0]) (n := 1) (Nat.le_of_ble_eq_true rfl)
  rw [lg_entry_eq]
  generalize (lg_sl ([.ref h0]) ++ List.replicate (1 - (lg_sl ([.ref h0])).length) Slot.unset).toArray = ls at hl ⊢
  have hl : lv_has ls 1 [(0, .ref h0)] := hl
  refine lv_aload_n hx hb dX6_requireRoomForNet_0 rfl (lv_at hl 0 rfl) ?_
  refine va_get (D := (dC, dI)) (ci := 6) (v := .ref h1) (C := RX6) (T := TX6) (N := 3) hx hb hts in_X6 hown hK hP 0 rfl rfl 0 (by decide) (hts _ q_34) (fun _ h9 => h9) rfl dX6_requireRoomForNet_1 ?_
  refine va_get (D := (dC, dI)) (ci := 2) (v := .ref h2) (C := RX0) (T := TX0) (N := 4) hx hb hts in_X0 hown hK hP 1 rfl rfl 0 (by decide) (hts _ q_83) (fun _ h9 => h9) rfl dX6_requireRoomForNet_4 ?_
  have hM3 := k20_size l hl9 dC dI z h2 o5 s.heap.size 1 1
  obtain ⟨hF1, hC4⟩ := pc_M hM3 hP hD hK hS hX hT hA [2] [] rfl rfl rfl
  refine va_calli (va_runV (As := []) (rest := []) ⟨hx, hb, hml, hown, hts⟩ hM3 (cwV 0 hts (gV q_76 q_77 q_78 q_12 q_75) rfl rfl rfl hV_Jx4a65c_size_8abf5 ⟨Nat.le_of_ble_eq_true rfl, Nat.le_of_ble_eq_true rfl⟩) ⟨pc_blind, va_recv hK hP (ci := 0) (q := (RJx4a65c, TJx4a65c, 3)) (q0 := 2) rfl rfl, fun U hU hW => ⟨rfl, hC4 U hU hW⟩⟩ rfl rfl hl.1 rfl (lv_room (Nat.le_of_ble_eq_true rfl)) dX6_requireRoomForNet_7 ⟨(Nat.le_of_ble_eq_true rfl), (Nat.le_of_ble_eq_true rfl)⟩) hS (fun q9 _ h9 => hF1 q9 h9) hF1 (fun r6 u5 t5 H5 L5 ht5 hvm5 hw5 hB5 hz5 hk5 hS => ?_)
  have hP := pq_keep hP hD [2] rfl hk5 hB5.1 ht5
  have hG : s.heap.size + 0 ≤ H5.size := Nat.le_trans hG hz5
  refine W.eq (g2 := F0 m 10 ls [.int 1]) (by rw [hw5]) ?_
  refine lv_bipush (v := 40) hx hb dX6_requireRoomForNet_10 (by decide) ?_
  refine lv_icmp_lt (tgt := 26) hx hb dX6_requireRoomForNet_12 (by decide) (fun _ => ?_) (fun cz => absurd (by decide) cz)
  exact W.vret hx hb hr (fun t9 ht9 hW9 => ⟨⟨(), rfl, trivial, ⟨pq_mk2 hP hD hK [0, 1, 2] [] rfl rfl rfl ht9 hW9, by rw [ht9]; exact Nat.le_trans (Nat.add_le_add_left (Nat.le_of_ble_eq_true rfl) _) hG⟩⟩, hS.F ht9⟩) hS.2.2 dX6_requireRoomForNet_26

set_option maxHeartbeats 4000000 in
set_option maxRecDepth 100000 in
theorem k82_init (l : Launch) (hl9 : l.stackTraces = false) (dC : Nat → ClassId) (dI : Nat → Nat → Nat) (z : XZ) (h0 : Nat) (sz : Nat) : Met l yX2_init (.code yX2_init cX2_init 3 none :: wsL_law) ({ frames := 4, cells := 1, slots := 3, locals := 76 }) (va_Pc [.ref h0, .int 1, .ref (z.2.1 0)] (PC (dC, dI) [(h0, ce25)] [] sz z)) (va_Qv (fun (_ : Unit) => True) (fun (_ : Unit) (t : State) => ∃ (n0 : Nat), PG (dC, dI) [(h0, ce67 (z.2.1 0) n0 h0), (n0, ce3 z.1)] [] (va_A [(h0, ce25)] sz) sz 1 t) (va_A [(h0, ce25)] sz)) 1 3 (va_A [(h0, ce25)] sz) := by
  refine Met.ofW (cc := cX2_init) (maxL := 3) (ret := none) (by decide) rfl ?_
  intro p e s m args below meth c s₁ B hml hv
  obtain ⟨rfl, hsz, hP, hK, hD0, hX, hT⟩ := hv
  have hx := B.exec
  have hb := B.bytes
  have hr := B.returns
  have hts0 := atoms_spec (ws := .code yX2_init cX2_init 3 none :: wsL_law) B.pre
  have hts := xTail hts0
  have hown : s.vm.findClass RX2 = some m.cls := xown B.named rfl
  have hlocks := B.notSynchronized
  have hin : meth.name = "<init>" := (name_of_methodNamed B.named B.method).1
  subst hsz
  have hD := hD0.self (sz := s.heap.size)
  generalize hAe : va_A [(h0, ce25)] s.heap.size = A at hD hX ⊢
  have hA : ∀ q : Nat, s.heap.size ≤ q → A q := fun q h => by rw [← hAe]; exact Or.inr h
  have hS : va_S A s.heap s.heap [] := va_S.rf
  have hG : s.heap.size + 0 ≤ s.heap.size := Nat.le_refl _
  have hl := lv_entry ([.ref h0, .int 1, .ref (z.2.1 0)]) (n := 3) (Nat.le_of_ble_eq_true rfl)
  rw [lg_entry_eq]
  generalize (lg_sl ([.ref h0, .int 1, .ref (z.2.1 0)]) ++ List.replicate (3 - (lg_sl ([.ref h0, .int 1, .ref (z.2.1 0)])).length) Slot.unset).toArray = ls at hl ⊢
  have hl : lv_has ls 3 [(0, .ref h0), (1, .int 1), (2, .ref (z.2.1 0))] := hl
  refine lv_aload_n hx hb dX2_init_0 rfl (lv_at hl 0 rfl) ?_
  refine W.objInit hx hb hown (hts _ q_93) (hts _ q_4) (hts _ q_5) rfl (by rw [hml]; exact hl.1) rfl dX2_init_1 (Nat.le_of_ble_eq_true rfl) (Nat.le_of_ble_eq_true rfl) ?_
  refine W.eq (g2 := F0 m 4 ls []) rfl ?_
  refine lv_aload_n hx hb dX2_init_4 rfl (lv_at hl 0 rfl) ?_
  refine xa_new (ci := 0) (fs := [.int 0, .null, .int 0]) (C := RJx4a65c) (T := TJx4a65c) (N := 3) hx hb hts in_Jx4a65c tyJx4a65c tyJx4a65c_ok hown (hts _ q_94) (hts _ q_11) (hts _ q_12) hK hP hD hS hA rfl nf_Jx4a65c (Nat.le_of_ble_eq_true rfl) (Nat.le_of_ble_eq_true rfl) dX2_init_5 (fun a1 H2 hg8 hP hD hS => ?_)
  have hG : s.heap.size + 1 ≤ H2.size := by rw [hg8]; exact Nat.succ_le_succ hG
  have hP : va_P (dC, dI) xCl [(h0, ce25), (a1, ce2)] H2 := hP
  have hD := vd_as hP hD rfl
  refine W.widen (k := 1) (n := 3) (by decide) (by decide) ?_
  refine lv_dup hx hb dX2_init_8 rfl ?_
  have hM5 := k3_init l hl9 dC dI z a1 H2.size
  obtain ⟨hF3, hC6⟩ := pc_M hM5 hP hD hK hS hX hT hA [1] [] rfl rfl rfl
  refine va_callv (va_runI (As := []) (rest := [.ref a1, .ref h0]) ⟨hx, hb, hml, hown, hts⟩ hM5 (cwI 0 hts (gIL q_25) rfl rfl rfl (hts _ q_12) (hts _ q_95) (hts _ q_27) rfl hS_Jx4a65c_init_da8c8 ⟨Nat.le_of_ble_eq_true rfl, Nat.le_of_ble_eq_true rfl⟩) ⟨pc_blind, fun U hU hW => ⟨rfl, hC6 U hU hW⟩⟩ rfl rfl hl.1 rfl (lv_room (Nat.le_of_ble_eq_true rfl)) dX2_init_9 ⟨(Nat.le_of_ble_eq_true rfl), (Nat.le_of_ble_eq_true rfl)⟩) hS (fun q9 _ h9 => hF3 q9 h9) hF3 (fun u7 t7 H7 L7 ht7 hvm7 hw7 hB7 hz7 hk7 hS => ?_)
  obtain ⟨hP, hD, hK⟩ := pq_jn (wz := [(h0, ce25), (a1, ce3 z.1)]) (tz := []) hP hD hK [1] [] rfl hk7 hF3 hB7.1 ht7 hvm7 rfl rfl
  have hG : s.heap.size + 1 ≤ H7.size := Nat.le_trans hG hz7
  refine va_putF (D := (dC, dI)) (ci := 3) (v := .ref a1) (ty := .object "java/util/ArrayList") (C := RX2) (T := TX2) (N := 19) hx hb hts in_X2 tyX2 tyX2_ok nmX2 hown hK hP hD (va_Sre hS) 0 rfl rfl 2 (by decide) (hts _ q_96) (fun _ h9 => h9) rfl hin rfl (by decide +kernel) rfl rfl (Nat.le_of_ble_eq_true rfl) dX2_init_12 (fun H9 _ hP hD hS' => ?_)
  have hG : s.heap.size + 1 ≤ H9.size := Nat.le_trans hG hS'.1
  have hS := va_Str hS hS'
  have hP : va_P (dC, dI) xCl [(h0, ce26 a1), (a1, ce3 z.1)] H9 := hP
  have hD := vd_as hP hD rfl
  refine lv_aload_n hx hb dX2_init_15 rfl (lv_at hl 0 rfl) ?_
  refine lv_iload_n hx hb dX2_init_16 rfl (lv_at hl 1 rfl) ?_
  refine va_putF (D := (dC, dI)) (ci := 3) (v := .int 1) (ty := .int) (C := RX2) (T := TX2) (N := 19) hx hb hts in_X2 tyX2 tyX2_ok nmX2 hown hK hP hD (va_Sre hS) 0 rfl rfl 0 (by decide) (hts _ q_97) (fun _ h9 => h9) rfl hin rfl (by decide +kernel) rfl rfl (Nat.le_of_ble_eq_true rfl) dX2_init_17 (fun H10 _ hP hD hS' => ?_)
  have hG : s.heap.size + 1 ≤ H10.size := Nat.le_trans hG hS'.1
  have hS := va_Str hS hS'
  have hP : va_P (dC, dI) xCl [(h0, ce61 a1), (a1, ce3 z.1)] H10 := hP
  have hD := vd_as hP hD rfl
  refine lv_aload_n hx hb dX2_init_20 rfl (lv_at hl 0 rfl) ?_
  refine lv_aload_n hx hb dX2_init_21 rfl (lv_at hl 2 rfl) ?_
  refine va_putF (D := (dC, dI)) (ci := 3) (v := .ref (z.2.1 0)) (ty := .object "Deltacycle$NetKind") (C := RX2) (T := TX2) (N := 19) hx hb hts in_X2 tyX2 tyX2_ok nmX2 hown hK hP hD (va_Sre hS) 0 rfl rfl 1 (by decide) (hts _ q_98) (fun _ h9 => h9) rfl hin rfl (by decide +kernel) rfl rfl (Nat.le_of_ble_eq_true rfl) dX2_init_22 (fun H11 _ hP hD hS' => ?_)
  have hG : s.heap.size + 1 ≤ H11.size := Nat.le_trans hG hS'.1
  have hS := va_Str hS hS'
  have hP : va_P (dC, dI) xCl [(h0, ce62 (z.2.1 0) a1), (a1, ce3 z.1)] H11 := hP
  have hD := vd_as hP hD rfl
  refine lv_aload_n hx hb dX2_init_25 rfl (lv_at hl 0 rfl) ?_
  refine lv_bipush (v := 120) hx hb dX2_init_26 (by decide) ?_
  refine va_put (D := (dC, dI)) (ci := 3) (v := .int 120) (ty := .char) (C := RX2) (T := TX2) (N := 19) hx hb hts in_X2 tyX2 tyX2_ok nmX2 hown hK hP hD (va_Sre hS) 0 rfl rfl 6 (by decide) (hts _ q_99) (fun _ h9 => h9) rfl (by decide +kernel) rfl rfl (Nat.le_of_ble_eq_true rfl) dX2_init_28 (fun H12 _ hP hD hS' => ?_)
  have hG : s.heap.size + 1 ≤ H12.size := Nat.le_trans hG hS'.1
  have hS := va_Str hS hS'
  have hP : va_P (dC, dI) xCl [(h0, ce63 (z.2.1 0) a1), (a1, ce3 z.1)] H12 := hP
  have hD := vd_as hP hD rfl
  refine lv_aload_n hx hb dX2_init_31 rfl (lv_at hl 0 rfl) ?_
  refine lv_bipush (v := 120) hx hb dX2_init_32 (by decide) ?_
  refine va_put (D := (dC, dI)) (ci := 3) (v := .int 120) (ty := .char) (C := RX2) (T := TX2) (N := 19) hx hb hts in_X2 tyX2 tyX2_ok nmX2 hown hK hP hD (va_Sre hS) 0 rfl rfl 7 (by decide) (hts _ q_100) (fun _ h9 => h9) rfl (by decide +kernel) rfl rfl (Nat.le_of_ble_eq_true rfl) dX2_init_34 (fun H13 _ hP hD hS' => ?_)
  have hG : s.heap.size + 1 ≤ H13.size := Nat.le_trans hG hS'.1
  have hS := va_Str hS hS'
  have hP : va_P (dC, dI) xCl [(h0, ce64 (z.2.1 0) a1), (a1, ce3 z.1)] H13 := hP
  have hD := vd_as hP hD rfl
  refine lv_aload_n hx hb dX2_init_37 rfl (lv_at hl 0 rfl) ?_
  refine lv_bipush (v := 120) hx hb dX2_init_38 (by decide) ?_
  refine va_put (D := (dC, dI)) (ci := 3) (v := .int 120) (ty := .char) (C := RX2) (T := TX2) (N := 19) hx hb hts in_X2 tyX2 tyX2_ok nmX2 hown hK hP hD (va_Sre hS) 0 rfl rfl 11 (by decide) (hts _ q_101) (fun _ h9 => h9) rfl (by decide +kernel) rfl rfl (Nat.le_of_ble_eq_true rfl) dX2_init_40 (fun H14 _ hP hD hS' => ?_)
  have hG : s.heap.size + 1 ≤ H14.size := Nat.le_trans hG hS'.1
  have hS := va_Str hS hS'
  have hP : va_P (dC, dI) xCl [(h0, ce65 (z.2.1 0) a1), (a1, ce3 z.1)] H14 := hP
  have hD := vd_as hP hD rfl
  refine lv_aload_n hx hb dX2_init_43 rfl (lv_at hl 0 rfl) ?_
  refine lv_bipush (v := 120) hx hb dX2_init_44 (by decide) ?_
  refine va_put (D := (dC, dI)) (ci := 3) (v := .int 120) (ty := .char) (C := RX2) (T := TX2) (N := 19) hx hb hts in_X2 tyX2 tyX2_ok nmX2 hown hK hP hD (va_Sre hS) 0 rfl rfl 12 (by decide) (hts _ q_102) (fun _ h9 => h9) rfl (by decide +kernel) rfl rfl (Nat.le_of_ble_eq_true rfl) dX2_init_46 (fun H15 _ hP hD hS' => ?_)
  have hG : s.heap.size + 1 ≤ H15.size := Nat.le_trans hG hS'.1
  have hS := va_Str hS hS'
  have hP : va_P (dC, dI) xCl [(h0, ce66 (z.2.1 0) a1), (a1, ce3 z.1)] H15 := hP
  have hD := vd_as hP hD rfl
  refine lv_aload_n hx hb dX2_init_49 rfl (lv_at hl 0 rfl) ?_
  refine lv_aload_n hx hb dX2_init_50 rfl (lv_at hl 0 rfl) ?_
  refine va_put (D := (dC, dI)) (ci := 3) (v := .ref h0) (ty := .object "Deltacycle$Net") (C := RX2) (T := TX2) (N := 19) hx hb hts in_X2 tyX2 tyX2_ok nmX2 hown hK hP hD (va_Sre hS) 0 rfl rfl 16 (by decide) (hts _ q_103) (fun _ h9 => h9) rfl (by decide +kernel) rfl rfl (Nat.le_of_ble_eq_true rfl) dX2_init_51 (fun H16 _ hP hD hS' => ?_)
  have hG : s.heap.size + 1 ≤ H16.size := Nat.le_trans hG hS'.1
  have hS := va_Str hS hS'
  have hP : va_P (dC, dI) xCl [(h0, ce67 (z.2.1 0) a1 h0), (a1, ce3 z.1)] H16 := hP
  have hD := vd_as hP hD rfl
  exact W.vret hx hb hr (fun t9 ht9 hW9 => ⟨⟨(), rfl, trivial, ⟨a1, ⟨pq_mk2 hP hD hK [0, 1] [] rfl rfl rfl ht9 hW9, by rw [ht9]; exact Nat.le_trans (Nat.add_le_add_left (Nat.le_of_ble_eq_true rfl) _) hG⟩⟩⟩, hS.F ht9⟩) hS.2.2 dX2_init_54

set_option maxHeartbeats 4000000 in
set_option maxRecDepth 100000 in
theorem k83_add (l : Launch) (hl9 : l.stackTraces = false) (dC : Nat → ClassId) (dI : Nat → Nat → Nat) (z : XZ) (h0 h1 h2 : Nat) (o0 o1 : Nat) (sz : Nat) (kc0 : ClassId) : Met l yJx4a65c_add_72be8 (.code yJx4a65c_add_72be8 cJx4a65c_add_72be8 4 none :: wsL_law) ({ frames := 0, cells := 0, slots := 0, locals := 0 }) (va_Pc [.ref h0, .ref h1, .ref h2, .int 1] (PC (dC, dI) [(h0, ce40 h2), (h1, ce67 (z.2.1 0) o0 h1), (h2, ce35 kc0 o1)] [(kc0, .object "java/lang/Object")] sz z)) (va_Qv (fun (_ : Unit) => True) (fun (_ : Unit) (t : State) => PG (dC, dI) [(h0, ce69 h2), (h1, ce67 (z.2.1 0) o0 h1), (h2, ce68 kc0 o1 h1)] [(kc0, .object "java/lang/Object")] (va_A [(h0, ce40 h2), (h1, ce67 (z.2.1 0) o0 h1), (h2, ce35 kc0 o1)] sz) sz 0 t) (va_A [(h0, ce40 h2), (h1, ce67 (z.2.1 0) o0 h1), (h2, ce35 kc0 o1)] sz)) 0 0 (va_A [(h0, ce40 h2), (h1, ce67 (z.2.1 0) o0 h1), (h2, ce35 kc0 o1)] sz) := by
  refine Met.ofW (cc := cJx4a65c_add_72be8) (maxL := 4) (ret := none) (by decide) rfl ?_
  intro p e s m args below meth c s₁ B hml hv
  obtain ⟨rfl, hsz, hP, hK, hD0, hX, hT⟩ := hv
  have hx := B.exec
  have hb := B.bytes
  have hr := B.returns
  have hts0 := atoms_spec (ws := .code yJx4a65c_add_72be8 cJx4a65c_add_72be8 4 none :: wsL_law) B.pre
  have hts := xTail hts0
  have hown : s.vm.findClass RJx4a65c = some m.cls := xown B.named rfl
  have hlocks := B.notSynchronized
  subst hsz
  have hD := hD0.self (sz := s.heap.size)
  generalize hAe : va_A [(h0, ce40 h2), (h1, ce67 (z.2.1 0) o0 h1), (h2, ce35 kc0 o1)] s.heap.size = A at hD hX ⊢
  have hA : ∀ q : Nat, s.heap.size ≤ q → A q := fun q h => by rw [← hAe]; exact Or.inr h
  have hS : va_S A s.heap s.heap [] := va_S.rf
  have hG : s.heap.size + 0 ≤ s.heap.size := Nat.le_refl _
  have hl := lv_entry ([.ref h0, .ref h1, .ref h2, .int 1]) (n := 4) (Nat.le_of_ble_eq_true rfl)
  rw [lg_entry_eq]
  generalize (lg_sl ([.ref h0, .ref h1, .ref h2, .int 1]) ++ List.replicate (4 - (lg_sl ([.ref h0, .ref h1, .ref h2, .int 1])).length) Slot.unset).toArray = ls at hl ⊢
  have hl : lv_has ls 4 [(0, .ref h0), (1, .ref h1), (2, .ref h2), (3, .int 1)] := hl
  refine lv_iload_n hx hb dJx4a65c_add_72be8_0 rfl (lv_at hl 3 rfl) ?_
  refine lv_aload_n hx hb dJx4a65c_add_72be8_1 rfl (lv_at hl 2 rfl) ?_
  refine va_alen hx hb hK hP 2 0 rfl rfl (v := 10) rfl dJx4a65c_add_72be8_2 ?_
  refine lv_icmp_ne (tgt := 11) hx hb dJx4a65c_add_72be8_3 (by decide) (fun _ => ?_) (fun cz => absurd cz (by decide))
  refine lv_aload_n hx hb dJx4a65c_add_72be8_11 rfl (lv_at hl 2 rfl) ?_
  refine lv_iload_n hx hb dJx4a65c_add_72be8_12 rfl (lv_at hl 3 rfl) ?_
  refine lv_aload_n hx hb dJx4a65c_add_72be8_13 rfl (lv_at hl 1 rfl) ?_
  refine vb_astq (E := "java/lang/Object") (C := RX2) hx hb hK hP hD (va_Sre hS) 2 0 rfl rfl (va_recv hK hP (ci := 3) (q := (RX2, TX2, 19)) (q0 := 1) rfl rfl) (vb_asgC (hT.2.1.1 (RX2, "java/lang/Object") (by decide))) (i := 1) (by unfold vp_in; decide) dJx4a65c_add_72be8_14 (fun H1 _ hP hD hS' => ?_)
  have hG : s.heap.size + 0 ≤ H1.size := Nat.le_trans hG hS'.1
  have hS := va_Str hS hS'
  have hP : va_P (dC, dI) xCl [(h0, ce40 h2), (h1, ce67 (z.2.1 0) o0 h1), (h2, ce68 kc0 o1 h1)] H1 := hP
  have hD := vd_as hP hD rfl
  refine lv_aload_n hx hb dJx4a65c_add_72be8_15 rfl (lv_at hl 0 rfl) ?_
  refine lv_iload_n hx hb dJx4a65c_add_72be8_16 rfl (lv_at hl 3 rfl) ?_
  refine lv_iconst (v := 1) hx hb dJx4a65c_add_72be8_17 (by decide) ?_
  refine lv_iadd hx hb dJx4a65c_add_72be8_18 ?_
  refine lv_topi (fun y2 ey2 => ?_)
  obtain rfl : y2 = 2 := ey2.trans (by decide)
  refine va_put (D := (dC, dI)) (ci := 0) (v := .int 2) (ty := .int) (C := RJx4a65c) (T := TJx4a65c) (N := 3) hx hb hts in_Jx4a65c tyJx4a65c tyJx4a65c_ok nmJx4a65c hown hK hP hD (va_Sre hS) 0 rfl rfl 2 (by decide) (hts _ q_74) (fun _ h9 => h9) rfl (by decide +kernel) rfl rfl (Nat.le_of_ble_eq_true rfl) dJx4a65c_add_72be8_19 (fun H3 _ hP hD hS' => ?_)
  have hG : s.heap.size + 0 ≤ H3.size := Nat.le_trans hG hS'.1
  have hS := va_Str hS hS'
  have hP : va_P (dC, dI) xCl [(h0, ce69 h2), (h1, ce67 (z.2.1 0) o0 h1), (h2, ce68 kc0 o1 h1)] H3 := hP
  have hD := vd_as hP hD rfl
  exact W.vret hx hb hr (fun t9 ht9 hW9 => ⟨⟨(), rfl, trivial, ⟨pq_mk2 hP hD hK [0, 1, 2] [0] rfl rfl rfl ht9 hW9, by rw [ht9]; exact Nat.le_trans (Nat.add_le_add_left (Nat.le_of_ble_eq_true rfl) _) hG⟩⟩, hS.F ht9⟩) hS.2.2 dJx4a65c_add_72be8_22

set_option maxHeartbeats 4000000 in
set_option maxRecDepth 100000 in
theorem k84_add (l : Launch) (hl9 : l.stackTraces = false) (dC : Nat → ClassId) (dI : Nat → Nat → Nat) (z : XZ) (h0 h1 h2 : Nat) (o0 o1 : Nat) (sz : Nat) (kc0 : ClassId) : Met l yJx4a65c_add_9ea2d (.code yJx4a65c_add_9ea2d cJx4a65c_add_9ea2d 2 (some .boolean) :: wsL_law) ({ frames := 1, cells := 0, slots := 0, locals := 23 }) (va_Pc [.ref h0, .ref h1] (PC (dC, dI) [(h0, ce36 h2), (h1, ce67 (z.2.1 0) o0 h1), (h2, ce35 kc0 o1)] [(kc0, .object "java/lang/Object")] sz z)) (va_Qi (fun (r : Int32) (_ : Unit) => r = 1) (fun (_ : Unit) (t : State) => PG (dC, dI) [(h0, ce69 h2), (h1, ce67 (z.2.1 0) o0 h1), (h2, ce68 kc0 o1 h1)] [(kc0, .object "java/lang/Object")] (va_A [(h0, ce36 h2), (h1, ce67 (z.2.1 0) o0 h1), (h2, ce35 kc0 o1)] sz) sz 0 t) (va_A [(h0, ce36 h2), (h1, ce67 (z.2.1 0) o0 h1), (h2, ce35 kc0 o1)] sz)) 0 0 (va_A [(h0, ce36 h2), (h1, ce67 (z.2.1 0) o0 h1), (h2, ce35 kc0 o1)] sz) := by
  refine Met.ofW (cc := cJx4a65c_add_9ea2d) (maxL := 2) (ret := (some .boolean)) (by decide) rfl ?_
  intro p e s m args below meth c s₁ B hml hv
  obtain ⟨rfl, hsz, hP, hK, hD0, hX, hT⟩ := hv
  have hx := B.exec
  have hb := B.bytes
  have hr := B.returns
  have hts0 := atoms_spec (ws := .code yJx4a65c_add_9ea2d cJx4a65c_add_9ea2d 2 (some .boolean) :: wsL_law) B.pre
  have hts := xTail hts0
  have hown : s.vm.findClass RJx4a65c = some m.cls := xown B.named rfl
  have hlocks := B.notSynchronized
  subst hsz
  have hD := hD0.self (sz := s.heap.size)
  generalize hAe : va_A [(h0, ce36 h2), (h1, ce67 (z.2.1 0) o0 h1), (h2, ce35 kc0 o1)] s.heap.size = A at hD hX ⊢
  have hA : ∀ q : Nat, s.heap.size ≤ q → A q := fun q h => by rw [← hAe]; exact Or.inr h
  have hS : va_S A s.heap s.heap [] := va_S.rf
  have hG : s.heap.size + 0 ≤ s.heap.size := Nat.le_refl _
  have hl := lv_entry ([.ref h0, .ref h1]) (n := 2) (Nat.le_of_ble_eq_true rfl)
  rw [lg_entry_eq]
  generalize (lg_sl ([.ref h0, .ref h1]) ++ List.replicate (2 - (lg_sl ([.ref h0, .ref h1])).length) Slot.unset).toArray = ls at hl ⊢
  have hl : lv_has ls 2 [(0, .ref h0), (1, .ref h1)] := hl
  refine lv_aload_n hx hb dJx4a65c_add_9ea2d_0 rfl (lv_at hl 0 rfl) ?_
  refine lv_dup hx hb dJx4a65c_add_9ea2d_1 rfl ?_
  refine va_get (D := (dC, dI)) (ci := 0) (v := .int 1) (C := RJx4a65c) (T := TJx4a65c) (N := 3) hx hb hts in_Jx4a65c hown hK hP 0 rfl rfl 0 (by decide) (hts _ q_108) (u_same (hts _ q_107)) rfl dJx4a65c_add_9ea2d_2 ?_
  refine lv_iconst (v := 1) hx hb dJx4a65c_add_9ea2d_5 (by decide) ?_
  refine lv_iadd hx hb dJx4a65c_add_9ea2d_6 ?_
  refine lv_topi (fun y1 ey1 => ?_)
  obtain rfl : y1 = 2 := ey1.trans (by decide)
  refine va_put (D := (dC, dI)) (ci := 0) (v := .int 2) (ty := .int) (C := RJx4a65c) (T := TJx4a65c) (N := 3) hx hb hts in_Jx4a65c tyJx4a65c tyJx4a65c_ok nmJx4a65c hown hK hP hD (va_Sre hS) 0 rfl rfl 0 (by decide) (hts _ q_108) (u_same (hts _ q_107)) rfl (by decide +kernel) rfl rfl (Nat.le_of_ble_eq_true rfl) dJx4a65c_add_9ea2d_7 (fun H2 _ hP hD hS' => ?_)
  have hG : s.heap.size + 0 ≤ H2.size := Nat.le_trans hG hS'.1
  have hS := va_Str hS hS'
  have hP : va_P (dC, dI) xCl [(h0, ce40 h2), (h1, ce67 (z.2.1 0) o0 h1), (h2, ce35 kc0 o1)] H2 := hP
  have hD := vd_as hP hD rfl
  refine lv_aload_n hx hb dJx4a65c_add_9ea2d_10 rfl (lv_at hl 0 rfl) ?_
  refine lv_aload_n hx hb dJx4a65c_add_9ea2d_11 rfl (lv_at hl 1 rfl) ?_
  refine lv_aload_n hx hb dJx4a65c_add_9ea2d_12 rfl (lv_at hl 0 rfl) ?_
  refine va_get (D := (dC, dI)) (ci := 0) (v := .ref h2) (C := RJx4a65c) (T := TJx4a65c) (N := 3) hx hb hts in_Jx4a65c hown hK hP 0 rfl rfl 1 (by decide) (hts _ q_24) (fun _ h9 => h9) rfl dJx4a65c_add_9ea2d_13 ?_
  refine lv_aload_n hx hb dJx4a65c_add_9ea2d_16 rfl (lv_at hl 0 rfl) ?_
  refine va_get (D := (dC, dI)) (ci := 0) (v := .int 1) (C := RJx4a65c) (T := TJx4a65c) (N := 3) hx hb hts in_Jx4a65c hown hK hP 0 rfl rfl 2 (by decide) (hts _ q_74) (fun _ h9 => h9) rfl dJx4a65c_add_9ea2d_17 ?_
  have hM5 := k83_add l hl9 dC dI z h0 h1 h2 o0 o1 H2.size kc0
  obtain ⟨hF3, hC6⟩ := pc_M hM5 hP hD hK hS hX hT hA [0, 1, 2] [0] rfl rfl rfl
  refine va_callv (va_runV (As := [.ref h1, .ref h2, .int 1]) (rest := []) ⟨hx, hb, hml, hown, hts⟩ hM5 (cwV 3 hts (gV q_123 q_124 q_125 q_12 q_122) rfl rfl rfl hV_Jx4a65c_add_72be8 ⟨Nat.le_of_ble_eq_true rfl, Nat.le_of_ble_eq_true rfl⟩) ⟨pc_blind, va_recv hK hP (ci := 0) (q := (RJx4a65c, TJx4a65c, 3)) (q0 := 0) rfl rfl, fun U hU hW => ⟨rfl, hC6 U hU hW⟩⟩ rfl rfl hl.1 rfl (lv_room (Nat.le_of_ble_eq_true rfl)) dJx4a65c_add_9ea2d_20 ⟨(Nat.le_of_ble_eq_true rfl), (Nat.le_of_ble_eq_true rfl)⟩) hS (fun q9 _ h9 => hF3 q9 h9) hF3 (fun u7 t7 H7 L7 ht7 hvm7 hw7 hB7 hz7 hk7 hS => ?_)
  obtain ⟨hP, hD, hK⟩ := pq_jn (wz := [(h0, ce69 h2), (h1, ce67 (z.2.1 0) o0 h1), (h2, ce68 kc0 o1 h1)]) (tz := [(kc0, .object "java/lang/Object")]) hP hD hK [0, 1, 2] [] rfl hk7 hF3 hB7.1 ht7 hvm7 rfl rfl
  have hG : s.heap.size + 0 ≤ H7.size := Nat.le_trans hG hz7
  refine lv_iconst (v := 1) hx hb dJx4a65c_add_9ea2d_23 (by decide) ?_
  exact W.zret (v := 1) (ty := .boolean) hx hb hr rfl (fun t9 ht9 hW9 => ⟨⟨1, (), rfl, rfl, ⟨pq_mk2 hP hD hK [0, 1, 2] [0] rfl rfl rfl ht9 hW9, by rw [ht9]; exact Nat.le_trans (Nat.add_le_add_left (Nat.le_of_ble_eq_true rfl) _) hG⟩⟩, hS.F ht9⟩) hS.2.2 dJx4a65c_add_9ea2d_24

set_option maxHeartbeats 4000000 in
set_option maxRecDepth 100000 in
theorem k85_isSource (l : Launch) (hl9 : l.stackTraces = false) (dC : Nat → ClassId) (dI : Nat → Nat → Nat) (z : XZ) (h0 : Nat) (o0 : Nat) (sz : Nat) : Met l yX2_isSource (.code yX2_isSource cX2_isSource 1 (some .boolean) :: wsL_law) ({ frames := 0, cells := 0, slots := 0, locals := 0 }) (va_Pc [.ref h0] (PC (dC, dI) [(h0, ce67 (z.2.1 0) o0 h0)] [] sz z)) (va_Qi (fun (r : Int32) (_ : Unit) => r = 1) (fun (_ : Unit) (t : State) => PG (dC, dI) [(h0, ce67 (z.2.1 0) o0 h0)] [] (va_A [(h0, ce67 (z.2.1 0) o0 h0)] sz) sz 0 t) (va_A [(h0, ce67 (z.2.1 0) o0 h0)] sz)) 0 0 (va_A [(h0, ce67 (z.2.1 0) o0 h0)] sz) := by
  refine Met.ofW (cc := cX2_isSource) (maxL := 1) (ret := (some .boolean)) (by decide) rfl ?_
  intro p e s m args below meth c s₁ B hml hv
  obtain ⟨rfl, hsz, hP, hK, hD0, hX, hT⟩ := hv
  have hx := B.exec
  have hb := B.bytes
  have hr := B.returns
  have hts0 := atoms_spec (ws := .code yX2_isSource cX2_isSource 1 (some .boolean) :: wsL_law) B.pre
  have hts := xTail hts0
  have hown : s.vm.findClass RX2 = some m.cls := xown B.named rfl
  have hlocks := B.notSynchronized
  subst hsz
  have hD := hD0.self (sz := s.heap.size)
  generalize hAe : va_A [(h0, ce67 (z.2.1 0) o0 h0)] s.heap.size = A at hD hX ⊢
  have hA : ∀ q : Nat, s.heap.size ≤ q → A q := fun q h => by rw [← hAe]; exact Or.inr h
  have hS : va_S A s.heap s.heap [] := va_S.rf
  have hG : s.heap.size + 0 ≤ s.heap.size := Nat.le_refl _
  have hl := lv_entry ([.ref h0]) (n := 1) (Nat.le_of_ble_eq_true rfl)
  rw [lg_entry_eq]
  generalize (lg_sl ([.ref h0]) ++ List.replicate (1 - (lg_sl ([.ref h0])).length) Slot.unset).toArray = ls at hl ⊢
  have hl : lv_has ls 1 [(0, .ref h0)] := hl
  refine lv_aload_n hx hb dX2_isSource_0 rfl (lv_at hl 0 rfl) ?_
  refine va_get (D := (dC, dI)) (ci := 3) (v := .ref (z.2.1 0)) (C := RX2) (T := TX2) (N := 19) hx hb hts in_X2 hown hK hP 0 rfl rfl 1 (by decide) (hts _ q_98) (fun _ h9 => h9) rfl dX2_isSource_1 ?_
  refine va_gets (own := RX2) (ref := "Deltacycle$NetKind") hx hb (hX.2.1.1 0 (by decide)).1 hS hown (hts _ q_130) (fun _ h9 => h9) dX2_isSource_4 ?_
  refine lv_acmp_eq (rx := (some (z.2.1 0))) (ry := (some (z.2.1 0))) (tgt := 20) hx hb dX2_isSource_7 (by decide) (fun _ => ?_) (fun cz => absurd rfl cz)
  refine lv_iconst (v := 1) hx hb dX2_isSource_20 (by decide) ?_
  refine lv_goto (tgt := 25) hx hb dX2_isSource_21 (by decide) ?_
  exact W.zret (v := 1) (ty := .boolean) hx hb hr rfl (fun t9 ht9 hW9 => ⟨⟨1, (), rfl, rfl, ⟨pq_mk2 hP hD hK [0] [] rfl rfl rfl ht9 hW9, by rw [ht9]; exact Nat.le_trans (Nat.add_le_add_left (Nat.le_of_ble_eq_true rfl) _) hG⟩⟩, hS.F ht9⟩) hS.2.2 dX2_isSource_25

set_option maxHeartbeats 4000000 in
set_option maxRecDepth 100000 in
theorem k86_makeNet (l : Launch) (hl9 : l.stackTraces = false) (dC : Nat → ClassId) (dI : Nat → Nat → Nat) (z : XZ) (h0 h1 h2 h3 h4 : Nat) (o0 o1 o2 : Nat) (sz : Nat) (kc0 kc1 : ClassId) : Met l yX0_makeNet (.code yX0_makeNet cX0_makeNet 3 (some (.object "Deltacycle$Net")) :: wsL_law) ({ frames := 5, cells := 2, slots := 22, locals := 98 }) (va_Pc [.ref h0, .ref (z.2.1 0)] (PC (dC, dI) [(h0, ce7 h1 h2 o0 o1), (h1, ce36 h3), (h2, ce36 h4), (h3, ce35 kc0 o2), (h4, ce35 kc1 o2)] [(kc0, .object "java/lang/Object"), (kc1, .object "java/lang/Object")] sz z)) (va_Qr (fun (_ : Unit) => True) (fun (_ : Unit) (ra : Nat) (t : State) => ∃ (n0 n1 : Nat), ra = n0 ∧ PG (dC, dI) [(h0, ce7 h1 h2 o0 o1), (h1, ce69 h3), (h2, ce69 h4), (h3, ce68 kc0 o2 n0), (h4, ce68 kc1 o2 n0), (n0, ce67 (z.2.1 0) n1 n0), (n1, ce3 z.1)] [(kc0, .object "java/lang/Object"), (kc1, .object "java/lang/Object")] (va_A [(h0, ce7 h1 h2 o0 o1), (h1, ce36 h3), (h2, ce36 h4), (h3, ce35 kc0 o2), (h4, ce35 kc1 o2)] sz) sz 2 t) (va_A [(h0, ce7 h1 h2 o0 o1), (h1, ce36 h3), (h2, ce36 h4), (h3, ce35 kc0 o2), (h4, ce35 kc1 o2)] sz)) 2 22 (va_A [(h0, ce7 h1 h2 o0 o1), (h1, ce36 h3), (h2, ce36 h4), (h3, ce35 kc0 o2), (h4, ce35 kc1 o2)] sz) := by
  refine Met.ofW (cc := cX0_makeNet) (maxL := 3) (ret := (some (.object "Deltacycle$Net"))) (by decide) rfl ?_
  intro p e s m args below meth c s₁ B hml hv
  obtain ⟨rfl, hsz, hP, hK, hD0, hX, hT⟩ := hv
  have hx := B.exec
  have hb := B.bytes
  have hr := B.returns
  have hts0 := atoms_spec (ws := .code yX0_makeNet cX0_makeNet 3 (some (.object "Deltacycle$Net")) :: wsL_law) B.pre
  have hts := xTail hts0
  have hown : s.vm.findClass RX0 = some m.cls := xown B.named rfl
  have hlocks := B.notSynchronized
  subst hsz
  have hD := hD0.self (sz := s.heap.size)
  generalize hAe : va_A [(h0, ce7 h1 h2 o0 o1), (h1, ce36 h3), (h2, ce36 h4), (h3, ce35 kc0 o2), (h4, ce35 kc1 o2)] s.heap.size = A at hD hX ⊢
  have hA : ∀ q : Nat, s.heap.size ≤ q → A q := fun q h => by rw [← hAe]; exact Or.inr h
  have hS : va_S A s.heap s.heap [] := va_S.rf
  have hG : s.heap.size + 0 ≤ s.heap.size := Nat.le_refl _
  have hl := lv_entry ([.ref h0, .ref (z.2.1 0)]) (n := 3) (Nat.le_of_ble_eq_true rfl)
  rw [lg_entry_eq]
  generalize (lg_sl ([.ref h0, .ref (z.2.1 0)]) ++ List.replicate (3 - (lg_sl ([.ref h0, .ref (z.2.1 0)])).length) Slot.unset).toArray = ls at hl ⊢
  have hl : lv_has ls 3 [(0, .ref h0), (1, .ref (z.2.1 0))] := hl
  refine xa_new (ci := 3) (fs := [.int 0, .null, .null, .null, .int 0, .int 0, .int 0, .int 0, .int 0, .int 0, .int 0, .int 0, .int 0, .int 0, .int 0, .int 0, .null, .int 0, .int 0]) (C := RX2) (T := TX2) (N := 19) hx hb hts in_X2 tyX2 tyX2_ok hown (hts _ q_89) (hts _ q_90) (hts _ q_91) hK hP hD hS hA rfl nf_X2 (Nat.le_of_ble_eq_true rfl) (Nat.le_of_ble_eq_true rfl) dX0_makeNet_0 (fun a1 H2 hg8 hP hD hS => ?_)
  have hG : s.heap.size + 1 ≤ H2.size := by rw [hg8]; exact Nat.succ_le_succ hG
  have hP : va_P (dC, dI) xCl [(h0, ce7 h1 h2 o0 o1), (h1, ce36 h3), (h2, ce36 h4), (h3, ce35 kc0 o2), (h4, ce35 kc1 o2), (a1, ce25)] H2 := hP
  have hD := vd_as hP hD rfl
  refine W.widen (k := 1) (n := 19) (by decide) (by decide) ?_
  refine lv_dup hx hb dX0_makeNet_3 rfl ?_
  refine lv_aload_n hx hb dX0_makeNet_4 rfl (lv_at hl 0 rfl) ?_
  refine va_get (D := (dC, dI)) (ci := 2) (v := .ref h1) (C := RX0) (T := TX0) (N := 4) hx hb hts in_X0 hown hK hP 0 rfl rfl 0 (by decide) (hts _ q_28) (fun _ h9 => h9) rfl dX0_makeNet_5 ?_
  have hM5 := k20_size l hl9 dC dI z h1 h3 H2.size 1 1
  obtain ⟨hF3, hC6⟩ := pc_M hM5 hP hD hK hS hX hT hA [1] [] rfl rfl rfl
  refine va_calli (va_runV (As := []) (rest := [.ref a1, .ref a1]) ⟨hx, hb, hml, hown, hts⟩ hM5 (cwV 0 hts (gV q_92 q_77 q_78 q_12 q_75) rfl rfl rfl hV_Jx4a65c_size_8abf5 ⟨Nat.le_of_ble_eq_true rfl, Nat.le_of_ble_eq_true rfl⟩) ⟨pc_blind, va_recv hK hP (ci := 0) (q := (RJx4a65c, TJx4a65c, 3)) (q0 := 1) rfl rfl, fun U hU hW => ⟨rfl, hC6 U hU hW⟩⟩ rfl rfl hl.1 rfl (lv_room (Nat.le_of_ble_eq_true rfl)) dX0_makeNet_8 ⟨(Nat.le_of_ble_eq_true rfl), (Nat.le_of_ble_eq_true rfl)⟩) hS (fun q9 _ h9 => hF3 q9 h9) hF3 (fun r8 u7 t7 H7 L7 ht7 hvm7 hw7 hB7 hz7 hk7 hS => ?_)
  have hP := pq_keep hP hD [1] rfl hk7 hB7.1 ht7
  have hG : s.heap.size + 1 ≤ H7.size := Nat.le_trans hG hz7
  refine W.eq (g2 := F0 m 11 ls [.int 1, .ref a1, .ref a1]) (by rw [hw7]) ?_
  refine lv_aload_n hx hb dX0_makeNet_11 rfl (lv_at hl 1 rfl) ?_
  have hM11 := k82_init l hl9 dC dI z a1 H7.size
  obtain ⟨hF9, hC12⟩ := pc_M hM11 hP hD hK hS hX hT hA [5] [] rfl rfl rfl
  refine va_callv (va_runI (As := [.int 1, .ref (z.2.1 0)]) (rest := [.ref a1]) ⟨hx, hb, hml, hown, hts⟩ hM11 (cwI 2 hts (gIL q_104) rfl rfl rfl (hts _ q_91) (hts _ q_105) (hts _ q_106) rfl hS_X2_init ⟨Nat.le_of_ble_eq_true rfl, Nat.le_of_ble_eq_true rfl⟩) ⟨pc_blind, fun U hU hW => ⟨rfl, hC12 U hU hW⟩⟩ rfl rfl hl.1 rfl (lv_room (Nat.le_of_ble_eq_true rfl)) dX0_makeNet_12 ⟨(Nat.le_of_ble_eq_true rfl), (Nat.le_of_ble_eq_true rfl)⟩) hS (fun q9 _ h9 => hF9 q9 h9) hF9 (fun u13 t13 H13 L13 ht13 hvm13 hw13 hB13 hz13 hk13 hS => ?_)
  obtain ⟨a15, hB13⟩ := hB13
  obtain ⟨hP, hD, hK⟩ := pq_jn (wz := [(h0, ce7 h1 h2 o0 o1), (h1, ce36 h3), (h2, ce36 h4), (h3, ce35 kc0 o2), (h4, ce35 kc1 o2), (a1, ce67 (z.2.1 0) a15 a1), (a15, ce3 z.1)]) (tz := [(kc0, .object "java/lang/Object"), (kc1, .object "java/lang/Object")]) hP hD hK [5] [0, 1] rfl hk13 hF9 hB13.1 ht13 hvm13 rfl rfl
  have hG : s.heap.size + 2 ≤ H13.size := va_gr (g := 1) (g1 := 1) hG (by rw [← ht13]; exact hB13.2)
  refine W.widen (k := 2) (n := 22) (by decide) (by decide) ?_
  refine lv_astore_n (lv' := [(2, .ref a1), (0, .ref h0), (1, .ref (z.2.1 0))]) hx hb dX0_makeNet_15 rfl hl (by decide) rfl (fun ls hl => ?_)
  refine lv_aload_n hx hb dX0_makeNet_16 rfl (lv_at hl 1 rfl) ?_
  refine va_get (D := (dC, dI)) (ci := 2) (v := .ref h1) (C := RX0) (T := TX0) (N := 4) hx hb hts in_X0 hown hK hP 0 rfl rfl 0 (by decide) (hts _ q_28) (fun _ h9 => h9) rfl dX0_makeNet_17 ?_
  refine lv_aload_n hx hb dX0_makeNet_20 rfl (lv_at hl 0 rfl) ?_
  have hM18 := k84_add l hl9 dC dI z h1 a1 h3 a15 o2 H13.size kc0
  obtain ⟨hF16, hC19⟩ := pc_M hM18 hP hD hK hS hX hT hA [1, 5, 3] [0] rfl rfl rfl
  refine va_calli (va_runV (As := [.ref a1]) (rest := []) ⟨hx, hb, hml, hown, hts⟩ hM18 (cwV 1 hts (gV q_127 q_128 q_129 q_12 q_126) rfl rfl rfl hV_Jx4a65c_add_9ea2d ⟨Nat.le_of_ble_eq_true rfl, Nat.le_of_ble_eq_true rfl⟩) ⟨pc_blind, va_recv hK hP (ci := 0) (q := (RJx4a65c, TJx4a65c, 3)) (q0 := 1) rfl rfl, fun U hU hW => ⟨rfl, hC19 U hU hW⟩⟩ rfl rfl hl.1 rfl (lv_room (Nat.le_of_ble_eq_true rfl)) dX0_makeNet_21 ⟨(Nat.le_of_ble_eq_true rfl), (Nat.le_of_ble_eq_true rfl)⟩) hS (fun q9 _ h9 => hF16 q9 h9) hF16 (fun r21 u20 t20 H20 L20 ht20 hvm20 hw20 hB20 hz20 hk20 hS => ?_)
  obtain ⟨hP, hD, hK⟩ := pq_jn (wz := [(h0, ce7 h1 h2 o0 o1), (h2, ce36 h4), (h4, ce35 kc1 o2), (a15, ce3 z.1), (h1, ce69 h3), (a1, ce67 (z.2.1 0) a15 a1), (h3, ce68 kc0 o2 a1)]) (tz := [(kc1, .object "java/lang/Object"), (kc0, .object "java/lang/Object")]) hP hD hK [1, 5, 3] [1] rfl hk20 hF16 hB20.1 ht20 hvm20 rfl rfl
  have hG : s.heap.size + 2 ≤ H20.size := Nat.le_trans hG hz20
  refine W.eq (g2 := F0 m 24 ls [.int 1]) (by rw [hw20]) ?_
  refine lv_pop hx hb dX0_makeNet_24 rfl ?_
  refine lv_aload_n hx hb dX0_makeNet_25 rfl (lv_at hl 0 rfl) ?_
  have hM24 := k85_isSource l hl9 dC dI z a1 a15 H20.size
  obtain ⟨hF22, hC25⟩ := pc_M hM24 hP hD hK hS hX hT hA [5] [] rfl rfl rfl
  refine va_calli (va_runV (As := []) (rest := []) ⟨hx, hb, hml, hown, hts⟩ hM24 (cwV 0 hts (gV q_132 q_133 q_134 q_91 q_131) rfl rfl rfl hV_X2_isSource ⟨Nat.le_of_ble_eq_true rfl, Nat.le_of_ble_eq_true rfl⟩) ⟨pc_blind, va_recv hK hP (ci := 3) (q := (RX2, TX2, 19)) (q0 := 5) rfl rfl, fun U hU hW => ⟨rfl, hC25 U hU hW⟩⟩ rfl rfl hl.1 rfl (lv_room (Nat.le_of_ble_eq_true rfl)) dX0_makeNet_26 ⟨(Nat.le_of_ble_eq_true rfl), (Nat.le_of_ble_eq_true rfl)⟩) hS (fun q9 _ h9 => hF22 q9 h9) hF22 (fun r27 u26 t26 H26 L26 ht26 hvm26 hw26 hB26 hz26 hk26 hS => ?_)
  have hP := pq_keep hP hD [5] rfl hk26 hB26.1 ht26
  have hG : s.heap.size + 2 ≤ H26.size := Nat.le_trans hG hz26
  refine W.eq (g2 := F0 m 29 ls [.int 1]) (by rw [hw26]) ?_
  refine lv_if_eq (tgt := 41) hx hb dX0_makeNet_29 (by decide) (fun cz => absurd cz (by decide)) (fun _ => ?_)
  refine lv_aload_n hx hb dX0_makeNet_32 rfl (lv_at hl 1 rfl) ?_
  refine va_get (D := (dC, dI)) (ci := 2) (v := .ref h2) (C := RX0) (T := TX0) (N := 4) hx hb hts in_X0 hown hK hP 0 rfl rfl 1 (by decide) (hts _ q_29) (fun _ h9 => h9) rfl dX0_makeNet_33 ?_
  refine lv_aload_n hx hb dX0_makeNet_36 rfl (lv_at hl 0 rfl) ?_
  have hM30 := k84_add l hl9 dC dI z h2 a1 h4 a15 o2 H26.size kc1
  obtain ⟨hF28, hC31⟩ := pc_M hM30 hP hD hK hS hX hT hA [1, 5, 2] [0] rfl rfl rfl
  refine va_calli (va_runV (As := [.ref a1]) (rest := []) ⟨hx, hb, hml, hown, hts⟩ hM30 (cwV 1 hts (gV q_127 q_128 q_129 q_12 q_126) rfl rfl rfl hV_Jx4a65c_add_9ea2d ⟨Nat.le_of_ble_eq_true rfl, Nat.le_of_ble_eq_true rfl⟩) ⟨pc_blind, va_recv hK hP (ci := 0) (q := (RJx4a65c, TJx4a65c, 3)) (q0 := 1) rfl rfl, fun U hU hW => ⟨rfl, hC31 U hU hW⟩⟩ rfl rfl hl.1 rfl (lv_room (Nat.le_of_ble_eq_true rfl)) dX0_makeNet_37 ⟨(Nat.le_of_ble_eq_true rfl), (Nat.le_of_ble_eq_true rfl)⟩) hS (fun q9 _ h9 => hF28 q9 h9) hF28 (fun r33 u32 t32 H32 L32 ht32 hvm32 hw32 hB32 hz32 hk32 hS => ?_)
  obtain ⟨hP, hD, hK⟩ := pq_jn (wz := [(h0, ce7 h1 h2 o0 o1), (a15, ce3 z.1), (h1, ce69 h3), (h3, ce68 kc0 o2 a1), (h2, ce69 h4), (a1, ce67 (z.2.1 0) a15 a1), (h4, ce68 kc1 o2 a1)]) (tz := [(kc0, .object "java/lang/Object"), (kc1, .object "java/lang/Object")]) hP hD hK [1, 5, 2] [1] rfl hk32 hF28 hB32.1 ht32 hvm32 rfl rfl
  have hG : s.heap.size + 2 ≤ H32.size := Nat.le_trans hG hz32
  refine W.eq (g2 := F0 m 40 ls [.int 1]) (by rw [hw32]) ?_
  refine lv_pop hx hb dX0_makeNet_40 rfl ?_
  refine lv_aload_n hx hb dX0_makeNet_41 rfl (lv_at hl 0 rfl) ?_
  exact W.aret (v := .ref a1) hx hb hr (by first | exact Or.inl ⟨_, rfl⟩ | exact Or.inr ⟨_, rfl⟩) (Or.inr ⟨_, rfl⟩) (fun t9 ht9 hW9 => ⟨⟨(), a1, rfl, trivial, ⟨a1, a15, rfl, ⟨pq_mk2 hP hD hK [0, 2, 4, 3, 6, 5, 1] [0, 1] rfl rfl rfl ht9 hW9, by rw [ht9]; exact Nat.le_trans (Nat.add_le_add_left (Nat.le_of_ble_eq_true rfl) _) hG⟩⟩⟩, hS.F ht9⟩) hS.2.2 dX0_makeNet_42

set_option maxHeartbeats 4000000 in
set_option maxRecDepth 100000 in
theorem k87_clear (l : Launch) (hl9 : l.stackTraces = false) (dC : Nat → ClassId) (dI : Nat → Nat → Nat) (z : XZ) (h0 h1 : Nat) (o0 : Nat) (sz : Nat) (kc0 : ClassId) : Met l yJx4a65c_clear_da8c8 (.code yJx4a65c_clear_da8c8 cJx4a65c_clear_da8c8 4 none :: wsL_law) ({ frames := 0, cells := 0, slots := 0, locals := 0 }) (va_Pc [.ref h0] (PC (dC, dI) [(h0, ce40 h1), (h1, ce35 kc0 o0)] [(kc0, .object "java/lang/Object")] sz z)) (va_Qv (fun (_ : Unit) => True) (fun (_ : Unit) (t : State) => PG (dC, dI) [(h0, ce71 h1), (h1, ce73 kc0)] [(kc0, .object "java/lang/Object")] (va_A [(h0, ce40 h1), (h1, ce35 kc0 o0)] sz) sz 0 t) (va_A [(h0, ce40 h1), (h1, ce35 kc0 o0)] sz)) 0 0 (va_A [(h0, ce40 h1), (h1, ce35 kc0 o0)] sz) := by
  refine Met.ofW (cc := cJx4a65c_clear_da8c8) (maxL := 4) (ret := none) (by decide) rfl ?_
  intro p e s m args below meth c s₁ B hml hv
  obtain ⟨rfl, hsz, hP, hK, hD0, hX, hT⟩ := hv
  have hx := B.exec
  have hb := B.bytes
  have hr := B.returns
  have hts0 := atoms_spec (ws := .code yJx4a65c_clear_da8c8 cJx4a65c_clear_da8c8 4 none :: wsL_law) B.pre
  have hts := xTail hts0
  have hown : s.vm.findClass RJx4a65c = some m.cls := xown B.named rfl
  have hlocks := B.notSynchronized
  subst hsz
  have hD := hD0.self (sz := s.heap.size)
  generalize hAe : va_A [(h0, ce40 h1), (h1, ce35 kc0 o0)] s.heap.size = A at hD hX ⊢
  have hA : ∀ q : Nat, s.heap.size ≤ q → A q := fun q h => by rw [← hAe]; exact Or.inr h
  have hS : va_S A s.heap s.heap [] := va_S.rf
  have hG : s.heap.size + 0 ≤ s.heap.size := Nat.le_refl _
  have hl := lv_entry ([.ref h0]) (n := 4) (Nat.le_of_ble_eq_true rfl)
  rw [lg_entry_eq]
  generalize (lg_sl ([.ref h0]) ++ List.replicate (4 - (lg_sl ([.ref h0])).length) Slot.unset).toArray = ls at hl ⊢
  have hl : lv_has ls 4 [(0, .ref h0)] := hl
  refine lv_aload_n hx hb dJx4a65c_clear_da8c8_0 rfl (lv_at hl 0 rfl) ?_
  refine lv_dup hx hb dJx4a65c_clear_da8c8_1 rfl ?_
  refine va_get (D := (dC, dI)) (ci := 0) (v := .int 2) (C := RJx4a65c) (T := TJx4a65c) (N := 3) hx hb hts in_Jx4a65c hown hK hP 0 rfl rfl 0 (by decide) (hts _ q_108) (u_same (hts _ q_107)) rfl dJx4a65c_clear_da8c8_2 ?_
  refine lv_iconst (v := 1) hx hb dJx4a65c_clear_da8c8_5 (by decide) ?_
  refine lv_iadd hx hb dJx4a65c_clear_da8c8_6 ?_
  refine lv_topi (fun y1 ey1 => ?_)
  obtain rfl : y1 = 3 := ey1.trans (by decide)
  refine va_put (D := (dC, dI)) (ci := 0) (v := .int 3) (ty := .int) (C := RJx4a65c) (T := TJx4a65c) (N := 3) hx hb hts in_Jx4a65c tyJx4a65c tyJx4a65c_ok nmJx4a65c hown hK hP hD (va_Sre hS) 0 rfl rfl 0 (by decide) (hts _ q_108) (u_same (hts _ q_107)) rfl (by decide +kernel) rfl rfl (Nat.le_of_ble_eq_true rfl) dJx4a65c_clear_da8c8_7 (fun H2 _ hP hD hS' => ?_)
  have hG : s.heap.size + 0 ≤ H2.size := Nat.le_trans hG hS'.1
  have hS := va_Str hS hS'
  have hP : va_P (dC, dI) xCl [(h0, ce70 h1), (h1, ce35 kc0 o0)] H2 := hP
  have hD := vd_as hP hD rfl
  refine lv_aload_n hx hb dJx4a65c_clear_da8c8_10 rfl (lv_at hl 0 rfl) ?_
  refine va_get (D := (dC, dI)) (ci := 0) (v := .ref h1) (C := RJx4a65c) (T := TJx4a65c) (N := 3) hx hb hts in_Jx4a65c hown hK hP 0 rfl rfl 1 (by decide) (hts _ q_24) (fun _ h9 => h9) rfl dJx4a65c_clear_da8c8_11 ?_
  refine lv_astore_n (lv' := [(1, .ref h1), (0, .ref h0)]) hx hb dJx4a65c_clear_da8c8_14 rfl hl (by decide) rfl (fun ls hl => ?_)
  refine lv_aload_n hx hb dJx4a65c_clear_da8c8_15 rfl (lv_at hl 1 rfl) ?_
  refine va_get (D := (dC, dI)) (ci := 0) (v := .int 1) (C := RJx4a65c) (T := TJx4a65c) (N := 3) hx hb hts in_Jx4a65c hown hK hP 0 rfl rfl 2 (by decide) (hts _ q_74) (fun _ h9 => h9) rfl dJx4a65c_clear_da8c8_16 ?_
  refine lv_istore_n (lv' := [(2, .int 1), (1, .ref h1), (0, .ref h0)]) hx hb dJx4a65c_clear_da8c8_19 rfl hl (by decide) rfl (fun ls hl => ?_)
  refine lv_aload_n hx hb dJx4a65c_clear_da8c8_20 rfl (lv_at hl 2 rfl) ?_
  refine lv_iconst (v := 0) hx hb dJx4a65c_clear_da8c8_21 (by decide) ?_
  refine lv_dup_x1 hx hb dJx4a65c_clear_da8c8_22 rfl rfl ?_
  refine va_put (D := (dC, dI)) (ci := 0) (v := .int 0) (ty := .int) (C := RJx4a65c) (T := TJx4a65c) (N := 3) hx hb hts in_Jx4a65c tyJx4a65c tyJx4a65c_ok nmJx4a65c hown hK hP hD (va_Sre hS) 0 rfl rfl 2 (by decide) (hts _ q_74) (fun _ h9 => h9) rfl (by decide +kernel) rfl rfl (Nat.le_of_ble_eq_true rfl) dJx4a65c_clear_da8c8_23 (fun H3 _ hP hD hS' => ?_)
  have hG : s.heap.size + 0 ≤ H3.size := Nat.le_trans hG hS'.1
  have hS := va_Str hS hS'
  have hP : va_P (dC, dI) xCl [(h0, ce71 h1), (h1, ce35 kc0 o0)] H3 := hP
  have hD := vd_as hP hD rfl
  refine lv_istore_n (lv' := [(3, .int 0), (2, .int 1), (1, .ref h1), (0, .ref h0)]) hx hb dJx4a65c_clear_da8c8_26 rfl hl (by decide) rfl (fun ls hl => ?_)
  refine lv_iload_n hx hb dJx4a65c_clear_da8c8_27 rfl (lv_at hl 0 rfl) ?_
  refine lv_iload_n hx hb dJx4a65c_clear_da8c8_28 rfl (lv_at hl 1 rfl) ?_
  refine lv_icmp_ge (tgt := 42) hx hb dJx4a65c_clear_da8c8_29 (by decide) (fun cz => absurd cz (by decide)) (fun _ => ?_)
  refine lv_aload_n hx hb dJx4a65c_clear_da8c8_32 rfl (lv_at hl 2 rfl) ?_
  refine lv_iload_n hx hb dJx4a65c_clear_da8c8_33 rfl (lv_at hl 0 rfl) ?_
  refine lv_null hx hb dJx4a65c_clear_da8c8_34 ?_
  refine va_astqN hx hb hK hP hD (va_Sre hS) 1 0 rfl rfl (i := 0) (by unfold vp_in; decide) dJx4a65c_clear_da8c8_35 (fun H4 _ hP hD hS' => ?_)
  have hG : s.heap.size + 0 ≤ H4.size := Nat.le_trans hG hS'.1
  have hS := va_Str hS hS'
  have hP : va_P (dC, dI) xCl [(h0, ce71 h1), (h1, ce72 kc0 o0)] H4 := hP
  have hD := vd_as hP hD rfl
  refine lv_iinc (v := 1) (lv' := [(3, .int 1), (2, .int 1), (1, .ref h1), (0, .ref h0)]) hx hb dJx4a65c_clear_da8c8_36 hl (k := 0) rfl (by decide) (by decide) rfl (fun ls hl => ?_)
  refine lv_goto (tgt := 27) hx hb dJx4a65c_clear_da8c8_39 (by decide) ?_
  refine lv_iload_n hx hb dJx4a65c_clear_da8c8_27 rfl (lv_at hl 0 rfl) ?_
  refine lv_iload_n hx hb dJx4a65c_clear_da8c8_28 rfl (lv_at hl 1 rfl) ?_
  refine lv_icmp_ge (tgt := 42) hx hb dJx4a65c_clear_da8c8_29 (by decide) (fun _ => ?_) (fun cz => absurd (by decide) cz)
  have ehu5 : (va_up (va_up (fun _ => none) 0 (some o0)) 0 none) = (va_up (fun _ => none) 0 none) := by funext j; by_cases g0 : j = 0; (subst g0; rfl); simp only [va_up, g0, if_false]
  have hu5 : (ce72 kc0 o0 : va_E) = ce73 kc0 := (show (.inl (kc0, 10, .inr (.inr (.inr (.inr (va_up (va_up (fun _ => none) 0 (some o0)) 0 none))))) : va_E) = .inl (kc0, 10, .inr (.inr (.inr (.inr (va_up (fun _ => none) 0 none))))) by rw [ehu5])
  rw [hu5] at hP hD
  have hP : va_P (dC, dI) xCl [(h0, ce71 h1), (h1, ce73 kc0)] H4 := hP
  have hD := vd_as hP hD rfl
  exact W.vret hx hb hr (fun t9 ht9 hW9 => ⟨⟨(), rfl, trivial, ⟨pq_mk2 hP hD hK [0, 1] [0] rfl rfl rfl ht9 hW9, by rw [ht9]; exact Nat.le_trans (Nat.add_le_add_left (Nat.le_of_ble_eq_true rfl) _) hG⟩⟩, hS.F ht9⟩) hS.2.2 dJx4a65c_clear_da8c8_42

set_option maxHeartbeats 4000000 in
set_option maxRecDepth 100000 in
theorem k88_checkIndex (l : Launch) (hl9 : l.stackTraces = false) (dC : Nat → ClassId) (dI : Nat → Nat → Nat) (z : XZ) (sz : Nat) : Met l yJ3_checkIndex_8e157 (.code yJ3_checkIndex_8e157 cJ3_checkIndex_8e157 3 (some .int) :: wsL_law) ({ frames := 0, cells := 0, slots := 0, locals := 0 }) (va_Pc [.int 0, .int 2, .null] (PC (dC, dI) [] [] sz z)) (va_Qi (fun (r : Int32) (_ : Unit) => r = 0) (fun (_ : Unit) (t : State) => PG (dC, dI) [] [] (va_A [] sz) sz 0 t) (va_A [] sz)) 0 0 (va_A [] sz) := by
  refine Met.ofW (cc := cJ3_checkIndex_8e157) (maxL := 3) (ret := (some .int)) (by decide) rfl ?_
  intro p e s m args below meth c s₁ B hml hv
  obtain ⟨rfl, hsz, hP, hK, hD0, hX, hT⟩ := hv
  have hx := B.exec
  have hb := B.bytes
  have hr := B.returns
  have hts0 := atoms_spec (ws := .code yJ3_checkIndex_8e157 cJ3_checkIndex_8e157 3 (some .int) :: wsL_law) B.pre
  have hts := xTail hts0
  have hown : s.vm.findClass RJ3 = some m.cls := xown B.named rfl
  have hlocks := B.notSynchronized
  subst hsz
  have hD := hD0.self (sz := s.heap.size)
  generalize hAe : va_A [] s.heap.size = A at hD hX ⊢
  have hA : ∀ q : Nat, s.heap.size ≤ q → A q := fun q h => by rw [← hAe]; exact Or.inr h
  have hS : va_S A s.heap s.heap [] := va_S.rf
  have hG : s.heap.size + 0 ≤ s.heap.size := Nat.le_refl _
  have hl := lv_entry ([.int 0, .int 2, .null]) (n := 3) (Nat.le_of_ble_eq_true rfl)
  rw [lg_entry_eq]
  generalize (lg_sl ([.int 0, .int 2, .null]) ++ List.replicate (3 - (lg_sl ([.int 0, .int 2, .null])).length) Slot.unset).toArray = ls at hl ⊢
  have hl : lv_has ls 3 [(0, .int 0), (1, .int 2), (2, .null)] := hl
  refine lv_iload_n hx hb dJ3_checkIndex_8e157_0 rfl (lv_at hl 0 rfl) ?_
  refine lv_if_lt (tgt := 9) hx hb dJ3_checkIndex_8e157_1 (by decide) (fun cz => absurd cz (by decide)) (fun _ => ?_)
  refine lv_iload_n hx hb dJ3_checkIndex_8e157_4 rfl (lv_at hl 0 rfl) ?_
  refine lv_iload_n hx hb dJ3_checkIndex_8e157_5 rfl (lv_at hl 1 rfl) ?_
  refine lv_icmp_lt (tgt := 16) hx hb dJ3_checkIndex_8e157_6 (by decide) (fun _ => ?_) (fun cz => absurd (by decide) cz)
  refine lv_iload_n hx hb dJ3_checkIndex_8e157_16 rfl (lv_at hl 0 rfl) ?_
  exact W.iret (v := 0) hx hb hr (fun t9 ht9 hW9 => ⟨⟨0, (), rfl, rfl, ⟨pq_mk2 hP hD hK [] [] rfl rfl rfl ht9 hW9, by rw [ht9]; exact Nat.le_trans (Nat.add_le_add_left (Nat.le_of_ble_eq_true rfl) _) hG⟩⟩, hS.F ht9⟩) hS.2.2 dJ3_checkIndex_8e157_17

set_option maxHeartbeats 4000000 in
set_option maxRecDepth 100000 in
theorem k89_checkIndex (l : Launch) (hl9 : l.stackTraces = false) (dC : Nat → ClassId) (dI : Nat → Nat → Nat) (z : XZ) (sz : Nat) : Met l yJ15_checkIndex_7cf53 (.code yJ15_checkIndex_7cf53 cJ15_checkIndex_7cf53 2 (some .int) :: wsL_law) ({ frames := 1, cells := 0, slots := 0, locals := 22 }) (va_Pc [.int 0, .int 2] (PC (dC, dI) [] [] sz z)) (va_Qi (fun (r : Int32) (_ : Unit) => r = 0) (fun (_ : Unit) (t : State) => PG (dC, dI) [] [] (va_A [] sz) sz 0 t) (va_A [] sz)) 0 0 (va_A [] sz) := by
  refine Met.ofW (cc := cJ15_checkIndex_7cf53) (maxL := 2) (ret := (some .int)) (by decide) rfl ?_
  intro p e s m args below meth c s₁ B hml hv
  obtain ⟨rfl, hsz, hP, hK, hD0, hX, hT⟩ := hv
  have hx := B.exec
  have hb := B.bytes
  have hr := B.returns
  have hts0 := atoms_spec (ws := .code yJ15_checkIndex_7cf53 cJ15_checkIndex_7cf53 2 (some .int) :: wsL_law) B.pre
  have hts := xTail hts0
  have hown : s.vm.findClass RJ15 = some m.cls := xown B.named rfl
  have hlocks := B.notSynchronized
  subst hsz
  have hD := hD0.self (sz := s.heap.size)
  generalize hAe : va_A [] s.heap.size = A at hD hX ⊢
  have hA : ∀ q : Nat, s.heap.size ≤ q → A q := fun q h => by rw [← hAe]; exact Or.inr h
  have hS : va_S A s.heap s.heap [] := va_S.rf
  have hG : s.heap.size + 0 ≤ s.heap.size := Nat.le_refl _
  have hl := lv_entry ([.int 0, .int 2]) (n := 2) (Nat.le_of_ble_eq_true rfl)
  rw [lg_entry_eq]
  generalize (lg_sl ([.int 0, .int 2]) ++ List.replicate (2 - (lg_sl ([.int 0, .int 2])).length) Slot.unset).toArray = ls at hl ⊢
  have hl : lv_has ls 2 [(0, .int 0), (1, .int 2)] := hl
  refine lv_iload_n hx hb dJ15_checkIndex_7cf53_0 rfl (lv_at hl 0 rfl) ?_
  refine lv_iload_n hx hb dJ15_checkIndex_7cf53_1 rfl (lv_at hl 1 rfl) ?_
  refine lv_null hx hb dJ15_checkIndex_7cf53_2 ?_
  have hM3 := k88_checkIndex l hl9 dC dI z s.heap.size
  obtain ⟨hF1, hC4⟩ := pc_M hM3 hP hD hK hS hX hT hA [] [] rfl rfl rfl
  refine va_calli (va_runS (As := [.int 0, .int 2, .null]) (rest := []) ⟨hx, hb, hml, hown, hts⟩ hM3 (va_cwS 3 hts (gS q_144 q_145 q_146 q_143) rfl rfl rfl hS_J3_checkIndex_8e157 ⟨Nat.le_of_ble_eq_true rfl, Nat.le_of_ble_eq_true rfl⟩) ⟨pc_blind, fun U hU hW => ⟨rfl, hC4 U hU hW⟩⟩ rfl rfl hl.1 rfl (lv_room (Nat.le_of_ble_eq_true rfl)) dJ15_checkIndex_7cf53_3 ⟨(Nat.le_of_ble_eq_true rfl), (Nat.le_of_ble_eq_true rfl)⟩) hS (fun q9 _ h9 => hF1 q9 h9) hF1 (fun r6 u5 t5 H5 L5 ht5 hvm5 hw5 hB5 hz5 hk5 hS => ?_)
  have hP := pq_keep hP hD [] rfl hk5 hB5.1 ht5
  have hG : s.heap.size + 0 ≤ H5.size := Nat.le_trans hG hz5
  refine W.eq (g2 := F0 m 6 ls [.int 0]) (by rw [hw5]) ?_
  exact W.iret (v := 0) hx hb hr (fun t9 ht9 hW9 => ⟨⟨0, (), rfl, rfl, ⟨pq_mk2 hP hD hK [] [] rfl rfl rfl ht9 hW9, by rw [ht9]; exact Nat.le_trans (Nat.add_le_add_left (Nat.le_of_ble_eq_true rfl) _) hG⟩⟩, hS.F ht9⟩) hS.2.2 dJ15_checkIndex_7cf53_6

set_option maxHeartbeats 4000000 in
set_option maxRecDepth 100000 in
theorem k90_elementData (l : Launch) (hl9 : l.stackTraces = false) (dC : Nat → ClassId) (dI : Nat → Nat → Nat) (z : XZ) (h0 h1 : Nat) (o0 o1 : Nat) (sz : Nat) (kc0 : ClassId) : Met l yJx4a65c_elementData_915e3 (.code yJx4a65c_elementData_915e3 cJx4a65c_elementData_915e3 2 (some (.object "java/lang/Object")) :: wsL_law) ({ frames := 0, cells := 0, slots := 0, locals := 0 }) (va_Pc [.ref h0, .int 0] (PC (dC, dI) [(h0, ce69 h1), (h1, ce68 kc0 o0 o1)] [(kc0, .object "java/lang/Object")] sz z)) (va_Qr (fun (_ : Unit) => True) (fun (_ : Unit) (ra : Nat) (t : State) => ra = o0 ∧ PG (dC, dI) [(h0, ce69 h1), (h1, ce68 kc0 o0 o1)] [(kc0, .object "java/lang/Object")] (va_A [(h0, ce69 h1), (h1, ce68 kc0 o0 o1)] sz) sz 0 t) (va_A [(h0, ce69 h1), (h1, ce68 kc0 o0 o1)] sz)) 0 0 (va_A [(h0, ce69 h1), (h1, ce68 kc0 o0 o1)] sz) := by
  refine Met.ofW (cc := cJx4a65c_elementData_915e3) (maxL := 2) (ret := (some (.object "java/lang/Object"))) (by decide) rfl ?_
  intro p e s m args below meth c s₁ B hml hv
  obtain ⟨rfl, hsz, hP, hK, hD0, hX, hT⟩ := hv
  have hx := B.exec
  have hb := B.bytes
  have hr := B.returns
  have hts0 := atoms_spec (ws := .code yJx4a65c_elementData_915e3 cJx4a65c_elementData_915e3 2 (some (.object "java/lang/Object")) :: wsL_law) B.pre
  have hts := xTail hts0
  have hown : s.vm.findClass RJx4a65c = some m.cls := xown B.named rfl
  have hlocks := B.notSynchronized
  subst hsz
  have hD := hD0.self (sz := s.heap.size)
  generalize hAe : va_A [(h0, ce69 h1), (h1, ce68 kc0 o0 o1)] s.heap.size = A at hD hX ⊢
  have hA : ∀ q : Nat, s.heap.size ≤ q → A q := fun q h => by rw [← hAe]; exact Or.inr h
  have hS : va_S A s.heap s.heap [] := va_S.rf
  have hG : s.heap.size + 0 ≤ s.heap.size := Nat.le_refl _
  have hl := lv_entry ([.ref h0, .int 0]) (n := 2) (Nat.le_of_ble_eq_true rfl)
  rw [lg_entry_eq]
  generalize (lg_sl ([.ref h0, .int 0]) ++ List.replicate (2 - (lg_sl ([.ref h0, .int 0])).length) Slot.unset).toArray = ls at hl ⊢
  have hl : lv_has ls 2 [(0, .ref h0), (1, .int 0)] := hl
  refine lv_aload_n hx hb dJx4a65c_elementData_915e3_0 rfl (lv_at hl 0 rfl) ?_
  refine va_get (D := (dC, dI)) (ci := 0) (v := .ref h1) (C := RJx4a65c) (T := TJx4a65c) (N := 3) hx hb hts in_Jx4a65c hown hK hP 0 rfl rfl 1 (by decide) (hts _ q_24) (fun _ h9 => h9) rfl dJx4a65c_elementData_915e3_1 ?_
  refine lv_iload_n hx hb dJx4a65c_elementData_915e3_4 rfl (lv_at hl 1 rfl) ?_
  refine va_aldq hx hb hK hP 1 0 rfl rfl (i := 0) (by unfold vp_in; decide) dJx4a65c_elementData_915e3_5 ?_
  refine W.eq (g2 := F0 m 6 ls [.ref o0]) rfl ?_
  exact W.aret (v := .ref o0) hx hb hr (by first | exact Or.inl ⟨_, rfl⟩ | exact Or.inr ⟨_, rfl⟩) (Or.inr ⟨_, rfl⟩) (fun t9 ht9 hW9 => ⟨⟨(), o0, rfl, trivial, ⟨rfl, ⟨pq_mk2 hP hD hK [0, 1] [0] rfl rfl rfl ht9 hW9, by rw [ht9]; exact Nat.le_trans (Nat.add_le_add_left (Nat.le_of_ble_eq_true rfl) _) hG⟩⟩⟩, hS.F ht9⟩) hS.2.2 dJx4a65c_elementData_915e3_6

set_option maxHeartbeats 4000000 in
set_option maxRecDepth 100000 in
theorem k91_get (l : Launch) (hl9 : l.stackTraces = false) (dC : Nat → ClassId) (dI : Nat → Nat → Nat) (z : XZ) (h0 h1 : Nat) (o0 o1 : Nat) (sz : Nat) (kc0 : ClassId) : Met l yJx4a65c_get_915e3 (.code yJx4a65c_get_915e3 cJx4a65c_get_915e3 2 (some (.object "java/lang/Object")) :: wsL_law) ({ frames := 2, cells := 0, slots := 0, locals := 43 }) (va_Pc [.ref h0, .int 0] (PC (dC, dI) [(h0, ce69 h1), (h1, ce68 kc0 o0 o1)] [(kc0, .object "java/lang/Object")] sz z)) (va_Qr (fun (_ : Unit) => True) (fun (_ : Unit) (ra : Nat) (t : State) => ra = o0 ∧ PG (dC, dI) [(h0, ce69 h1), (h1, ce68 kc0 o0 o1)] [(kc0, .object "java/lang/Object")] (va_A [(h0, ce69 h1), (h1, ce68 kc0 o0 o1)] sz) sz 0 t) (va_A [(h0, ce69 h1), (h1, ce68 kc0 o0 o1)] sz)) 0 0 (va_A [(h0, ce69 h1), (h1, ce68 kc0 o0 o1)] sz) := by
  refine Met.ofW (cc := cJx4a65c_get_915e3) (maxL := 2) (ret := (some (.object "java/lang/Object"))) (by decide) rfl ?_
  intro p e s m args below meth c s₁ B hml hv
  obtain ⟨rfl, hsz, hP, hK, hD0, hX, hT⟩ := hv
  have hx := B.exec
  have hb := B.bytes
  have hr := B.returns
  have hts0 := atoms_spec (ws := .code yJx4a65c_get_915e3 cJx4a65c_get_915e3 2 (some (.object "java/lang/Object")) :: wsL_law) B.pre
  have hts := xTail hts0
  have hown : s.vm.findClass RJx4a65c = some m.cls := xown B.named rfl
  have hlocks := B.notSynchronized
  subst hsz
  have hD := hD0.self (sz := s.heap.size)
  generalize hAe : va_A [(h0, ce69 h1), (h1, ce68 kc0 o0 o1)] s.heap.size = A at hD hX ⊢
  have hA : ∀ q : Nat, s.heap.size ≤ q → A q := fun q h => by rw [← hAe]; exact Or.inr h
  have hS : va_S A s.heap s.heap [] := va_S.rf
  have hG : s.heap.size + 0 ≤ s.heap.size := Nat.le_refl _
  have hl := lv_entry ([.ref h0, .int 0]) (n := 2) (Nat.le_of_ble_eq_true rfl)
  rw [lg_entry_eq]
  generalize (lg_sl ([.ref h0, .int 0]) ++ List.replicate (2 - (lg_sl ([.ref h0, .int 0])).length) Slot.unset).toArray = ls at hl ⊢
  have hl : lv_has ls 2 [(0, .ref h0), (1, .int 0)] := hl
  refine lv_iload_n hx hb dJx4a65c_get_915e3_0 rfl (lv_at hl 1 rfl) ?_
  refine lv_aload_n hx hb dJx4a65c_get_915e3_1 rfl (lv_at hl 0 rfl) ?_
  refine va_get (D := (dC, dI)) (ci := 0) (v := .int 2) (C := RJx4a65c) (T := TJx4a65c) (N := 3) hx hb hts in_Jx4a65c hown hK hP 0 rfl rfl 2 (by decide) (hts _ q_74) (fun _ h9 => h9) rfl dJx4a65c_get_915e3_2 ?_
  have hM3 := k89_checkIndex l hl9 dC dI z s.heap.size
  obtain ⟨hF1, hC4⟩ := pc_M hM3 hP hD hK hS hX hT hA [] [] rfl rfl rfl
  refine va_calli (va_runS (As := [.int 0, .int 2]) (rest := []) ⟨hx, hb, hml, hown, hts⟩ hM3 (va_cwS 2 hts (gS q_148 q_149 q_150 q_147) rfl rfl rfl hS_J15_checkIndex_7cf53 ⟨Nat.le_of_ble_eq_true rfl, Nat.le_of_ble_eq_true rfl⟩) ⟨pc_blind, fun U hU hW => ⟨rfl, hC4 U hU hW⟩⟩ rfl rfl hl.1 rfl (lv_room (Nat.le_of_ble_eq_true rfl)) dJx4a65c_get_915e3_5 ⟨(Nat.le_of_ble_eq_true rfl), (Nat.le_of_ble_eq_true rfl)⟩) hS (fun q9 _ h9 => hF1 q9 h9) hF1 (fun r6 u5 t5 H5 L5 ht5 hvm5 hw5 hB5 hz5 hk5 hS => ?_)
  have hP := pq_keep hP hD [] rfl hk5 hB5.1 ht5
  have hG : s.heap.size + 0 ≤ H5.size := Nat.le_trans hG hz5
  refine W.eq (g2 := F0 m 8 ls [.int 0]) (by rw [hw5]) ?_
  refine lv_pop hx hb dJx4a65c_get_915e3_8 rfl ?_
  refine lv_aload_n hx hb dJx4a65c_get_915e3_9 rfl (lv_at hl 0 rfl) ?_
  refine lv_iload_n hx hb dJx4a65c_get_915e3_10 rfl (lv_at hl 1 rfl) ?_
  have hM9 := k90_elementData l hl9 dC dI z h0 h1 o0 o1 H5.size kc0
  obtain ⟨hF7, hC10⟩ := pc_M hM9 hP hD hK hS hX hT hA [0, 1] [0] rfl rfl rfl
  refine va_callr (va_runV (As := [.int 0]) (rest := []) ⟨hx, hb, hml, hown, hts⟩ hM9 (cwV 1 hts (gV q_152 q_153 q_154 q_12 q_151) rfl rfl rfl hV_Jx4a65c_elementData_915e3 ⟨Nat.le_of_ble_eq_true rfl, Nat.le_of_ble_eq_true rfl⟩) ⟨pc_blind, va_recv hK hP (ci := 0) (q := (RJx4a65c, TJx4a65c, 3)) (q0 := 0) rfl rfl, fun U hU hW => ⟨rfl, hC10 U hU hW⟩⟩ rfl rfl hl.1 rfl (lv_room (Nat.le_of_ble_eq_true rfl)) dJx4a65c_get_915e3_11 ⟨(Nat.le_of_ble_eq_true rfl), (Nat.le_of_ble_eq_true rfl)⟩) hS (fun q9 _ h9 => hF7 q9 h9) hF7 (fun u11 r12 t11 H11 L11 ht11 hvm11 hw11 hB11 hz11 hk11 hS => ?_)
  obtain ⟨hr11, hB11⟩ := hB11
  have hP := pq_keep hP hD [0, 1] rfl hk11 hB11.1 ht11
  have hG : s.heap.size + 0 ≤ H11.size := Nat.le_trans hG hz11
  refine W.eq (g2 := F0 m 14 ls [.ref o0]) (by rw [hr11]) ?_
  exact W.aret (v := .ref o0) hx hb hr (by first | exact Or.inl ⟨_, rfl⟩ | exact Or.inr ⟨_, rfl⟩) (Or.inr ⟨_, rfl⟩) (fun t9 ht9 hW9 => ⟨⟨(), o0, rfl, trivial, ⟨rfl, ⟨pq_mk2 hP hD hK [0, 1] [0] rfl rfl rfl ht9 hW9, by rw [ht9]; exact Nat.le_trans (Nat.add_le_add_left (Nat.le_of_ble_eq_true rfl) _) hG⟩⟩⟩, hS.F ht9⟩) hS.2.2 dJx4a65c_get_915e3_14

set_option maxHeartbeats 4000000 in
set_option maxRecDepth 100000 in
theorem k92_checkIndex (l : Launch) (hl9 : l.stackTraces = false) (dC : Nat → ClassId) (dI : Nat → Nat → Nat) (z : XZ) (sz : Nat) : Met l yJ3_checkIndex_8e157 (.code yJ3_checkIndex_8e157 cJ3_checkIndex_8e157 3 (some .int) :: wsL_law) ({ frames := 0, cells := 0, slots := 0, locals := 0 }) (va_Pc [.int 1, .int 2, .null] (PC (dC, dI) [] [] sz z)) (va_Qi (fun (r : Int32) (_ : Unit) => r = 1) (fun (_ : Unit) (t : State) => PG (dC, dI) [] [] (va_A [] sz) sz 0 t) (va_A [] sz)) 0 0 (va_A [] sz) := by
  refine Met.ofW (cc := cJ3_checkIndex_8e157) (maxL := 3) (ret := (some .int)) (by decide) rfl ?_
  intro p e s m args below meth c s₁ B hml hv
  obtain ⟨rfl, hsz, hP, hK, hD0, hX, hT⟩ := hv
  have hx := B.exec
  have hb := B.bytes
  have hr := B.returns
  have hts0 := atoms_spec (ws := .code yJ3_checkIndex_8e157 cJ3_checkIndex_8e157 3 (some .int) :: wsL_law) B.pre
  have hts := xTail hts0
  have hown : s.vm.findClass RJ3 = some m.cls := xown B.named rfl
  have hlocks := B.notSynchronized
  subst hsz
  have hD := hD0.self (sz := s.heap.size)
  generalize hAe : va_A [] s.heap.size = A at hD hX ⊢
  have hA : ∀ q : Nat, s.heap.size ≤ q → A q := fun q h => by rw [← hAe]; exact Or.inr h
  have hS : va_S A s.heap s.heap [] := va_S.rf
  have hG : s.heap.size + 0 ≤ s.heap.size := Nat.le_refl _
  have hl := lv_entry ([.int 1, .int 2, .null]) (n := 3) (Nat.le_of_ble_eq_true rfl)
  rw [lg_entry_eq]
  generalize (lg_sl ([.int 1, .int 2, .null]) ++ List.replicate (3 - (lg_sl ([.int 1, .int 2, .null])).length) Slot.unset).toArray = ls at hl ⊢
  have hl : lv_has ls 3 [(0, .int 1), (1, .int 2), (2, .null)] := hl
  refine lv_iload_n hx hb dJ3_checkIndex_8e157_0 rfl (lv_at hl 0 rfl) ?_
  refine lv_if_lt (tgt := 9) hx hb dJ3_checkIndex_8e157_1 (by decide) (fun cz => absurd cz (by decide)) (fun _ => ?_)
  refine lv_iload_n hx hb dJ3_checkIndex_8e157_4 rfl (lv_at hl 0 rfl) ?_
  refine lv_iload_n hx hb dJ3_checkIndex_8e157_5 rfl (lv_at hl 1 rfl) ?_
  refine lv_icmp_lt (tgt := 16) hx hb dJ3_checkIndex_8e157_6 (by decide) (fun _ => ?_) (fun cz => absurd (by decide) cz)
  refine lv_iload_n hx hb dJ3_checkIndex_8e157_16 rfl (lv_at hl 0 rfl) ?_
  exact W.iret (v := 1) hx hb hr (fun t9 ht9 hW9 => ⟨⟨1, (), rfl, rfl, ⟨pq_mk2 hP hD hK [] [] rfl rfl rfl ht9 hW9, by rw [ht9]; exact Nat.le_trans (Nat.add_le_add_left (Nat.le_of_ble_eq_true rfl) _) hG⟩⟩, hS.F ht9⟩) hS.2.2 dJ3_checkIndex_8e157_17

set_option maxHeartbeats 4000000 in
set_option maxRecDepth 100000 in
theorem k93_checkIndex (l : Launch) (hl9 : l.stackTraces = false) (dC : Nat → ClassId) (dI : Nat → Nat → Nat) (z : XZ) (sz : Nat) : Met l yJ15_checkIndex_7cf53 (.code yJ15_checkIndex_7cf53 cJ15_checkIndex_7cf53 2 (some .int) :: wsL_law) ({ frames := 1, cells := 0, slots := 0, locals := 22 }) (va_Pc [.int 1, .int 2] (PC (dC, dI) [] [] sz z)) (va_Qi (fun (r : Int32) (_ : Unit) => r = 1) (fun (_ : Unit) (t : State) => PG (dC, dI) [] [] (va_A [] sz) sz 0 t) (va_A [] sz)) 0 0 (va_A [] sz) := by
  refine Met.ofW (cc := cJ15_checkIndex_7cf53) (maxL := 2) (ret := (some .int)) (by decide) rfl ?_
  intro p e s m args below meth c s₁ B hml hv
  obtain ⟨rfl, hsz, hP, hK, hD0, hX, hT⟩ := hv
  have hx := B.exec
  have hb := B.bytes
  have hr := B.returns
  have hts0 := atoms_spec (ws := .code yJ15_checkIndex_7cf53 cJ15_checkIndex_7cf53 2 (some .int) :: wsL_law) B.pre
  have hts := xTail hts0
  have hown : s.vm.findClass RJ15 = some m.cls := xown B.named rfl
  have hlocks := B.notSynchronized
  subst hsz
  have hD := hD0.self (sz := s.heap.size)
  generalize hAe : va_A [] s.heap.size = A at hD hX ⊢
  have hA : ∀ q : Nat, s.heap.size ≤ q → A q := fun q h => by rw [← hAe]; exact Or.inr h
  have hS : va_S A s.heap s.heap [] := va_S.rf
  have hG : s.heap.size + 0 ≤ s.heap.size := Nat.le_refl _
  have hl := lv_entry ([.int 1, .int 2]) (n := 2) (Nat.le_of_ble_eq_true rfl)
  rw [lg_entry_eq]
  generalize (lg_sl ([.int 1, .int 2]) ++ List.replicate (2 - (lg_sl ([.int 1, .int 2])).length) Slot.unset).toArray = ls at hl ⊢
  have hl : lv_has ls 2 [(0, .int 1), (1, .int 2)] := hl
  refine lv_iload_n hx hb dJ15_checkIndex_7cf53_0 rfl (lv_at hl 0 rfl) ?_
  refine lv_iload_n hx hb dJ15_checkIndex_7cf53_1 rfl (lv_at hl 1 rfl) ?_
  refine lv_null hx hb dJ15_checkIndex_7cf53_2 ?_
  have hM3 := k92_checkIndex l hl9 dC dI z s.heap.size
  obtain ⟨hF1, hC4⟩ := pc_M hM3 hP hD hK hS hX hT hA [] [] rfl rfl rfl
  refine va_calli (va_runS (As := [.int 1, .int 2, .null]) (rest := []) ⟨hx, hb, hml, hown, hts⟩ hM3 (va_cwS 3 hts (gS q_144 q_145 q_146 q_143) rfl rfl rfl hS_J3_checkIndex_8e157 ⟨Nat.le_of_ble_eq_true rfl, Nat.le_of_ble_eq_true rfl⟩) ⟨pc_blind, fun U hU hW => ⟨rfl, hC4 U hU hW⟩⟩ rfl rfl hl.1 rfl (lv_room (Nat.le_of_ble_eq_true rfl)) dJ15_checkIndex_7cf53_3 ⟨(Nat.le_of_ble_eq_true rfl), (Nat.le_of_ble_eq_true rfl)⟩) hS (fun q9 _ h9 => hF1 q9 h9) hF1 (fun r6 u5 t5 H5 L5 ht5 hvm5 hw5 hB5 hz5 hk5 hS => ?_)
  have hP := pq_keep hP hD [] rfl hk5 hB5.1 ht5
  have hG : s.heap.size + 0 ≤ H5.size := Nat.le_trans hG hz5
  refine W.eq (g2 := F0 m 6 ls [.int 1]) (by rw [hw5]) ?_
  exact W.iret (v := 1) hx hb hr (fun t9 ht9 hW9 => ⟨⟨1, (), rfl, rfl, ⟨pq_mk2 hP hD hK [] [] rfl rfl rfl ht9 hW9, by rw [ht9]; exact Nat.le_trans (Nat.add_le_add_left (Nat.le_of_ble_eq_true rfl) _) hG⟩⟩, hS.F ht9⟩) hS.2.2 dJ15_checkIndex_7cf53_6

set_option maxHeartbeats 4000000 in
set_option maxRecDepth 100000 in
theorem k94_elementData (l : Launch) (hl9 : l.stackTraces = false) (dC : Nat → ClassId) (dI : Nat → Nat → Nat) (z : XZ) (h0 h1 : Nat) (o0 o1 : Nat) (sz : Nat) (kc0 : ClassId) : Met l yJx4a65c_elementData_915e3 (.code yJx4a65c_elementData_915e3 cJx4a65c_elementData_915e3 2 (some (.object "java/lang/Object")) :: wsL_law) ({ frames := 0, cells := 0, slots := 0, locals := 0 }) (va_Pc [.ref h0, .int 1] (PC (dC, dI) [(h0, ce69 h1), (h1, ce68 kc0 o0 o1)] [(kc0, .object "java/lang/Object")] sz z)) (va_Qr (fun (_ : Unit) => True) (fun (_ : Unit) (ra : Nat) (t : State) => ra = o1 ∧ PG (dC, dI) [(h0, ce69 h1), (h1, ce68 kc0 o0 o1)] [(kc0, .object "java/lang/Object")] (va_A [(h0, ce69 h1), (h1, ce68 kc0 o0 o1)] sz) sz 0 t) (va_A [(h0, ce69 h1), (h1, ce68 kc0 o0 o1)] sz)) 0 0 (va_A [(h0, ce69 h1), (h1, ce68 kc0 o0 o1)] sz) := by
  refine Met.ofW (cc := cJx4a65c_elementData_915e3) (maxL := 2) (ret := (some (.object "java/lang/Object"))) (by decide) rfl ?_
  intro p e s m args below meth c s₁ B hml hv
  obtain ⟨rfl, hsz, hP, hK, hD0, hX, hT⟩ := hv
  have hx := B.exec
  have hb := B.bytes
  have hr := B.returns
  have hts0 := atoms_spec (ws := .code yJx4a65c_elementData_915e3 cJx4a65c_elementData_915e3 2 (some (.object "java/lang/Object")) :: wsL_law) B.pre
  have hts := xTail hts0
  have hown : s.vm.findClass RJx4a65c = some m.cls := xown B.named rfl
  have hlocks := B.notSynchronized
  subst hsz
  have hD := hD0.self (sz := s.heap.size)
  generalize hAe : va_A [(h0, ce69 h1), (h1, ce68 kc0 o0 o1)] s.heap.size = A at hD hX ⊢
  have hA : ∀ q : Nat, s.heap.size ≤ q → A q := fun q h => by rw [← hAe]; exact Or.inr h
  have hS : va_S A s.heap s.heap [] := va_S.rf
  have hG : s.heap.size + 0 ≤ s.heap.size := Nat.le_refl _
  have hl := lv_entry ([.ref h0, .int 1]) (n := 2) (Nat.le_of_ble_eq_true rfl)
  rw [lg_entry_eq]
  generalize (lg_sl ([.ref h0, .int 1]) ++ List.replicate (2 - (lg_sl ([.ref h0, .int 1])).length) Slot.unset).toArray = ls at hl ⊢
  have hl : lv_has ls 2 [(0, .ref h0), (1, .int 1)] := hl
  refine lv_aload_n hx hb dJx4a65c_elementData_915e3_0 rfl (lv_at hl 0 rfl) ?_
  refine va_get (D := (dC, dI)) (ci := 0) (v := .ref h1) (C := RJx4a65c) (T := TJx4a65c) (N := 3) hx hb hts in_Jx4a65c hown hK hP 0 rfl rfl 1 (by decide) (hts _ q_24) (fun _ h9 => h9) rfl dJx4a65c_elementData_915e3_1 ?_
  refine lv_iload_n hx hb dJx4a65c_elementData_915e3_4 rfl (lv_at hl 1 rfl) ?_
  refine va_aldq hx hb hK hP 1 0 rfl rfl (i := 1) (by unfold vp_in; decide) dJx4a65c_elementData_915e3_5 ?_
  refine W.eq (g2 := F0 m 6 ls [.ref o1]) rfl ?_
  exact W.aret (v := .ref o1) hx hb hr (by first | exact Or.inl ⟨_, rfl⟩ | exact Or.inr ⟨_, rfl⟩) (Or.inr ⟨_, rfl⟩) (fun t9 ht9 hW9 => ⟨⟨(), o1, rfl, trivial, ⟨rfl, ⟨pq_mk2 hP hD hK [0, 1] [0] rfl rfl rfl ht9 hW9, by rw [ht9]; exact Nat.le_trans (Nat.add_le_add_left (Nat.le_of_ble_eq_true rfl) _) hG⟩⟩⟩, hS.F ht9⟩) hS.2.2 dJx4a65c_elementData_915e3_6

set_option maxHeartbeats 4000000 in
set_option maxRecDepth 100000 in
theorem k95_get (l : Launch) (hl9 : l.stackTraces = false) (dC : Nat → ClassId) (dI : Nat → Nat → Nat) (z : XZ) (h0 h1 : Nat) (o0 o1 : Nat) (sz : Nat) (kc0 : ClassId) : Met l yJx4a65c_get_915e3 (.code yJx4a65c_get_915e3 cJx4a65c_get_915e3 2 (some (.object "java/lang/Object")) :: wsL_law) ({ frames := 2, cells := 0, slots := 0, locals := 43 }) (va_Pc [.ref h0, .int 1] (PC (dC, dI) [(h0, ce69 h1), (h1, ce68 kc0 o0 o1)] [(kc0, .object "java/lang/Object")] sz z)) (va_Qr (fun (_ : Unit) => True) (fun (_ : Unit) (ra : Nat) (t : State) => ra = o1 ∧ PG (dC, dI) [(h0, ce69 h1), (h1, ce68 kc0 o0 o1)] [(kc0, .object "java/lang/Object")] (va_A [(h0, ce69 h1), (h1, ce68 kc0 o0 o1)] sz) sz 0 t) (va_A [(h0, ce69 h1), (h1, ce68 kc0 o0 o1)] sz)) 0 0 (va_A [(h0, ce69 h1), (h1, ce68 kc0 o0 o1)] sz) := by
  refine Met.ofW (cc := cJx4a65c_get_915e3) (maxL := 2) (ret := (some (.object "java/lang/Object"))) (by decide) rfl ?_
  intro p e s m args below meth c s₁ B hml hv
  obtain ⟨rfl, hsz, hP, hK, hD0, hX, hT⟩ := hv
  have hx := B.exec
  have hb := B.bytes
  have hr := B.returns
  have hts0 := atoms_spec (ws := .code yJx4a65c_get_915e3 cJx4a65c_get_915e3 2 (some (.object "java/lang/Object")) :: wsL_law) B.pre
  have hts := xTail hts0
  have hown : s.vm.findClass RJx4a65c = some m.cls := xown B.named rfl
  have hlocks := B.notSynchronized
  subst hsz
  have hD := hD0.self (sz := s.heap.size)
  generalize hAe : va_A [(h0, ce69 h1), (h1, ce68 kc0 o0 o1)] s.heap.size = A at hD hX ⊢
  have hA : ∀ q : Nat, s.heap.size ≤ q → A q := fun q h => by rw [← hAe]; exact Or.inr h
  have hS : va_S A s.heap s.heap [] := va_S.rf
  have hG : s.heap.size + 0 ≤ s.heap.size := Nat.le_refl _
  have hl := lv_entry ([.ref h0, .int 1]) (n := 2) (Nat.le_of_ble_eq_true rfl)
  rw [lg_entry_eq]
  generalize (lg_sl ([.ref h0, .int 1]) ++ List.replicate (2 - (lg_sl ([.ref h0, .int 1])).length) Slot.unset).toArray = ls at hl ⊢
  have hl : lv_has ls 2 [(0, .ref h0), (1, .int 1)] := hl
  refine lv_iload_n hx hb dJx4a65c_get_915e3_0 rfl (lv_at hl 1 rfl) ?_
  refine lv_aload_n hx hb dJx4a65c_get_915e3_1 rfl (lv_at hl 0 rfl) ?_
  refine va_get (D := (dC, dI)) (ci := 0) (v := .int 2) (C := RJx4a65c) (T := TJx4a65c) (N := 3) hx hb hts in_Jx4a65c hown hK hP 0 rfl rfl 2 (by decide) (hts _ q_74) (fun _ h9 => h9) rfl dJx4a65c_get_915e3_2 ?_
  have hM3 := k93_checkIndex l hl9 dC dI z s.heap.size
  obtain ⟨hF1, hC4⟩ := pc_M hM3 hP hD hK hS hX hT hA [] [] rfl rfl rfl
  refine va_calli (va_runS (As := [.int 1, .int 2]) (rest := []) ⟨hx, hb, hml, hown, hts⟩ hM3 (va_cwS 2 hts (gS q_148 q_149 q_150 q_147) rfl rfl rfl hS_J15_checkIndex_7cf53 ⟨Nat.le_of_ble_eq_true rfl, Nat.le_of_ble_eq_true rfl⟩) ⟨pc_blind, fun U hU hW => ⟨rfl, hC4 U hU hW⟩⟩ rfl rfl hl.1 rfl (lv_room (Nat.le_of_ble_eq_true rfl)) dJx4a65c_get_915e3_5 ⟨(Nat.le_of_ble_eq_true rfl), (Nat.le_of_ble_eq_true rfl)⟩) hS (fun q9 _ h9 => hF1 q9 h9) hF1 (fun r6 u5 t5 H5 L5 ht5 hvm5 hw5 hB5 hz5 hk5 hS => ?_)
  have hP := pq_keep hP hD [] rfl hk5 hB5.1 ht5
  have hG : s.heap.size + 0 ≤ H5.size := Nat.le_trans hG hz5
  refine W.eq (g2 := F0 m 8 ls [.int 1]) (by rw [hw5]) ?_
  refine lv_pop hx hb dJx4a65c_get_915e3_8 rfl ?_
  refine lv_aload_n hx hb dJx4a65c_get_915e3_9 rfl (lv_at hl 0 rfl) ?_
  refine lv_iload_n hx hb dJx4a65c_get_915e3_10 rfl (lv_at hl 1 rfl) ?_
  have hM9 := k94_elementData l hl9 dC dI z h0 h1 o0 o1 H5.size kc0
  obtain ⟨hF7, hC10⟩ := pc_M hM9 hP hD hK hS hX hT hA [0, 1] [0] rfl rfl rfl
  refine va_callr (va_runV (As := [.int 1]) (rest := []) ⟨hx, hb, hml, hown, hts⟩ hM9 (cwV 1 hts (gV q_152 q_153 q_154 q_12 q_151) rfl rfl rfl hV_Jx4a65c_elementData_915e3 ⟨Nat.le_of_ble_eq_true rfl, Nat.le_of_ble_eq_true rfl⟩) ⟨pc_blind, va_recv hK hP (ci := 0) (q := (RJx4a65c, TJx4a65c, 3)) (q0 := 0) rfl rfl, fun U hU hW => ⟨rfl, hC10 U hU hW⟩⟩ rfl rfl hl.1 rfl (lv_room (Nat.le_of_ble_eq_true rfl)) dJx4a65c_get_915e3_11 ⟨(Nat.le_of_ble_eq_true rfl), (Nat.le_of_ble_eq_true rfl)⟩) hS (fun q9 _ h9 => hF7 q9 h9) hF7 (fun u11 r12 t11 H11 L11 ht11 hvm11 hw11 hB11 hz11 hk11 hS => ?_)
  obtain ⟨hr11, hB11⟩ := hB11
  have hP := pq_keep hP hD [0, 1] rfl hk11 hB11.1 ht11
  have hG : s.heap.size + 0 ≤ H11.size := Nat.le_trans hG hz11
  refine W.eq (g2 := F0 m 14 ls [.ref o1]) (by rw [hr11]) ?_
  exact W.aret (v := .ref o1) hx hb hr (by first | exact Or.inl ⟨_, rfl⟩ | exact Or.inr ⟨_, rfl⟩) (Or.inr ⟨_, rfl⟩) (fun t9 ht9 hW9 => ⟨⟨(), o1, rfl, trivial, ⟨rfl, ⟨pq_mk2 hP hD hK [0, 1] [0] rfl rfl rfl ht9 hW9, by rw [ht9]; exact Nat.le_trans (Nat.add_le_add_left (Nat.le_of_ble_eq_true rfl) _) hG⟩⟩⟩, hS.F ht9⟩) hS.2.2 dJx4a65c_get_915e3_14

set_option maxHeartbeats 4000000 in
set_option maxRecDepth 100000 in
theorem k96_add (l : Launch) (hl9 : l.stackTraces = false) (dC : Nat → ClassId) (dI : Nat → Nat → Nat) (z : XZ) (h0 h1 h2 : Nat) (o0 : Nat) (sz : Nat) (kc0 : ClassId) : Met l yJx4a65c_add_72be8 (.code yJx4a65c_add_72be8 cJx4a65c_add_72be8 4 none :: wsL_law) ({ frames := 0, cells := 0, slots := 0, locals := 0 }) (va_Pc [.ref h0, .ref h1, .ref h2, .int 0] (PC (dC, dI) [(h0, ce74 h2), (h1, ce38 (z.2.1 0) o0 h1), (h2, ce73 kc0)] [(kc0, .object "java/lang/Object")] sz z)) (va_Qv (fun (_ : Unit) => True) (fun (_ : Unit) (t : State) => PG (dC, dI) [(h0, ce76 h2), (h1, ce38 (z.2.1 0) o0 h1), (h2, ce35 kc0 h1)] [(kc0, .object "java/lang/Object")] (va_A [(h0, ce74 h2), (h1, ce38 (z.2.1 0) o0 h1), (h2, ce73 kc0)] sz) sz 0 t) (va_A [(h0, ce74 h2), (h1, ce38 (z.2.1 0) o0 h1), (h2, ce73 kc0)] sz)) 0 0 (va_A [(h0, ce74 h2), (h1, ce38 (z.2.1 0) o0 h1), (h2, ce73 kc0)] sz) := by
  refine Met.ofW (cc := cJx4a65c_add_72be8) (maxL := 4) (ret := none) (by decide) rfl ?_
  intro p e s m args below meth c s₁ B hml hv
  obtain ⟨rfl, hsz, hP, hK, hD0, hX, hT⟩ := hv
  have hx := B.exec
  have hb := B.bytes
  have hr := B.returns
  have hts0 := atoms_spec (ws := .code yJx4a65c_add_72be8 cJx4a65c_add_72be8 4 none :: wsL_law) B.pre
  have hts := xTail hts0
  have hown : s.vm.findClass RJx4a65c = some m.cls := xown B.named rfl
  have hlocks := B.notSynchronized
  subst hsz
  have hD := hD0.self (sz := s.heap.size)
  generalize hAe : va_A [(h0, ce74 h2), (h1, ce38 (z.2.1 0) o0 h1), (h2, ce73 kc0)] s.heap.size = A at hD hX ⊢
  have hA : ∀ q : Nat, s.heap.size ≤ q → A q := fun q h => by rw [← hAe]; exact Or.inr h
  have hS : va_S A s.heap s.heap [] := va_S.rf
  have hG : s.heap.size + 0 ≤ s.heap.size := Nat.le_refl _
  have hl := lv_entry ([.ref h0, .ref h1, .ref h2, .int 0]) (n := 4) (Nat.le_of_ble_eq_true rfl)
  rw [lg_entry_eq]
  generalize (lg_sl ([.ref h0, .ref h1, .ref h2, .int 0]) ++ List.replicate (4 - (lg_sl ([.ref h0, .ref h1, .ref h2, .int 0])).length) Slot.unset).toArray = ls at hl ⊢
  have hl : lv_has ls 4 [(0, .ref h0), (1, .ref h1), (2, .ref h2), (3, .int 0)] := hl
  refine lv_iload_n hx hb dJx4a65c_add_72be8_0 rfl (lv_at hl 3 rfl) ?_
  refine lv_aload_n hx hb dJx4a65c_add_72be8_1 rfl (lv_at hl 2 rfl) ?_
  refine va_alen hx hb hK hP 2 0 rfl rfl (v := 10) rfl dJx4a65c_add_72be8_2 ?_
  refine lv_icmp_ne (tgt := 11) hx hb dJx4a65c_add_72be8_3 (by decide) (fun _ => ?_) (fun cz => absurd cz (by decide))
  refine lv_aload_n hx hb dJx4a65c_add_72be8_11 rfl (lv_at hl 2 rfl) ?_
  refine lv_iload_n hx hb dJx4a65c_add_72be8_12 rfl (lv_at hl 3 rfl) ?_
  refine lv_aload_n hx hb dJx4a65c_add_72be8_13 rfl (lv_at hl 1 rfl) ?_
  refine vb_astq (E := "java/lang/Object") (C := RX2) hx hb hK hP hD (va_Sre hS) 2 0 rfl rfl (va_recv hK hP (ci := 3) (q := (RX2, TX2, 19)) (q0 := 1) rfl rfl) (vb_asgC (hT.2.1.1 (RX2, "java/lang/Object") (by decide))) (i := 0) (by unfold vp_in; decide) dJx4a65c_add_72be8_14 (fun H1 _ hP hD hS' => ?_)
  have hG : s.heap.size + 0 ≤ H1.size := Nat.le_trans hG hS'.1
  have hS := va_Str hS hS'
  have hP : va_P (dC, dI) xCl [(h0, ce74 h2), (h1, ce38 (z.2.1 0) o0 h1), (h2, ce75 kc0 h1)] H1 := hP
  have hD := vd_as hP hD rfl
  refine lv_aload_n hx hb dJx4a65c_add_72be8_15 rfl (lv_at hl 0 rfl) ?_
  refine lv_iload_n hx hb dJx4a65c_add_72be8_16 rfl (lv_at hl 3 rfl) ?_
  refine lv_iconst (v := 1) hx hb dJx4a65c_add_72be8_17 (by decide) ?_
  refine lv_iadd hx hb dJx4a65c_add_72be8_18 ?_
  refine lv_topi (fun y2 ey2 => ?_)
  obtain rfl : y2 = 1 := ey2.trans (by decide)
  refine va_put (D := (dC, dI)) (ci := 0) (v := .int 1) (ty := .int) (C := RJx4a65c) (T := TJx4a65c) (N := 3) hx hb hts in_Jx4a65c tyJx4a65c tyJx4a65c_ok nmJx4a65c hown hK hP hD (va_Sre hS) 0 rfl rfl 2 (by decide) (hts _ q_74) (fun _ h9 => h9) rfl (by decide +kernel) rfl rfl (Nat.le_of_ble_eq_true rfl) dJx4a65c_add_72be8_19 (fun H3 _ hP hD hS' => ?_)
  have hG : s.heap.size + 0 ≤ H3.size := Nat.le_trans hG hS'.1
  have hS := va_Str hS hS'
  have hP : va_P (dC, dI) xCl [(h0, ce76 h2), (h1, ce38 (z.2.1 0) o0 h1), (h2, ce75 kc0 h1)] H3 := hP
  have hD := vd_as hP hD rfl
  have ehu4 : (va_up (va_up (fun _ => none) 0 none) 0 (some h1)) = (va_up (fun _ => none) 0 (some h1)) := by funext j; by_cases g0 : j = 0; (subst g0; rfl); simp only [va_up, g0, if_false]
  have hu4 : (ce75 kc0 h1 : va_E) = ce35 kc0 h1 := (show (.inl (kc0, 10, .inr (.inr (.inr (.inr (va_up (va_up (fun _ => none) 0 none) 0 (some h1)))))) : va_E) = .inl (kc0, 10, .inr (.inr (.inr (.inr (va_up (fun _ => none) 0 (some h1)))))) by rw [ehu4])
  rw [hu4] at hP hD
  have hP : va_P (dC, dI) xCl [(h0, ce76 h2), (h1, ce38 (z.2.1 0) o0 h1), (h2, ce35 kc0 h1)] H3 := hP
  have hD := vd_as hP hD rfl
  exact W.vret hx hb hr (fun t9 ht9 hW9 => ⟨⟨(), rfl, trivial, ⟨pq_mk2 hP hD hK [0, 1, 2] [0] rfl rfl rfl ht9 hW9, by rw [ht9]; exact Nat.le_trans (Nat.add_le_add_left (Nat.le_of_ble_eq_true rfl) _) hG⟩⟩, hS.F ht9⟩) hS.2.2 dJx4a65c_add_72be8_22

set_option maxHeartbeats 4000000 in
set_option maxRecDepth 100000 in
theorem k97_add (l : Launch) (hl9 : l.stackTraces = false) (dC : Nat → ClassId) (dI : Nat → Nat → Nat) (z : XZ) (h0 h1 h2 : Nat) (o0 : Nat) (sz : Nat) (kc0 : ClassId) : Met l yJx4a65c_add_9ea2d (.code yJx4a65c_add_9ea2d cJx4a65c_add_9ea2d 2 (some .boolean) :: wsL_law) ({ frames := 1, cells := 0, slots := 0, locals := 23 }) (va_Pc [.ref h0, .ref h1] (PC (dC, dI) [(h0, ce71 h2), (h1, ce38 (z.2.1 0) o0 h1), (h2, ce73 kc0)] [(kc0, .object "java/lang/Object")] sz z)) (va_Qi (fun (r : Int32) (_ : Unit) => r = 1) (fun (_ : Unit) (t : State) => PG (dC, dI) [(h0, ce76 h2), (h1, ce38 (z.2.1 0) o0 h1), (h2, ce35 kc0 h1)] [(kc0, .object "java/lang/Object")] (va_A [(h0, ce71 h2), (h1, ce38 (z.2.1 0) o0 h1), (h2, ce73 kc0)] sz) sz 0 t) (va_A [(h0, ce71 h2), (h1, ce38 (z.2.1 0) o0 h1), (h2, ce73 kc0)] sz)) 0 0 (va_A [(h0, ce71 h2), (h1, ce38 (z.2.1 0) o0 h1), (h2, ce73 kc0)] sz) := by
  refine Met.ofW (cc := cJx4a65c_add_9ea2d) (maxL := 2) (ret := (some .boolean)) (by decide) rfl ?_
  intro p e s m args below meth c s₁ B hml hv
  obtain ⟨rfl, hsz, hP, hK, hD0, hX, hT⟩ := hv
  have hx := B.exec
  have hb := B.bytes
  have hr := B.returns
  have hts0 := atoms_spec (ws := .code yJx4a65c_add_9ea2d cJx4a65c_add_9ea2d 2 (some .boolean) :: wsL_law) B.pre
  have hts := xTail hts0
  have hown : s.vm.findClass RJx4a65c = some m.cls := xown B.named rfl
  have hlocks := B.notSynchronized
  subst hsz
  have hD := hD0.self (sz := s.heap.size)
  generalize hAe : va_A [(h0, ce71 h2), (h1, ce38 (z.2.1 0) o0 h1), (h2, ce73 kc0)] s.heap.size = A at hD hX ⊢
  have hA : ∀ q : Nat, s.heap.size ≤ q → A q := fun q h => by rw [← hAe]; exact Or.inr h
  have hS : va_S A s.heap s.heap [] := va_S.rf
  have hG : s.heap.size + 0 ≤ s.heap.size := Nat.le_refl _
  have hl := lv_entry ([.ref h0, .ref h1]) (n := 2) (Nat.le_of_ble_eq_true rfl)
  rw [lg_entry_eq]
  generalize (lg_sl ([.ref h0, .ref h1]) ++ List.replicate (2 - (lg_sl ([.ref h0, .ref h1])).length) Slot.unset).toArray = ls at hl ⊢
  have hl : lv_has ls 2 [(0, .ref h0), (1, .ref h1)] := hl
  refine lv_aload_n hx hb dJx4a65c_add_9ea2d_0 rfl (lv_at hl 0 rfl) ?_
  refine lv_dup hx hb dJx4a65c_add_9ea2d_1 rfl ?_
  refine va_get (D := (dC, dI)) (ci := 0) (v := .int 3) (C := RJx4a65c) (T := TJx4a65c) (N := 3) hx hb hts in_Jx4a65c hown hK hP 0 rfl rfl 0 (by decide) (hts _ q_108) (u_same (hts _ q_107)) rfl dJx4a65c_add_9ea2d_2 ?_
  refine lv_iconst (v := 1) hx hb dJx4a65c_add_9ea2d_5 (by decide) ?_
  refine lv_iadd hx hb dJx4a65c_add_9ea2d_6 ?_
  refine lv_topi (fun y1 ey1 => ?_)
  obtain rfl : y1 = 4 := ey1.trans (by decide)
  refine va_put (D := (dC, dI)) (ci := 0) (v := .int 4) (ty := .int) (C := RJx4a65c) (T := TJx4a65c) (N := 3) hx hb hts in_Jx4a65c tyJx4a65c tyJx4a65c_ok nmJx4a65c hown hK hP hD (va_Sre hS) 0 rfl rfl 0 (by decide) (hts _ q_108) (u_same (hts _ q_107)) rfl (by decide +kernel) rfl rfl (Nat.le_of_ble_eq_true rfl) dJx4a65c_add_9ea2d_7 (fun H2 _ hP hD hS' => ?_)
  have hG : s.heap.size + 0 ≤ H2.size := Nat.le_trans hG hS'.1
  have hS := va_Str hS hS'
  have hP : va_P (dC, dI) xCl [(h0, ce74 h2), (h1, ce38 (z.2.1 0) o0 h1), (h2, ce73 kc0)] H2 := hP
  have hD := vd_as hP hD rfl
  refine lv_aload_n hx hb dJx4a65c_add_9ea2d_10 rfl (lv_at hl 0 rfl) ?_
  refine lv_aload_n hx hb dJx4a65c_add_9ea2d_11 rfl (lv_at hl 1 rfl) ?_
  refine lv_aload_n hx hb dJx4a65c_add_9ea2d_12 rfl (lv_at hl 0 rfl) ?_
  refine va_get (D := (dC, dI)) (ci := 0) (v := .ref h2) (C := RJx4a65c) (T := TJx4a65c) (N := 3) hx hb hts in_Jx4a65c hown hK hP 0 rfl rfl 1 (by decide) (hts _ q_24) (fun _ h9 => h9) rfl dJx4a65c_add_9ea2d_13 ?_
  refine lv_aload_n hx hb dJx4a65c_add_9ea2d_16 rfl (lv_at hl 0 rfl) ?_
  refine va_get (D := (dC, dI)) (ci := 0) (v := .int 0) (C := RJx4a65c) (T := TJx4a65c) (N := 3) hx hb hts in_Jx4a65c hown hK hP 0 rfl rfl 2 (by decide) (hts _ q_74) (fun _ h9 => h9) rfl dJx4a65c_add_9ea2d_17 ?_
  have hM5 := k96_add l hl9 dC dI z h0 h1 h2 o0 H2.size kc0
  obtain ⟨hF3, hC6⟩ := pc_M hM5 hP hD hK hS hX hT hA [0, 1, 2] [0] rfl rfl rfl
  refine va_callv (va_runV (As := [.ref h1, .ref h2, .int 0]) (rest := []) ⟨hx, hb, hml, hown, hts⟩ hM5 (cwV 3 hts (gV q_123 q_124 q_125 q_12 q_122) rfl rfl rfl hV_Jx4a65c_add_72be8 ⟨Nat.le_of_ble_eq_true rfl, Nat.le_of_ble_eq_true rfl⟩) ⟨pc_blind, va_recv hK hP (ci := 0) (q := (RJx4a65c, TJx4a65c, 3)) (q0 := 0) rfl rfl, fun U hU hW => ⟨rfl, hC6 U hU hW⟩⟩ rfl rfl hl.1 rfl (lv_room (Nat.le_of_ble_eq_true rfl)) dJx4a65c_add_9ea2d_20 ⟨(Nat.le_of_ble_eq_true rfl), (Nat.le_of_ble_eq_true rfl)⟩) hS (fun q9 _ h9 => hF3 q9 h9) hF3 (fun u7 t7 H7 L7 ht7 hvm7 hw7 hB7 hz7 hk7 hS => ?_)
  obtain ⟨hP, hD, hK⟩ := pq_jn (wz := [(h0, ce76 h2), (h1, ce38 (z.2.1 0) o0 h1), (h2, ce35 kc0 h1)]) (tz := [(kc0, .object "java/lang/Object")]) hP hD hK [0, 1, 2] [] rfl hk7 hF3 hB7.1 ht7 hvm7 rfl rfl
  have hG : s.heap.size + 0 ≤ H7.size := Nat.le_trans hG hz7
  refine lv_iconst (v := 1) hx hb dJx4a65c_add_9ea2d_23 (by decide) ?_
  exact W.zret (v := 1) (ty := .boolean) hx hb hr rfl (fun t9 ht9 hW9 => ⟨⟨1, (), rfl, rfl, ⟨pq_mk2 hP hD hK [0, 1, 2] [0] rfl rfl rfl ht9 hW9, by rw [ht9]; exact Nat.le_trans (Nat.add_le_add_left (Nat.le_of_ble_eq_true rfl) _) hG⟩⟩, hS.F ht9⟩) hS.2.2 dJx4a65c_add_9ea2d_24

set_option maxHeartbeats 4000000 in
set_option maxRecDepth 100000 in
theorem k98_readsOnlyPlaced (l : Launch) (hl9 : l.stackTraces = false) (dC : Nat → ClassId) (dI : Nat → Nat → Nat) (z : XZ) (h0 h1 : Nat) (sz : Nat) : Met l yX2_readsOnlyPlaced (.code yX2_readsOnlyPlaced cX2_readsOnlyPlaced 3 (some .boolean) :: wsL_law) ({ frames := 1, cells := 0, slots := 0, locals := 20 }) (va_Pc [.ref h0] (PC (dC, dI) [(h0, ce67 (z.2.1 0) h1 h0), (h1, ce3 z.1)] [] sz z)) (va_Qi (fun (r : Int32) (_ : Unit) => r = 1) (fun (_ : Unit) (t : State) => PG (dC, dI) [(h0, ce67 (z.2.1 0) h1 h0), (h1, ce3 z.1)] [] (va_A [(h0, ce67 (z.2.1 0) h1 h0), (h1, ce3 z.1)] sz) sz 0 t) (va_A [(h0, ce67 (z.2.1 0) h1 h0), (h1, ce3 z.1)] sz)) 0 0 (va_A [(h0, ce67 (z.2.1 0) h1 h0), (h1, ce3 z.1)] sz) := by
  refine Met.ofW (cc := cX2_readsOnlyPlaced) (maxL := 3) (ret := (some .boolean)) (by decide) rfl ?_
  intro p e s m args below meth c s₁ B hml hv
  obtain ⟨rfl, hsz, hP, hK, hD0, hX, hT⟩ := hv
  have hx := B.exec
  have hb := B.bytes
  have hr := B.returns
  have hts0 := atoms_spec (ws := .code yX2_readsOnlyPlaced cX2_readsOnlyPlaced 3 (some .boolean) :: wsL_law) B.pre
  have hts := xTail hts0
  have hown : s.vm.findClass RX2 = some m.cls := xown B.named rfl
  have hlocks := B.notSynchronized
  subst hsz
  have hD := hD0.self (sz := s.heap.size)
  generalize hAe : va_A [(h0, ce67 (z.2.1 0) h1 h0), (h1, ce3 z.1)] s.heap.size = A at hD hX ⊢
  have hA : ∀ q : Nat, s.heap.size ≤ q → A q := fun q h => by rw [← hAe]; exact Or.inr h
  have hS : va_S A s.heap s.heap [] := va_S.rf
  have hG : s.heap.size + 0 ≤ s.heap.size := Nat.le_refl _
  have hl := lv_entry ([.ref h0]) (n := 3) (Nat.le_of_ble_eq_true rfl)
  rw [lg_entry_eq]
  generalize (lg_sl ([.ref h0]) ++ List.replicate (3 - (lg_sl ([.ref h0])).length) Slot.unset).toArray = ls at hl ⊢
  have hl : lv_has ls 3 [(0, .ref h0)] := hl
  refine lv_iconst (v := 0) hx hb dX2_readsOnlyPlaced_0 (by decide) ?_
  refine lv_istore_n (lv' := [(1, .int 0), (0, .ref h0)]) hx hb dX2_readsOnlyPlaced_1 rfl hl (by decide) rfl (fun ls hl => ?_)
  refine lv_iload_n hx hb dX2_readsOnlyPlaced_2 rfl (lv_at hl 0 rfl) ?_
  refine lv_aload_n hx hb dX2_readsOnlyPlaced_3 rfl (lv_at hl 1 rfl) ?_
  refine va_get (D := (dC, dI)) (ci := 3) (v := .ref h1) (C := RX2) (T := TX2) (N := 19) hx hb hts in_X2 hown hK hP 0 rfl rfl 2 (by decide) (hts _ q_96) (fun _ h9 => h9) rfl dX2_readsOnlyPlaced_4 ?_
  have hM3 := k9_size l hl9 dC dI z h1 s.heap.size 0 0
  obtain ⟨hF1, hC4⟩ := pc_M hM3 hP hD hK hS hX hT hA [1] [] rfl rfl rfl
  refine va_calli (va_runV (As := []) (rest := [.int 0]) ⟨hx, hb, hml, hown, hts⟩ hM3 (cwV 0 hts (gV q_160 q_77 q_78 q_12 q_75) rfl rfl rfl hV_Jx4a65c_size_8abf5 ⟨Nat.le_of_ble_eq_true rfl, Nat.le_of_ble_eq_true rfl⟩) ⟨pc_blind, va_recv hK hP (ci := 0) (q := (RJx4a65c, TJx4a65c, 3)) (q0 := 1) rfl rfl, fun U hU hW => ⟨rfl, hC4 U hU hW⟩⟩ rfl rfl hl.1 rfl (lv_room (Nat.le_of_ble_eq_true rfl)) dX2_readsOnlyPlaced_7 ⟨(Nat.le_of_ble_eq_true rfl), (Nat.le_of_ble_eq_true rfl)⟩) hS (fun q9 _ h9 => hF1 q9 h9) hF1 (fun r6 u5 t5 H5 L5 ht5 hvm5 hw5 hB5 hz5 hk5 hS => ?_)
  have hP := pq_keep hP hD [1] rfl hk5 hB5.1 ht5
  have hG : s.heap.size + 0 ≤ H5.size := Nat.le_trans hG hz5
  refine W.eq (g2 := F0 m 10 ls [.int 0, .int 0]) (by rw [hw5]) ?_
  refine lv_icmp_ge (tgt := 53) hx hb dX2_readsOnlyPlaced_10 (by decide) (fun _ => ?_) (fun cz => absurd (by decide) cz)
  refine lv_iconst (v := 1) hx hb dX2_readsOnlyPlaced_53 (by decide) ?_
  exact W.zret (v := 1) (ty := .boolean) hx hb hr rfl (fun t9 ht9 hW9 => ⟨⟨1, (), rfl, rfl, ⟨pq_mk2 hP hD hK [0, 1] [] rfl rfl rfl ht9 hW9, by rw [ht9]; exact Nat.le_trans (Nat.add_le_add_left (Nat.le_of_ble_eq_true rfl) _) hG⟩⟩, hS.F ht9⟩) hS.2.2 dX2_readsOnlyPlaced_54

set_option maxHeartbeats 4000000 in
set_option maxRecDepth 100000 in
theorem k99_add (l : Launch) (hl9 : l.stackTraces = false) (dC : Nat → ClassId) (dI : Nat → Nat → Nat) (z : XZ) (h0 h1 h2 : Nat) (o0 o1 : Nat) (sz : Nat) (kc0 : ClassId) : Met l yJx4a65c_add_72be8 (.code yJx4a65c_add_72be8 cJx4a65c_add_72be8 4 none :: wsL_law) ({ frames := 0, cells := 0, slots := 0, locals := 0 }) (va_Pc [.ref h0, .ref h1, .ref h2, .int 1] (PC (dC, dI) [(h0, ce78 h2), (h1, ce77 (z.2.1 0) o0 h1), (h2, ce35 kc0 o1)] [(kc0, .object "java/lang/Object")] sz z)) (va_Qv (fun (_ : Unit) => True) (fun (_ : Unit) (t : State) => PG (dC, dI) [(h0, ce79 h2), (h1, ce77 (z.2.1 0) o0 h1), (h2, ce68 kc0 o1 h1)] [(kc0, .object "java/lang/Object")] (va_A [(h0, ce78 h2), (h1, ce77 (z.2.1 0) o0 h1), (h2, ce35 kc0 o1)] sz) sz 0 t) (va_A [(h0, ce78 h2), (h1, ce77 (z.2.1 0) o0 h1), (h2, ce35 kc0 o1)] sz)) 0 0 (va_A [(h0, ce78 h2), (h1, ce77 (z.2.1 0) o0 h1), (h2, ce35 kc0 o1)] sz) := by
  refine Met.ofW (cc := cJx4a65c_add_72be8) (maxL := 4) (ret := none) (by decide) rfl ?_
  intro p e s m args below meth c s₁ B hml hv
  obtain ⟨rfl, hsz, hP, hK, hD0, hX, hT⟩ := hv
  have hx := B.exec
  have hb := B.bytes
  have hr := B.returns
  have hts0 := atoms_spec (ws := .code yJx4a65c_add_72be8 cJx4a65c_add_72be8 4 none :: wsL_law) B.pre
  have hts := xTail hts0
  have hown : s.vm.findClass RJx4a65c = some m.cls := xown B.named rfl
  have hlocks := B.notSynchronized
  subst hsz
  have hD := hD0.self (sz := s.heap.size)
  generalize hAe : va_A [(h0, ce78 h2), (h1, ce77 (z.2.1 0) o0 h1), (h2, ce35 kc0 o1)] s.heap.size = A at hD hX ⊢
  have hA : ∀ q : Nat, s.heap.size ≤ q → A q := fun q h => by rw [← hAe]; exact Or.inr h
  have hS : va_S A s.heap s.heap [] := va_S.rf
  have hG : s.heap.size + 0 ≤ s.heap.size := Nat.le_refl _
  have hl := lv_entry ([.ref h0, .ref h1, .ref h2, .int 1]) (n := 4) (Nat.le_of_ble_eq_true rfl)
  rw [lg_entry_eq]
  generalize (lg_sl ([.ref h0, .ref h1, .ref h2, .int 1]) ++ List.replicate (4 - (lg_sl ([.ref h0, .ref h1, .ref h2, .int 1])).length) Slot.unset).toArray = ls at hl ⊢
  have hl : lv_has ls 4 [(0, .ref h0), (1, .ref h1), (2, .ref h2), (3, .int 1)] := hl
  refine lv_iload_n hx hb dJx4a65c_add_72be8_0 rfl (lv_at hl 3 rfl) ?_
  refine lv_aload_n hx hb dJx4a65c_add_72be8_1 rfl (lv_at hl 2 rfl) ?_
  refine va_alen hx hb hK hP 2 0 rfl rfl (v := 10) rfl dJx4a65c_add_72be8_2 ?_
  refine lv_icmp_ne (tgt := 11) hx hb dJx4a65c_add_72be8_3 (by decide) (fun _ => ?_) (fun cz => absurd cz (by decide))
  refine lv_aload_n hx hb dJx4a65c_add_72be8_11 rfl (lv_at hl 2 rfl) ?_
  refine lv_iload_n hx hb dJx4a65c_add_72be8_12 rfl (lv_at hl 3 rfl) ?_
  refine lv_aload_n hx hb dJx4a65c_add_72be8_13 rfl (lv_at hl 1 rfl) ?_
  refine vb_astq (E := "java/lang/Object") (C := RX2) hx hb hK hP hD (va_Sre hS) 2 0 rfl rfl (va_recv hK hP (ci := 3) (q := (RX2, TX2, 19)) (q0 := 1) rfl rfl) (vb_asgC (hT.2.1.1 (RX2, "java/lang/Object") (by decide))) (i := 1) (by unfold vp_in; decide) dJx4a65c_add_72be8_14 (fun H1 _ hP hD hS' => ?_)
  have hG : s.heap.size + 0 ≤ H1.size := Nat.le_trans hG hS'.1
  have hS := va_Str hS hS'
  have hP : va_P (dC, dI) xCl [(h0, ce78 h2), (h1, ce77 (z.2.1 0) o0 h1), (h2, ce68 kc0 o1 h1)] H1 := hP
  have hD := vd_as hP hD rfl
  refine lv_aload_n hx hb dJx4a65c_add_72be8_15 rfl (lv_at hl 0 rfl) ?_
  refine lv_iload_n hx hb dJx4a65c_add_72be8_16 rfl (lv_at hl 3 rfl) ?_
  refine lv_iconst (v := 1) hx hb dJx4a65c_add_72be8_17 (by decide) ?_
  refine lv_iadd hx hb dJx4a65c_add_72be8_18 ?_
  refine lv_topi (fun y2 ey2 => ?_)
  obtain rfl : y2 = 2 := ey2.trans (by decide)
  refine va_put (D := (dC, dI)) (ci := 0) (v := .int 2) (ty := .int) (C := RJx4a65c) (T := TJx4a65c) (N := 3) hx hb hts in_Jx4a65c tyJx4a65c tyJx4a65c_ok nmJx4a65c hown hK hP hD (va_Sre hS) 0 rfl rfl 2 (by decide) (hts _ q_74) (fun _ h9 => h9) rfl (by decide +kernel) rfl rfl (Nat.le_of_ble_eq_true rfl) dJx4a65c_add_72be8_19 (fun H3 _ hP hD hS' => ?_)
  have hG : s.heap.size + 0 ≤ H3.size := Nat.le_trans hG hS'.1
  have hS := va_Str hS hS'
  have hP : va_P (dC, dI) xCl [(h0, ce79 h2), (h1, ce77 (z.2.1 0) o0 h1), (h2, ce68 kc0 o1 h1)] H3 := hP
  have hD := vd_as hP hD rfl
  exact W.vret hx hb hr (fun t9 ht9 hW9 => ⟨⟨(), rfl, trivial, ⟨pq_mk2 hP hD hK [0, 1, 2] [0] rfl rfl rfl ht9 hW9, by rw [ht9]; exact Nat.le_trans (Nat.add_le_add_left (Nat.le_of_ble_eq_true rfl) _) hG⟩⟩, hS.F ht9⟩) hS.2.2 dJx4a65c_add_72be8_22

set_option maxHeartbeats 4000000 in
set_option maxRecDepth 100000 in
theorem k100_add (l : Launch) (hl9 : l.stackTraces = false) (dC : Nat → ClassId) (dI : Nat → Nat → Nat) (z : XZ) (h0 h1 h2 : Nat) (o0 o1 : Nat) (sz : Nat) (kc0 : ClassId) : Met l yJx4a65c_add_9ea2d (.code yJx4a65c_add_9ea2d cJx4a65c_add_9ea2d 2 (some .boolean) :: wsL_law) ({ frames := 1, cells := 0, slots := 0, locals := 23 }) (va_Pc [.ref h0, .ref h1] (PC (dC, dI) [(h0, ce76 h2), (h1, ce77 (z.2.1 0) o0 h1), (h2, ce35 kc0 o1)] [(kc0, .object "java/lang/Object")] sz z)) (va_Qi (fun (r : Int32) (_ : Unit) => r = 1) (fun (_ : Unit) (t : State) => PG (dC, dI) [(h0, ce79 h2), (h1, ce77 (z.2.1 0) o0 h1), (h2, ce68 kc0 o1 h1)] [(kc0, .object "java/lang/Object")] (va_A [(h0, ce76 h2), (h1, ce77 (z.2.1 0) o0 h1), (h2, ce35 kc0 o1)] sz) sz 0 t) (va_A [(h0, ce76 h2), (h1, ce77 (z.2.1 0) o0 h1), (h2, ce35 kc0 o1)] sz)) 0 0 (va_A [(h0, ce76 h2), (h1, ce77 (z.2.1 0) o0 h1), (h2, ce35 kc0 o1)] sz) := by
  refine Met.ofW (cc := cJx4a65c_add_9ea2d) (maxL := 2) (ret := (some .boolean)) (by decide) rfl ?_
  intro p e s m args below meth c s₁ B hml hv
  obtain ⟨rfl, hsz, hP, hK, hD0, hX, hT⟩ := hv
  have hx := B.exec
  have hb := B.bytes
  have hr := B.returns
  have hts0 := atoms_spec (ws := .code yJx4a65c_add_9ea2d cJx4a65c_add_9ea2d 2 (some .boolean) :: wsL_law) B.pre
  have hts := xTail hts0
  have hown : s.vm.findClass RJx4a65c = some m.cls := xown B.named rfl
  have hlocks := B.notSynchronized
  subst hsz
  have hD := hD0.self (sz := s.heap.size)
  generalize hAe : va_A [(h0, ce76 h2), (h1, ce77 (z.2.1 0) o0 h1), (h2, ce35 kc0 o1)] s.heap.size = A at hD hX ⊢
  have hA : ∀ q : Nat, s.heap.size ≤ q → A q := fun q h => by rw [← hAe]; exact Or.inr h
  have hS : va_S A s.heap s.heap [] := va_S.rf
  have hG : s.heap.size + 0 ≤ s.heap.size := Nat.le_refl _
  have hl := lv_entry ([.ref h0, .ref h1]) (n := 2) (Nat.le_of_ble_eq_true rfl)
  rw [lg_entry_eq]
  generalize (lg_sl ([.ref h0, .ref h1]) ++ List.replicate (2 - (lg_sl ([.ref h0, .ref h1])).length) Slot.unset).toArray = ls at hl ⊢
  have hl : lv_has ls 2 [(0, .ref h0), (1, .ref h1)] := hl
  refine lv_aload_n hx hb dJx4a65c_add_9ea2d_0 rfl (lv_at hl 0 rfl) ?_
  refine lv_dup hx hb dJx4a65c_add_9ea2d_1 rfl ?_
  refine va_get (D := (dC, dI)) (ci := 0) (v := .int 4) (C := RJx4a65c) (T := TJx4a65c) (N := 3) hx hb hts in_Jx4a65c hown hK hP 0 rfl rfl 0 (by decide) (hts _ q_108) (u_same (hts _ q_107)) rfl dJx4a65c_add_9ea2d_2 ?_
  refine lv_iconst (v := 1) hx hb dJx4a65c_add_9ea2d_5 (by decide) ?_
  refine lv_iadd hx hb dJx4a65c_add_9ea2d_6 ?_
  refine lv_topi (fun y1 ey1 => ?_)
  obtain rfl : y1 = 5 := ey1.trans (by decide)
  refine va_put (D := (dC, dI)) (ci := 0) (v := .int 5) (ty := .int) (C := RJx4a65c) (T := TJx4a65c) (N := 3) hx hb hts in_Jx4a65c tyJx4a65c tyJx4a65c_ok nmJx4a65c hown hK hP hD (va_Sre hS) 0 rfl rfl 0 (by decide) (hts _ q_108) (u_same (hts _ q_107)) rfl (by decide +kernel) rfl rfl (Nat.le_of_ble_eq_true rfl) dJx4a65c_add_9ea2d_7 (fun H2 _ hP hD hS' => ?_)
  have hG : s.heap.size + 0 ≤ H2.size := Nat.le_trans hG hS'.1
  have hS := va_Str hS hS'
  have hP : va_P (dC, dI) xCl [(h0, ce78 h2), (h1, ce77 (z.2.1 0) o0 h1), (h2, ce35 kc0 o1)] H2 := hP
  have hD := vd_as hP hD rfl
  refine lv_aload_n hx hb dJx4a65c_add_9ea2d_10 rfl (lv_at hl 0 rfl) ?_
  refine lv_aload_n hx hb dJx4a65c_add_9ea2d_11 rfl (lv_at hl 1 rfl) ?_
  refine lv_aload_n hx hb dJx4a65c_add_9ea2d_12 rfl (lv_at hl 0 rfl) ?_
  refine va_get (D := (dC, dI)) (ci := 0) (v := .ref h2) (C := RJx4a65c) (T := TJx4a65c) (N := 3) hx hb hts in_Jx4a65c hown hK hP 0 rfl rfl 1 (by decide) (hts _ q_24) (fun _ h9 => h9) rfl dJx4a65c_add_9ea2d_13 ?_
  refine lv_aload_n hx hb dJx4a65c_add_9ea2d_16 rfl (lv_at hl 0 rfl) ?_
  refine va_get (D := (dC, dI)) (ci := 0) (v := .int 1) (C := RJx4a65c) (T := TJx4a65c) (N := 3) hx hb hts in_Jx4a65c hown hK hP 0 rfl rfl 2 (by decide) (hts _ q_74) (fun _ h9 => h9) rfl dJx4a65c_add_9ea2d_17 ?_
  have hM5 := k99_add l hl9 dC dI z h0 h1 h2 o0 o1 H2.size kc0
  obtain ⟨hF3, hC6⟩ := pc_M hM5 hP hD hK hS hX hT hA [0, 1, 2] [0] rfl rfl rfl
  refine va_callv (va_runV (As := [.ref h1, .ref h2, .int 1]) (rest := []) ⟨hx, hb, hml, hown, hts⟩ hM5 (cwV 3 hts (gV q_123 q_124 q_125 q_12 q_122) rfl rfl rfl hV_Jx4a65c_add_72be8 ⟨Nat.le_of_ble_eq_true rfl, Nat.le_of_ble_eq_true rfl⟩) ⟨pc_blind, va_recv hK hP (ci := 0) (q := (RJx4a65c, TJx4a65c, 3)) (q0 := 0) rfl rfl, fun U hU hW => ⟨rfl, hC6 U hU hW⟩⟩ rfl rfl hl.1 rfl (lv_room (Nat.le_of_ble_eq_true rfl)) dJx4a65c_add_9ea2d_20 ⟨(Nat.le_of_ble_eq_true rfl), (Nat.le_of_ble_eq_true rfl)⟩) hS (fun q9 _ h9 => hF3 q9 h9) hF3 (fun u7 t7 H7 L7 ht7 hvm7 hw7 hB7 hz7 hk7 hS => ?_)
  obtain ⟨hP, hD, hK⟩ := pq_jn (wz := [(h0, ce79 h2), (h1, ce77 (z.2.1 0) o0 h1), (h2, ce68 kc0 o1 h1)]) (tz := [(kc0, .object "java/lang/Object")]) hP hD hK [0, 1, 2] [] rfl hk7 hF3 hB7.1 ht7 hvm7 rfl rfl
  have hG : s.heap.size + 0 ≤ H7.size := Nat.le_trans hG hz7
  refine lv_iconst (v := 1) hx hb dJx4a65c_add_9ea2d_23 (by decide) ?_
  exact W.zret (v := 1) (ty := .boolean) hx hb hr rfl (fun t9 ht9 hW9 => ⟨⟨1, (), rfl, rfl, ⟨pq_mk2 hP hD hK [0, 1, 2] [0] rfl rfl rfl ht9 hW9, by rw [ht9]; exact Nat.le_trans (Nat.add_le_add_left (Nat.le_of_ble_eq_true rfl) _) hG⟩⟩, hS.F ht9⟩) hS.2.2 dJx4a65c_add_9ea2d_24

set_option maxHeartbeats 4000000 in
set_option maxRecDepth 100000 in
theorem k101_placeThoseReady (l : Launch) (hl9 : l.stackTraces = false) (dC : Nat → ClassId) (dI : Nat → Nat → Nat) (z : XZ) (h0 h1 h2 h3 h4 h5 h6 h7 h8 : Nat) (o0 o1 : Nat) (sz : Nat) (kc0 kc1 : ClassId) : Met l yX0_placeThoseReady (.code yX0_placeThoseReady cX0_placeThoseReady 3 none :: wsL_law) ({ frames := 3, cells := 0, slots := 0, locals := 64 }) (va_Pc [.ref h0] (PC (dC, dI) [(h0, ce7 h1 o0 o1 h2), (h1, ce69 h3), (h2, ce71 h4), (h3, ce68 kc0 h5 h6), (h4, ce73 kc1), (h5, ce32 (z.2.1 0) h7 h5), (h6, ce67 (z.2.1 0) h8 h6), (h7, ce3 z.1), (h8, ce3 z.1)] [(kc0, .object "java/lang/Object"), (kc1, .object "java/lang/Object")] sz z)) (va_Qv (fun (_ : Unit) => True) (fun (_ : Unit) (t : State) => PG (dC, dI) [(h0, ce7 h1 o0 o1 h2), (h1, ce69 h3), (h2, ce79 h4), (h3, ce68 kc0 h5 h6), (h4, ce68 kc1 h5 h6), (h5, ce38 (z.2.1 0) h7 h5), (h6, ce77 (z.2.1 0) h8 h6), (h7, ce3 z.1), (h8, ce3 z.1)] [(kc0, .object "java/lang/Object"), (kc1, .object "java/lang/Object")] (va_A [(h0, ce7 h1 o0 o1 h2), (h1, ce69 h3), (h2, ce71 h4), (h3, ce68 kc0 h5 h6), (h4, ce73 kc1), (h5, ce32 (z.2.1 0) h7 h5), (h6, ce67 (z.2.1 0) h8 h6), (h7, ce3 z.1), (h8, ce3 z.1)] sz) sz 0 t) (va_A [(h0, ce7 h1 o0 o1 h2), (h1, ce69 h3), (h2, ce71 h4), (h3, ce68 kc0 h5 h6), (h4, ce73 kc1), (h5, ce32 (z.2.1 0) h7 h5), (h6, ce67 (z.2.1 0) h8 h6), (h7, ce3 z.1), (h8, ce3 z.1)] sz)) 0 0 (va_A [(h0, ce7 h1 o0 o1 h2), (h1, ce69 h3), (h2, ce71 h4), (h3, ce68 kc0 h5 h6), (h4, ce73 kc1), (h5, ce32 (z.2.1 0) h7 h5), (h6, ce67 (z.2.1 0) h8 h6), (h7, ce3 z.1), (h8, ce3 z.1)] sz) := by
  refine Met.ofW (cc := cX0_placeThoseReady) (maxL := 3) (ret := none) (by decide) rfl ?_
  intro p e s m args below meth c s₁ B hml hv
  obtain ⟨rfl, hsz, hP, hK, hD0, hX, hT⟩ := hv
  have hx := B.exec
  have hb := B.bytes
  have hr := B.returns
  have hts0 := atoms_spec (ws := .code yX0_placeThoseReady cX0_placeThoseReady 3 none :: wsL_law) B.pre
  have hts := xTail hts0
  have hown : s.vm.findClass RX0 = some m.cls := xown B.named rfl
  have hlocks := B.notSynchronized
  subst hsz
  have hD := hD0.self (sz := s.heap.size)
  generalize hAe : va_A [(h0, ce7 h1 o0 o1 h2), (h1, ce69 h3), (h2, ce71 h4), (h3, ce68 kc0 h5 h6), (h4, ce73 kc1), (h5, ce32 (z.2.1 0) h7 h5), (h6, ce67 (z.2.1 0) h8 h6), (h7, ce3 z.1), (h8, ce3 z.1)] s.heap.size = A at hD hX ⊢
  have hA : ∀ q : Nat, s.heap.size ≤ q → A q := fun q h => by rw [← hAe]; exact Or.inr h
  have hS : va_S A s.heap s.heap [] := va_S.rf
  have hG : s.heap.size + 0 ≤ s.heap.size := Nat.le_refl _
  have hl := lv_entry ([.ref h0]) (n := 3) (Nat.le_of_ble_eq_true rfl)
  rw [lg_entry_eq]
  generalize (lg_sl ([.ref h0]) ++ List.replicate (3 - (lg_sl ([.ref h0])).length) Slot.unset).toArray = ls at hl ⊢
  have hl : lv_has ls 3 [(0, .ref h0)] := hl
  refine lv_iconst (v := 0) hx hb dX0_placeThoseReady_0 (by decide) ?_
  refine lv_istore_n (lv' := [(1, .int 0), (0, .ref h0)]) hx hb dX0_placeThoseReady_1 rfl hl (by decide) rfl (fun ls hl => ?_)
  refine lv_iload_n hx hb dX0_placeThoseReady_2 rfl (lv_at hl 0 rfl) ?_
  refine lv_aload_n hx hb dX0_placeThoseReady_3 rfl (lv_at hl 1 rfl) ?_
  refine va_get (D := (dC, dI)) (ci := 2) (v := .ref h1) (C := RX0) (T := TX0) (N := 4) hx hb hts in_X0 hown hK hP 0 rfl rfl 0 (by decide) (hts _ q_28) (fun _ h9 => h9) rfl dX0_placeThoseReady_4 ?_
  have hM3 := k20_size l hl9 dC dI z h1 h3 s.heap.size 2 2
  obtain ⟨hF1, hC4⟩ := pc_M hM3 hP hD hK hS hX hT hA [1] [] rfl rfl rfl
  refine va_calli (va_runV (As := []) (rest := [.int 0]) ⟨hx, hb, hml, hown, hts⟩ hM3 (cwV 0 hts (gV q_92 q_77 q_78 q_12 q_75) rfl rfl rfl hV_Jx4a65c_size_8abf5 ⟨Nat.le_of_ble_eq_true rfl, Nat.le_of_ble_eq_true rfl⟩) ⟨pc_blind, va_recv hK hP (ci := 0) (q := (RJx4a65c, TJx4a65c, 3)) (q0 := 1) rfl rfl, fun U hU hW => ⟨rfl, hC4 U hU hW⟩⟩ rfl rfl hl.1 rfl (lv_room (Nat.le_of_ble_eq_true rfl)) dX0_placeThoseReady_7 ⟨(Nat.le_of_ble_eq_true rfl), (Nat.le_of_ble_eq_true rfl)⟩) hS (fun q9 _ h9 => hF1 q9 h9) hF1 (fun r6 u5 t5 H5 L5 ht5 hvm5 hw5 hB5 hz5 hk5 hS => ?_)
  have hP := pq_keep hP hD [1] rfl hk5 hB5.1 ht5
  have hG : s.heap.size + 0 ≤ H5.size := Nat.le_trans hG hz5
  refine W.eq (g2 := F0 m 10 ls [.int 2, .int 0]) (by rw [hw5]) ?_
  refine lv_icmp_ge (tgt := 59) hx hb dX0_placeThoseReady_10 (by decide) (fun cz => absurd cz (by decide)) (fun _ => ?_)
  refine lv_aload_n hx hb dX0_placeThoseReady_13 rfl (lv_at hl 1 rfl) ?_
  refine va_get (D := (dC, dI)) (ci := 2) (v := .ref h1) (C := RX0) (T := TX0) (N := 4) hx hb hts in_X0 hown hK hP 0 rfl rfl 0 (by decide) (hts _ q_28) (fun _ h9 => h9) rfl dX0_placeThoseReady_14 ?_
  refine lv_iload_n hx hb dX0_placeThoseReady_17 rfl (lv_at hl 0 rfl) ?_
  have hM9 := k91_get l hl9 dC dI z h1 h3 h5 h6 H5.size kc0
  obtain ⟨hF7, hC10⟩ := pc_M hM9 hP hD hK hS hX hT hA [1, 3] [0] rfl rfl rfl
  refine va_callr (va_runV (As := [.int 0]) (rest := []) ⟨hx, hb, hml, hown, hts⟩ hM9 (cwV 1 hts (gV q_156 q_157 q_158 q_12 q_155) rfl rfl rfl hV_Jx4a65c_get_915e3 ⟨Nat.le_of_ble_eq_true rfl, Nat.le_of_ble_eq_true rfl⟩) ⟨pc_blind, va_recv hK hP (ci := 0) (q := (RJx4a65c, TJx4a65c, 3)) (q0 := 1) rfl rfl, fun U hU hW => ⟨rfl, hC10 U hU hW⟩⟩ rfl rfl hl.1 rfl (lv_room (Nat.le_of_ble_eq_true rfl)) dX0_placeThoseReady_18 ⟨(Nat.le_of_ble_eq_true rfl), (Nat.le_of_ble_eq_true rfl)⟩) hS (fun q9 _ h9 => hF7 q9 h9) hF7 (fun u11 r12 t11 H11 L11 ht11 hvm11 hw11 hB11 hz11 hk11 hS => ?_)
  obtain ⟨hr11, hB11⟩ := hB11
  have hP := pq_keep hP hD [1, 3] rfl hk11 hB11.1 ht11
  have hG : s.heap.size + 0 ≤ H11.size := Nat.le_trans hG hz11
  refine W.eq (g2 := F0 m 21 ls [.ref h5]) (by rw [hr11]) ?_
  refine va_castE (nm := RX2) hx hb hown (hts _ q_89) (va_recv hK hP (ci := 3) (q := (RX2, TX2, 19)) (q0 := 5) rfl rfl) dX0_placeThoseReady_21 ?_
  refine lv_astore_n (lv' := [(2, .ref h5), (1, .int 0), (0, .ref h0)]) hx hb dX0_placeThoseReady_24 rfl hl (by decide) rfl (fun ls hl => ?_)
  refine lv_aload_n hx hb dX0_placeThoseReady_25 rfl (lv_at hl 0 rfl) ?_
  refine va_get (D := (dC, dI)) (ci := 3) (v := .int 0) (C := RX2) (T := TX2) (N := 19) hx hb hts in_X2 hown hK hP 5 rfl rfl 17 (by decide) (hts _ q_159) (fun _ h9 => h9) rfl dX0_placeThoseReady_26 ?_
  refine lv_if_ne (tgt := 53) hx hb dX0_placeThoseReady_29 (by decide) (fun cz => absurd (by decide) cz) (fun _ => ?_)
  refine lv_aload_n hx hb dX0_placeThoseReady_32 rfl (lv_at hl 0 rfl) ?_
  have hM15 := k25_readsOnlyPlaced l hl9 dC dI z h5 h7 H11.size
  obtain ⟨hF13, hC16⟩ := pc_M hM15 hP hD hK hS hX hT hA [5, 7] [] rfl rfl rfl
  refine va_calli (va_runV (As := []) (rest := []) ⟨hx, hb, hml, hown, hts⟩ hM15 (cwV 0 hts (gV q_162 q_163 q_164 q_91 q_161) rfl rfl rfl hV_X2_readsOnlyPlaced ⟨Nat.le_of_ble_eq_true rfl, Nat.le_of_ble_eq_true rfl⟩) ⟨pc_blind, va_recv hK hP (ci := 3) (q := (RX2, TX2, 19)) (q0 := 5) rfl rfl, fun U hU hW => ⟨rfl, hC16 U hU hW⟩⟩ rfl rfl hl.1 rfl (lv_room (Nat.le_of_ble_eq_true rfl)) dX0_placeThoseReady_33 ⟨(Nat.le_of_ble_eq_true rfl), (Nat.le_of_ble_eq_true rfl)⟩) hS (fun q9 _ h9 => hF13 q9 h9) hF13 (fun r18 u17 t17 H17 L17 ht17 hvm17 hw17 hB17 hz17 hk17 hS => ?_)
  have hP := pq_keep hP hD [5, 7] rfl hk17 hB17.1 ht17
  have hG : s.heap.size + 0 ≤ H17.size := Nat.le_trans hG hz17
  refine W.eq (g2 := F0 m 36 ls [.int 1]) (by rw [hw17]) ?_
  refine lv_if_eq (tgt := 53) hx hb dX0_placeThoseReady_36 (by decide) (fun cz => absurd cz (by decide)) (fun _ => ?_)
  refine lv_aload_n hx hb dX0_placeThoseReady_39 rfl (lv_at hl 0 rfl) ?_
  refine lv_iconst (v := 1) hx hb dX0_placeThoseReady_40 (by decide) ?_
  refine va_put (D := (dC, dI)) (ci := 3) (v := .int 1) (ty := .boolean) (C := RX2) (T := TX2) (N := 19) hx hb hts in_X2 tyX2 tyX2_ok nmX2 hown hK hP hD (va_Sre hS) 5 rfl rfl 17 (by decide) (hts _ q_159) (fun _ h9 => h9) rfl (by decide +kernel) rfl rfl (Nat.le_of_ble_eq_true rfl) dX0_placeThoseReady_41 (fun H19 _ hP hD hS' => ?_)
  have hG : s.heap.size + 0 ≤ H19.size := Nat.le_trans hG hS'.1
  have hS := va_Str hS hS'
  have hP : va_P (dC, dI) xCl [(h0, ce7 h1 o0 o1 h2), (h1, ce69 h3), (h2, ce71 h4), (h3, ce68 kc0 h5 h6), (h4, ce73 kc1), (h5, ce38 (z.2.1 0) h7 h5), (h6, ce67 (z.2.1 0) h8 h6), (h7, ce3 z.1), (h8, ce3 z.1)] H19 := hP
  have hD := vd_as hP hD rfl
  refine lv_aload_n hx hb dX0_placeThoseReady_44 rfl (lv_at hl 2 rfl) ?_
  refine va_get (D := (dC, dI)) (ci := 2) (v := .ref h2) (C := RX0) (T := TX0) (N := 4) hx hb hts in_X0 hown hK hP 0 rfl rfl 3 (by decide) (hts _ q_31) (fun _ h9 => h9) rfl dX0_placeThoseReady_45 ?_
  refine lv_aload_n hx hb dX0_placeThoseReady_48 rfl (lv_at hl 0 rfl) ?_
  have hM22 := k97_add l hl9 dC dI z h2 h5 h4 h7 H19.size kc1
  obtain ⟨hF20, hC23⟩ := pc_M hM22 hP hD hK hS hX hT hA [2, 5, 4] [1] rfl rfl rfl
  refine va_calli (va_runV (As := [.ref h5]) (rest := []) ⟨hx, hb, hml, hown, hts⟩ hM22 (cwV 1 hts (gV q_127 q_128 q_129 q_12 q_126) rfl rfl rfl hV_Jx4a65c_add_9ea2d ⟨Nat.le_of_ble_eq_true rfl, Nat.le_of_ble_eq_true rfl⟩) ⟨pc_blind, va_recv hK hP (ci := 0) (q := (RJx4a65c, TJx4a65c, 3)) (q0 := 2) rfl rfl, fun U hU hW => ⟨rfl, hC23 U hU hW⟩⟩ rfl rfl hl.1 rfl (lv_room (Nat.le_of_ble_eq_true rfl)) dX0_placeThoseReady_49 ⟨(Nat.le_of_ble_eq_true rfl), (Nat.le_of_ble_eq_true rfl)⟩) hS (fun q9 _ h9 => hF20 q9 h9) hF20 (fun r25 u24 t24 H24 L24 ht24 hvm24 hw24 hB24 hz24 hk24 hS => ?_)
  obtain ⟨hP, hD, hK⟩ := pq_jn (wz := [(h0, ce7 h1 o0 o1 h2), (h1, ce69 h3), (h3, ce68 kc0 h5 h6), (h6, ce67 (z.2.1 0) h8 h6), (h7, ce3 z.1), (h8, ce3 z.1), (h2, ce76 h4), (h5, ce38 (z.2.1 0) h7 h5), (h4, ce35 kc1 h5)]) (tz := [(kc0, .object "java/lang/Object"), (kc1, .object "java/lang/Object")]) hP hD hK [2, 5, 4] [0] rfl hk24 hF20 hB24.1 ht24 hvm24 rfl rfl
  have hG : s.heap.size + 0 ≤ H24.size := Nat.le_trans hG hz24
  refine W.eq (g2 := F0 m 52 ls [.int 1]) (by rw [hw24]) ?_
  refine lv_pop hx hb dX0_placeThoseReady_52 rfl ?_
  refine lv_iinc (v := 1) (lv' := [(1, .int 1), (2, .ref h5), (0, .ref h0)]) hx hb dX0_placeThoseReady_53 hl (k := 1) rfl (by decide) (by decide) rfl (fun ls hl => ?_)
  refine lv_goto (tgt := 2) hx hb dX0_placeThoseReady_56 (by decide) ?_
  refine lv_iload_n hx hb dX0_placeThoseReady_2 rfl (lv_at hl 0 rfl) ?_
  refine lv_aload_n hx hb dX0_placeThoseReady_3 rfl (lv_at hl 2 rfl) ?_
  refine va_get (D := (dC, dI)) (ci := 2) (v := .ref h1) (C := RX0) (T := TX0) (N := 4) hx hb hts in_X0 hown hK hP 0 rfl rfl 0 (by decide) (hts _ q_28) (fun _ h9 => h9) rfl dX0_placeThoseReady_4 ?_
  have hM28 := k20_size l hl9 dC dI z h1 h3 H24.size 2 2
  obtain ⟨hF26, hC29⟩ := pc_M hM28 hP hD hK hS hX hT hA [1] [] rfl rfl rfl
  refine va_calli (va_runV (As := []) (rest := [.int 1]) ⟨hx, hb, hml, hown, hts⟩ hM28 (cwV 0 hts (gV q_92 q_77 q_78 q_12 q_75) rfl rfl rfl hV_Jx4a65c_size_8abf5 ⟨Nat.le_of_ble_eq_true rfl, Nat.le_of_ble_eq_true rfl⟩) ⟨pc_blind, va_recv hK hP (ci := 0) (q := (RJx4a65c, TJx4a65c, 3)) (q0 := 1) rfl rfl, fun U hU hW => ⟨rfl, hC29 U hU hW⟩⟩ rfl rfl hl.1 rfl (lv_room (Nat.le_of_ble_eq_true rfl)) dX0_placeThoseReady_7 ⟨(Nat.le_of_ble_eq_true rfl), (Nat.le_of_ble_eq_true rfl)⟩) hS (fun q9 _ h9 => hF26 q9 h9) hF26 (fun r31 u30 t30 H30 L30 ht30 hvm30 hw30 hB30 hz30 hk30 hS => ?_)
  have hP := pq_keep hP hD [1] rfl hk30 hB30.1 ht30
  have hG : s.heap.size + 0 ≤ H30.size := Nat.le_trans hG hz30
  refine W.eq (g2 := F0 m 10 ls [.int 2, .int 1]) (by rw [hw30]) ?_
  refine lv_icmp_ge (tgt := 59) hx hb dX0_placeThoseReady_10 (by decide) (fun cz => absurd cz (by decide)) (fun _ => ?_)
  refine lv_aload_n hx hb dX0_placeThoseReady_13 rfl (lv_at hl 2 rfl) ?_
  refine va_get (D := (dC, dI)) (ci := 2) (v := .ref h1) (C := RX0) (T := TX0) (N := 4) hx hb hts in_X0 hown hK hP 0 rfl rfl 0 (by decide) (hts _ q_28) (fun _ h9 => h9) rfl dX0_placeThoseReady_14 ?_
  refine lv_iload_n hx hb dX0_placeThoseReady_17 rfl (lv_at hl 0 rfl) ?_
  have hM34 := k95_get l hl9 dC dI z h1 h3 h5 h6 H30.size kc0
  obtain ⟨hF32, hC35⟩ := pc_M hM34 hP hD hK hS hX hT hA [1, 2] [0] rfl rfl rfl
  refine va_callr (va_runV (As := [.int 1]) (rest := []) ⟨hx, hb, hml, hown, hts⟩ hM34 (cwV 1 hts (gV q_156 q_157 q_158 q_12 q_155) rfl rfl rfl hV_Jx4a65c_get_915e3 ⟨Nat.le_of_ble_eq_true rfl, Nat.le_of_ble_eq_true rfl⟩) ⟨pc_blind, va_recv hK hP (ci := 0) (q := (RJx4a65c, TJx4a65c, 3)) (q0 := 1) rfl rfl, fun U hU hW => ⟨rfl, hC35 U hU hW⟩⟩ rfl rfl hl.1 rfl (lv_room (Nat.le_of_ble_eq_true rfl)) dX0_placeThoseReady_18 ⟨(Nat.le_of_ble_eq_true rfl), (Nat.le_of_ble_eq_true rfl)⟩) hS (fun q9 _ h9 => hF32 q9 h9) hF32 (fun u36 r37 t36 H36 L36 ht36 hvm36 hw36 hB36 hz36 hk36 hS => ?_)
  obtain ⟨hr36, hB36⟩ := hB36
  have hP := pq_keep hP hD [1, 2] rfl hk36 hB36.1 ht36
  have hG : s.heap.size + 0 ≤ H36.size := Nat.le_trans hG hz36
  refine W.eq (g2 := F0 m 21 ls [.ref h6]) (by rw [hr36]) ?_
  refine va_castE (nm := RX2) hx hb hown (hts _ q_89) (va_recv hK hP (ci := 3) (q := (RX2, TX2, 19)) (q0 := 3) rfl rfl) dX0_placeThoseReady_21 ?_
  refine lv_astore_n (lv' := [(2, .ref h6), (1, .int 1), (0, .ref h0)]) hx hb dX0_placeThoseReady_24 rfl hl (by decide) rfl (fun ls hl => ?_)
  refine lv_aload_n hx hb dX0_placeThoseReady_25 rfl (lv_at hl 0 rfl) ?_
  refine va_get (D := (dC, dI)) (ci := 3) (v := .int 0) (C := RX2) (T := TX2) (N := 19) hx hb hts in_X2 hown hK hP 3 rfl rfl 17 (by decide) (hts _ q_159) (fun _ h9 => h9) rfl dX0_placeThoseReady_26 ?_
  refine lv_if_ne (tgt := 53) hx hb dX0_placeThoseReady_29 (by decide) (fun cz => absurd (by decide) cz) (fun _ => ?_)
  refine lv_aload_n hx hb dX0_placeThoseReady_32 rfl (lv_at hl 0 rfl) ?_
  have hM40 := k98_readsOnlyPlaced l hl9 dC dI z h6 h8 H36.size
  obtain ⟨hF38, hC41⟩ := pc_M hM40 hP hD hK hS hX hT hA [3, 5] [] rfl rfl rfl
  refine va_calli (va_runV (As := []) (rest := []) ⟨hx, hb, hml, hown, hts⟩ hM40 (cwV 0 hts (gV q_162 q_163 q_164 q_91 q_161) rfl rfl rfl hV_X2_readsOnlyPlaced ⟨Nat.le_of_ble_eq_true rfl, Nat.le_of_ble_eq_true rfl⟩) ⟨pc_blind, va_recv hK hP (ci := 3) (q := (RX2, TX2, 19)) (q0 := 3) rfl rfl, fun U hU hW => ⟨rfl, hC41 U hU hW⟩⟩ rfl rfl hl.1 rfl (lv_room (Nat.le_of_ble_eq_true rfl)) dX0_placeThoseReady_33 ⟨(Nat.le_of_ble_eq_true rfl), (Nat.le_of_ble_eq_true rfl)⟩) hS (fun q9 _ h9 => hF38 q9 h9) hF38 (fun r43 u42 t42 H42 L42 ht42 hvm42 hw42 hB42 hz42 hk42 hS => ?_)
  have hP := pq_keep hP hD [3, 5] rfl hk42 hB42.1 ht42
  have hG : s.heap.size + 0 ≤ H42.size := Nat.le_trans hG hz42
  refine W.eq (g2 := F0 m 36 ls [.int 1]) (by rw [hw42]) ?_
  refine lv_if_eq (tgt := 53) hx hb dX0_placeThoseReady_36 (by decide) (fun cz => absurd cz (by decide)) (fun _ => ?_)
  refine lv_aload_n hx hb dX0_placeThoseReady_39 rfl (lv_at hl 0 rfl) ?_
  refine lv_iconst (v := 1) hx hb dX0_placeThoseReady_40 (by decide) ?_
  refine va_put (D := (dC, dI)) (ci := 3) (v := .int 1) (ty := .boolean) (C := RX2) (T := TX2) (N := 19) hx hb hts in_X2 tyX2 tyX2_ok nmX2 hown hK hP hD (va_Sre hS) 3 rfl rfl 17 (by decide) (hts _ q_159) (fun _ h9 => h9) rfl (by decide +kernel) rfl rfl (Nat.le_of_ble_eq_true rfl) dX0_placeThoseReady_41 (fun H44 _ hP hD hS' => ?_)
  have hG : s.heap.size + 0 ≤ H44.size := Nat.le_trans hG hS'.1
  have hS := va_Str hS hS'
  have hP : va_P (dC, dI) xCl [(h0, ce7 h1 o0 o1 h2), (h1, ce69 h3), (h3, ce68 kc0 h5 h6), (h6, ce77 (z.2.1 0) h8 h6), (h7, ce3 z.1), (h8, ce3 z.1), (h2, ce76 h4), (h5, ce38 (z.2.1 0) h7 h5), (h4, ce35 kc1 h5)] H44 := hP
  have hD := vd_as hP hD rfl
  refine lv_aload_n hx hb dX0_placeThoseReady_44 rfl (lv_at hl 2 rfl) ?_
  refine va_get (D := (dC, dI)) (ci := 2) (v := .ref h2) (C := RX0) (T := TX0) (N := 4) hx hb hts in_X0 hown hK hP 0 rfl rfl 3 (by decide) (hts _ q_31) (fun _ h9 => h9) rfl dX0_placeThoseReady_45 ?_
  refine lv_aload_n hx hb dX0_placeThoseReady_48 rfl (lv_at hl 0 rfl) ?_
  have hM47 := k100_add l hl9 dC dI z h2 h6 h4 h8 h5 H44.size kc1
  obtain ⟨hF45, hC48⟩ := pc_M hM47 hP hD hK hS hX hT hA [6, 3, 8] [1] rfl rfl rfl
  refine va_calli (va_runV (As := [.ref h6]) (rest := []) ⟨hx, hb, hml, hown, hts⟩ hM47 (cwV 1 hts (gV q_127 q_128 q_129 q_12 q_126) rfl rfl rfl hV_Jx4a65c_add_9ea2d ⟨Nat.le_of_ble_eq_true rfl, Nat.le_of_ble_eq_true rfl⟩) ⟨pc_blind, va_recv hK hP (ci := 0) (q := (RJx4a65c, TJx4a65c, 3)) (q0 := 6) rfl rfl, fun U hU hW => ⟨rfl, hC48 U hU hW⟩⟩ rfl rfl hl.1 rfl (lv_room (Nat.le_of_ble_eq_true rfl)) dX0_placeThoseReady_49 ⟨(Nat.le_of_ble_eq_true rfl), (Nat.le_of_ble_eq_true rfl)⟩) hS (fun q9 _ h9 => hF45 q9 h9) hF45 (fun r50 u49 t49 H49 L49 ht49 hvm49 hw49 hB49 hz49 hk49 hS => ?_)
  obtain ⟨hP, hD, hK⟩ := pq_jn (wz := [(h0, ce7 h1 o0 o1 h2), (h1, ce69 h3), (h3, ce68 kc0 h5 h6), (h7, ce3 z.1), (h8, ce3 z.1), (h5, ce38 (z.2.1 0) h7 h5), (h2, ce79 h4), (h6, ce77 (z.2.1 0) h8 h6), (h4, ce68 kc1 h5 h6)]) (tz := [(kc0, .object "java/lang/Object"), (kc1, .object "java/lang/Object")]) hP hD hK [6, 3, 8] [0] rfl hk49 hF45 hB49.1 ht49 hvm49 rfl rfl
  have hG : s.heap.size + 0 ≤ H49.size := Nat.le_trans hG hz49
  refine W.eq (g2 := F0 m 52 ls [.int 1]) (by rw [hw49]) ?_
  refine lv_pop hx hb dX0_placeThoseReady_52 rfl ?_
  refine lv_iinc (v := 2) (lv' := [(1, .int 2), (2, .ref h6), (0, .ref h0)]) hx hb dX0_placeThoseReady_53 hl (k := 1) rfl (by decide) (by decide) rfl (fun ls hl => ?_)
  refine lv_goto (tgt := 2) hx hb dX0_placeThoseReady_56 (by decide) ?_
  refine lv_iload_n hx hb dX0_placeThoseReady_2 rfl (lv_at hl 0 rfl) ?_
  refine lv_aload_n hx hb dX0_placeThoseReady_3 rfl (lv_at hl 2 rfl) ?_
  refine va_get (D := (dC, dI)) (ci := 2) (v := .ref h1) (C := RX0) (T := TX0) (N := 4) hx hb hts in_X0 hown hK hP 0 rfl rfl 0 (by decide) (hts _ q_28) (fun _ h9 => h9) rfl dX0_placeThoseReady_4 ?_
  have hM53 := k20_size l hl9 dC dI z h1 h3 H49.size 2 2
  obtain ⟨hF51, hC54⟩ := pc_M hM53 hP hD hK hS hX hT hA [1] [] rfl rfl rfl
  refine va_calli (va_runV (As := []) (rest := [.int 2]) ⟨hx, hb, hml, hown, hts⟩ hM53 (cwV 0 hts (gV q_92 q_77 q_78 q_12 q_75) rfl rfl rfl hV_Jx4a65c_size_8abf5 ⟨Nat.le_of_ble_eq_true rfl, Nat.le_of_ble_eq_true rfl⟩) ⟨pc_blind, va_recv hK hP (ci := 0) (q := (RJx4a65c, TJx4a65c, 3)) (q0 := 1) rfl rfl, fun U hU hW => ⟨rfl, hC54 U hU hW⟩⟩ rfl rfl hl.1 rfl (lv_room (Nat.le_of_ble_eq_true rfl)) dX0_placeThoseReady_7 ⟨(Nat.le_of_ble_eq_true rfl), (Nat.le_of_ble_eq_true rfl)⟩) hS (fun q9 _ h9 => hF51 q9 h9) hF51 (fun r56 u55 t55 H55 L55 ht55 hvm55 hw55 hB55 hz55 hk55 hS => ?_)
  have hP := pq_keep hP hD [1] rfl hk55 hB55.1 ht55
  have hG : s.heap.size + 0 ≤ H55.size := Nat.le_trans hG hz55
  refine W.eq (g2 := F0 m 10 ls [.int 2, .int 2]) (by rw [hw55]) ?_
  refine lv_icmp_ge (tgt := 59) hx hb dX0_placeThoseReady_10 (by decide) (fun _ => ?_) (fun cz => absurd (by decide) cz)
  exact W.vret hx hb hr (fun t9 ht9 hW9 => ⟨⟨(), rfl, trivial, ⟨pq_mk2 hP hD hK [0, 1, 6, 2, 8, 5, 7, 3, 4] [0, 1] rfl rfl rfl ht9 hW9, by rw [ht9]; exact Nat.le_trans (Nat.add_le_add_left (Nat.le_of_ble_eq_true rfl) _) hG⟩⟩, hS.F ht9⟩) hS.2.2 dX0_placeThoseReady_59

set_option maxHeartbeats 4000000 in
set_option maxRecDepth 100000 in
theorem k102_putInOrder (l : Launch) (hl9 : l.stackTraces = false) (dC : Nat → ClassId) (dI : Nat → Nat → Nat) (z : XZ) (h0 h1 h2 h3 h4 h5 h6 h7 h8 : Nat) (o0 o1 : Nat) (sz : Nat) (kc0 kc1 : ClassId) : Met l yX0_putInOrder (.code yX0_putInOrder cX0_putInOrder 2 none :: wsL_law) ({ frames := 4, cells := 0, slots := 0, locals := 86 }) (va_Pc [.ref h0] (PC (dC, dI) [(h0, ce7 h1 o0 o1 h2), (h1, ce69 h3), (h2, ce40 h4), (h3, ce68 kc0 h5 h6), (h4, ce35 kc1 h5), (h5, ce38 (z.2.1 0) h7 h5), (h6, ce67 (z.2.1 0) h8 h6), (h7, ce3 z.1), (h8, ce3 z.1)] [(kc0, .object "java/lang/Object"), (kc1, .object "java/lang/Object")] sz z)) (va_Qv (fun (_ : Unit) => True) (fun (_ : Unit) (t : State) => PG (dC, dI) [(h0, ce7 h1 o0 o1 h2), (h1, ce69 h3), (h2, ce79 h4), (h3, ce68 kc0 h5 h6), (h4, ce68 kc1 h5 h6), (h5, ce38 (z.2.1 0) h7 h5), (h6, ce77 (z.2.1 0) h8 h6), (h7, ce3 z.1), (h8, ce3 z.1)] [(kc0, .object "java/lang/Object"), (kc1, .object "java/lang/Object")] (va_A [(h0, ce7 h1 o0 o1 h2), (h1, ce69 h3), (h2, ce40 h4), (h3, ce68 kc0 h5 h6), (h4, ce35 kc1 h5), (h5, ce38 (z.2.1 0) h7 h5), (h6, ce67 (z.2.1 0) h8 h6), (h7, ce3 z.1), (h8, ce3 z.1)] sz) sz 0 t) (va_A [(h0, ce7 h1 o0 o1 h2), (h1, ce69 h3), (h2, ce40 h4), (h3, ce68 kc0 h5 h6), (h4, ce35 kc1 h5), (h5, ce38 (z.2.1 0) h7 h5), (h6, ce67 (z.2.1 0) h8 h6), (h7, ce3 z.1), (h8, ce3 z.1)] sz)) 0 0 (va_A [(h0, ce7 h1 o0 o1 h2), (h1, ce69 h3), (h2, ce40 h4), (h3, ce68 kc0 h5 h6), (h4, ce35 kc1 h5), (h5, ce38 (z.2.1 0) h7 h5), (h6, ce67 (z.2.1 0) h8 h6), (h7, ce3 z.1), (h8, ce3 z.1)] sz) := by
  refine Met.ofW (cc := cX0_putInOrder) (maxL := 2) (ret := none) (by decide) rfl ?_
  intro p e s m args below meth c s₁ B hml hv
  obtain ⟨rfl, hsz, hP, hK, hD0, hX, hT⟩ := hv
  have hx := B.exec
  have hb := B.bytes
  have hr := B.returns
  have hts0 := atoms_spec (ws := .code yX0_putInOrder cX0_putInOrder 2 none :: wsL_law) B.pre
  have hts := xTail hts0
  have hown : s.vm.findClass RX0 = some m.cls := xown B.named rfl
  have hlocks := B.notSynchronized
  subst hsz
  have hD := hD0.self (sz := s.heap.size)
  generalize hAe : va_A [(h0, ce7 h1 o0 o1 h2), (h1, ce69 h3), (h2, ce40 h4), (h3, ce68 kc0 h5 h6), (h4, ce35 kc1 h5), (h5, ce38 (z.2.1 0) h7 h5), (h6, ce67 (z.2.1 0) h8 h6), (h7, ce3 z.1), (h8, ce3 z.1)] s.heap.size = A at hD hX ⊢
  have hA : ∀ q : Nat, s.heap.size ≤ q → A q := fun q h => by rw [← hAe]; exact Or.inr h
  have hS : va_S A s.heap s.heap [] := va_S.rf
  have hG : s.heap.size + 0 ≤ s.heap.size := Nat.le_refl _
  have hl := lv_entry ([.ref h0]) (n := 2) (Nat.le_of_ble_eq_true rfl)
  rw [lg_entry_eq]
  generalize (lg_sl ([.ref h0]) ++ List.replicate (2 - (lg_sl ([.ref h0])).length) Slot.unset).toArray = ls at hl ⊢
  have hl : lv_has ls 2 [(0, .ref h0)] := hl
  refine lv_aload_n hx hb dX0_putInOrder_0 rfl (lv_at hl 0 rfl) ?_
  refine va_get (D := (dC, dI)) (ci := 2) (v := .ref h2) (C := RX0) (T := TX0) (N := 4) hx hb hts in_X0 hown hK hP 0 rfl rfl 3 (by decide) (hts _ q_31) (fun _ h9 => h9) rfl dX0_putInOrder_1 ?_
  have hM3 := k87_clear l hl9 dC dI z h2 h4 h5 s.heap.size kc1
  obtain ⟨hF1, hC4⟩ := pc_M hM3 hP hD hK hS hX hT hA [2, 4] [1] rfl rfl rfl
  refine va_callv (va_runV (As := []) (rest := []) ⟨hx, hb, hml, hown, hts⟩ hM3 (cwV 0 hts (gV q_140 q_141 q_142 q_12 q_139) rfl rfl rfl hV_Jx4a65c_clear_da8c8 ⟨Nat.le_of_ble_eq_true rfl, Nat.le_of_ble_eq_true rfl⟩) ⟨pc_blind, va_recv hK hP (ci := 0) (q := (RJx4a65c, TJx4a65c, 3)) (q0 := 2) rfl rfl, fun U hU hW => ⟨rfl, hC4 U hU hW⟩⟩ rfl rfl hl.1 rfl (lv_room (Nat.le_of_ble_eq_true rfl)) dX0_putInOrder_4 ⟨(Nat.le_of_ble_eq_true rfl), (Nat.le_of_ble_eq_true rfl)⟩) hS (fun q9 _ h9 => hF1 q9 h9) hF1 (fun u5 t5 H5 L5 ht5 hvm5 hw5 hB5 hz5 hk5 hS => ?_)
  obtain ⟨hP, hD, hK⟩ := pq_jn (wz := [(h0, ce7 h1 o0 o1 h2), (h1, ce69 h3), (h3, ce68 kc0 h5 h6), (h5, ce38 (z.2.1 0) h7 h5), (h6, ce67 (z.2.1 0) h8 h6), (h7, ce3 z.1), (h8, ce3 z.1), (h2, ce71 h4), (h4, ce73 kc1)]) (tz := [(kc0, .object "java/lang/Object"), (kc1, .object "java/lang/Object")]) hP hD hK [2, 4] [0] rfl hk5 hF1 hB5.1 ht5 hvm5 rfl rfl
  have hG : s.heap.size + 0 ≤ H5.size := Nat.le_trans hG hz5
  refine lv_iconst (v := 0) hx hb dX0_putInOrder_7 (by decide) ?_
  refine lv_istore_n (lv' := [(1, .int 0), (0, .ref h0)]) hx hb dX0_putInOrder_8 rfl hl (by decide) rfl (fun ls hl => ?_)
  refine lv_iload_n hx hb dX0_putInOrder_9 rfl (lv_at hl 0 rfl) ?_
  refine lv_aload_n hx hb dX0_putInOrder_10 rfl (lv_at hl 1 rfl) ?_
  refine va_get (D := (dC, dI)) (ci := 2) (v := .ref h1) (C := RX0) (T := TX0) (N := 4) hx hb hts in_X0 hown hK hP 0 rfl rfl 0 (by decide) (hts _ q_28) (fun _ h9 => h9) rfl dX0_putInOrder_11 ?_
  have hM9 := k20_size l hl9 dC dI z h1 h3 H5.size 2 2
  obtain ⟨hF7, hC10⟩ := pc_M hM9 hP hD hK hS hX hT hA [1] [] rfl rfl rfl
  refine va_calli (va_runV (As := []) (rest := [.int 0]) ⟨hx, hb, hml, hown, hts⟩ hM9 (cwV 0 hts (gV q_92 q_77 q_78 q_12 q_75) rfl rfl rfl hV_Jx4a65c_size_8abf5 ⟨Nat.le_of_ble_eq_true rfl, Nat.le_of_ble_eq_true rfl⟩) ⟨pc_blind, va_recv hK hP (ci := 0) (q := (RJx4a65c, TJx4a65c, 3)) (q0 := 1) rfl rfl, fun U hU hW => ⟨rfl, hC10 U hU hW⟩⟩ rfl rfl hl.1 rfl (lv_room (Nat.le_of_ble_eq_true rfl)) dX0_putInOrder_14 ⟨(Nat.le_of_ble_eq_true rfl), (Nat.le_of_ble_eq_true rfl)⟩) hS (fun q9 _ h9 => hF7 q9 h9) hF7 (fun r12 u11 t11 H11 L11 ht11 hvm11 hw11 hB11 hz11 hk11 hS => ?_)
  have hP := pq_keep hP hD [1] rfl hk11 hB11.1 ht11
  have hG : s.heap.size + 0 ≤ H11.size := Nat.le_trans hG hz11
  refine W.eq (g2 := F0 m 17 ls [.int 2, .int 0]) (by rw [hw11]) ?_
  refine lv_icmp_ge (tgt := 41) hx hb dX0_putInOrder_17 (by decide) (fun cz => absurd cz (by decide)) (fun _ => ?_)
  refine lv_aload_n hx hb dX0_putInOrder_20 rfl (lv_at hl 1 rfl) ?_
  refine va_get (D := (dC, dI)) (ci := 2) (v := .ref h1) (C := RX0) (T := TX0) (N := 4) hx hb hts in_X0 hown hK hP 0 rfl rfl 0 (by decide) (hts _ q_28) (fun _ h9 => h9) rfl dX0_putInOrder_21 ?_
  refine lv_iload_n hx hb dX0_putInOrder_24 rfl (lv_at hl 0 rfl) ?_
  have hM15 := k91_get l hl9 dC dI z h1 h3 h5 h6 H11.size kc0
  obtain ⟨hF13, hC16⟩ := pc_M hM15 hP hD hK hS hX hT hA [1, 2] [0] rfl rfl rfl
  refine va_callr (va_runV (As := [.int 0]) (rest := []) ⟨hx, hb, hml, hown, hts⟩ hM15 (cwV 1 hts (gV q_156 q_157 q_158 q_12 q_155) rfl rfl rfl hV_Jx4a65c_get_915e3 ⟨Nat.le_of_ble_eq_true rfl, Nat.le_of_ble_eq_true rfl⟩) ⟨pc_blind, va_recv hK hP (ci := 0) (q := (RJx4a65c, TJx4a65c, 3)) (q0 := 1) rfl rfl, fun U hU hW => ⟨rfl, hC16 U hU hW⟩⟩ rfl rfl hl.1 rfl (lv_room (Nat.le_of_ble_eq_true rfl)) dX0_putInOrder_25 ⟨(Nat.le_of_ble_eq_true rfl), (Nat.le_of_ble_eq_true rfl)⟩) hS (fun q9 _ h9 => hF13 q9 h9) hF13 (fun u17 r18 t17 H17 L17 ht17 hvm17 hw17 hB17 hz17 hk17 hS => ?_)
  obtain ⟨hr17, hB17⟩ := hB17
  have hP := pq_keep hP hD [1, 2] rfl hk17 hB17.1 ht17
  have hG : s.heap.size + 0 ≤ H17.size := Nat.le_trans hG hz17
  refine W.eq (g2 := F0 m 28 ls [.ref h5]) (by rw [hr17]) ?_
  refine va_castE (nm := RX2) hx hb hown (hts _ q_89) (va_recv hK hP (ci := 3) (q := (RX2, TX2, 19)) (q0 := 3) rfl rfl) dX0_putInOrder_28 ?_
  refine lv_iconst (v := 0) hx hb dX0_putInOrder_31 (by decide) ?_
  refine va_put (D := (dC, dI)) (ci := 3) (v := .int 0) (ty := .boolean) (C := RX2) (T := TX2) (N := 19) hx hb hts in_X2 tyX2 tyX2_ok nmX2 hown hK hP hD (va_Sre hS) 3 rfl rfl 17 (by decide) (hts _ q_159) (fun _ h9 => h9) rfl (by decide +kernel) rfl rfl (Nat.le_of_ble_eq_true rfl) dX0_putInOrder_32 (fun H19 _ hP hD hS' => ?_)
  have hG : s.heap.size + 0 ≤ H19.size := Nat.le_trans hG hS'.1
  have hS := va_Str hS hS'
  have hP : va_P (dC, dI) xCl [(h0, ce7 h1 o0 o1 h2), (h1, ce69 h3), (h3, ce68 kc0 h5 h6), (h5, ce32 (z.2.1 0) h7 h5), (h6, ce67 (z.2.1 0) h8 h6), (h7, ce3 z.1), (h8, ce3 z.1), (h2, ce71 h4), (h4, ce73 kc1)] H19 := hP
  have hD := vd_as hP hD rfl
  refine lv_iinc (v := 1) (lv' := [(1, .int 1), (0, .ref h0)]) hx hb dX0_putInOrder_35 hl (k := 0) rfl (by decide) (by decide) rfl (fun ls hl => ?_)
  refine lv_goto (tgt := 9) hx hb dX0_putInOrder_38 (by decide) ?_
  refine lv_iload_n hx hb dX0_putInOrder_9 rfl (lv_at hl 0 rfl) ?_
  refine lv_aload_n hx hb dX0_putInOrder_10 rfl (lv_at hl 1 rfl) ?_
  refine va_get (D := (dC, dI)) (ci := 2) (v := .ref h1) (C := RX0) (T := TX0) (N := 4) hx hb hts in_X0 hown hK hP 0 rfl rfl 0 (by decide) (hts _ q_28) (fun _ h9 => h9) rfl dX0_putInOrder_11 ?_
  have hM22 := k20_size l hl9 dC dI z h1 h3 H19.size 2 2
  obtain ⟨hF20, hC23⟩ := pc_M hM22 hP hD hK hS hX hT hA [1] [] rfl rfl rfl
  refine va_calli (va_runV (As := []) (rest := [.int 1]) ⟨hx, hb, hml, hown, hts⟩ hM22 (cwV 0 hts (gV q_92 q_77 q_78 q_12 q_75) rfl rfl rfl hV_Jx4a65c_size_8abf5 ⟨Nat.le_of_ble_eq_true rfl, Nat.le_of_ble_eq_true rfl⟩) ⟨pc_blind, va_recv hK hP (ci := 0) (q := (RJx4a65c, TJx4a65c, 3)) (q0 := 1) rfl rfl, fun U hU hW => ⟨rfl, hC23 U hU hW⟩⟩ rfl rfl hl.1 rfl (lv_room (Nat.le_of_ble_eq_true rfl)) dX0_putInOrder_14 ⟨(Nat.le_of_ble_eq_true rfl), (Nat.le_of_ble_eq_true rfl)⟩) hS (fun q9 _ h9 => hF20 q9 h9) hF20 (fun r25 u24 t24 H24 L24 ht24 hvm24 hw24 hB24 hz24 hk24 hS => ?_)
  have hP := pq_keep hP hD [1] rfl hk24 hB24.1 ht24
  have hG : s.heap.size + 0 ≤ H24.size := Nat.le_trans hG hz24
  refine W.eq (g2 := F0 m 17 ls [.int 2, .int 1]) (by rw [hw24]) ?_
  refine lv_icmp_ge (tgt := 41) hx hb dX0_putInOrder_17 (by decide) (fun cz => absurd cz (by decide)) (fun _ => ?_)
  refine lv_aload_n hx hb dX0_putInOrder_20 rfl (lv_at hl 1 rfl) ?_
  refine va_get (D := (dC, dI)) (ci := 2) (v := .ref h1) (C := RX0) (T := TX0) (N := 4) hx hb hts in_X0 hown hK hP 0 rfl rfl 0 (by decide) (hts _ q_28) (fun _ h9 => h9) rfl dX0_putInOrder_21 ?_
  refine lv_iload_n hx hb dX0_putInOrder_24 rfl (lv_at hl 0 rfl) ?_
  have hM28 := k95_get l hl9 dC dI z h1 h3 h5 h6 H24.size kc0
  obtain ⟨hF26, hC29⟩ := pc_M hM28 hP hD hK hS hX hT hA [1, 2] [0] rfl rfl rfl
  refine va_callr (va_runV (As := [.int 1]) (rest := []) ⟨hx, hb, hml, hown, hts⟩ hM28 (cwV 1 hts (gV q_156 q_157 q_158 q_12 q_155) rfl rfl rfl hV_Jx4a65c_get_915e3 ⟨Nat.le_of_ble_eq_true rfl, Nat.le_of_ble_eq_true rfl⟩) ⟨pc_blind, va_recv hK hP (ci := 0) (q := (RJx4a65c, TJx4a65c, 3)) (q0 := 1) rfl rfl, fun U hU hW => ⟨rfl, hC29 U hU hW⟩⟩ rfl rfl hl.1 rfl (lv_room (Nat.le_of_ble_eq_true rfl)) dX0_putInOrder_25 ⟨(Nat.le_of_ble_eq_true rfl), (Nat.le_of_ble_eq_true rfl)⟩) hS (fun q9 _ h9 => hF26 q9 h9) hF26 (fun u30 r31 t30 H30 L30 ht30 hvm30 hw30 hB30 hz30 hk30 hS => ?_)
  obtain ⟨hr30, hB30⟩ := hB30
  have hP := pq_keep hP hD [1, 2] rfl hk30 hB30.1 ht30
  have hG : s.heap.size + 0 ≤ H30.size := Nat.le_trans hG hz30
  refine W.eq (g2 := F0 m 28 ls [.ref h6]) (by rw [hr30]) ?_
  refine va_castE (nm := RX2) hx hb hown (hts _ q_89) (va_recv hK hP (ci := 3) (q := (RX2, TX2, 19)) (q0 := 4) rfl rfl) dX0_putInOrder_28 ?_
  refine lv_iconst (v := 0) hx hb dX0_putInOrder_31 (by decide) ?_
  refine va_put (D := (dC, dI)) (ci := 3) (v := .int 0) (ty := .boolean) (C := RX2) (T := TX2) (N := 19) hx hb hts in_X2 tyX2 tyX2_ok nmX2 hown hK hP hD (va_Sre hS) 4 rfl rfl 17 (by decide) (hts _ q_159) (fun _ h9 => h9) rfl (by decide +kernel) rfl rfl (Nat.le_of_ble_eq_true rfl) dX0_putInOrder_32 (fun H32 _ hP hD hS' => ?_)
  have hG : s.heap.size + 0 ≤ H32.size := Nat.le_trans hG hS'.1
  have hS := va_Str hS hS'
  have hP : va_P (dC, dI) xCl [(h0, ce7 h1 o0 o1 h2), (h1, ce69 h3), (h3, ce68 kc0 h5 h6), (h5, ce32 (z.2.1 0) h7 h5), (h6, ce67 (z.2.1 0) h8 h6), (h7, ce3 z.1), (h8, ce3 z.1), (h2, ce71 h4), (h4, ce73 kc1)] H32 := hP
  have hD := vd_as hP hD rfl
  refine lv_iinc (v := 2) (lv' := [(1, .int 2), (0, .ref h0)]) hx hb dX0_putInOrder_35 hl (k := 0) rfl (by decide) (by decide) rfl (fun ls hl => ?_)
  refine lv_goto (tgt := 9) hx hb dX0_putInOrder_38 (by decide) ?_
  refine lv_iload_n hx hb dX0_putInOrder_9 rfl (lv_at hl 0 rfl) ?_
  refine lv_aload_n hx hb dX0_putInOrder_10 rfl (lv_at hl 1 rfl) ?_
  refine va_get (D := (dC, dI)) (ci := 2) (v := .ref h1) (C := RX0) (T := TX0) (N := 4) hx hb hts in_X0 hown hK hP 0 rfl rfl 0 (by decide) (hts _ q_28) (fun _ h9 => h9) rfl dX0_putInOrder_11 ?_
  have hM35 := k20_size l hl9 dC dI z h1 h3 H32.size 2 2
  obtain ⟨hF33, hC36⟩ := pc_M hM35 hP hD hK hS hX hT hA [1] [] rfl rfl rfl
  refine va_calli (va_runV (As := []) (rest := [.int 2]) ⟨hx, hb, hml, hown, hts⟩ hM35 (cwV 0 hts (gV q_92 q_77 q_78 q_12 q_75) rfl rfl rfl hV_Jx4a65c_size_8abf5 ⟨Nat.le_of_ble_eq_true rfl, Nat.le_of_ble_eq_true rfl⟩) ⟨pc_blind, va_recv hK hP (ci := 0) (q := (RJx4a65c, TJx4a65c, 3)) (q0 := 1) rfl rfl, fun U hU hW => ⟨rfl, hC36 U hU hW⟩⟩ rfl rfl hl.1 rfl (lv_room (Nat.le_of_ble_eq_true rfl)) dX0_putInOrder_14 ⟨(Nat.le_of_ble_eq_true rfl), (Nat.le_of_ble_eq_true rfl)⟩) hS (fun q9 _ h9 => hF33 q9 h9) hF33 (fun r38 u37 t37 H37 L37 ht37 hvm37 hw37 hB37 hz37 hk37 hS => ?_)
  have hP := pq_keep hP hD [1] rfl hk37 hB37.1 ht37
  have hG : s.heap.size + 0 ≤ H37.size := Nat.le_trans hG hz37
  refine W.eq (g2 := F0 m 17 ls [.int 2, .int 2]) (by rw [hw37]) ?_
  refine lv_icmp_ge (tgt := 41) hx hb dX0_putInOrder_17 (by decide) (fun _ => ?_) (fun cz => absurd (by decide) cz)
  refine lv_iconst (v := 0) hx hb dX0_putInOrder_41 (by decide) ?_
  refine lv_istore_n (lv' := [(1, .int 0), (0, .ref h0)]) hx hb dX0_putInOrder_42 rfl hl (by decide) rfl (fun ls hl => ?_)
  refine lv_iload_n hx hb dX0_putInOrder_43 rfl (lv_at hl 0 rfl) ?_
  refine lv_bipush (v := 40) hx hb dX0_putInOrder_44 (by decide) ?_
  refine lv_icmp_ge (tgt := 76) hx hb dX0_putInOrder_46 (by decide) (fun cz => absurd cz (by decide)) (fun _ => ?_)
  refine lv_aload_n hx hb dX0_putInOrder_49 rfl (lv_at hl 1 rfl) ?_
  refine va_get (D := (dC, dI)) (ci := 2) (v := .ref h2) (C := RX0) (T := TX0) (N := 4) hx hb hts in_X0 hown hK hP 0 rfl rfl 3 (by decide) (hts _ q_31) (fun _ h9 => h9) rfl dX0_putInOrder_50 ?_
  have hM41 := k20_size l hl9 dC dI z h2 h4 H37.size 3 0
  obtain ⟨hF39, hC42⟩ := pc_M hM41 hP hD hK hS hX hT hA [7] [] rfl rfl rfl
  refine va_calli (va_runV (As := []) (rest := []) ⟨hx, hb, hml, hown, hts⟩ hM41 (cwV 0 hts (gV q_92 q_77 q_78 q_12 q_75) rfl rfl rfl hV_Jx4a65c_size_8abf5 ⟨Nat.le_of_ble_eq_true rfl, Nat.le_of_ble_eq_true rfl⟩) ⟨pc_blind, va_recv hK hP (ci := 0) (q := (RJx4a65c, TJx4a65c, 3)) (q0 := 7) rfl rfl, fun U hU hW => ⟨rfl, hC42 U hU hW⟩⟩ rfl rfl hl.1 rfl (lv_room (Nat.le_of_ble_eq_true rfl)) dX0_putInOrder_53 ⟨(Nat.le_of_ble_eq_true rfl), (Nat.le_of_ble_eq_true rfl)⟩) hS (fun q9 _ h9 => hF39 q9 h9) hF39 (fun r44 u43 t43 H43 L43 ht43 hvm43 hw43 hB43 hz43 hk43 hS => ?_)
  have hP := pq_keep hP hD [7] rfl hk43 hB43.1 ht43
  have hG : s.heap.size + 0 ≤ H43.size := Nat.le_trans hG hz43
  refine W.eq (g2 := F0 m 56 ls [.int 0]) (by rw [hw43]) ?_
  refine lv_aload_n hx hb dX0_putInOrder_56 rfl (lv_at hl 1 rfl) ?_
  refine va_get (D := (dC, dI)) (ci := 2) (v := .ref h1) (C := RX0) (T := TX0) (N := 4) hx hb hts in_X0 hown hK hP 0 rfl rfl 0 (by decide) (hts _ q_28) (fun _ h9 => h9) rfl dX0_putInOrder_57 ?_
  have hM47 := k20_size l hl9 dC dI z h1 h3 H43.size 2 2
  obtain ⟨hF45, hC48⟩ := pc_M hM47 hP hD hK hS hX hT hA [1] [] rfl rfl rfl
  refine va_calli (va_runV (As := []) (rest := [.int 0]) ⟨hx, hb, hml, hown, hts⟩ hM47 (cwV 0 hts (gV q_92 q_77 q_78 q_12 q_75) rfl rfl rfl hV_Jx4a65c_size_8abf5 ⟨Nat.le_of_ble_eq_true rfl, Nat.le_of_ble_eq_true rfl⟩) ⟨pc_blind, va_recv hK hP (ci := 0) (q := (RJx4a65c, TJx4a65c, 3)) (q0 := 1) rfl rfl, fun U hU hW => ⟨rfl, hC48 U hU hW⟩⟩ rfl rfl hl.1 rfl (lv_room (Nat.le_of_ble_eq_true rfl)) dX0_putInOrder_60 ⟨(Nat.le_of_ble_eq_true rfl), (Nat.le_of_ble_eq_true rfl)⟩) hS (fun q9 _ h9 => hF45 q9 h9) hF45 (fun r50 u49 t49 H49 L49 ht49 hvm49 hw49 hB49 hz49 hk49 hS => ?_)
  have hP := pq_keep hP hD [1] rfl hk49 hB49.1 ht49
  have hG : s.heap.size + 0 ≤ H49.size := Nat.le_trans hG hz49
  refine W.eq (g2 := F0 m 63 ls [.int 2, .int 0]) (by rw [hw49]) ?_
  refine lv_icmp_ge (tgt := 76) hx hb dX0_putInOrder_63 (by decide) (fun cz => absurd cz (by decide)) (fun _ => ?_)
  refine lv_aload_n hx hb dX0_putInOrder_66 rfl (lv_at hl 1 rfl) ?_
  have hM53 := k101_placeThoseReady l hl9 dC dI z h0 h1 h2 h3 h4 h5 h6 h7 h8 o0 o1 H49.size kc0 kc1
  obtain ⟨hF51, hC54⟩ := pc_M hM53 hP hD hK hS hX hT hA [0, 1, 7, 2, 8, 3, 4, 5, 6] [0, 1] rfl rfl rfl
  refine va_callv (va_runV (As := []) (rest := []) ⟨hx, hb, hml, hown, hts⟩ hM53 (cwV 0 hts (gV q_166 q_167 q_168 q_8 q_165) rfl rfl rfl hV_X0_placeThoseReady ⟨Nat.le_of_ble_eq_true rfl, Nat.le_of_ble_eq_true rfl⟩) ⟨pc_blind, va_recv hK hP (ci := 2) (q := (RX0, TX0, 4)) (q0 := 0) rfl rfl, fun U hU hW => ⟨rfl, hC54 U hU hW⟩⟩ rfl rfl hl.1 rfl (lv_room (Nat.le_of_ble_eq_true rfl)) dX0_putInOrder_67 ⟨(Nat.le_of_ble_eq_true rfl), (Nat.le_of_ble_eq_true rfl)⟩) hS (fun q9 _ h9 => hF51 q9 h9) hF51 (fun u55 t55 H55 L55 ht55 hvm55 hw55 hB55 hz55 hk55 hS => ?_)
  obtain ⟨hP, hD, hK⟩ := pq_jn (wz := [(h0, ce7 h1 o0 o1 h2), (h1, ce69 h3), (h2, ce79 h4), (h3, ce68 kc0 h5 h6), (h4, ce68 kc1 h5 h6), (h5, ce38 (z.2.1 0) h7 h5), (h6, ce77 (z.2.1 0) h8 h6), (h7, ce3 z.1), (h8, ce3 z.1)]) (tz := [(kc0, .object "java/lang/Object"), (kc1, .object "java/lang/Object")]) hP hD hK [0, 1, 7, 2, 8, 3, 4, 5, 6] [] rfl hk55 hF51 hB55.1 ht55 hvm55 rfl rfl
  have hG : s.heap.size + 0 ≤ H55.size := Nat.le_trans hG hz55
  refine lv_iinc (v := 1) (lv' := [(1, .int 1), (0, .ref h0)]) hx hb dX0_putInOrder_70 hl (k := 0) rfl (by decide) (by decide) rfl (fun ls hl => ?_)
  refine lv_goto (tgt := 43) hx hb dX0_putInOrder_73 (by decide) ?_
  refine lv_iload_n hx hb dX0_putInOrder_43 rfl (lv_at hl 0 rfl) ?_
  refine lv_bipush (v := 40) hx hb dX0_putInOrder_44 (by decide) ?_
  refine lv_icmp_ge (tgt := 76) hx hb dX0_putInOrder_46 (by decide) (fun cz => absurd cz (by decide)) (fun _ => ?_)
  refine lv_aload_n hx hb dX0_putInOrder_49 rfl (lv_at hl 1 rfl) ?_
  refine va_get (D := (dC, dI)) (ci := 2) (v := .ref h2) (C := RX0) (T := TX0) (N := 4) hx hb hts in_X0 hown hK hP 0 rfl rfl 3 (by decide) (hts _ q_31) (fun _ h9 => h9) rfl dX0_putInOrder_50 ?_
  have hM59 := k20_size l hl9 dC dI z h2 h4 H55.size 5 2
  obtain ⟨hF57, hC60⟩ := pc_M hM59 hP hD hK hS hX hT hA [2] [] rfl rfl rfl
  refine va_calli (va_runV (As := []) (rest := []) ⟨hx, hb, hml, hown, hts⟩ hM59 (cwV 0 hts (gV q_92 q_77 q_78 q_12 q_75) rfl rfl rfl hV_Jx4a65c_size_8abf5 ⟨Nat.le_of_ble_eq_true rfl, Nat.le_of_ble_eq_true rfl⟩) ⟨pc_blind, va_recv hK hP (ci := 0) (q := (RJx4a65c, TJx4a65c, 3)) (q0 := 2) rfl rfl, fun U hU hW => ⟨rfl, hC60 U hU hW⟩⟩ rfl rfl hl.1 rfl (lv_room (Nat.le_of_ble_eq_true rfl)) dX0_putInOrder_53 ⟨(Nat.le_of_ble_eq_true rfl), (Nat.le_of_ble_eq_true rfl)⟩) hS (fun q9 _ h9 => hF57 q9 h9) hF57 (fun r62 u61 t61 H61 L61 ht61 hvm61 hw61 hB61 hz61 hk61 hS => ?_)
  have hP := pq_keep hP hD [2] rfl hk61 hB61.1 ht61
  have hG : s.heap.size + 0 ≤ H61.size := Nat.le_trans hG hz61
  refine W.eq (g2 := F0 m 56 ls [.int 2]) (by rw [hw61]) ?_
  refine lv_aload_n hx hb dX0_putInOrder_56 rfl (lv_at hl 1 rfl) ?_
  refine va_get (D := (dC, dI)) (ci := 2) (v := .ref h1) (C := RX0) (T := TX0) (N := 4) hx hb hts in_X0 hown hK hP 0 rfl rfl 0 (by decide) (hts _ q_28) (fun _ h9 => h9) rfl dX0_putInOrder_57 ?_
  have hM65 := k20_size l hl9 dC dI z h1 h3 H61.size 2 2
  obtain ⟨hF63, hC66⟩ := pc_M hM65 hP hD hK hS hX hT hA [1] [] rfl rfl rfl
  refine va_calli (va_runV (As := []) (rest := [.int 2]) ⟨hx, hb, hml, hown, hts⟩ hM65 (cwV 0 hts (gV q_92 q_77 q_78 q_12 q_75) rfl rfl rfl hV_Jx4a65c_size_8abf5 ⟨Nat.le_of_ble_eq_true rfl, Nat.le_of_ble_eq_true rfl⟩) ⟨pc_blind, va_recv hK hP (ci := 0) (q := (RJx4a65c, TJx4a65c, 3)) (q0 := 1) rfl rfl, fun U hU hW => ⟨rfl, hC66 U hU hW⟩⟩ rfl rfl hl.1 rfl (lv_room (Nat.le_of_ble_eq_true rfl)) dX0_putInOrder_60 ⟨(Nat.le_of_ble_eq_true rfl), (Nat.le_of_ble_eq_true rfl)⟩) hS (fun q9 _ h9 => hF63 q9 h9) hF63 (fun r68 u67 t67 H67 L67 ht67 hvm67 hw67 hB67 hz67 hk67 hS => ?_)
  have hP := pq_keep hP hD [1] rfl hk67 hB67.1 ht67
  have hG : s.heap.size + 0 ≤ H67.size := Nat.le_trans hG hz67
  refine W.eq (g2 := F0 m 63 ls [.int 2, .int 2]) (by rw [hw67]) ?_
  refine lv_icmp_ge (tgt := 76) hx hb dX0_putInOrder_63 (by decide) (fun _ => ?_) (fun cz => absurd (by decide) cz)
  exact W.vret hx hb hr (fun t9 ht9 hW9 => ⟨⟨(), rfl, trivial, ⟨pq_mk2 hP hD hK [0, 1, 2, 3, 4, 5, 6, 7, 8] [0, 1] rfl rfl rfl ht9 hW9, by rw [ht9]; exact Nat.le_trans (Nat.add_le_add_left (Nat.le_of_ble_eq_true rfl) _) hG⟩⟩, hS.F ht9⟩) hS.2.2 dX0_putInOrder_76

set_option maxHeartbeats 4000000 in
set_option maxRecDepth 100000 in
theorem k103_countReaders (l : Launch) (hl9 : l.stackTraces = false) (dC : Nat → ClassId) (dI : Nat → Nat → Nat) (z : XZ) (h0 h1 h2 h3 h4 h5 : Nat) (o0 o1 o2 o3 : Nat) (sz : Nat) (kc0 : ClassId) : Met l yX0_countReaders (.code yX0_countReaders cX0_countReaders 3 none :: wsL_law) ({ frames := 3, cells := 0, slots := 0, locals := 64 }) (va_Pc [.ref h0] (PC (dC, dI) [(h0, ce7 h1 o0 h2 o1), (h1, ce69 h3), (h2, ce3 z.1), (h3, ce68 kc0 h4 h5), (h4, ce38 (z.2.1 0) o2 h4), (h5, ce77 (z.2.1 0) o3 h5)] [(kc0, .object "java/lang/Object")] sz z)) (va_Qv (fun (_ : Unit) => True) (fun (_ : Unit) (t : State) => PG (dC, dI) [(h0, ce7 h1 o0 h2 o1), (h1, ce69 h3), (h2, ce3 z.1), (h3, ce68 kc0 h4 h5), (h4, ce38 (z.2.1 0) o2 h4), (h5, ce77 (z.2.1 0) o3 h5)] [(kc0, .object "java/lang/Object")] (va_A [(h0, ce7 h1 o0 h2 o1), (h1, ce69 h3), (h2, ce3 z.1), (h3, ce68 kc0 h4 h5), (h4, ce38 (z.2.1 0) o2 h4), (h5, ce77 (z.2.1 0) o3 h5)] sz) sz 0 t) (va_A [(h0, ce7 h1 o0 h2 o1), (h1, ce69 h3), (h2, ce3 z.1), (h3, ce68 kc0 h4 h5), (h4, ce38 (z.2.1 0) o2 h4), (h5, ce77 (z.2.1 0) o3 h5)] sz)) 0 0 (va_A [(h0, ce7 h1 o0 h2 o1), (h1, ce69 h3), (h2, ce3 z.1), (h3, ce68 kc0 h4 h5), (h4, ce38 (z.2.1 0) o2 h4), (h5, ce77 (z.2.1 0) o3 h5)] sz) := by
  refine Met.ofW (cc := cX0_countReaders) (maxL := 3) (ret := none) (by decide) rfl ?_
  intro p e s m args below meth c s₁ B hml hv
  obtain ⟨rfl, hsz, hP, hK, hD0, hX, hT⟩ := hv
  have hx := B.exec
  have hb := B.bytes
  have hr := B.returns
  have hts0 := atoms_spec (ws := .code yX0_countReaders cX0_countReaders 3 none :: wsL_law) B.pre
  have hts := xTail hts0
  have hown : s.vm.findClass RX0 = some m.cls := xown B.named rfl
  have hlocks := B.notSynchronized
  subst hsz
  have hD := hD0.self (sz := s.heap.size)
  generalize hAe : va_A [(h0, ce7 h1 o0 h2 o1), (h1, ce69 h3), (h2, ce3 z.1), (h3, ce68 kc0 h4 h5), (h4, ce38 (z.2.1 0) o2 h4), (h5, ce77 (z.2.1 0) o3 h5)] s.heap.size = A at hD hX ⊢
  have hA : ∀ q : Nat, s.heap.size ≤ q → A q := fun q h => by rw [← hAe]; exact Or.inr h
  have hS : va_S A s.heap s.heap [] := va_S.rf
  have hG : s.heap.size + 0 ≤ s.heap.size := Nat.le_refl _
  have hl := lv_entry ([.ref h0]) (n := 3) (Nat.le_of_ble_eq_true rfl)
  rw [lg_entry_eq]
  generalize (lg_sl ([.ref h0]) ++ List.replicate (3 - (lg_sl ([.ref h0])).length) Slot.unset).toArray = ls at hl ⊢
  have hl : lv_has ls 3 [(0, .ref h0)] := hl
  refine lv_iconst (v := 0) hx hb dX0_countReaders_0 (by decide) ?_
  refine lv_istore_n (lv' := [(1, .int 0), (0, .ref h0)]) hx hb dX0_countReaders_1 rfl hl (by decide) rfl (fun ls hl => ?_)
  refine lv_iload_n hx hb dX0_countReaders_2 rfl (lv_at hl 0 rfl) ?_
  refine lv_aload_n hx hb dX0_countReaders_3 rfl (lv_at hl 1 rfl) ?_
  refine va_get (D := (dC, dI)) (ci := 2) (v := .ref h1) (C := RX0) (T := TX0) (N := 4) hx hb hts in_X0 hown hK hP 0 rfl rfl 0 (by decide) (hts _ q_28) (fun _ h9 => h9) rfl dX0_countReaders_4 ?_
  have hM3 := k20_size l hl9 dC dI z h1 h3 s.heap.size 2 2
  obtain ⟨hF1, hC4⟩ := pc_M hM3 hP hD hK hS hX hT hA [1] [] rfl rfl rfl
  refine va_calli (va_runV (As := []) (rest := [.int 0]) ⟨hx, hb, hml, hown, hts⟩ hM3 (cwV 0 hts (gV q_92 q_77 q_78 q_12 q_75) rfl rfl rfl hV_Jx4a65c_size_8abf5 ⟨Nat.le_of_ble_eq_true rfl, Nat.le_of_ble_eq_true rfl⟩) ⟨pc_blind, va_recv hK hP (ci := 0) (q := (RJx4a65c, TJx4a65c, 3)) (q0 := 1) rfl rfl, fun U hU hW => ⟨rfl, hC4 U hU hW⟩⟩ rfl rfl hl.1 rfl (lv_room (Nat.le_of_ble_eq_true rfl)) dX0_countReaders_7 ⟨(Nat.le_of_ble_eq_true rfl), (Nat.le_of_ble_eq_true rfl)⟩) hS (fun q9 _ h9 => hF1 q9 h9) hF1 (fun r6 u5 t5 H5 L5 ht5 hvm5 hw5 hB5 hz5 hk5 hS => ?_)
  have hP := pq_keep hP hD [1] rfl hk5 hB5.1 ht5
  have hG : s.heap.size + 0 ≤ H5.size := Nat.le_trans hG hz5
  refine W.eq (g2 := F0 m 10 ls [.int 2, .int 0]) (by rw [hw5]) ?_
  refine lv_icmp_ge (tgt := 34) hx hb dX0_countReaders_10 (by decide) (fun cz => absurd cz (by decide)) (fun _ => ?_)
  refine lv_aload_n hx hb dX0_countReaders_13 rfl (lv_at hl 1 rfl) ?_
  refine va_get (D := (dC, dI)) (ci := 2) (v := .ref h1) (C := RX0) (T := TX0) (N := 4) hx hb hts in_X0 hown hK hP 0 rfl rfl 0 (by decide) (hts _ q_28) (fun _ h9 => h9) rfl dX0_countReaders_14 ?_
  refine lv_iload_n hx hb dX0_countReaders_17 rfl (lv_at hl 0 rfl) ?_
  have hM9 := k91_get l hl9 dC dI z h1 h3 h4 h5 H5.size kc0
  obtain ⟨hF7, hC10⟩ := pc_M hM9 hP hD hK hS hX hT hA [1, 3] [0] rfl rfl rfl
  refine va_callr (va_runV (As := [.int 0]) (rest := []) ⟨hx, hb, hml, hown, hts⟩ hM9 (cwV 1 hts (gV q_156 q_157 q_158 q_12 q_155) rfl rfl rfl hV_Jx4a65c_get_915e3 ⟨Nat.le_of_ble_eq_true rfl, Nat.le_of_ble_eq_true rfl⟩) ⟨pc_blind, va_recv hK hP (ci := 0) (q := (RJx4a65c, TJx4a65c, 3)) (q0 := 1) rfl rfl, fun U hU hW => ⟨rfl, hC10 U hU hW⟩⟩ rfl rfl hl.1 rfl (lv_room (Nat.le_of_ble_eq_true rfl)) dX0_countReaders_18 ⟨(Nat.le_of_ble_eq_true rfl), (Nat.le_of_ble_eq_true rfl)⟩) hS (fun q9 _ h9 => hF7 q9 h9) hF7 (fun u11 r12 t11 H11 L11 ht11 hvm11 hw11 hB11 hz11 hk11 hS => ?_)
  obtain ⟨hr11, hB11⟩ := hB11
  have hP := pq_keep hP hD [1, 3] rfl hk11 hB11.1 ht11
  have hG : s.heap.size + 0 ≤ H11.size := Nat.le_trans hG hz11
  refine W.eq (g2 := F0 m 21 ls [.ref h4]) (by rw [hr11]) ?_
  refine va_castE (nm := RX2) hx hb hown (hts _ q_89) (va_recv hK hP (ci := 3) (q := (RX2, TX2, 19)) (q0 := 4) rfl rfl) dX0_countReaders_21 ?_
  refine lv_iconst (v := 0) hx hb dX0_countReaders_24 (by decide) ?_
  refine va_put (D := (dC, dI)) (ci := 3) (v := .int 0) (ty := .int) (C := RX2) (T := TX2) (N := 19) hx hb hts in_X2 tyX2 tyX2_ok nmX2 hown hK hP hD (va_Sre hS) 4 rfl rfl 13 (by decide) (hts _ q_173) (fun _ h9 => h9) rfl (by decide +kernel) rfl rfl (Nat.le_of_ble_eq_true rfl) dX0_countReaders_25 (fun H13 _ hP hD hS' => ?_)
  have hG : s.heap.size + 0 ≤ H13.size := Nat.le_trans hG hS'.1
  have hS := va_Str hS hS'
  have hP : va_P (dC, dI) xCl [(h0, ce7 h1 o0 h2 o1), (h1, ce69 h3), (h2, ce3 z.1), (h3, ce68 kc0 h4 h5), (h4, ce38 (z.2.1 0) o2 h4), (h5, ce77 (z.2.1 0) o3 h5)] H13 := hP
  have hD := vd_as hP hD rfl
  refine lv_iinc (v := 1) (lv' := [(1, .int 1), (0, .ref h0)]) hx hb dX0_countReaders_28 hl (k := 0) rfl (by decide) (by decide) rfl (fun ls hl => ?_)
  refine lv_goto (tgt := 2) hx hb dX0_countReaders_31 (by decide) ?_
  refine lv_iload_n hx hb dX0_countReaders_2 rfl (lv_at hl 0 rfl) ?_
  refine lv_aload_n hx hb dX0_countReaders_3 rfl (lv_at hl 1 rfl) ?_
  refine va_get (D := (dC, dI)) (ci := 2) (v := .ref h1) (C := RX0) (T := TX0) (N := 4) hx hb hts in_X0 hown hK hP 0 rfl rfl 0 (by decide) (hts _ q_28) (fun _ h9 => h9) rfl dX0_countReaders_4 ?_
  have hM16 := k20_size l hl9 dC dI z h1 h3 H13.size 2 2
  obtain ⟨hF14, hC17⟩ := pc_M hM16 hP hD hK hS hX hT hA [1] [] rfl rfl rfl
  refine va_calli (va_runV (As := []) (rest := [.int 1]) ⟨hx, hb, hml, hown, hts⟩ hM16 (cwV 0 hts (gV q_92 q_77 q_78 q_12 q_75) rfl rfl rfl hV_Jx4a65c_size_8abf5 ⟨Nat.le_of_ble_eq_true rfl, Nat.le_of_ble_eq_true rfl⟩) ⟨pc_blind, va_recv hK hP (ci := 0) (q := (RJx4a65c, TJx4a65c, 3)) (q0 := 1) rfl rfl, fun U hU hW => ⟨rfl, hC17 U hU hW⟩⟩ rfl rfl hl.1 rfl (lv_room (Nat.le_of_ble_eq_true rfl)) dX0_countReaders_7 ⟨(Nat.le_of_ble_eq_true rfl), (Nat.le_of_ble_eq_true rfl)⟩) hS (fun q9 _ h9 => hF14 q9 h9) hF14 (fun r19 u18 t18 H18 L18 ht18 hvm18 hw18 hB18 hz18 hk18 hS => ?_)
  have hP := pq_keep hP hD [1] rfl hk18 hB18.1 ht18
  have hG : s.heap.size + 0 ≤ H18.size := Nat.le_trans hG hz18
  refine W.eq (g2 := F0 m 10 ls [.int 2, .int 1]) (by rw [hw18]) ?_
  refine lv_icmp_ge (tgt := 34) hx hb dX0_countReaders_10 (by decide) (fun cz => absurd cz (by decide)) (fun _ => ?_)
  refine lv_aload_n hx hb dX0_countReaders_13 rfl (lv_at hl 1 rfl) ?_
  refine va_get (D := (dC, dI)) (ci := 2) (v := .ref h1) (C := RX0) (T := TX0) (N := 4) hx hb hts in_X0 hown hK hP 0 rfl rfl 0 (by decide) (hts _ q_28) (fun _ h9 => h9) rfl dX0_countReaders_14 ?_
  refine lv_iload_n hx hb dX0_countReaders_17 rfl (lv_at hl 0 rfl) ?_
  have hM22 := k95_get l hl9 dC dI z h1 h3 h4 h5 H18.size kc0
  obtain ⟨hF20, hC23⟩ := pc_M hM22 hP hD hK hS hX hT hA [1, 3] [0] rfl rfl rfl
  refine va_callr (va_runV (As := [.int 1]) (rest := []) ⟨hx, hb, hml, hown, hts⟩ hM22 (cwV 1 hts (gV q_156 q_157 q_158 q_12 q_155) rfl rfl rfl hV_Jx4a65c_get_915e3 ⟨Nat.le_of_ble_eq_true rfl, Nat.le_of_ble_eq_true rfl⟩) ⟨pc_blind, va_recv hK hP (ci := 0) (q := (RJx4a65c, TJx4a65c, 3)) (q0 := 1) rfl rfl, fun U hU hW => ⟨rfl, hC23 U hU hW⟩⟩ rfl rfl hl.1 rfl (lv_room (Nat.le_of_ble_eq_true rfl)) dX0_countReaders_18 ⟨(Nat.le_of_ble_eq_true rfl), (Nat.le_of_ble_eq_true rfl)⟩) hS (fun q9 _ h9 => hF20 q9 h9) hF20 (fun u24 r25 t24 H24 L24 ht24 hvm24 hw24 hB24 hz24 hk24 hS => ?_)
  obtain ⟨hr24, hB24⟩ := hB24
  have hP := pq_keep hP hD [1, 3] rfl hk24 hB24.1 ht24
  have hG : s.heap.size + 0 ≤ H24.size := Nat.le_trans hG hz24
  refine W.eq (g2 := F0 m 21 ls [.ref h5]) (by rw [hr24]) ?_
  refine va_castE (nm := RX2) hx hb hown (hts _ q_89) (va_recv hK hP (ci := 3) (q := (RX2, TX2, 19)) (q0 := 5) rfl rfl) dX0_countReaders_21 ?_
  refine lv_iconst (v := 0) hx hb dX0_countReaders_24 (by decide) ?_
  refine va_put (D := (dC, dI)) (ci := 3) (v := .int 0) (ty := .int) (C := RX2) (T := TX2) (N := 19) hx hb hts in_X2 tyX2 tyX2_ok nmX2 hown hK hP hD (va_Sre hS) 5 rfl rfl 13 (by decide) (hts _ q_173) (fun _ h9 => h9) rfl (by decide +kernel) rfl rfl (Nat.le_of_ble_eq_true rfl) dX0_countReaders_25 (fun H26 _ hP hD hS' => ?_)
  have hG : s.heap.size + 0 ≤ H26.size := Nat.le_trans hG hS'.1
  have hS := va_Str hS hS'
  have hP : va_P (dC, dI) xCl [(h0, ce7 h1 o0 h2 o1), (h1, ce69 h3), (h2, ce3 z.1), (h3, ce68 kc0 h4 h5), (h4, ce38 (z.2.1 0) o2 h4), (h5, ce77 (z.2.1 0) o3 h5)] H26 := hP
  have hD := vd_as hP hD rfl
  refine lv_iinc (v := 2) (lv' := [(1, .int 2), (0, .ref h0)]) hx hb dX0_countReaders_28 hl (k := 0) rfl (by decide) (by decide) rfl (fun ls hl => ?_)
  refine lv_goto (tgt := 2) hx hb dX0_countReaders_31 (by decide) ?_
  refine lv_iload_n hx hb dX0_countReaders_2 rfl (lv_at hl 0 rfl) ?_
  refine lv_aload_n hx hb dX0_countReaders_3 rfl (lv_at hl 1 rfl) ?_
  refine va_get (D := (dC, dI)) (ci := 2) (v := .ref h1) (C := RX0) (T := TX0) (N := 4) hx hb hts in_X0 hown hK hP 0 rfl rfl 0 (by decide) (hts _ q_28) (fun _ h9 => h9) rfl dX0_countReaders_4 ?_
  have hM29 := k20_size l hl9 dC dI z h1 h3 H26.size 2 2
  obtain ⟨hF27, hC30⟩ := pc_M hM29 hP hD hK hS hX hT hA [1] [] rfl rfl rfl
  refine va_calli (va_runV (As := []) (rest := [.int 2]) ⟨hx, hb, hml, hown, hts⟩ hM29 (cwV 0 hts (gV q_92 q_77 q_78 q_12 q_75) rfl rfl rfl hV_Jx4a65c_size_8abf5 ⟨Nat.le_of_ble_eq_true rfl, Nat.le_of_ble_eq_true rfl⟩) ⟨pc_blind, va_recv hK hP (ci := 0) (q := (RJx4a65c, TJx4a65c, 3)) (q0 := 1) rfl rfl, fun U hU hW => ⟨rfl, hC30 U hU hW⟩⟩ rfl rfl hl.1 rfl (lv_room (Nat.le_of_ble_eq_true rfl)) dX0_countReaders_7 ⟨(Nat.le_of_ble_eq_true rfl), (Nat.le_of_ble_eq_true rfl)⟩) hS (fun q9 _ h9 => hF27 q9 h9) hF27 (fun r32 u31 t31 H31 L31 ht31 hvm31 hw31 hB31 hz31 hk31 hS => ?_)
  have hP := pq_keep hP hD [1] rfl hk31 hB31.1 ht31
  have hG : s.heap.size + 0 ≤ H31.size := Nat.le_trans hG hz31
  refine W.eq (g2 := F0 m 10 ls [.int 2, .int 2]) (by rw [hw31]) ?_
  refine lv_icmp_ge (tgt := 34) hx hb dX0_countReaders_10 (by decide) (fun _ => ?_) (fun cz => absurd (by decide) cz)
  refine lv_iconst (v := 0) hx hb dX0_countReaders_34 (by decide) ?_
  refine lv_istore_n (lv' := [(1, .int 0), (0, .ref h0)]) hx hb dX0_countReaders_35 rfl hl (by decide) rfl (fun ls hl => ?_)
  refine lv_iload_n hx hb dX0_countReaders_36 rfl (lv_at hl 0 rfl) ?_
  refine lv_aload_n hx hb dX0_countReaders_37 rfl (lv_at hl 1 rfl) ?_
  refine va_get (D := (dC, dI)) (ci := 2) (v := .ref h2) (C := RX0) (T := TX0) (N := 4) hx hb hts in_X0 hown hK hP 0 rfl rfl 2 (by decide) (hts _ q_30) (fun _ h9 => h9) rfl dX0_countReaders_38 ?_
  have hM35 := k9_size l hl9 dC dI z h2 H31.size 0 0
  obtain ⟨hF33, hC36⟩ := pc_M hM35 hP hD hK hS hX hT hA [2] [] rfl rfl rfl
  refine va_calli (va_runV (As := []) (rest := [.int 0]) ⟨hx, hb, hml, hown, hts⟩ hM35 (cwV 0 hts (gV q_92 q_77 q_78 q_12 q_75) rfl rfl rfl hV_Jx4a65c_size_8abf5 ⟨Nat.le_of_ble_eq_true rfl, Nat.le_of_ble_eq_true rfl⟩) ⟨pc_blind, va_recv hK hP (ci := 0) (q := (RJx4a65c, TJx4a65c, 3)) (q0 := 2) rfl rfl, fun U hU hW => ⟨rfl, hC36 U hU hW⟩⟩ rfl rfl hl.1 rfl (lv_room (Nat.le_of_ble_eq_true rfl)) dX0_countReaders_41 ⟨(Nat.le_of_ble_eq_true rfl), (Nat.le_of_ble_eq_true rfl)⟩) hS (fun q9 _ h9 => hF33 q9 h9) hF33 (fun r38 u37 t37 H37 L37 ht37 hvm37 hw37 hB37 hz37 hk37 hS => ?_)
  have hP := pq_keep hP hD [2] rfl hk37 hB37.1 ht37
  have hG : s.heap.size + 0 ≤ H37.size := Nat.le_trans hG hz37
  refine W.eq (g2 := F0 m 44 ls [.int 0, .int 0]) (by rw [hw37]) ?_
  refine lv_icmp_ge (tgt := 102) hx hb dX0_countReaders_44 (by decide) (fun _ => ?_) (fun cz => absurd (by decide) cz)
  exact W.vret hx hb hr (fun t9 ht9 hW9 => ⟨⟨(), rfl, trivial, ⟨pq_mk2 hP hD hK [0, 1, 2, 3, 4, 5] [0] rfl rfl rfl ht9 hW9, by rw [ht9]; exact Nat.le_trans (Nat.add_le_add_left (Nat.le_of_ble_eq_true rfl) _) hG⟩⟩, hS.F ht9⟩) hS.2.2 dX0_countReaders_102

set_option maxHeartbeats 4000000 in
set_option maxRecDepth 100000 in
theorem k104_elementData (l : Launch) (hl9 : l.stackTraces = false) (dC : Nat → ClassId) (dI : Nat → Nat → Nat) (z : XZ) (h0 h1 : Nat) (o0 o1 : Nat) (sz : Nat) (kc0 : ClassId) : Met l yJx4a65c_elementData_915e3 (.code yJx4a65c_elementData_915e3 cJx4a65c_elementData_915e3 2 (some (.object "java/lang/Object")) :: wsL_law) ({ frames := 0, cells := 0, slots := 0, locals := 0 }) (va_Pc [.ref h0, .int 0] (PC (dC, dI) [(h0, ce79 h1), (h1, ce68 kc0 o0 o1)] [(kc0, .object "java/lang/Object")] sz z)) (va_Qr (fun (_ : Unit) => True) (fun (_ : Unit) (ra : Nat) (t : State) => ra = o0 ∧ PG (dC, dI) [(h0, ce79 h1), (h1, ce68 kc0 o0 o1)] [(kc0, .object "java/lang/Object")] (va_A [(h0, ce79 h1), (h1, ce68 kc0 o0 o1)] sz) sz 0 t) (va_A [(h0, ce79 h1), (h1, ce68 kc0 o0 o1)] sz)) 0 0 (va_A [(h0, ce79 h1), (h1, ce68 kc0 o0 o1)] sz) := by
  refine Met.ofW (cc := cJx4a65c_elementData_915e3) (maxL := 2) (ret := (some (.object "java/lang/Object"))) (by decide) rfl ?_
  intro p e s m args below meth c s₁ B hml hv
  obtain ⟨rfl, hsz, hP, hK, hD0, hX, hT⟩ := hv
  have hx := B.exec
  have hb := B.bytes
  have hr := B.returns
  have hts0 := atoms_spec (ws := .code yJx4a65c_elementData_915e3 cJx4a65c_elementData_915e3 2 (some (.object "java/lang/Object")) :: wsL_law) B.pre
  have hts := xTail hts0
  have hown : s.vm.findClass RJx4a65c = some m.cls := xown B.named rfl
  have hlocks := B.notSynchronized
  subst hsz
  have hD := hD0.self (sz := s.heap.size)
  generalize hAe : va_A [(h0, ce79 h1), (h1, ce68 kc0 o0 o1)] s.heap.size = A at hD hX ⊢
  have hA : ∀ q : Nat, s.heap.size ≤ q → A q := fun q h => by rw [← hAe]; exact Or.inr h
  have hS : va_S A s.heap s.heap [] := va_S.rf
  have hG : s.heap.size + 0 ≤ s.heap.size := Nat.le_refl _
  have hl := lv_entry ([.ref h0, .int 0]) (n := 2) (Nat.le_of_ble_eq_true rfl)
  rw [lg_entry_eq]
  generalize (lg_sl ([.ref h0, .int 0]) ++ List.replicate (2 - (lg_sl ([.ref h0, .int 0])).length) Slot.unset).toArray = ls at hl ⊢
  have hl : lv_has ls 2 [(0, .ref h0), (1, .int 0)] := hl
  refine lv_aload_n hx hb dJx4a65c_elementData_915e3_0 rfl (lv_at hl 0 rfl) ?_
  refine va_get (D := (dC, dI)) (ci := 0) (v := .ref h1) (C := RJx4a65c) (T := TJx4a65c) (N := 3) hx hb hts in_Jx4a65c hown hK hP 0 rfl rfl 1 (by decide) (hts _ q_24) (fun _ h9 => h9) rfl dJx4a65c_elementData_915e3_1 ?_
  refine lv_iload_n hx hb dJx4a65c_elementData_915e3_4 rfl (lv_at hl 1 rfl) ?_
  refine va_aldq hx hb hK hP 1 0 rfl rfl (i := 0) (by unfold vp_in; decide) dJx4a65c_elementData_915e3_5 ?_
  refine W.eq (g2 := F0 m 6 ls [.ref o0]) rfl ?_
  exact W.aret (v := .ref o0) hx hb hr (by first | exact Or.inl ⟨_, rfl⟩ | exact Or.inr ⟨_, rfl⟩) (Or.inr ⟨_, rfl⟩) (fun t9 ht9 hW9 => ⟨⟨(), o0, rfl, trivial, ⟨rfl, ⟨pq_mk2 hP hD hK [0, 1] [0] rfl rfl rfl ht9 hW9, by rw [ht9]; exact Nat.le_trans (Nat.add_le_add_left (Nat.le_of_ble_eq_true rfl) _) hG⟩⟩⟩, hS.F ht9⟩) hS.2.2 dJx4a65c_elementData_915e3_6

set_option maxHeartbeats 4000000 in
set_option maxRecDepth 100000 in
theorem k105_get (l : Launch) (hl9 : l.stackTraces = false) (dC : Nat → ClassId) (dI : Nat → Nat → Nat) (z : XZ) (h0 h1 : Nat) (o0 o1 : Nat) (sz : Nat) (kc0 : ClassId) : Met l yJx4a65c_get_915e3 (.code yJx4a65c_get_915e3 cJx4a65c_get_915e3 2 (some (.object "java/lang/Object")) :: wsL_law) ({ frames := 2, cells := 0, slots := 0, locals := 43 }) (va_Pc [.ref h0, .int 0] (PC (dC, dI) [(h0, ce79 h1), (h1, ce68 kc0 o0 o1)] [(kc0, .object "java/lang/Object")] sz z)) (va_Qr (fun (_ : Unit) => True) (fun (_ : Unit) (ra : Nat) (t : State) => ra = o0 ∧ PG (dC, dI) [(h0, ce79 h1), (h1, ce68 kc0 o0 o1)] [(kc0, .object "java/lang/Object")] (va_A [(h0, ce79 h1), (h1, ce68 kc0 o0 o1)] sz) sz 0 t) (va_A [(h0, ce79 h1), (h1, ce68 kc0 o0 o1)] sz)) 0 0 (va_A [(h0, ce79 h1), (h1, ce68 kc0 o0 o1)] sz) := by
  refine Met.ofW (cc := cJx4a65c_get_915e3) (maxL := 2) (ret := (some (.object "java/lang/Object"))) (by decide) rfl ?_
  intro p e s m args below meth c s₁ B hml hv
  obtain ⟨rfl, hsz, hP, hK, hD0, hX, hT⟩ := hv
  have hx := B.exec
  have hb := B.bytes
  have hr := B.returns
  have hts0 := atoms_spec (ws := .code yJx4a65c_get_915e3 cJx4a65c_get_915e3 2 (some (.object "java/lang/Object")) :: wsL_law) B.pre
  have hts := xTail hts0
  have hown : s.vm.findClass RJx4a65c = some m.cls := xown B.named rfl
  have hlocks := B.notSynchronized
  subst hsz
  have hD := hD0.self (sz := s.heap.size)
  generalize hAe : va_A [(h0, ce79 h1), (h1, ce68 kc0 o0 o1)] s.heap.size = A at hD hX ⊢
  have hA : ∀ q : Nat, s.heap.size ≤ q → A q := fun q h => by rw [← hAe]; exact Or.inr h
  have hS : va_S A s.heap s.heap [] := va_S.rf
  have hG : s.heap.size + 0 ≤ s.heap.size := Nat.le_refl _
  have hl := lv_entry ([.ref h0, .int 0]) (n := 2) (Nat.le_of_ble_eq_true rfl)
  rw [lg_entry_eq]
  generalize (lg_sl ([.ref h0, .int 0]) ++ List.replicate (2 - (lg_sl ([.ref h0, .int 0])).length) Slot.unset).toArray = ls at hl ⊢
  have hl : lv_has ls 2 [(0, .ref h0), (1, .int 0)] := hl
  refine lv_iload_n hx hb dJx4a65c_get_915e3_0 rfl (lv_at hl 1 rfl) ?_
  refine lv_aload_n hx hb dJx4a65c_get_915e3_1 rfl (lv_at hl 0 rfl) ?_
  refine va_get (D := (dC, dI)) (ci := 0) (v := .int 2) (C := RJx4a65c) (T := TJx4a65c) (N := 3) hx hb hts in_Jx4a65c hown hK hP 0 rfl rfl 2 (by decide) (hts _ q_74) (fun _ h9 => h9) rfl dJx4a65c_get_915e3_2 ?_
  have hM3 := k89_checkIndex l hl9 dC dI z s.heap.size
  obtain ⟨hF1, hC4⟩ := pc_M hM3 hP hD hK hS hX hT hA [] [] rfl rfl rfl
  refine va_calli (va_runS (As := [.int 0, .int 2]) (rest := []) ⟨hx, hb, hml, hown, hts⟩ hM3 (va_cwS 2 hts (gS q_148 q_149 q_150 q_147) rfl rfl rfl hS_J15_checkIndex_7cf53 ⟨Nat.le_of_ble_eq_true rfl, Nat.le_of_ble_eq_true rfl⟩) ⟨pc_blind, fun U hU hW => ⟨rfl, hC4 U hU hW⟩⟩ rfl rfl hl.1 rfl (lv_room (Nat.le_of_ble_eq_true rfl)) dJx4a65c_get_915e3_5 ⟨(Nat.le_of_ble_eq_true rfl), (Nat.le_of_ble_eq_true rfl)⟩) hS (fun q9 _ h9 => hF1 q9 h9) hF1 (fun r6 u5 t5 H5 L5 ht5 hvm5 hw5 hB5 hz5 hk5 hS => ?_)
  have hP := pq_keep hP hD [] rfl hk5 hB5.1 ht5
  have hG : s.heap.size + 0 ≤ H5.size := Nat.le_trans hG hz5
  refine W.eq (g2 := F0 m 8 ls [.int 0]) (by rw [hw5]) ?_
  refine lv_pop hx hb dJx4a65c_get_915e3_8 rfl ?_
  refine lv_aload_n hx hb dJx4a65c_get_915e3_9 rfl (lv_at hl 0 rfl) ?_
  refine lv_iload_n hx hb dJx4a65c_get_915e3_10 rfl (lv_at hl 1 rfl) ?_
  have hM9 := k104_elementData l hl9 dC dI z h0 h1 o0 o1 H5.size kc0
  obtain ⟨hF7, hC10⟩ := pc_M hM9 hP hD hK hS hX hT hA [0, 1] [0] rfl rfl rfl
  refine va_callr (va_runV (As := [.int 0]) (rest := []) ⟨hx, hb, hml, hown, hts⟩ hM9 (cwV 1 hts (gV q_152 q_153 q_154 q_12 q_151) rfl rfl rfl hV_Jx4a65c_elementData_915e3 ⟨Nat.le_of_ble_eq_true rfl, Nat.le_of_ble_eq_true rfl⟩) ⟨pc_blind, va_recv hK hP (ci := 0) (q := (RJx4a65c, TJx4a65c, 3)) (q0 := 0) rfl rfl, fun U hU hW => ⟨rfl, hC10 U hU hW⟩⟩ rfl rfl hl.1 rfl (lv_room (Nat.le_of_ble_eq_true rfl)) dJx4a65c_get_915e3_11 ⟨(Nat.le_of_ble_eq_true rfl), (Nat.le_of_ble_eq_true rfl)⟩) hS (fun q9 _ h9 => hF7 q9 h9) hF7 (fun u11 r12 t11 H11 L11 ht11 hvm11 hw11 hB11 hz11 hk11 hS => ?_)
  obtain ⟨hr11, hB11⟩ := hB11
  have hP := pq_keep hP hD [0, 1] rfl hk11 hB11.1 ht11
  have hG : s.heap.size + 0 ≤ H11.size := Nat.le_trans hG hz11
  refine W.eq (g2 := F0 m 14 ls [.ref o0]) (by rw [hr11]) ?_
  exact W.aret (v := .ref o0) hx hb hr (by first | exact Or.inl ⟨_, rfl⟩ | exact Or.inr ⟨_, rfl⟩) (Or.inr ⟨_, rfl⟩) (fun t9 ht9 hW9 => ⟨⟨(), o0, rfl, trivial, ⟨rfl, ⟨pq_mk2 hP hD hK [0, 1] [0] rfl rfl rfl ht9 hW9, by rw [ht9]; exact Nat.le_trans (Nat.add_le_add_left (Nat.le_of_ble_eq_true rfl) _) hG⟩⟩⟩, hS.F ht9⟩) hS.2.2 dJx4a65c_get_915e3_14

set_option maxHeartbeats 4000000 in
set_option maxRecDepth 100000 in
theorem k106_elementData (l : Launch) (hl9 : l.stackTraces = false) (dC : Nat → ClassId) (dI : Nat → Nat → Nat) (z : XZ) (h0 h1 : Nat) (o0 o1 : Nat) (sz : Nat) (kc0 : ClassId) : Met l yJx4a65c_elementData_915e3 (.code yJx4a65c_elementData_915e3 cJx4a65c_elementData_915e3 2 (some (.object "java/lang/Object")) :: wsL_law) ({ frames := 0, cells := 0, slots := 0, locals := 0 }) (va_Pc [.ref h0, .int 1] (PC (dC, dI) [(h0, ce79 h1), (h1, ce68 kc0 o0 o1)] [(kc0, .object "java/lang/Object")] sz z)) (va_Qr (fun (_ : Unit) => True) (fun (_ : Unit) (ra : Nat) (t : State) => ra = o1 ∧ PG (dC, dI) [(h0, ce79 h1), (h1, ce68 kc0 o0 o1)] [(kc0, .object "java/lang/Object")] (va_A [(h0, ce79 h1), (h1, ce68 kc0 o0 o1)] sz) sz 0 t) (va_A [(h0, ce79 h1), (h1, ce68 kc0 o0 o1)] sz)) 0 0 (va_A [(h0, ce79 h1), (h1, ce68 kc0 o0 o1)] sz) := by
  refine Met.ofW (cc := cJx4a65c_elementData_915e3) (maxL := 2) (ret := (some (.object "java/lang/Object"))) (by decide) rfl ?_
  intro p e s m args below meth c s₁ B hml hv
  obtain ⟨rfl, hsz, hP, hK, hD0, hX, hT⟩ := hv
  have hx := B.exec
  have hb := B.bytes
  have hr := B.returns
  have hts0 := atoms_spec (ws := .code yJx4a65c_elementData_915e3 cJx4a65c_elementData_915e3 2 (some (.object "java/lang/Object")) :: wsL_law) B.pre
  have hts := xTail hts0
  have hown : s.vm.findClass RJx4a65c = some m.cls := xown B.named rfl
  have hlocks := B.notSynchronized
  subst hsz
  have hD := hD0.self (sz := s.heap.size)
  generalize hAe : va_A [(h0, ce79 h1), (h1, ce68 kc0 o0 o1)] s.heap.size = A at hD hX ⊢
  have hA : ∀ q : Nat, s.heap.size ≤ q → A q := fun q h => by rw [← hAe]; exact Or.inr h
  have hS : va_S A s.heap s.heap [] := va_S.rf
  have hG : s.heap.size + 0 ≤ s.heap.size := Nat.le_refl _
  have hl := lv_entry ([.ref h0, .int 1]) (n := 2) (Nat.le_of_ble_eq_true rfl)
  rw [lg_entry_eq]
  generalize (lg_sl ([.ref h0, .int 1]) ++ List.replicate (2 - (lg_sl ([.ref h0, .int 1])).length) Slot.unset).toArray = ls at hl ⊢
  have hl : lv_has ls 2 [(0, .ref h0), (1, .int 1)] := hl
  refine lv_aload_n hx hb dJx4a65c_elementData_915e3_0 rfl (lv_at hl 0 rfl) ?_
  refine va_get (D := (dC, dI)) (ci := 0) (v := .ref h1) (C := RJx4a65c) (T := TJx4a65c) (N := 3) hx hb hts in_Jx4a65c hown hK hP 0 rfl rfl 1 (by decide) (hts _ q_24) (fun _ h9 => h9) rfl dJx4a65c_elementData_915e3_1 ?_
  refine lv_iload_n hx hb dJx4a65c_elementData_915e3_4 rfl (lv_at hl 1 rfl) ?_
  refine va_aldq hx hb hK hP 1 0 rfl rfl (i := 1) (by unfold vp_in; decide) dJx4a65c_elementData_915e3_5 ?_
  refine W.eq (g2 := F0 m 6 ls [.ref o1]) rfl ?_
  exact W.aret (v := .ref o1) hx hb hr (by first | exact Or.inl ⟨_, rfl⟩ | exact Or.inr ⟨_, rfl⟩) (Or.inr ⟨_, rfl⟩) (fun t9 ht9 hW9 => ⟨⟨(), o1, rfl, trivial, ⟨rfl, ⟨pq_mk2 hP hD hK [0, 1] [0] rfl rfl rfl ht9 hW9, by rw [ht9]; exact Nat.le_trans (Nat.add_le_add_left (Nat.le_of_ble_eq_true rfl) _) hG⟩⟩⟩, hS.F ht9⟩) hS.2.2 dJx4a65c_elementData_915e3_6

set_option maxHeartbeats 4000000 in
set_option maxRecDepth 100000 in
theorem k107_get (l : Launch) (hl9 : l.stackTraces = false) (dC : Nat → ClassId) (dI : Nat → Nat → Nat) (z : XZ) (h0 h1 : Nat) (o0 o1 : Nat) (sz : Nat) (kc0 : ClassId) : Met l yJx4a65c_get_915e3 (.code yJx4a65c_get_915e3 cJx4a65c_get_915e3 2 (some (.object "java/lang/Object")) :: wsL_law) ({ frames := 2, cells := 0, slots := 0, locals := 43 }) (va_Pc [.ref h0, .int 1] (PC (dC, dI) [(h0, ce79 h1), (h1, ce68 kc0 o0 o1)] [(kc0, .object "java/lang/Object")] sz z)) (va_Qr (fun (_ : Unit) => True) (fun (_ : Unit) (ra : Nat) (t : State) => ra = o1 ∧ PG (dC, dI) [(h0, ce79 h1), (h1, ce68 kc0 o0 o1)] [(kc0, .object "java/lang/Object")] (va_A [(h0, ce79 h1), (h1, ce68 kc0 o0 o1)] sz) sz 0 t) (va_A [(h0, ce79 h1), (h1, ce68 kc0 o0 o1)] sz)) 0 0 (va_A [(h0, ce79 h1), (h1, ce68 kc0 o0 o1)] sz) := by
  refine Met.ofW (cc := cJx4a65c_get_915e3) (maxL := 2) (ret := (some (.object "java/lang/Object"))) (by decide) rfl ?_
  intro p e s m args below meth c s₁ B hml hv
  obtain ⟨rfl, hsz, hP, hK, hD0, hX, hT⟩ := hv
  have hx := B.exec
  have hb := B.bytes
  have hr := B.returns
  have hts0 := atoms_spec (ws := .code yJx4a65c_get_915e3 cJx4a65c_get_915e3 2 (some (.object "java/lang/Object")) :: wsL_law) B.pre
  have hts := xTail hts0
  have hown : s.vm.findClass RJx4a65c = some m.cls := xown B.named rfl
  have hlocks := B.notSynchronized
  subst hsz
  have hD := hD0.self (sz := s.heap.size)
  generalize hAe : va_A [(h0, ce79 h1), (h1, ce68 kc0 o0 o1)] s.heap.size = A at hD hX ⊢
  have hA : ∀ q : Nat, s.heap.size ≤ q → A q := fun q h => by rw [← hAe]; exact Or.inr h
  have hS : va_S A s.heap s.heap [] := va_S.rf
  have hG : s.heap.size + 0 ≤ s.heap.size := Nat.le_refl _
  have hl := lv_entry ([.ref h0, .int 1]) (n := 2) (Nat.le_of_ble_eq_true rfl)
  rw [lg_entry_eq]
  generalize (lg_sl ([.ref h0, .int 1]) ++ List.replicate (2 - (lg_sl ([.ref h0, .int 1])).length) Slot.unset).toArray = ls at hl ⊢
  have hl : lv_has ls 2 [(0, .ref h0), (1, .int 1)] := hl
  refine lv_iload_n hx hb dJx4a65c_get_915e3_0 rfl (lv_at hl 1 rfl) ?_
  refine lv_aload_n hx hb dJx4a65c_get_915e3_1 rfl (lv_at hl 0 rfl) ?_
  refine va_get (D := (dC, dI)) (ci := 0) (v := .int 2) (C := RJx4a65c) (T := TJx4a65c) (N := 3) hx hb hts in_Jx4a65c hown hK hP 0 rfl rfl 2 (by decide) (hts _ q_74) (fun _ h9 => h9) rfl dJx4a65c_get_915e3_2 ?_
  have hM3 := k93_checkIndex l hl9 dC dI z s.heap.size
  obtain ⟨hF1, hC4⟩ := pc_M hM3 hP hD hK hS hX hT hA [] [] rfl rfl rfl
  refine va_calli (va_runS (As := [.int 1, .int 2]) (rest := []) ⟨hx, hb, hml, hown, hts⟩ hM3 (va_cwS 2 hts (gS q_148 q_149 q_150 q_147) rfl rfl rfl hS_J15_checkIndex_7cf53 ⟨Nat.le_of_ble_eq_true rfl, Nat.le_of_ble_eq_true rfl⟩) ⟨pc_blind, fun U hU hW => ⟨rfl, hC4 U hU hW⟩⟩ rfl rfl hl.1 rfl (lv_room (Nat.le_of_ble_eq_true rfl)) dJx4a65c_get_915e3_5 ⟨(Nat.le_of_ble_eq_true rfl), (Nat.le_of_ble_eq_true rfl)⟩) hS (fun q9 _ h9 => hF1 q9 h9) hF1 (fun r6 u5 t5 H5 L5 ht5 hvm5 hw5 hB5 hz5 hk5 hS => ?_)
  have hP := pq_keep hP hD [] rfl hk5 hB5.1 ht5
  have hG : s.heap.size + 0 ≤ H5.size := Nat.le_trans hG hz5
  refine W.eq (g2 := F0 m 8 ls [.int 1]) (by rw [hw5]) ?_
  refine lv_pop hx hb dJx4a65c_get_915e3_8 rfl ?_
  refine lv_aload_n hx hb dJx4a65c_get_915e3_9 rfl (lv_at hl 0 rfl) ?_
  refine lv_iload_n hx hb dJx4a65c_get_915e3_10 rfl (lv_at hl 1 rfl) ?_
  have hM9 := k106_elementData l hl9 dC dI z h0 h1 o0 o1 H5.size kc0
  obtain ⟨hF7, hC10⟩ := pc_M hM9 hP hD hK hS hX hT hA [0, 1] [0] rfl rfl rfl
  refine va_callr (va_runV (As := [.int 1]) (rest := []) ⟨hx, hb, hml, hown, hts⟩ hM9 (cwV 1 hts (gV q_152 q_153 q_154 q_12 q_151) rfl rfl rfl hV_Jx4a65c_elementData_915e3 ⟨Nat.le_of_ble_eq_true rfl, Nat.le_of_ble_eq_true rfl⟩) ⟨pc_blind, va_recv hK hP (ci := 0) (q := (RJx4a65c, TJx4a65c, 3)) (q0 := 0) rfl rfl, fun U hU hW => ⟨rfl, hC10 U hU hW⟩⟩ rfl rfl hl.1 rfl (lv_room (Nat.le_of_ble_eq_true rfl)) dJx4a65c_get_915e3_11 ⟨(Nat.le_of_ble_eq_true rfl), (Nat.le_of_ble_eq_true rfl)⟩) hS (fun q9 _ h9 => hF7 q9 h9) hF7 (fun u11 r12 t11 H11 L11 ht11 hvm11 hw11 hB11 hz11 hk11 hS => ?_)
  obtain ⟨hr11, hB11⟩ := hB11
  have hP := pq_keep hP hD [0, 1] rfl hk11 hB11.1 ht11
  have hG : s.heap.size + 0 ≤ H11.size := Nat.le_trans hG hz11
  refine W.eq (g2 := F0 m 14 ls [.ref o1]) (by rw [hr11]) ?_
  exact W.aret (v := .ref o1) hx hb hr (by first | exact Or.inl ⟨_, rfl⟩ | exact Or.inr ⟨_, rfl⟩) (Or.inr ⟨_, rfl⟩) (fun t9 ht9 hW9 => ⟨⟨(), o1, rfl, trivial, ⟨rfl, ⟨pq_mk2 hP hD hK [0, 1] [0] rfl rfl rfl ht9 hW9, by rw [ht9]; exact Nat.le_trans (Nat.add_le_add_left (Nat.le_of_ble_eq_true rfl) _) hG⟩⟩⟩, hS.F ht9⟩) hS.2.2 dJx4a65c_get_915e3_14

set_option maxHeartbeats 4000000 in
set_option maxRecDepth 100000 in
theorem k108_latestArrival (l : Launch) (hl9 : l.stackTraces = false) (dC : Nat → ClassId) (dI : Nat → Nat → Nat) (z : XZ) (h0 h1 : Nat) (sz : Nat) : Met l yX2_latestArrival (.code yX2_latestArrival cX2_latestArrival 4 (some .int) :: wsL_law) ({ frames := 1, cells := 0, slots := 0, locals := 20 }) (va_Pc [.ref h0] (PC (dC, dI) [(h0, ce77 (z.2.1 0) h1 h0), (h1, ce3 z.1)] [] sz z)) (va_Qi (fun (r : Int32) (_ : Unit) => r = 0) (fun (_ : Unit) (t : State) => PG (dC, dI) [(h0, ce77 (z.2.1 0) h1 h0), (h1, ce3 z.1)] [] (va_A [(h0, ce77 (z.2.1 0) h1 h0), (h1, ce3 z.1)] sz) sz 0 t) (va_A [(h0, ce77 (z.2.1 0) h1 h0), (h1, ce3 z.1)] sz)) 0 0 (va_A [(h0, ce77 (z.2.1 0) h1 h0), (h1, ce3 z.1)] sz) := by
  refine Met.ofW (cc := cX2_latestArrival) (maxL := 4) (ret := (some .int)) (by decide) rfl ?_
  intro p e s m args below meth c s₁ B hml hv
  obtain ⟨rfl, hsz, hP, hK, hD0, hX, hT⟩ := hv
  have hx := B.exec
  have hb := B.bytes
  have hr := B.returns
  have hts0 := atoms_spec (ws := .code yX2_latestArrival cX2_latestArrival 4 (some .int) :: wsL_law) B.pre
  have hts := xTail hts0
  have hown : s.vm.findClass RX2 = some m.cls := xown B.named rfl
  have hlocks := B.notSynchronized
  subst hsz
  have hD := hD0.self (sz := s.heap.size)
  generalize hAe : va_A [(h0, ce77 (z.2.1 0) h1 h0), (h1, ce3 z.1)] s.heap.size = A at hD hX ⊢
  have hA : ∀ q : Nat, s.heap.size ≤ q → A q := fun q h => by rw [← hAe]; exact Or.inr h
  have hS : va_S A s.heap s.heap [] := va_S.rf
  have hG : s.heap.size + 0 ≤ s.heap.size := Nat.le_refl _
  have hl := lv_entry ([.ref h0]) (n := 4) (Nat.le_of_ble_eq_true rfl)
  rw [lg_entry_eq]
  generalize (lg_sl ([.ref h0]) ++ List.replicate (4 - (lg_sl ([.ref h0])).length) Slot.unset).toArray = ls at hl ⊢
  have hl : lv_has ls 4 [(0, .ref h0)] := hl
  refine lv_iconst (v := 0) hx hb dX2_latestArrival_0 (by decide) ?_
  refine lv_istore_n (lv' := [(1, .int 0), (0, .ref h0)]) hx hb dX2_latestArrival_1 rfl hl (by decide) rfl (fun ls hl => ?_)
  refine lv_iconst (v := 0) hx hb dX2_latestArrival_2 (by decide) ?_
  refine lv_istore_n (lv' := [(2, .int 0), (1, .int 0), (0, .ref h0)]) hx hb dX2_latestArrival_3 rfl hl (by decide) rfl (fun ls hl => ?_)
  refine lv_iload_n hx hb dX2_latestArrival_4 rfl (lv_at hl 0 rfl) ?_
  refine lv_aload_n hx hb dX2_latestArrival_5 rfl (lv_at hl 2 rfl) ?_
  refine va_get (D := (dC, dI)) (ci := 3) (v := .ref h1) (C := RX2) (T := TX2) (N := 19) hx hb hts in_X2 hown hK hP 0 rfl rfl 2 (by decide) (hts _ q_96) (fun _ h9 => h9) rfl dX2_latestArrival_6 ?_
  have hM3 := k9_size l hl9 dC dI z h1 s.heap.size 0 0
  obtain ⟨hF1, hC4⟩ := pc_M hM3 hP hD hK hS hX hT hA [1] [] rfl rfl rfl
  refine va_calli (va_runV (As := []) (rest := [.int 0]) ⟨hx, hb, hml, hown, hts⟩ hM3 (cwV 0 hts (gV q_160 q_77 q_78 q_12 q_75) rfl rfl rfl hV_Jx4a65c_size_8abf5 ⟨Nat.le_of_ble_eq_true rfl, Nat.le_of_ble_eq_true rfl⟩) ⟨pc_blind, va_recv hK hP (ci := 0) (q := (RJx4a65c, TJx4a65c, 3)) (q0 := 1) rfl rfl, fun U hU hW => ⟨rfl, hC4 U hU hW⟩⟩ rfl rfl hl.1 rfl (lv_room (Nat.le_of_ble_eq_true rfl)) dX2_latestArrival_9 ⟨(Nat.le_of_ble_eq_true rfl), (Nat.le_of_ble_eq_true rfl)⟩) hS (fun q9 _ h9 => hF1 q9 h9) hF1 (fun r6 u5 t5 H5 L5 ht5 hvm5 hw5 hB5 hz5 hk5 hS => ?_)
  have hP := pq_keep hP hD [1] rfl hk5 hB5.1 ht5
  have hG : s.heap.size + 0 ≤ H5.size := Nat.le_trans hG hz5
  refine W.eq (g2 := F0 m 12 ls [.int 0, .int 0]) (by rw [hw5]) ?_
  refine lv_icmp_ge (tgt := 60) hx hb dX2_latestArrival_12 (by decide) (fun _ => ?_) (fun cz => absurd (by decide) cz)
  refine lv_iload_n hx hb dX2_latestArrival_60 rfl (lv_at hl 1 rfl) ?_
  exact W.iret (v := 0) hx hb hr (fun t9 ht9 hW9 => ⟨⟨0, (), rfl, rfl, ⟨pq_mk2 hP hD hK [0, 1] [] rfl rfl rfl ht9 hW9, by rw [ht9]; exact Nat.le_trans (Nat.add_le_add_left (Nat.le_of_ble_eq_true rfl) _) hG⟩⟩, hS.F ht9⟩) hS.2.2 dX2_latestArrival_61

set_option maxHeartbeats 4000000 in
set_option maxRecDepth 100000 in
theorem k109_lengthenWaysOfRead (l : Launch) (hl9 : l.stackTraces = false) (dC : Nat → ClassId) (dI : Nat → Nat → Nat) (z : XZ) (h0 h1 : Nat) (sz : Nat) : Met l yX2_lengthenWaysOfRead (.code yX2_lengthenWaysOfRead cX2_lengthenWaysOfRead 4 none :: wsL_law) ({ frames := 1, cells := 0, slots := 0, locals := 20 }) (va_Pc [.ref h0] (PC (dC, dI) [(h0, ce77 (z.2.1 0) h1 h0), (h1, ce3 z.1)] [] sz z)) (va_Qv (fun (_ : Unit) => True) (fun (_ : Unit) (t : State) => PG (dC, dI) [(h0, ce77 (z.2.1 0) h1 h0), (h1, ce3 z.1)] [] (va_A [(h0, ce77 (z.2.1 0) h1 h0), (h1, ce3 z.1)] sz) sz 0 t) (va_A [(h0, ce77 (z.2.1 0) h1 h0), (h1, ce3 z.1)] sz)) 0 0 (va_A [(h0, ce77 (z.2.1 0) h1 h0), (h1, ce3 z.1)] sz) := by
  refine Met.ofW (cc := cX2_lengthenWaysOfRead) (maxL := 4) (ret := none) (by decide) rfl ?_
  intro p e s m args below meth c s₁ B hml hv
  obtain ⟨rfl, hsz, hP, hK, hD0, hX, hT⟩ := hv
  have hx := B.exec
  have hb := B.bytes
  have hr := B.returns
  have hts0 := atoms_spec (ws := .code yX2_lengthenWaysOfRead cX2_lengthenWaysOfRead 4 none :: wsL_law) B.pre
  have hts := xTail hts0
  have hown : s.vm.findClass RX2 = some m.cls := xown B.named rfl
  have hlocks := B.notSynchronized
  subst hsz
  have hD := hD0.self (sz := s.heap.size)
  generalize hAe : va_A [(h0, ce77 (z.2.1 0) h1 h0), (h1, ce3 z.1)] s.heap.size = A at hD hX ⊢
  have hA : ∀ q : Nat, s.heap.size ≤ q → A q := fun q h => by rw [← hAe]; exact Or.inr h
  have hS : va_S A s.heap s.heap [] := va_S.rf
  have hG : s.heap.size + 0 ≤ s.heap.size := Nat.le_refl _
  have hl := lv_entry ([.ref h0]) (n := 4) (Nat.le_of_ble_eq_true rfl)
  rw [lg_entry_eq]
  generalize (lg_sl ([.ref h0]) ++ List.replicate (4 - (lg_sl ([.ref h0])).length) Slot.unset).toArray = ls at hl ⊢
  have hl : lv_has ls 4 [(0, .ref h0)] := hl
  refine lv_iconst (v := 0) hx hb dX2_lengthenWaysOfRead_0 (by decide) ?_
  refine lv_istore_n (lv' := [(1, .int 0), (0, .ref h0)]) hx hb dX2_lengthenWaysOfRead_1 rfl hl (by decide) rfl (fun ls hl => ?_)
  refine lv_iload_n hx hb dX2_lengthenWaysOfRead_2 rfl (lv_at hl 0 rfl) ?_
  refine lv_aload_n hx hb dX2_lengthenWaysOfRead_3 rfl (lv_at hl 1 rfl) ?_
  refine va_get (D := (dC, dI)) (ci := 3) (v := .ref h1) (C := RX2) (T := TX2) (N := 19) hx hb hts in_X2 hown hK hP 0 rfl rfl 2 (by decide) (hts _ q_96) (fun _ h9 => h9) rfl dX2_lengthenWaysOfRead_4 ?_
  have hM3 := k9_size l hl9 dC dI z h1 s.heap.size 0 0
  obtain ⟨hF1, hC4⟩ := pc_M hM3 hP hD hK hS hX hT hA [1] [] rfl rfl rfl
  refine va_calli (va_runV (As := []) (rest := [.int 0]) ⟨hx, hb, hml, hown, hts⟩ hM3 (cwV 0 hts (gV q_160 q_77 q_78 q_12 q_75) rfl rfl rfl hV_Jx4a65c_size_8abf5 ⟨Nat.le_of_ble_eq_true rfl, Nat.le_of_ble_eq_true rfl⟩) ⟨pc_blind, va_recv hK hP (ci := 0) (q := (RJx4a65c, TJx4a65c, 3)) (q0 := 1) rfl rfl, fun U hU hW => ⟨rfl, hC4 U hU hW⟩⟩ rfl rfl hl.1 rfl (lv_room (Nat.le_of_ble_eq_true rfl)) dX2_lengthenWaysOfRead_7 ⟨(Nat.le_of_ble_eq_true rfl), (Nat.le_of_ble_eq_true rfl)⟩) hS (fun q9 _ h9 => hF1 q9 h9) hF1 (fun r6 u5 t5 H5 L5 ht5 hvm5 hw5 hB5 hz5 hk5 hS => ?_)
  have hP := pq_keep hP hD [1] rfl hk5 hB5.1 ht5
  have hG : s.heap.size + 0 ≤ H5.size := Nat.le_trans hG hz5
  refine W.eq (g2 := F0 m 10 ls [.int 0, .int 0]) (by rw [hw5]) ?_
  refine lv_icmp_ge (tgt := 77) hx hb dX2_lengthenWaysOfRead_10 (by decide) (fun _ => ?_) (fun cz => absurd (by decide) cz)
  exact W.vret hx hb hr (fun t9 ht9 hW9 => ⟨⟨(), rfl, trivial, ⟨pq_mk2 hP hD hK [0, 1] [] rfl rfl rfl ht9 hW9, by rw [ht9]; exact Nat.le_trans (Nat.add_le_add_left (Nat.le_of_ble_eq_true rfl) _) hG⟩⟩, hS.F ht9⟩) hS.2.2 dX2_lengthenWaysOfRead_77

set_option maxHeartbeats 4000000 in
set_option maxRecDepth 100000 in
theorem k110_reckonDelays (l : Launch) (hl9 : l.stackTraces = false) (dC : Nat → ClassId) (dI : Nat → Nat → Nat) (z : XZ) (h0 h1 h2 h3 h4 h5 h6 : Nat) (o0 o1 o2 : Nat) (sz : Nat) (kc0 : ClassId) : Met l yX0_reckonDelays (.code yX0_reckonDelays cX0_reckonDelays 3 none :: wsL_law) ({ frames := 3, cells := 0, slots := 0, locals := 64 }) (va_Pc [.ref h0] (PC (dC, dI) [(h0, ce7 o0 o1 o2 h1), (h1, ce79 h2), (h2, ce68 kc0 h3 h4), (h3, ce38 (z.2.1 0) h5 h3), (h4, ce77 (z.2.1 0) h6 h4), (h5, ce3 z.1), (h6, ce3 z.1)] [(kc0, .object "java/lang/Object")] sz z)) (va_Qv (fun (_ : Unit) => True) (fun (_ : Unit) (t : State) => PG (dC, dI) [(h0, ce7 o0 o1 o2 h1), (h1, ce79 h2), (h2, ce68 kc0 h3 h4), (h3, ce38 (z.2.1 0) h5 h3), (h4, ce77 (z.2.1 0) h6 h4), (h5, ce3 z.1), (h6, ce3 z.1)] [(kc0, .object "java/lang/Object")] (va_A [(h0, ce7 o0 o1 o2 h1), (h1, ce79 h2), (h2, ce68 kc0 h3 h4), (h3, ce38 (z.2.1 0) h5 h3), (h4, ce77 (z.2.1 0) h6 h4), (h5, ce3 z.1), (h6, ce3 z.1)] sz) sz 0 t) (va_A [(h0, ce7 o0 o1 o2 h1), (h1, ce79 h2), (h2, ce68 kc0 h3 h4), (h3, ce38 (z.2.1 0) h5 h3), (h4, ce77 (z.2.1 0) h6 h4), (h5, ce3 z.1), (h6, ce3 z.1)] sz)) 0 0 (va_A [(h0, ce7 o0 o1 o2 h1), (h1, ce79 h2), (h2, ce68 kc0 h3 h4), (h3, ce38 (z.2.1 0) h5 h3), (h4, ce77 (z.2.1 0) h6 h4), (h5, ce3 z.1), (h6, ce3 z.1)] sz) := by
  refine Met.ofW (cc := cX0_reckonDelays) (maxL := 3) (ret := none) (by decide) rfl ?_
  intro p e s m args below meth c s₁ B hml hv
  obtain ⟨rfl, hsz, hP, hK, hD0, hX, hT⟩ := hv
  have hx := B.exec
  have hb := B.bytes
  have hr := B.returns
  have hts0 := atoms_spec (ws := .code yX0_reckonDelays cX0_reckonDelays 3 none :: wsL_law) B.pre
  have hts := xTail hts0
  have hown : s.vm.findClass RX0 = some m.cls := xown B.named rfl
  have hlocks := B.notSynchronized
  subst hsz
  have hD := hD0.self (sz := s.heap.size)
  generalize hAe : va_A [(h0, ce7 o0 o1 o2 h1), (h1, ce79 h2), (h2, ce68 kc0 h3 h4), (h3, ce38 (z.2.1 0) h5 h3), (h4, ce77 (z.2.1 0) h6 h4), (h5, ce3 z.1), (h6, ce3 z.1)] s.heap.size = A at hD hX ⊢
  have hA : ∀ q : Nat, s.heap.size ≤ q → A q := fun q h => by rw [← hAe]; exact Or.inr h
  have hS : va_S A s.heap s.heap [] := va_S.rf
  have hG : s.heap.size + 0 ≤ s.heap.size := Nat.le_refl _
  have hl := lv_entry ([.ref h0]) (n := 3) (Nat.le_of_ble_eq_true rfl)
  rw [lg_entry_eq]
  generalize (lg_sl ([.ref h0]) ++ List.replicate (3 - (lg_sl ([.ref h0])).length) Slot.unset).toArray = ls at hl ⊢
  have hl : lv_has ls 3 [(0, .ref h0)] := hl
  refine lv_iconst (v := 0) hx hb dX0_reckonDelays_0 (by decide) ?_
  refine lv_istore_n (lv' := [(1, .int 0), (0, .ref h0)]) hx hb dX0_reckonDelays_1 rfl hl (by decide) rfl (fun ls hl => ?_)
  refine lv_iload_n hx hb dX0_reckonDelays_2 rfl (lv_at hl 0 rfl) ?_
  refine lv_aload_n hx hb dX0_reckonDelays_3 rfl (lv_at hl 1 rfl) ?_
  refine va_get (D := (dC, dI)) (ci := 2) (v := .ref h1) (C := RX0) (T := TX0) (N := 4) hx hb hts in_X0 hown hK hP 0 rfl rfl 3 (by decide) (hts _ q_31) (fun _ h9 => h9) rfl dX0_reckonDelays_4 ?_
  have hM3 := k20_size l hl9 dC dI z h1 h2 s.heap.size 5 2
  obtain ⟨hF1, hC4⟩ := pc_M hM3 hP hD hK hS hX hT hA [1] [] rfl rfl rfl
  refine va_calli (va_runV (As := []) (rest := [.int 0]) ⟨hx, hb, hml, hown, hts⟩ hM3 (cwV 0 hts (gV q_92 q_77 q_78 q_12 q_75) rfl rfl rfl hV_Jx4a65c_size_8abf5 ⟨Nat.le_of_ble_eq_true rfl, Nat.le_of_ble_eq_true rfl⟩) ⟨pc_blind, va_recv hK hP (ci := 0) (q := (RJx4a65c, TJx4a65c, 3)) (q0 := 1) rfl rfl, fun U hU hW => ⟨rfl, hC4 U hU hW⟩⟩ rfl rfl hl.1 rfl (lv_room (Nat.le_of_ble_eq_true rfl)) dX0_reckonDelays_7 ⟨(Nat.le_of_ble_eq_true rfl), (Nat.le_of_ble_eq_true rfl)⟩) hS (fun q9 _ h9 => hF1 q9 h9) hF1 (fun r6 u5 t5 H5 L5 ht5 hvm5 hw5 hB5 hz5 hk5 hS => ?_)
  have hP := pq_keep hP hD [1] rfl hk5 hB5.1 ht5
  have hG : s.heap.size + 0 ≤ H5.size := Nat.le_trans hG hz5
  refine W.eq (g2 := F0 m 10 ls [.int 2, .int 0]) (by rw [hw5]) ?_
  refine lv_icmp_ge (tgt := 44) hx hb dX0_reckonDelays_10 (by decide) (fun cz => absurd cz (by decide)) (fun _ => ?_)
  refine lv_aload_n hx hb dX0_reckonDelays_13 rfl (lv_at hl 1 rfl) ?_
  refine va_get (D := (dC, dI)) (ci := 2) (v := .ref h1) (C := RX0) (T := TX0) (N := 4) hx hb hts in_X0 hown hK hP 0 rfl rfl 3 (by decide) (hts _ q_31) (fun _ h9 => h9) rfl dX0_reckonDelays_14 ?_
  refine lv_iload_n hx hb dX0_reckonDelays_17 rfl (lv_at hl 0 rfl) ?_
  have hM9 := k105_get l hl9 dC dI z h1 h2 h3 h4 H5.size kc0
  obtain ⟨hF7, hC10⟩ := pc_M hM9 hP hD hK hS hX hT hA [1, 2] [0] rfl rfl rfl
  refine va_callr (va_runV (As := [.int 0]) (rest := []) ⟨hx, hb, hml, hown, hts⟩ hM9 (cwV 1 hts (gV q_156 q_157 q_158 q_12 q_155) rfl rfl rfl hV_Jx4a65c_get_915e3 ⟨Nat.le_of_ble_eq_true rfl, Nat.le_of_ble_eq_true rfl⟩) ⟨pc_blind, va_recv hK hP (ci := 0) (q := (RJx4a65c, TJx4a65c, 3)) (q0 := 1) rfl rfl, fun U hU hW => ⟨rfl, hC10 U hU hW⟩⟩ rfl rfl hl.1 rfl (lv_room (Nat.le_of_ble_eq_true rfl)) dX0_reckonDelays_18 ⟨(Nat.le_of_ble_eq_true rfl), (Nat.le_of_ble_eq_true rfl)⟩) hS (fun q9 _ h9 => hF7 q9 h9) hF7 (fun u11 r12 t11 H11 L11 ht11 hvm11 hw11 hB11 hz11 hk11 hS => ?_)
  obtain ⟨hr11, hB11⟩ := hB11
  have hP := pq_keep hP hD [1, 2] rfl hk11 hB11.1 ht11
  have hG : s.heap.size + 0 ≤ H11.size := Nat.le_trans hG hz11
  refine W.eq (g2 := F0 m 21 ls [.ref h3]) (by rw [hr11]) ?_
  refine va_castE (nm := RX2) hx hb hown (hts _ q_89) (va_recv hK hP (ci := 3) (q := (RX2, TX2, 19)) (q0 := 3) rfl rfl) dX0_reckonDelays_21 ?_
  refine lv_astore_n (lv' := [(2, .ref h3), (1, .int 0), (0, .ref h0)]) hx hb dX0_reckonDelays_24 rfl hl (by decide) rfl (fun ls hl => ?_)
  refine lv_aload_n hx hb dX0_reckonDelays_25 rfl (lv_at hl 0 rfl) ?_
  refine lv_aload_n hx hb dX0_reckonDelays_26 rfl (lv_at hl 0 rfl) ?_
  have hM15 := k35_latestArrival l hl9 dC dI z h3 h5 H11.size
  obtain ⟨hF13, hC16⟩ := pc_M hM15 hP hD hK hS hX hT hA [3, 5] [] rfl rfl rfl
  refine va_calli (va_runV (As := []) (rest := [.ref h3]) ⟨hx, hb, hml, hown, hts⟩ hM15 (cwV 0 hts (gV q_179 q_180 q_181 q_91 q_178) rfl rfl rfl hV_X2_latestArrival ⟨Nat.le_of_ble_eq_true rfl, Nat.le_of_ble_eq_true rfl⟩) ⟨pc_blind, va_recv hK hP (ci := 3) (q := (RX2, TX2, 19)) (q0 := 3) rfl rfl, fun U hU hW => ⟨rfl, hC16 U hU hW⟩⟩ rfl rfl hl.1 rfl (lv_room (Nat.le_of_ble_eq_true rfl)) dX0_reckonDelays_27 ⟨(Nat.le_of_ble_eq_true rfl), (Nat.le_of_ble_eq_true rfl)⟩) hS (fun q9 _ h9 => hF13 q9 h9) hF13 (fun r18 u17 t17 H17 L17 ht17 hvm17 hw17 hB17 hz17 hk17 hS => ?_)
  have hP := pq_keep hP hD [3, 5] rfl hk17 hB17.1 ht17
  have hG : s.heap.size + 0 ≤ H17.size := Nat.le_trans hG hz17
  refine W.eq (g2 := F0 m 30 ls [.int 0, .ref h3]) (by rw [hw17]) ?_
  refine va_put (D := (dC, dI)) (ci := 3) (v := .int 0) (ty := .int) (C := RX2) (T := TX2) (N := 19) hx hb hts in_X2 tyX2 tyX2_ok nmX2 hown hK hP hD (va_Sre hS) 3 rfl rfl 14 (by decide) (hts _ q_182) (fun _ h9 => h9) rfl (by decide +kernel) rfl rfl (Nat.le_of_ble_eq_true rfl) dX0_reckonDelays_30 (fun H19 _ hP hD hS' => ?_)
  have hG : s.heap.size + 0 ≤ H19.size := Nat.le_trans hG hS'.1
  have hS := va_Str hS hS'
  have hP : va_P (dC, dI) xCl [(h0, ce7 o0 o1 o2 h1), (h1, ce79 h2), (h2, ce68 kc0 h3 h4), (h3, ce38 (z.2.1 0) h5 h3), (h4, ce77 (z.2.1 0) h6 h4), (h5, ce3 z.1), (h6, ce3 z.1)] H19 := hP
  have hD := vd_as hP hD rfl
  refine lv_aload_n hx hb dX0_reckonDelays_33 rfl (lv_at hl 0 rfl) ?_
  refine lv_iconst (v := 0) hx hb dX0_reckonDelays_34 (by decide) ?_
  refine va_put (D := (dC, dI)) (ci := 3) (v := .int 0) (ty := .int) (C := RX2) (T := TX2) (N := 19) hx hb hts in_X2 tyX2 tyX2_ok nmX2 hown hK hP hD (va_Sre hS) 3 rfl rfl 15 (by decide) (hts _ q_183) (fun _ h9 => h9) rfl (by decide +kernel) rfl rfl (Nat.le_of_ble_eq_true rfl) dX0_reckonDelays_35 (fun H20 _ hP hD hS' => ?_)
  have hG : s.heap.size + 0 ≤ H20.size := Nat.le_trans hG hS'.1
  have hS := va_Str hS hS'
  have hP : va_P (dC, dI) xCl [(h0, ce7 o0 o1 o2 h1), (h1, ce79 h2), (h2, ce68 kc0 h3 h4), (h3, ce38 (z.2.1 0) h5 h3), (h4, ce77 (z.2.1 0) h6 h4), (h5, ce3 z.1), (h6, ce3 z.1)] H20 := hP
  have hD := vd_as hP hD rfl
  refine lv_iinc (v := 1) (lv' := [(1, .int 1), (2, .ref h3), (0, .ref h0)]) hx hb dX0_reckonDelays_38 hl (k := 1) rfl (by decide) (by decide) rfl (fun ls hl => ?_)
  refine lv_goto (tgt := 2) hx hb dX0_reckonDelays_41 (by decide) ?_
  refine lv_iload_n hx hb dX0_reckonDelays_2 rfl (lv_at hl 0 rfl) ?_
  refine lv_aload_n hx hb dX0_reckonDelays_3 rfl (lv_at hl 2 rfl) ?_
  refine va_get (D := (dC, dI)) (ci := 2) (v := .ref h1) (C := RX0) (T := TX0) (N := 4) hx hb hts in_X0 hown hK hP 0 rfl rfl 3 (by decide) (hts _ q_31) (fun _ h9 => h9) rfl dX0_reckonDelays_4 ?_
  have hM23 := k20_size l hl9 dC dI z h1 h2 H20.size 5 2
  obtain ⟨hF21, hC24⟩ := pc_M hM23 hP hD hK hS hX hT hA [1] [] rfl rfl rfl
  refine va_calli (va_runV (As := []) (rest := [.int 1]) ⟨hx, hb, hml, hown, hts⟩ hM23 (cwV 0 hts (gV q_92 q_77 q_78 q_12 q_75) rfl rfl rfl hV_Jx4a65c_size_8abf5 ⟨Nat.le_of_ble_eq_true rfl, Nat.le_of_ble_eq_true rfl⟩) ⟨pc_blind, va_recv hK hP (ci := 0) (q := (RJx4a65c, TJx4a65c, 3)) (q0 := 1) rfl rfl, fun U hU hW => ⟨rfl, hC24 U hU hW⟩⟩ rfl rfl hl.1 rfl (lv_room (Nat.le_of_ble_eq_true rfl)) dX0_reckonDelays_7 ⟨(Nat.le_of_ble_eq_true rfl), (Nat.le_of_ble_eq_true rfl)⟩) hS (fun q9 _ h9 => hF21 q9 h9) hF21 (fun r26 u25 t25 H25 L25 ht25 hvm25 hw25 hB25 hz25 hk25 hS => ?_)
  have hP := pq_keep hP hD [1] rfl hk25 hB25.1 ht25
  have hG : s.heap.size + 0 ≤ H25.size := Nat.le_trans hG hz25
  refine W.eq (g2 := F0 m 10 ls [.int 2, .int 1]) (by rw [hw25]) ?_
  refine lv_icmp_ge (tgt := 44) hx hb dX0_reckonDelays_10 (by decide) (fun cz => absurd cz (by decide)) (fun _ => ?_)
  refine lv_aload_n hx hb dX0_reckonDelays_13 rfl (lv_at hl 2 rfl) ?_
  refine va_get (D := (dC, dI)) (ci := 2) (v := .ref h1) (C := RX0) (T := TX0) (N := 4) hx hb hts in_X0 hown hK hP 0 rfl rfl 3 (by decide) (hts _ q_31) (fun _ h9 => h9) rfl dX0_reckonDelays_14 ?_
  refine lv_iload_n hx hb dX0_reckonDelays_17 rfl (lv_at hl 0 rfl) ?_
  have hM29 := k107_get l hl9 dC dI z h1 h2 h3 h4 H25.size kc0
  obtain ⟨hF27, hC30⟩ := pc_M hM29 hP hD hK hS hX hT hA [1, 2] [0] rfl rfl rfl
  refine va_callr (va_runV (As := [.int 1]) (rest := []) ⟨hx, hb, hml, hown, hts⟩ hM29 (cwV 1 hts (gV q_156 q_157 q_158 q_12 q_155) rfl rfl rfl hV_Jx4a65c_get_915e3 ⟨Nat.le_of_ble_eq_true rfl, Nat.le_of_ble_eq_true rfl⟩) ⟨pc_blind, va_recv hK hP (ci := 0) (q := (RJx4a65c, TJx4a65c, 3)) (q0 := 1) rfl rfl, fun U hU hW => ⟨rfl, hC30 U hU hW⟩⟩ rfl rfl hl.1 rfl (lv_room (Nat.le_of_ble_eq_true rfl)) dX0_reckonDelays_18 ⟨(Nat.le_of_ble_eq_true rfl), (Nat.le_of_ble_eq_true rfl)⟩) hS (fun q9 _ h9 => hF27 q9 h9) hF27 (fun u31 r32 t31 H31 L31 ht31 hvm31 hw31 hB31 hz31 hk31 hS => ?_)
  obtain ⟨hr31, hB31⟩ := hB31
  have hP := pq_keep hP hD [1, 2] rfl hk31 hB31.1 ht31
  have hG : s.heap.size + 0 ≤ H31.size := Nat.le_trans hG hz31
  refine W.eq (g2 := F0 m 21 ls [.ref h4]) (by rw [hr31]) ?_
  refine va_castE (nm := RX2) hx hb hown (hts _ q_89) (va_recv hK hP (ci := 3) (q := (RX2, TX2, 19)) (q0 := 4) rfl rfl) dX0_reckonDelays_21 ?_
  refine lv_astore_n (lv' := [(2, .ref h4), (1, .int 1), (0, .ref h0)]) hx hb dX0_reckonDelays_24 rfl hl (by decide) rfl (fun ls hl => ?_)
  refine lv_aload_n hx hb dX0_reckonDelays_25 rfl (lv_at hl 0 rfl) ?_
  refine lv_aload_n hx hb dX0_reckonDelays_26 rfl (lv_at hl 0 rfl) ?_
  have hM35 := k108_latestArrival l hl9 dC dI z h4 h6 H31.size
  obtain ⟨hF33, hC36⟩ := pc_M hM35 hP hD hK hS hX hT hA [4, 6] [] rfl rfl rfl
  refine va_calli (va_runV (As := []) (rest := [.ref h4]) ⟨hx, hb, hml, hown, hts⟩ hM35 (cwV 0 hts (gV q_179 q_180 q_181 q_91 q_178) rfl rfl rfl hV_X2_latestArrival ⟨Nat.le_of_ble_eq_true rfl, Nat.le_of_ble_eq_true rfl⟩) ⟨pc_blind, va_recv hK hP (ci := 3) (q := (RX2, TX2, 19)) (q0 := 4) rfl rfl, fun U hU hW => ⟨rfl, hC36 U hU hW⟩⟩ rfl rfl hl.1 rfl (lv_room (Nat.le_of_ble_eq_true rfl)) dX0_reckonDelays_27 ⟨(Nat.le_of_ble_eq_true rfl), (Nat.le_of_ble_eq_true rfl)⟩) hS (fun q9 _ h9 => hF33 q9 h9) hF33 (fun r38 u37 t37 H37 L37 ht37 hvm37 hw37 hB37 hz37 hk37 hS => ?_)
  have hP := pq_keep hP hD [4, 6] rfl hk37 hB37.1 ht37
  have hG : s.heap.size + 0 ≤ H37.size := Nat.le_trans hG hz37
  refine W.eq (g2 := F0 m 30 ls [.int 0, .ref h4]) (by rw [hw37]) ?_
  refine va_put (D := (dC, dI)) (ci := 3) (v := .int 0) (ty := .int) (C := RX2) (T := TX2) (N := 19) hx hb hts in_X2 tyX2 tyX2_ok nmX2 hown hK hP hD (va_Sre hS) 4 rfl rfl 14 (by decide) (hts _ q_182) (fun _ h9 => h9) rfl (by decide +kernel) rfl rfl (Nat.le_of_ble_eq_true rfl) dX0_reckonDelays_30 (fun H39 _ hP hD hS' => ?_)
  have hG : s.heap.size + 0 ≤ H39.size := Nat.le_trans hG hS'.1
  have hS := va_Str hS hS'
  have hP : va_P (dC, dI) xCl [(h0, ce7 o0 o1 o2 h1), (h1, ce79 h2), (h2, ce68 kc0 h3 h4), (h3, ce38 (z.2.1 0) h5 h3), (h4, ce77 (z.2.1 0) h6 h4), (h5, ce3 z.1), (h6, ce3 z.1)] H39 := hP
  have hD := vd_as hP hD rfl
  refine lv_aload_n hx hb dX0_reckonDelays_33 rfl (lv_at hl 0 rfl) ?_
  refine lv_iconst (v := 0) hx hb dX0_reckonDelays_34 (by decide) ?_
  refine va_put (D := (dC, dI)) (ci := 3) (v := .int 0) (ty := .int) (C := RX2) (T := TX2) (N := 19) hx hb hts in_X2 tyX2 tyX2_ok nmX2 hown hK hP hD (va_Sre hS) 4 rfl rfl 15 (by decide) (hts _ q_183) (fun _ h9 => h9) rfl (by decide +kernel) rfl rfl (Nat.le_of_ble_eq_true rfl) dX0_reckonDelays_35 (fun H40 _ hP hD hS' => ?_)
  have hG : s.heap.size + 0 ≤ H40.size := Nat.le_trans hG hS'.1
  have hS := va_Str hS hS'
  have hP : va_P (dC, dI) xCl [(h0, ce7 o0 o1 o2 h1), (h1, ce79 h2), (h2, ce68 kc0 h3 h4), (h3, ce38 (z.2.1 0) h5 h3), (h4, ce77 (z.2.1 0) h6 h4), (h5, ce3 z.1), (h6, ce3 z.1)] H40 := hP
  have hD := vd_as hP hD rfl
  refine lv_iinc (v := 2) (lv' := [(1, .int 2), (2, .ref h4), (0, .ref h0)]) hx hb dX0_reckonDelays_38 hl (k := 1) rfl (by decide) (by decide) rfl (fun ls hl => ?_)
  refine lv_goto (tgt := 2) hx hb dX0_reckonDelays_41 (by decide) ?_
  refine lv_iload_n hx hb dX0_reckonDelays_2 rfl (lv_at hl 0 rfl) ?_
  refine lv_aload_n hx hb dX0_reckonDelays_3 rfl (lv_at hl 2 rfl) ?_
  refine va_get (D := (dC, dI)) (ci := 2) (v := .ref h1) (C := RX0) (T := TX0) (N := 4) hx hb hts in_X0 hown hK hP 0 rfl rfl 3 (by decide) (hts _ q_31) (fun _ h9 => h9) rfl dX0_reckonDelays_4 ?_
  have hM43 := k20_size l hl9 dC dI z h1 h2 H40.size 5 2
  obtain ⟨hF41, hC44⟩ := pc_M hM43 hP hD hK hS hX hT hA [1] [] rfl rfl rfl
  refine va_calli (va_runV (As := []) (rest := [.int 2]) ⟨hx, hb, hml, hown, hts⟩ hM43 (cwV 0 hts (gV q_92 q_77 q_78 q_12 q_75) rfl rfl rfl hV_Jx4a65c_size_8abf5 ⟨Nat.le_of_ble_eq_true rfl, Nat.le_of_ble_eq_true rfl⟩) ⟨pc_blind, va_recv hK hP (ci := 0) (q := (RJx4a65c, TJx4a65c, 3)) (q0 := 1) rfl rfl, fun U hU hW => ⟨rfl, hC44 U hU hW⟩⟩ rfl rfl hl.1 rfl (lv_room (Nat.le_of_ble_eq_true rfl)) dX0_reckonDelays_7 ⟨(Nat.le_of_ble_eq_true rfl), (Nat.le_of_ble_eq_true rfl)⟩) hS (fun q9 _ h9 => hF41 q9 h9) hF41 (fun r46 u45 t45 H45 L45 ht45 hvm45 hw45 hB45 hz45 hk45 hS => ?_)
  have hP := pq_keep hP hD [1] rfl hk45 hB45.1 ht45
  have hG : s.heap.size + 0 ≤ H45.size := Nat.le_trans hG hz45
  refine W.eq (g2 := F0 m 10 ls [.int 2, .int 2]) (by rw [hw45]) ?_
  refine lv_icmp_ge (tgt := 44) hx hb dX0_reckonDelays_10 (by decide) (fun _ => ?_) (fun cz => absurd (by decide) cz)
  refine lv_aload_n hx hb dX0_reckonDelays_44 rfl (lv_at hl 2 rfl) ?_
  refine va_get (D := (dC, dI)) (ci := 2) (v := .ref h1) (C := RX0) (T := TX0) (N := 4) hx hb hts in_X0 hown hK hP 0 rfl rfl 3 (by decide) (hts _ q_31) (fun _ h9 => h9) rfl dX0_reckonDelays_45 ?_
  have hM49 := k20_size l hl9 dC dI z h1 h2 H45.size 5 2
  obtain ⟨hF47, hC50⟩ := pc_M hM49 hP hD hK hS hX hT hA [1] [] rfl rfl rfl
  refine va_calli (va_runV (As := []) (rest := []) ⟨hx, hb, hml, hown, hts⟩ hM49 (cwV 0 hts (gV q_92 q_77 q_78 q_12 q_75) rfl rfl rfl hV_Jx4a65c_size_8abf5 ⟨Nat.le_of_ble_eq_true rfl, Nat.le_of_ble_eq_true rfl⟩) ⟨pc_blind, va_recv hK hP (ci := 0) (q := (RJx4a65c, TJx4a65c, 3)) (q0 := 1) rfl rfl, fun U hU hW => ⟨rfl, hC50 U hU hW⟩⟩ rfl rfl hl.1 rfl (lv_room (Nat.le_of_ble_eq_true rfl)) dX0_reckonDelays_48 ⟨(Nat.le_of_ble_eq_true rfl), (Nat.le_of_ble_eq_true rfl)⟩) hS (fun q9 _ h9 => hF47 q9 h9) hF47 (fun r52 u51 t51 H51 L51 ht51 hvm51 hw51 hB51 hz51 hk51 hS => ?_)
  have hP := pq_keep hP hD [1] rfl hk51 hB51.1 ht51
  have hG : s.heap.size + 0 ≤ H51.size := Nat.le_trans hG hz51
  refine W.eq (g2 := F0 m 51 ls [.int 2]) (by rw [hw51]) ?_
  refine lv_iconst (v := 1) hx hb dX0_reckonDelays_51 (by decide) ?_
  refine lv_isub hx hb dX0_reckonDelays_52 ?_
  refine lv_topi (fun y53 ey53 => ?_)
  obtain rfl : y53 = 1 := ey53.trans (by decide)
  refine lv_istore_n (lv' := [(1, .int 1), (2, .ref h4), (0, .ref h0)]) hx hb dX0_reckonDelays_53 rfl hl (by decide) rfl (fun ls hl => ?_)
  refine lv_iload_n hx hb dX0_reckonDelays_54 rfl (lv_at hl 0 rfl) ?_
  refine lv_if_lt (tgt := 78) hx hb dX0_reckonDelays_55 (by decide) (fun cz => absurd cz (by decide)) (fun _ => ?_)
  refine lv_aload_n hx hb dX0_reckonDelays_58 rfl (lv_at hl 2 rfl) ?_
  refine va_get (D := (dC, dI)) (ci := 2) (v := .ref h1) (C := RX0) (T := TX0) (N := 4) hx hb hts in_X0 hown hK hP 0 rfl rfl 3 (by decide) (hts _ q_31) (fun _ h9 => h9) rfl dX0_reckonDelays_59 ?_
  refine lv_iload_n hx hb dX0_reckonDelays_62 rfl (lv_at hl 0 rfl) ?_
  have hM56 := k107_get l hl9 dC dI z h1 h2 h3 h4 H51.size kc0
  obtain ⟨hF54, hC57⟩ := pc_M hM56 hP hD hK hS hX hT hA [1, 2] [0] rfl rfl rfl
  refine va_callr (va_runV (As := [.int 1]) (rest := []) ⟨hx, hb, hml, hown, hts⟩ hM56 (cwV 1 hts (gV q_156 q_157 q_158 q_12 q_155) rfl rfl rfl hV_Jx4a65c_get_915e3 ⟨Nat.le_of_ble_eq_true rfl, Nat.le_of_ble_eq_true rfl⟩) ⟨pc_blind, va_recv hK hP (ci := 0) (q := (RJx4a65c, TJx4a65c, 3)) (q0 := 1) rfl rfl, fun U hU hW => ⟨rfl, hC57 U hU hW⟩⟩ rfl rfl hl.1 rfl (lv_room (Nat.le_of_ble_eq_true rfl)) dX0_reckonDelays_63 ⟨(Nat.le_of_ble_eq_true rfl), (Nat.le_of_ble_eq_true rfl)⟩) hS (fun q9 _ h9 => hF54 q9 h9) hF54 (fun u58 r59 t58 H58 L58 ht58 hvm58 hw58 hB58 hz58 hk58 hS => ?_)
  obtain ⟨hr58, hB58⟩ := hB58
  have hP := pq_keep hP hD [1, 2] rfl hk58 hB58.1 ht58
  have hG : s.heap.size + 0 ≤ H58.size := Nat.le_trans hG hz58
  refine W.eq (g2 := F0 m 66 ls [.ref h4]) (by rw [hr58]) ?_
  refine va_castE (nm := RX2) hx hb hown (hts _ q_89) (va_recv hK hP (ci := 3) (q := (RX2, TX2, 19)) (q0 := 4) rfl rfl) dX0_reckonDelays_66 ?_
  have hM62 := k109_lengthenWaysOfRead l hl9 dC dI z h4 h6 H58.size
  obtain ⟨hF60, hC63⟩ := pc_M hM62 hP hD hK hS hX hT hA [4, 6] [] rfl rfl rfl
  refine va_callv (va_runV (As := []) (rest := []) ⟨hx, hb, hml, hown, hts⟩ hM62 (cwV 0 hts (gV q_185 q_186 q_187 q_91 q_184) rfl rfl rfl hV_X2_lengthenWaysOfRead ⟨Nat.le_of_ble_eq_true rfl, Nat.le_of_ble_eq_true rfl⟩) ⟨pc_blind, va_recv hK hP (ci := 3) (q := (RX2, TX2, 19)) (q0 := 4) rfl rfl, fun U hU hW => ⟨rfl, hC63 U hU hW⟩⟩ rfl rfl hl.1 rfl (lv_room (Nat.le_of_ble_eq_true rfl)) dX0_reckonDelays_69 ⟨(Nat.le_of_ble_eq_true rfl), (Nat.le_of_ble_eq_true rfl)⟩) hS (fun q9 _ h9 => hF60 q9 h9) hF60 (fun u64 t64 H64 L64 ht64 hvm64 hw64 hB64 hz64 hk64 hS => ?_)
  have hP := pq_keep hP hD [4, 6] rfl hk64 hB64.1 ht64
  have hG : s.heap.size + 0 ≤ H64.size := Nat.le_trans hG hz64
  refine lv_iinc (v := 0) (lv' := [(1, .int 0), (2, .ref h4), (0, .ref h0)]) hx hb dX0_reckonDelays_72 hl (k := 0) rfl (by decide) (by decide) rfl (fun ls hl => ?_)
  refine lv_goto (tgt := 54) hx hb dX0_reckonDelays_75 (by decide) ?_
  refine lv_iload_n hx hb dX0_reckonDelays_54 rfl (lv_at hl 0 rfl) ?_
  refine lv_if_lt (tgt := 78) hx hb dX0_reckonDelays_55 (by decide) (fun cz => absurd cz (by decide)) (fun _ => ?_)
  refine lv_aload_n hx hb dX0_reckonDelays_58 rfl (lv_at hl 2 rfl) ?_
  refine va_get (D := (dC, dI)) (ci := 2) (v := .ref h1) (C := RX0) (T := TX0) (N := 4) hx hb hts in_X0 hown hK hP 0 rfl rfl 3 (by decide) (hts _ q_31) (fun _ h9 => h9) rfl dX0_reckonDelays_59 ?_
  refine lv_iload_n hx hb dX0_reckonDelays_62 rfl (lv_at hl 0 rfl) ?_
  have hM68 := k105_get l hl9 dC dI z h1 h2 h3 h4 H64.size kc0
  obtain ⟨hF66, hC69⟩ := pc_M hM68 hP hD hK hS hX hT hA [1, 2] [0] rfl rfl rfl
  refine va_callr (va_runV (As := [.int 0]) (rest := []) ⟨hx, hb, hml, hown, hts⟩ hM68 (cwV 1 hts (gV q_156 q_157 q_158 q_12 q_155) rfl rfl rfl hV_Jx4a65c_get_915e3 ⟨Nat.le_of_ble_eq_true rfl, Nat.le_of_ble_eq_true rfl⟩) ⟨pc_blind, va_recv hK hP (ci := 0) (q := (RJx4a65c, TJx4a65c, 3)) (q0 := 1) rfl rfl, fun U hU hW => ⟨rfl, hC69 U hU hW⟩⟩ rfl rfl hl.1 rfl (lv_room (Nat.le_of_ble_eq_true rfl)) dX0_reckonDelays_63 ⟨(Nat.le_of_ble_eq_true rfl), (Nat.le_of_ble_eq_true rfl)⟩) hS (fun q9 _ h9 => hF66 q9 h9) hF66 (fun u70 r71 t70 H70 L70 ht70 hvm70 hw70 hB70 hz70 hk70 hS => ?_)
  obtain ⟨hr70, hB70⟩ := hB70
  have hP := pq_keep hP hD [1, 2] rfl hk70 hB70.1 ht70
  have hG : s.heap.size + 0 ≤ H70.size := Nat.le_trans hG hz70
  refine W.eq (g2 := F0 m 66 ls [.ref h3]) (by rw [hr70]) ?_
  refine va_castE (nm := RX2) hx hb hown (hts _ q_89) (va_recv hK hP (ci := 3) (q := (RX2, TX2, 19)) (q0 := 3) rfl rfl) dX0_reckonDelays_66 ?_
  have hM74 := k36_lengthenWaysOfRead l hl9 dC dI z h3 h5 H70.size
  obtain ⟨hF72, hC75⟩ := pc_M hM74 hP hD hK hS hX hT hA [3, 5] [] rfl rfl rfl
  refine va_callv (va_runV (As := []) (rest := []) ⟨hx, hb, hml, hown, hts⟩ hM74 (cwV 0 hts (gV q_185 q_186 q_187 q_91 q_184) rfl rfl rfl hV_X2_lengthenWaysOfRead ⟨Nat.le_of_ble_eq_true rfl, Nat.le_of_ble_eq_true rfl⟩) ⟨pc_blind, va_recv hK hP (ci := 3) (q := (RX2, TX2, 19)) (q0 := 3) rfl rfl, fun U hU hW => ⟨rfl, hC75 U hU hW⟩⟩ rfl rfl hl.1 rfl (lv_room (Nat.le_of_ble_eq_true rfl)) dX0_reckonDelays_69 ⟨(Nat.le_of_ble_eq_true rfl), (Nat.le_of_ble_eq_true rfl)⟩) hS (fun q9 _ h9 => hF72 q9 h9) hF72 (fun u76 t76 H76 L76 ht76 hvm76 hw76 hB76 hz76 hk76 hS => ?_)
  have hP := pq_keep hP hD [3, 5] rfl hk76 hB76.1 ht76
  have hG : s.heap.size + 0 ≤ H76.size := Nat.le_trans hG hz76
  refine lv_iinc (v := (-1)) (lv' := [(1, .int (-1)), (2, .ref h4), (0, .ref h0)]) hx hb dX0_reckonDelays_72 hl (k := 0) rfl (by decide) (by decide) rfl (fun ls hl => ?_)
  refine lv_goto (tgt := 54) hx hb dX0_reckonDelays_75 (by decide) ?_
  refine lv_iload_n hx hb dX0_reckonDelays_54 rfl (lv_at hl 0 rfl) ?_
  refine lv_if_lt (tgt := 78) hx hb dX0_reckonDelays_55 (by decide) (fun _ => ?_) (fun cz => absurd (by decide) cz)
  exact W.vret hx hb hr (fun t9 ht9 hW9 => ⟨⟨(), rfl, trivial, ⟨pq_mk2 hP hD hK [0, 1, 2, 3, 4, 5, 6] [0] rfl rfl rfl ht9 hW9, by rw [ht9]; exact Nat.le_trans (Nat.add_le_add_left (Nat.le_of_ble_eq_true rfl) _) hG⟩⟩, hS.F ht9⟩) hS.2.2 dX0_reckonDelays_78
