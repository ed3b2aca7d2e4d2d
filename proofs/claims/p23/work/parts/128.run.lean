set_option maxHeartbeats 4000000 in
set_option maxRecDepth 100000 in
theorem k774_restart (l : Launch) (hl9 : l.stackTraces = false) (dC : Nat → ClassId) (dI : Nat → Nat → Nat) (z : XZ) (h0 h1 h2 h3 h4 h5 h6 h7 h8 h9 h10 h11 h12 : Nat) (o0 : Nat) (sz : Nat) (kc0 kc1 : ClassId) : Met l yX9_restart (.code yX9_restart cX9_restart 4 none :: wsL_law) ({ frames := 4, cells := 20, slots := 188, locals := 94 }) (va_Pc [.ref h0] (PC (dC, dI) [(h0, ce21 h1 h2 o0 h3), (h1, ce331 h4), (h2, ce3 z.1), (h3, ce289 h5), (h4, ce330 kc0 h6 h7 h8 h9 h10 h11 h12), (h5, ce258 kc1 (z.2.2.1 128) (z.2.2.1 129) (z.2.2.1 130) (z.2.2.1 131) (z.2.2.1 132) (z.2.2.1 133)), (h6, ce49), (h7, ce49), (h8, ce49), (h9, ce49), (h10, ce49), (h11, ce49), (h12, ce49)] [(kc0, .object "java/lang/Object"), (kc1, .object "java/lang/Object")] sz z)) (va_Qv (fun (_ : Unit) => True) (fun (_ : Unit) (t : State) => PG (dC, dI) [(h0, ce21 h1 h2 o0 h3), (h1, ce331 h4), (h2, ce3 z.1), (h3, ce366 h5), (h4, ce330 kc0 h6 h7 h8 h9 h10 h11 h12), (h5, ce330 kc1 (z.2.2.1 128) (z.2.2.1 129) (z.2.2.1 130) (z.2.2.1 131) (z.2.2.1 132) (z.2.2.1 133) (z.2.2.1 134)), (h6, ce49), (h7, ce49), (h8, ce49), (h9, ce49), (h10, ce49), (h11, ce49), (h12, ce49)] [(kc0, .object "java/lang/Object"), (kc1, .object "java/lang/Object")] (va_A [(h0, ce21 h1 h2 o0 h3), (h1, ce331 h4), (h2, ce3 z.1), (h3, ce289 h5), (h4, ce330 kc0 h6 h7 h8 h9 h10 h11 h12), (h5, ce258 kc1 (z.2.2.1 128) (z.2.2.1 129) (z.2.2.1 130) (z.2.2.1 131) (z.2.2.1 132) (z.2.2.1 133)), (h6, ce49), (h7, ce49), (h8, ce49), (h9, ce49), (h10, ce49), (h11, ce49), (h12, ce49)] sz) sz 20 t) (va_A [(h0, ce21 h1 h2 o0 h3), (h1, ce331 h4), (h2, ce3 z.1), (h3, ce289 h5), (h4, ce330 kc0 h6 h7 h8 h9 h10 h11 h12), (h5, ce258 kc1 (z.2.2.1 128) (z.2.2.1 129) (z.2.2.1 130) (z.2.2.1 131) (z.2.2.1 132) (z.2.2.1 133)), (h6, ce49), (h7, ce49), (h8, ce49), (h9, ce49), (h10, ce49), (h11, ce49), (h12, ce49)] sz)) 20 188 (va_A [(h0, ce21 h1 h2 o0 h3), (h1, ce331 h4), (h2, ce3 z.1), (h3, ce289 h5), (h4, ce330 kc0 h6 h7 h8 h9 h10 h11 h12), (h5, ce258 kc1 (z.2.2.1 128) (z.2.2.1 129) (z.2.2.1 130) (z.2.2.1 131) (z.2.2.1 132) (z.2.2.1 133)), (h6, ce49), (h7, ce49), (h8, ce49), (h9, ce49), (h10, ce49), (h11, ce49), (h12, ce49)] sz) := by
  refine Met.ofW (cc := cX9_restart) (maxL := 4) (ret := none) (by decide) rfl ?_
  intro p e s m args below meth c s₁ B hml hv
  obtain ⟨rfl, hsz, hP, hK, hD0, hX, hT⟩ := hv
  have hx := B.exec
  have hb := B.bytes
  have hr := B.returns
  have hts0 := atoms_spec (ws := .code yX9_restart cX9_restart 4 none :: wsL_law) B.pre
  have hts := xTail hts0
  have hown : s.vm.findClass RX9 = some m.cls := xown B.named rfl
  have hlocks := B.notSynchronized
  subst hsz
  have hD := hD0.self (sz := s.heap.size)
  generalize hAe : va_A [(h0, ce21 h1 h2 o0 h3), (h1, ce331 h4), (h2, ce3 z.1), (h3, ce289 h5), (h4, ce330 kc0 h6 h7 h8 h9 h10 h11 h12), (h5, ce258 kc1 (z.2.2.1 128) (z.2.2.1 129) (z.2.2.1 130) (z.2.2.1 131) (z.2.2.1 132) (z.2.2.1 133)), (h6, ce49), (h7, ce49), (h8, ce49), (h9, ce49), (h10, ce49), (h11, ce49), (h12, ce49)] s.heap.size = A at hD hX ⊢
  have hA : ∀ q : Nat, s.heap.size ≤ q → A q := fun q h => by rw [← hAe]; exact Or.inr h
  have hS : va_S A s.heap s.heap [] := va_S.rf
  have hG : s.heap.size + 0 ≤ s.heap.size := Nat.le_refl _
  have hl := lv_entry ([.ref h0]) (n := 4) (Nat.le_of_ble_eq_true rfl)
  rw [lg_entry_eq]
  generalize (lg_sl ([.ref h0]) ++ List.replicate (4 - (lg_sl ([.ref h0])).length) Slot.unset).toArray = ls at hl ⊢
  have hl : lv_has ls 4 [(0, .ref h0)] := hl
  refine lv_aload_n hx hb dX9_restart_0 rfl (lv_at hl 0 rfl) ?_
  refine lv_iconst (v := 0) hx hb dX9_restart_1 (by decide) ?_
  refine va_put (D := (dC, dI)) (ci := 8) (v := .int 0) (ty := .int) (C := RX9) (T := TX9) (N := 6) hx hb hts in_X9 tyX9 tyX9_ok nmX9 hown hK hP hD (va_Sre hS) 0 rfl rfl 5 (by decide) (hts _ q_289) (fun _ h9 => h9) rfl (by decide +kernel) rfl rfl (Nat.le_of_ble_eq_true rfl) dX9_restart_2 (fun H1 _ hP hD hS' => ?_)
  have hG : s.heap.size + 0 ≤ H1.size := Nat.le_trans hG hS'.1
  have hS := va_Str hS hS'
  have hP : va_P (dC, dI) xCl [(h0, ce21 h1 h2 o0 h3), (h1, ce331 h4), (h2, ce3 z.1), (h3, ce289 h5), (h4, ce330 kc0 h6 h7 h8 h9 h10 h11 h12), (h5, ce258 kc1 (z.2.2.1 128) (z.2.2.1 129) (z.2.2.1 130) (z.2.2.1 131) (z.2.2.1 132) (z.2.2.1 133)), (h6, ce49), (h7, ce49), (h8, ce49), (h9, ce49), (h10, ce49), (h11, ce49), (h12, ce49)] H1 := hP
  have hD := vd_as hP hD rfl
  refine lv_aload_n hx hb dX9_restart_5 rfl (lv_at hl 0 rfl) ?_
  have hM4 := k722_putInOrder l hl9 dC dI z h0 h1 h2 h3 h5 o0 h4 H1.size kc1
  obtain ⟨hF2, hC5⟩ := pc_M hM4 hP hD hK hS hX hT hA [0, 1, 2, 3, 5] [1] rfl rfl rfl
  refine va_callv (va_runV (As := []) (rest := []) ⟨hx, hb, hml, hown, hts⟩ hM4 (cwV 0 hts (gV q_299 q_300 q_301 q_60 q_298) rfl rfl rfl hV_X9_putInOrder ⟨Nat.le_of_ble_eq_true rfl, Nat.le_of_ble_eq_true rfl⟩) ⟨pc_blind, va_recv hK hP (ci := 8) (q := (RX9, TX9, 6)) (q0 := 0) rfl rfl, fun U hU hW => ⟨rfl, hC5 U hU hW⟩⟩ rfl rfl hl.1 rfl (lv_room (Nat.le_of_ble_eq_true rfl)) dX9_restart_6 ⟨(Nat.le_of_ble_eq_true rfl), (Nat.le_of_ble_eq_true rfl)⟩) hS (fun q9 _ h9 => hF2 q9 h9) hF2 (fun u6 t6 H6 L6 ht6 hvm6 hw6 hB6 hz6 hk6 hS => ?_)
  obtain ⟨hP, hD, hK⟩ := pq_jn (wz := [(h4, ce330 kc0 h6 h7 h8 h9 h10 h11 h12), (h6, ce49), (h7, ce49), (h8, ce49), (h9, ce49), (h10, ce49), (h11, ce49), (h12, ce49), (h0, ce21 h1 h2 o0 h3), (h1, ce331 h4), (h2, ce3 z.1), (h3, ce366 h5), (h5, ce330 kc1 (z.2.2.1 128) (z.2.2.1 129) (z.2.2.1 130) (z.2.2.1 131) (z.2.2.1 132) (z.2.2.1 133) (z.2.2.1 134))]) (tz := [(kc0, .object "java/lang/Object"), (kc1, .object "java/lang/Object")]) hP hD hK [0, 1, 2, 3, 5] [0] rfl hk6 hF2 hB6.1 ht6 hvm6 rfl rfl
  have hG : s.heap.size + 8 ≤ H6.size := va_gr (g := 0) (g1 := 8) hG (by rw [← ht6]; exact hB6.2)
  refine W.widen (k := 8) (n := 68) (by decide) (by decide) ?_
  refine lv_aload_n hx hb dX9_restart_9 rfl (lv_at hl 0 rfl) ?_
  refine va_get (D := (dC, dI)) (ci := 8) (v := .ref h1) (C := RX9) (T := TX9) (N := 6) hx hb hts in_X9 hown hK hP 8 rfl rfl 1 (by decide) (hts _ q_64) (fun _ h9 => h9) rfl dX9_restart_10 ?_
  have hM10 := k724_iterator l hl9 dC dI z h1 h4 H6.size
  obtain ⟨hF8, hC11⟩ := pc_M hM10 hP hD hK hS hX hT hA [9] [] rfl rfl rfl
  refine va_callr (va_runV (As := []) (rest := []) ⟨hx, hb, hml, hown, hts⟩ hM10 (cwV 0 hts (gV q_256 q_257 q_258 q_12 q_255) rfl rfl rfl hV_Jx4a65c_iterator_32c93 ⟨Nat.le_of_ble_eq_true rfl, Nat.le_of_ble_eq_true rfl⟩) ⟨pc_blind, va_recv hK hP (ci := 0) (q := (RJx4a65c, TJx4a65c, 3)) (q0 := 9) rfl rfl, fun U hU hW => ⟨rfl, hC11 U hU hW⟩⟩ rfl rfl hl.1 rfl (lv_room (Nat.le_of_ble_eq_true rfl)) dX9_restart_13 ⟨(Nat.le_of_ble_eq_true rfl), (Nat.le_of_ble_eq_true rfl)⟩) hS (fun q9 _ h9 => hF8 q9 h9) hF8 (fun u12 r13 t12 H12 L12 ht12 hvm12 hw12 hB12 hz12 hk12 hS => ?_)
  obtain ⟨a14, hr12, hB12⟩ := hB12
  obtain ⟨hP, hD, hK⟩ := pq_jn (wz := [(h4, ce330 kc0 h6 h7 h8 h9 h10 h11 h12), (h6, ce49), (h7, ce49), (h8, ce49), (h9, ce49), (h10, ce49), (h11, ce49), (h12, ce49), (h0, ce21 h1 h2 o0 h3), (h2, ce3 z.1), (h3, ce366 h5), (h5, ce330 kc1 (z.2.2.1 128) (z.2.2.1 129) (z.2.2.1 130) (z.2.2.1 131) (z.2.2.1 132) (z.2.2.1 133) (z.2.2.1 134)), (h1, ce331 h4), (a14, ce370 h1)]) (tz := [(kc0, .object "java/lang/Object"), (kc1, .object "java/lang/Object")]) hP hD hK [9] [0, 1] rfl hk12 hF8 hB12.1 ht12 hvm12 rfl rfl
  have hG : s.heap.size + 9 ≤ H12.size := va_gr (g := 8) (g1 := 1) hG (by rw [← ht12]; exact hB12.2)
  refine W.eq (g2 := F0 m 16 ls [.ref a14]) (by rw [hr12]) ?_
  refine W.widen (k := 9) (n := 72) (by decide) (by decide) ?_
  refine lv_astore_n (lv' := [(1, .ref a14), (0, .ref h0)]) hx hb dX9_restart_16 rfl hl (by decide) rfl (fun ls hl => ?_)
  refine lv_aload_n hx hb dX9_restart_17 rfl (lv_at hl 0 rfl) ?_
  have hM17 := k725_hasNext l hl9 dC dI z a14 h1 h4 H12.size
  obtain ⟨hF15, hC18⟩ := pc_M hM17 hP hD hK hS hX hT hA [13, 12] [] rfl rfl rfl
  refine va_callFi (va_runF (As := []) (rest := []) (hK.1 1 (RJx35411, TJx35411, 4) rfl).2 ⟨hx, hb, hml, hown, hts⟩ hM17 (va_cwF 0 hts (gF q_261 q_262 q_263 q_246 q_260) rfl rfl rfl hT.2.2.2.2.2.2.1 hF_xIh ⟨Nat.le_of_ble_eq_true rfl, Nat.le_of_ble_eq_true rfl⟩) ⟨pc_blind, va_recv hK hP (ci := 1) (q := (RJx35411, TJx35411, 4)) (q0 := 13) rfl rfl, fun U hU hW => ⟨rfl, hC18 U hU hW⟩⟩ rfl rfl hl.1 rfl (lv_room (Nat.le_of_ble_eq_true rfl)) dX9_restart_18 ⟨(Nat.le_of_ble_eq_true rfl), (Nat.le_of_ble_eq_true rfl)⟩) hS (fun q9 _ h9 => hF15 q9 h9) hF15 (fun r20 u19 t19 H19 L19 ht19 hvm19 hw19 hB19 hz19 hk19 hS => ?_)
  have hP := pq_keep hP hD [13, 12] rfl hk19 hB19.1 ht19
  have hG : s.heap.size + 9 ≤ H19.size := Nat.le_trans hG hz19
  refine W.eq (g2 := F0 m 23 ls [.int 1]) (by rw [hw19]) ?_
  refine lv_if_eq (tgt := 55) hx hb dX9_restart_23 (by decide) (fun cz => absurd cz (by decide)) (fun _ => ?_)
  refine lv_aload_n hx hb dX9_restart_26 rfl (lv_at hl 0 rfl) ?_
  have hM23 := k727_next l hl9 dC dI z a14 h1 h4 h6 h7 h8 h9 h10 h11 h12 H19.size kc0
  obtain ⟨hF21, hC24⟩ := pc_M hM23 hP hD hK hS hX hT hA [13, 12, 0] [0] rfl rfl rfl
  refine va_callFr (va_runF (As := []) (rest := []) (hK.1 1 (RJx35411, TJx35411, 4) rfl).2 ⟨hx, hb, hml, hown, hts⟩ hM23 (va_cwF 0 hts (gF q_308 q_309 q_310 q_246 q_307) rfl rfl rfl hT.2.2.2.2.2.2.2.1 hF_xIn ⟨Nat.le_of_ble_eq_true rfl, Nat.le_of_ble_eq_true rfl⟩) ⟨pc_blind, va_recv hK hP (ci := 1) (q := (RJx35411, TJx35411, 4)) (q0 := 13) rfl rfl, fun U hU hW => ⟨rfl, hC24 U hU hW⟩⟩ rfl rfl hl.1 rfl (lv_room (Nat.le_of_ble_eq_true rfl)) dX9_restart_27 ⟨(Nat.le_of_ble_eq_true rfl), (Nat.le_of_ble_eq_true rfl)⟩) hS (fun q9 _ h9 => hF21 q9 h9) hF21 (fun u25 r26 t25 H25 L25 ht25 hvm25 hw25 hB25 hz25 hk25 hS => ?_)
  obtain ⟨hr25, hB25⟩ := hB25
  obtain ⟨hP, hD, hK⟩ := pq_jn (wz := [(h6, ce49), (h7, ce49), (h8, ce49), (h9, ce49), (h10, ce49), (h11, ce49), (h12, ce49), (h0, ce21 h1 h2 o0 h3), (h2, ce3 z.1), (h3, ce366 h5), (h5, ce330 kc1 (z.2.2.1 128) (z.2.2.1 129) (z.2.2.1 130) (z.2.2.1 131) (z.2.2.1 132) (z.2.2.1 133) (z.2.2.1 134)), (a14, ce372 h1), (h1, ce331 h4), (h4, ce330 kc0 h6 h7 h8 h9 h10 h11 h12)]) (tz := [(kc1, .object "java/lang/Object"), (kc0, .object "java/lang/Object")]) hP hD hK [13, 12, 0] [1] rfl hk25 hF21 hB25.1 ht25 hvm25 rfl rfl
  have hG : s.heap.size + 9 ≤ H25.size := Nat.le_trans hG hz25
  refine W.eq (g2 := F0 m 32 ls [.ref h6]) (by rw [hr25]) ?_
  refine va_castE (nm := RX8) hx hb hown (hts _ q_273) (va_recv hK hP (ci := 7) (q := (RX8, TX8, 6)) (q0 := 0) rfl rfl) dX9_restart_32 ?_
  refine lv_astore_n (lv' := [(2, .ref h6), (1, .ref a14), (0, .ref h0)]) hx hb dX9_restart_35 rfl hl (by decide) rfl (fun ls hl => ?_)
  refine lv_aload_n hx hb dX9_restart_36 rfl (lv_at hl 0 rfl) ?_
  refine lv_bipush (v := 120) hx hb dX9_restart_37 (by decide) ?_
  refine va_put (D := (dC, dI)) (ci := 7) (v := .int 120) (ty := .char) (C := RX8) (T := TX8) (N := 6) hx hb hts in_X8 tyX8 tyX8_ok nmX8 hown hK hP hD (va_Sre hS) 0 rfl rfl 1 (by decide) (hts _ q_311) (fun _ h9 => h9) rfl (by decide +kernel) rfl rfl (Nat.le_of_ble_eq_true rfl) dX9_restart_39 (fun H27 _ hP hD hS' => ?_)
  have hG : s.heap.size + 9 ≤ H27.size := Nat.le_trans hG hS'.1
  have hS := va_Str hS hS'
  have hP : va_P (dC, dI) xCl [(h6, ce49), (h7, ce49), (h8, ce49), (h9, ce49), (h10, ce49), (h11, ce49), (h12, ce49), (h0, ce21 h1 h2 o0 h3), (h2, ce3 z.1), (h3, ce366 h5), (h5, ce330 kc1 (z.2.2.1 128) (z.2.2.1 129) (z.2.2.1 130) (z.2.2.1 131) (z.2.2.1 132) (z.2.2.1 133) (z.2.2.1 134)), (a14, ce372 h1), (h1, ce331 h4), (h4, ce330 kc0 h6 h7 h8 h9 h10 h11 h12)] H27 := hP
  have hD := vd_as hP hD rfl
  refine lv_aload_n hx hb dX9_restart_42 rfl (lv_at hl 0 rfl) ?_
  refine lv_iconst (v := 0) hx hb dX9_restart_43 (by decide) ?_
  refine va_put (D := (dC, dI)) (ci := 7) (v := .int 0) (ty := .int) (C := RX8) (T := TX8) (N := 6) hx hb hts in_X8 tyX8 tyX8_ok nmX8 hown hK hP hD (va_Sre hS) 0 rfl rfl 2 (by decide) (hts _ q_312) (fun _ h9 => h9) rfl (by decide +kernel) rfl rfl (Nat.le_of_ble_eq_true rfl) dX9_restart_44 (fun H28 _ hP hD hS' => ?_)
  have hG : s.heap.size + 9 ≤ H28.size := Nat.le_trans hG hS'.1
  have hS := va_Str hS hS'
  have hP : va_P (dC, dI) xCl [(h6, ce49), (h7, ce49), (h8, ce49), (h9, ce49), (h10, ce49), (h11, ce49), (h12, ce49), (h0, ce21 h1 h2 o0 h3), (h2, ce3 z.1), (h3, ce366 h5), (h5, ce330 kc1 (z.2.2.1 128) (z.2.2.1 129) (z.2.2.1 130) (z.2.2.1 131) (z.2.2.1 132) (z.2.2.1 133) (z.2.2.1 134)), (a14, ce372 h1), (h1, ce331 h4), (h4, ce330 kc0 h6 h7 h8 h9 h10 h11 h12)] H28 := hP
  have hD := vd_as hP hD rfl
  refine lv_aload_n hx hb dX9_restart_47 rfl (lv_at hl 0 rfl) ?_
  refine lv_iconst (v := (-1)) hx hb dX9_restart_48 (by decide) ?_
  refine va_put (D := (dC, dI)) (ci := 7) (v := .int (-1)) (ty := .int) (C := RX8) (T := TX8) (N := 6) hx hb hts in_X8 tyX8 tyX8_ok nmX8 hown hK hP hD (va_Sre hS) 0 rfl rfl 3 (by decide) (hts _ q_313) (fun _ h9 => h9) rfl (by decide +kernel) rfl rfl (Nat.le_of_ble_eq_true rfl) dX9_restart_49 (fun H29 _ hP hD hS' => ?_)
  have hG : s.heap.size + 9 ≤ H29.size := Nat.le_trans hG hS'.1
  have hS := va_Str hS hS'
  have hP : va_P (dC, dI) xCl [(h6, ce49), (h7, ce49), (h8, ce49), (h9, ce49), (h10, ce49), (h11, ce49), (h12, ce49), (h0, ce21 h1 h2 o0 h3), (h2, ce3 z.1), (h3, ce366 h5), (h5, ce330 kc1 (z.2.2.1 128) (z.2.2.1 129) (z.2.2.1 130) (z.2.2.1 131) (z.2.2.1 132) (z.2.2.1 133) (z.2.2.1 134)), (a14, ce372 h1), (h1, ce331 h4), (h4, ce330 kc0 h6 h7 h8 h9 h10 h11 h12)] H29 := hP
  have hD := vd_as hP hD rfl
  refine lv_goto (tgt := 17) hx hb dX9_restart_52 (by decide) ?_
  refine lv_aload_n hx hb dX9_restart_17 rfl (lv_at hl 1 rfl) ?_
  have hM32 := k728_hasNext l hl9 dC dI z a14 h1 h4 H29.size
  obtain ⟨hF30, hC33⟩ := pc_M hM32 hP hD hK hS hX hT hA [11, 12] [] rfl rfl rfl
  refine va_callFi (va_runF (As := []) (rest := []) (hK.1 1 (RJx35411, TJx35411, 4) rfl).2 ⟨hx, hb, hml, hown, hts⟩ hM32 (va_cwF 0 hts (gF q_261 q_262 q_263 q_246 q_260) rfl rfl rfl hT.2.2.2.2.2.2.1 hF_xIh ⟨Nat.le_of_ble_eq_true rfl, Nat.le_of_ble_eq_true rfl⟩) ⟨pc_blind, va_recv hK hP (ci := 1) (q := (RJx35411, TJx35411, 4)) (q0 := 11) rfl rfl, fun U hU hW => ⟨rfl, hC33 U hU hW⟩⟩ rfl rfl hl.1 rfl (lv_room (Nat.le_of_ble_eq_true rfl)) dX9_restart_18 ⟨(Nat.le_of_ble_eq_true rfl), (Nat.le_of_ble_eq_true rfl)⟩) hS (fun q9 _ h9 => hF30 q9 h9) hF30 (fun r35 u34 t34 H34 L34 ht34 hvm34 hw34 hB34 hz34 hk34 hS => ?_)
  have hP := pq_keep hP hD [11, 12] rfl hk34 hB34.1 ht34
  have hG : s.heap.size + 9 ≤ H34.size := Nat.le_trans hG hz34
  refine W.eq (g2 := F0 m 23 ls [.int 1]) (by rw [hw34]) ?_
  refine lv_if_eq (tgt := 55) hx hb dX9_restart_23 (by decide) (fun cz => absurd cz (by decide)) (fun _ => ?_)
  refine lv_aload_n hx hb dX9_restart_26 rfl (lv_at hl 1 rfl) ?_
  have hM38 := k730_next l hl9 dC dI z a14 h1 h4 h6 h7 h8 h9 h10 h11 h12 H34.size kc0
  obtain ⟨hF36, hC39⟩ := pc_M hM38 hP hD hK hS hX hT hA [11, 12, 13] [1] rfl rfl rfl
  refine va_callFr (va_runF (As := []) (rest := []) (hK.1 1 (RJx35411, TJx35411, 4) rfl).2 ⟨hx, hb, hml, hown, hts⟩ hM38 (va_cwF 0 hts (gF q_308 q_309 q_310 q_246 q_307) rfl rfl rfl hT.2.2.2.2.2.2.2.1 hF_xIn ⟨Nat.le_of_ble_eq_true rfl, Nat.le_of_ble_eq_true rfl⟩) ⟨pc_blind, va_recv hK hP (ci := 1) (q := (RJx35411, TJx35411, 4)) (q0 := 11) rfl rfl, fun U hU hW => ⟨rfl, hC39 U hU hW⟩⟩ rfl rfl hl.1 rfl (lv_room (Nat.le_of_ble_eq_true rfl)) dX9_restart_27 ⟨(Nat.le_of_ble_eq_true rfl), (Nat.le_of_ble_eq_true rfl)⟩) hS (fun q9 _ h9 => hF36 q9 h9) hF36 (fun u40 r41 t40 H40 L40 ht40 hvm40 hw40 hB40 hz40 hk40 hS => ?_)
  obtain ⟨hr40, hB40⟩ := hB40
  obtain ⟨hP, hD, hK⟩ := pq_jn (wz := [(h6, ce49), (h7, ce49), (h8, ce49), (h9, ce49), (h10, ce49), (h11, ce49), (h12, ce49), (h0, ce21 h1 h2 o0 h3), (h2, ce3 z.1), (h3, ce366 h5), (h5, ce330 kc1 (z.2.2.1 128) (z.2.2.1 129) (z.2.2.1 130) (z.2.2.1 131) (z.2.2.1 132) (z.2.2.1 133) (z.2.2.1 134)), (a14, ce374 h1), (h1, ce331 h4), (h4, ce330 kc0 h6 h7 h8 h9 h10 h11 h12)]) (tz := [(kc1, .object "java/lang/Object"), (kc0, .object "java/lang/Object")]) hP hD hK [11, 12, 13] [0] rfl hk40 hF36 hB40.1 ht40 hvm40 rfl rfl
  have hG : s.heap.size + 9 ≤ H40.size := Nat.le_trans hG hz40
  refine W.eq (g2 := F0 m 32 ls [.ref h7]) (by rw [hr40]) ?_
  refine va_castE (nm := RX8) hx hb hown (hts _ q_273) (va_recv hK hP (ci := 7) (q := (RX8, TX8, 6)) (q0 := 1) rfl rfl) dX9_restart_32 ?_
  refine lv_astore_n (lv' := [(2, .ref h7), (1, .ref a14), (0, .ref h0)]) hx hb dX9_restart_35 rfl hl (by decide) rfl (fun ls hl => ?_)
  refine lv_aload_n hx hb dX9_restart_36 rfl (lv_at hl 0 rfl) ?_
  refine lv_bipush (v := 120) hx hb dX9_restart_37 (by decide) ?_
  refine va_put (D := (dC, dI)) (ci := 7) (v := .int 120) (ty := .char) (C := RX8) (T := TX8) (N := 6) hx hb hts in_X8 tyX8 tyX8_ok nmX8 hown hK hP hD (va_Sre hS) 1 rfl rfl 1 (by decide) (hts _ q_311) (fun _ h9 => h9) rfl (by decide +kernel) rfl rfl (Nat.le_of_ble_eq_true rfl) dX9_restart_39 (fun H42 _ hP hD hS' => ?_)
  have hG : s.heap.size + 9 ≤ H42.size := Nat.le_trans hG hS'.1
  have hS := va_Str hS hS'
  have hP : va_P (dC, dI) xCl [(h6, ce49), (h7, ce49), (h8, ce49), (h9, ce49), (h10, ce49), (h11, ce49), (h12, ce49), (h0, ce21 h1 h2 o0 h3), (h2, ce3 z.1), (h3, ce366 h5), (h5, ce330 kc1 (z.2.2.1 128) (z.2.2.1 129) (z.2.2.1 130) (z.2.2.1 131) (z.2.2.1 132) (z.2.2.1 133) (z.2.2.1 134)), (a14, ce374 h1), (h1, ce331 h4), (h4, ce330 kc0 h6 h7 h8 h9 h10 h11 h12)] H42 := hP
  have hD := vd_as hP hD rfl
  refine lv_aload_n hx hb dX9_restart_42 rfl (lv_at hl 0 rfl) ?_
  refine lv_iconst (v := 0) hx hb dX9_restart_43 (by decide) ?_
  refine va_put (D := (dC, dI)) (ci := 7) (v := .int 0) (ty := .int) (C := RX8) (T := TX8) (N := 6) hx hb hts in_X8 tyX8 tyX8_ok nmX8 hown hK hP hD (va_Sre hS) 1 rfl rfl 2 (by decide) (hts _ q_312) (fun _ h9 => h9) rfl (by decide +kernel) rfl rfl (Nat.le_of_ble_eq_true rfl) dX9_restart_44 (fun H43 _ hP hD hS' => ?_)
  have hG : s.heap.size + 9 ≤ H43.size := Nat.le_trans hG hS'.1
  have hS := va_Str hS hS'
  have hP : va_P (dC, dI) xCl [(h6, ce49), (h7, ce49), (h8, ce49), (h9, ce49), (h10, ce49), (h11, ce49), (h12, ce49), (h0, ce21 h1 h2 o0 h3), (h2, ce3 z.1), (h3, ce366 h5), (h5, ce330 kc1 (z.2.2.1 128) (z.2.2.1 129) (z.2.2.1 130) (z.2.2.1 131) (z.2.2.1 132) (z.2.2.1 133) (z.2.2.1 134)), (a14, ce374 h1), (h1, ce331 h4), (h4, ce330 kc0 h6 h7 h8 h9 h10 h11 h12)] H43 := hP
  have hD := vd_as hP hD rfl
  refine lv_aload_n hx hb dX9_restart_47 rfl (lv_at hl 0 rfl) ?_
  refine lv_iconst (v := (-1)) hx hb dX9_restart_48 (by decide) ?_
  refine va_put (D := (dC, dI)) (ci := 7) (v := .int (-1)) (ty := .int) (C := RX8) (T := TX8) (N := 6) hx hb hts in_X8 tyX8 tyX8_ok nmX8 hown hK hP hD (va_Sre hS) 1 rfl rfl 3 (by decide) (hts _ q_313) (fun _ h9 => h9) rfl (by decide +kernel) rfl rfl (Nat.le_of_ble_eq_true rfl) dX9_restart_49 (fun H44 _ hP hD hS' => ?_)
  have hG : s.heap.size + 9 ≤ H44.size := Nat.le_trans hG hS'.1
  have hS := va_Str hS hS'
  have hP : va_P (dC, dI) xCl [(h6, ce49), (h7, ce49), (h8, ce49), (h9, ce49), (h10, ce49), (h11, ce49), (h12, ce49), (h0, ce21 h1 h2 o0 h3), (h2, ce3 z.1), (h3, ce366 h5), (h5, ce330 kc1 (z.2.2.1 128) (z.2.2.1 129) (z.2.2.1 130) (z.2.2.1 131) (z.2.2.1 132) (z.2.2.1 133) (z.2.2.1 134)), (a14, ce374 h1), (h1, ce331 h4), (h4, ce330 kc0 h6 h7 h8 h9 h10 h11 h12)] H44 := hP
  have hD := vd_as hP hD rfl
  refine lv_goto (tgt := 17) hx hb dX9_restart_52 (by decide) ?_
  refine lv_aload_n hx hb dX9_restart_17 rfl (lv_at hl 1 rfl) ?_
  have hM47 := k731_hasNext l hl9 dC dI z a14 h1 h4 H44.size
  obtain ⟨hF45, hC48⟩ := pc_M hM47 hP hD hK hS hX hT hA [11, 12] [] rfl rfl rfl
  refine va_callFi (va_runF (As := []) (rest := []) (hK.1 1 (RJx35411, TJx35411, 4) rfl).2 ⟨hx, hb, hml, hown, hts⟩ hM47 (va_cwF 0 hts (gF q_261 q_262 q_263 q_246 q_260) rfl rfl rfl hT.2.2.2.2.2.2.1 hF_xIh ⟨Nat.le_of_ble_eq_true rfl, Nat.le_of_ble_eq_true rfl⟩) ⟨pc_blind, va_recv hK hP (ci := 1) (q := (RJx35411, TJx35411, 4)) (q0 := 11) rfl rfl, fun U hU hW => ⟨rfl, hC48 U hU hW⟩⟩ rfl rfl hl.1 rfl (lv_room (Nat.le_of_ble_eq_true rfl)) dX9_restart_18 ⟨(Nat.le_of_ble_eq_true rfl), (Nat.le_of_ble_eq_true rfl)⟩) hS (fun q9 _ h9 => hF45 q9 h9) hF45 (fun r50 u49 t49 H49 L49 ht49 hvm49 hw49 hB49 hz49 hk49 hS => ?_)
  have hP := pq_keep hP hD [11, 12] rfl hk49 hB49.1 ht49
  have hG : s.heap.size + 9 ≤ H49.size := Nat.le_trans hG hz49
  refine W.eq (g2 := F0 m 23 ls [.int 1]) (by rw [hw49]) ?_
  refine lv_if_eq (tgt := 55) hx hb dX9_restart_23 (by decide) (fun cz => absurd cz (by decide)) (fun _ => ?_)
  refine lv_aload_n hx hb dX9_restart_26 rfl (lv_at hl 1 rfl) ?_
  have hM53 := k733_next l hl9 dC dI z a14 h1 h4 h6 h7 h8 h9 h10 h11 h12 H49.size kc0
  obtain ⟨hF51, hC54⟩ := pc_M hM53 hP hD hK hS hX hT hA [11, 12, 13] [1] rfl rfl rfl
  refine va_callFr (va_runF (As := []) (rest := []) (hK.1 1 (RJx35411, TJx35411, 4) rfl).2 ⟨hx, hb, hml, hown, hts⟩ hM53 (va_cwF 0 hts (gF q_308 q_309 q_310 q_246 q_307) rfl rfl rfl hT.2.2.2.2.2.2.2.1 hF_xIn ⟨Nat.le_of_ble_eq_true rfl, Nat.le_of_ble_eq_true rfl⟩) ⟨pc_blind, va_recv hK hP (ci := 1) (q := (RJx35411, TJx35411, 4)) (q0 := 11) rfl rfl, fun U hU hW => ⟨rfl, hC54 U hU hW⟩⟩ rfl rfl hl.1 rfl (lv_room (Nat.le_of_ble_eq_true rfl)) dX9_restart_27 ⟨(Nat.le_of_ble_eq_true rfl), (Nat.le_of_ble_eq_true rfl)⟩) hS (fun q9 _ h9 => hF51 q9 h9) hF51 (fun u55 r56 t55 H55 L55 ht55 hvm55 hw55 hB55 hz55 hk55 hS => ?_)
  obtain ⟨hr55, hB55⟩ := hB55
  obtain ⟨hP, hD, hK⟩ := pq_jn (wz := [(h6, ce49), (h7, ce49), (h8, ce49), (h9, ce49), (h10, ce49), (h11, ce49), (h12, ce49), (h0, ce21 h1 h2 o0 h3), (h2, ce3 z.1), (h3, ce366 h5), (h5, ce330 kc1 (z.2.2.1 128) (z.2.2.1 129) (z.2.2.1 130) (z.2.2.1 131) (z.2.2.1 132) (z.2.2.1 133) (z.2.2.1 134)), (a14, ce376 h1), (h1, ce331 h4), (h4, ce330 kc0 h6 h7 h8 h9 h10 h11 h12)]) (tz := [(kc1, .object "java/lang/Object"), (kc0, .object "java/lang/Object")]) hP hD hK [11, 12, 13] [0] rfl hk55 hF51 hB55.1 ht55 hvm55 rfl rfl
  have hG : s.heap.size + 9 ≤ H55.size := Nat.le_trans hG hz55
  refine W.eq (g2 := F0 m 32 ls [.ref h8]) (by rw [hr55]) ?_
  refine va_castE (nm := RX8) hx hb hown (hts _ q_273) (va_recv hK hP (ci := 7) (q := (RX8, TX8, 6)) (q0 := 2) rfl rfl) dX9_restart_32 ?_
  refine lv_astore_n (lv' := [(2, .ref h8), (1, .ref a14), (0, .ref h0)]) hx hb dX9_restart_35 rfl hl (by decide) rfl (fun ls hl => ?_)
  refine lv_aload_n hx hb dX9_restart_36 rfl (lv_at hl 0 rfl) ?_
  refine lv_bipush (v := 120) hx hb dX9_restart_37 (by decide) ?_
  refine va_put (D := (dC, dI)) (ci := 7) (v := .int 120) (ty := .char) (C := RX8) (T := TX8) (N := 6) hx hb hts in_X8 tyX8 tyX8_ok nmX8 hown hK hP hD (va_Sre hS) 2 rfl rfl 1 (by decide) (hts _ q_311) (fun _ h9 => h9) rfl (by decide +kernel) rfl rfl (Nat.le_of_ble_eq_true rfl) dX9_restart_39 (fun H57 _ hP hD hS' => ?_)
  have hG : s.heap.size + 9 ≤ H57.size := Nat.le_trans hG hS'.1
  have hS := va_Str hS hS'
  have hP : va_P (dC, dI) xCl [(h6, ce49), (h7, ce49), (h8, ce49), (h9, ce49), (h10, ce49), (h11, ce49), (h12, ce49), (h0, ce21 h1 h2 o0 h3), (h2, ce3 z.1), (h3, ce366 h5), (h5, ce330 kc1 (z.2.2.1 128) (z.2.2.1 129) (z.2.2.1 130) (z.2.2.1 131) (z.2.2.1 132) (z.2.2.1 133) (z.2.2.1 134)), (a14, ce376 h1), (h1, ce331 h4), (h4, ce330 kc0 h6 h7 h8 h9 h10 h11 h12)] H57 := hP
  have hD := vd_as hP hD rfl
  refine lv_aload_n hx hb dX9_restart_42 rfl (lv_at hl 0 rfl) ?_
  refine lv_iconst (v := 0) hx hb dX9_restart_43 (by decide) ?_
  refine va_put (D := (dC, dI)) (ci := 7) (v := .int 0) (ty := .int) (C := RX8) (T := TX8) (N := 6) hx hb hts in_X8 tyX8 tyX8_ok nmX8 hown hK hP hD (va_Sre hS) 2 rfl rfl 2 (by decide) (hts _ q_312) (fun _ h9 => h9) rfl (by decide +kernel) rfl rfl (Nat.le_of_ble_eq_true rfl) dX9_restart_44 (fun H58 _ hP hD hS' => ?_)
  have hG : s.heap.size + 9 ≤ H58.size := Nat.le_trans hG hS'.1
  have hS := va_Str hS hS'
  have hP : va_P (dC, dI) xCl [(h6, ce49), (h7, ce49), (h8, ce49), (h9, ce49), (h10, ce49), (h11, ce49), (h12, ce49), (h0, ce21 h1 h2 o0 h3), (h2, ce3 z.1), (h3, ce366 h5), (h5, ce330 kc1 (z.2.2.1 128) (z.2.2.1 129) (z.2.2.1 130) (z.2.2.1 131) (z.2.2.1 132) (z.2.2.1 133) (z.2.2.1 134)), (a14, ce376 h1), (h1, ce331 h4), (h4, ce330 kc0 h6 h7 h8 h9 h10 h11 h12)] H58 := hP
  have hD := vd_as hP hD rfl
  refine lv_aload_n hx hb dX9_restart_47 rfl (lv_at hl 0 rfl) ?_
  refine lv_iconst (v := (-1)) hx hb dX9_restart_48 (by decide) ?_
  refine va_put (D := (dC, dI)) (ci := 7) (v := .int (-1)) (ty := .int) (C := RX8) (T := TX8) (N := 6) hx hb hts in_X8 tyX8 tyX8_ok nmX8 hown hK hP hD (va_Sre hS) 2 rfl rfl 3 (by decide) (hts _ q_313) (fun _ h9 => h9) rfl (by decide +kernel) rfl rfl (Nat.le_of_ble_eq_true rfl) dX9_restart_49 (fun H59 _ hP hD hS' => ?_)
  have hG : s.heap.size + 9 ≤ H59.size := Nat.le_trans hG hS'.1
  have hS := va_Str hS hS'
  have hP : va_P (dC, dI) xCl [(h6, ce49), (h7, ce49), (h8, ce49), (h9, ce49), (h10, ce49), (h11, ce49), (h12, ce49), (h0, ce21 h1 h2 o0 h3), (h2, ce3 z.1), (h3, ce366 h5), (h5, ce330 kc1 (z.2.2.1 128) (z.2.2.1 129) (z.2.2.1 130) (z.2.2.1 131) (z.2.2.1 132) (z.2.2.1 133) (z.2.2.1 134)), (a14, ce376 h1), (h1, ce331 h4), (h4, ce330 kc0 h6 h7 h8 h9 h10 h11 h12)] H59 := hP
  have hD := vd_as hP hD rfl
  refine lv_goto (tgt := 17) hx hb dX9_restart_52 (by decide) ?_
  refine lv_aload_n hx hb dX9_restart_17 rfl (lv_at hl 1 rfl) ?_
  have hM62 := k734_hasNext l hl9 dC dI z a14 h1 h4 H59.size
  obtain ⟨hF60, hC63⟩ := pc_M hM62 hP hD hK hS hX hT hA [11, 12] [] rfl rfl rfl
  refine va_callFi (va_runF (As := []) (rest := []) (hK.1 1 (RJx35411, TJx35411, 4) rfl).2 ⟨hx, hb, hml, hown, hts⟩ hM62 (va_cwF 0 hts (gF q_261 q_262 q_263 q_246 q_260) rfl rfl rfl hT.2.2.2.2.2.2.1 hF_xIh ⟨Nat.le_of_ble_eq_true rfl, Nat.le_of_ble_eq_true rfl⟩) ⟨pc_blind, va_recv hK hP (ci := 1) (q := (RJx35411, TJx35411, 4)) (q0 := 11) rfl rfl, fun U hU hW => ⟨rfl, hC63 U hU hW⟩⟩ rfl rfl hl.1 rfl (lv_room (Nat.le_of_ble_eq_true rfl)) dX9_restart_18 ⟨(Nat.le_of_ble_eq_true rfl), (Nat.le_of_ble_eq_true rfl)⟩) hS (fun q9 _ h9 => hF60 q9 h9) hF60 (fun r65 u64 t64 H64 L64 ht64 hvm64 hw64 hB64 hz64 hk64 hS => ?_)
  have hP := pq_keep hP hD [11, 12] rfl hk64 hB64.1 ht64
  have hG : s.heap.size + 9 ≤ H64.size := Nat.le_trans hG hz64
  refine W.eq (g2 := F0 m 23 ls [.int 1]) (by rw [hw64]) ?_
  refine lv_if_eq (tgt := 55) hx hb dX9_restart_23 (by decide) (fun cz => absurd cz (by decide)) (fun _ => ?_)
  refine lv_aload_n hx hb dX9_restart_26 rfl (lv_at hl 1 rfl) ?_
  have hM68 := k736_next l hl9 dC dI z a14 h1 h4 h6 h7 h8 h9 h10 h11 h12 H64.size kc0
  obtain ⟨hF66, hC69⟩ := pc_M hM68 hP hD hK hS hX hT hA [11, 12, 13] [1] rfl rfl rfl
  refine va_callFr (va_runF (As := []) (rest := []) (hK.1 1 (RJx35411, TJx35411, 4) rfl).2 ⟨hx, hb, hml, hown, hts⟩ hM68 (va_cwF 0 hts (gF q_308 q_309 q_310 q_246 q_307) rfl rfl rfl hT.2.2.2.2.2.2.2.1 hF_xIn ⟨Nat.le_of_ble_eq_true rfl, Nat.le_of_ble_eq_true rfl⟩) ⟨pc_blind, va_recv hK hP (ci := 1) (q := (RJx35411, TJx35411, 4)) (q0 := 11) rfl rfl, fun U hU hW => ⟨rfl, hC69 U hU hW⟩⟩ rfl rfl hl.1 rfl (lv_room (Nat.le_of_ble_eq_true rfl)) dX9_restart_27 ⟨(Nat.le_of_ble_eq_true rfl), (Nat.le_of_ble_eq_true rfl)⟩) hS (fun q9 _ h9 => hF66 q9 h9) hF66 (fun u70 r71 t70 H70 L70 ht70 hvm70 hw70 hB70 hz70 hk70 hS => ?_)
  obtain ⟨hr70, hB70⟩ := hB70
  obtain ⟨hP, hD, hK⟩ := pq_jn (wz := [(h6, ce49), (h7, ce49), (h8, ce49), (h9, ce49), (h10, ce49), (h11, ce49), (h12, ce49), (h0, ce21 h1 h2 o0 h3), (h2, ce3 z.1), (h3, ce366 h5), (h5, ce330 kc1 (z.2.2.1 128) (z.2.2.1 129) (z.2.2.1 130) (z.2.2.1 131) (z.2.2.1 132) (z.2.2.1 133) (z.2.2.1 134)), (a14, ce378 h1), (h1, ce331 h4), (h4, ce330 kc0 h6 h7 h8 h9 h10 h11 h12)]) (tz := [(kc1, .object "java/lang/Object"), (kc0, .object "java/lang/Object")]) hP hD hK [11, 12, 13] [0] rfl hk70 hF66 hB70.1 ht70 hvm70 rfl rfl
  have hG : s.heap.size + 9 ≤ H70.size := Nat.le_trans hG hz70
  refine W.eq (g2 := F0 m 32 ls [.ref h9]) (by rw [hr70]) ?_
  refine va_castE (nm := RX8) hx hb hown (hts _ q_273) (va_recv hK hP (ci := 7) (q := (RX8, TX8, 6)) (q0 := 3) rfl rfl) dX9_restart_32 ?_
  refine lv_astore_n (lv' := [(2, .ref h9), (1, .ref a14), (0, .ref h0)]) hx hb dX9_restart_35 rfl hl (by decide) rfl (fun ls hl => ?_)
  refine lv_aload_n hx hb dX9_restart_36 rfl (lv_at hl 0 rfl) ?_
  refine lv_bipush (v := 120) hx hb dX9_restart_37 (by decide) ?_
  refine va_put (D := (dC, dI)) (ci := 7) (v := .int 120) (ty := .char) (C := RX8) (T := TX8) (N := 6) hx hb hts in_X8 tyX8 tyX8_ok nmX8 hown hK hP hD (va_Sre hS) 3 rfl rfl 1 (by decide) (hts _ q_311) (fun _ h9 => h9) rfl (by decide +kernel) rfl rfl (Nat.le_of_ble_eq_true rfl) dX9_restart_39 (fun H72 _ hP hD hS' => ?_)
  have hG : s.heap.size + 9 ≤ H72.size := Nat.le_trans hG hS'.1
  have hS := va_Str hS hS'
  have hP : va_P (dC, dI) xCl [(h6, ce49), (h7, ce49), (h8, ce49), (h9, ce49), (h10, ce49), (h11, ce49), (h12, ce49), (h0, ce21 h1 h2 o0 h3), (h2, ce3 z.1), (h3, ce366 h5), (h5, ce330 kc1 (z.2.2.1 128) (z.2.2.1 129) (z.2.2.1 130) (z.2.2.1 131) (z.2.2.1 132) (z.2.2.1 133) (z.2.2.1 134)), (a14, ce378 h1), (h1, ce331 h4), (h4, ce330 kc0 h6 h7 h8 h9 h10 h11 h12)] H72 := hP
  have hD := vd_as hP hD rfl
  refine lv_aload_n hx hb dX9_restart_42 rfl (lv_at hl 0 rfl) ?_
  refine lv_iconst (v := 0) hx hb dX9_restart_43 (by decide) ?_
  refine va_put (D := (dC, dI)) (ci := 7) (v := .int 0) (ty := .int) (C := RX8) (T := TX8) (N := 6) hx hb hts in_X8 tyX8 tyX8_ok nmX8 hown hK hP hD (va_Sre hS) 3 rfl rfl 2 (by decide) (hts _ q_312) (fun _ h9 => h9) rfl (by decide +kernel) rfl rfl (Nat.le_of_ble_eq_true rfl) dX9_restart_44 (fun H73 _ hP hD hS' => ?_)
  have hG : s.heap.size + 9 ≤ H73.size := Nat.le_trans hG hS'.1
  have hS := va_Str hS hS'
  have hP : va_P (dC, dI) xCl [(h6, ce49), (h7, ce49), (h8, ce49), (h9, ce49), (h10, ce49), (h11, ce49), (h12, ce49), (h0, ce21 h1 h2 o0 h3), (h2, ce3 z.1), (h3, ce366 h5), (h5, ce330 kc1 (z.2.2.1 128) (z.2.2.1 129) (z.2.2.1 130) (z.2.2.1 131) (z.2.2.1 132) (z.2.2.1 133) (z.2.2.1 134)), (a14, ce378 h1), (h1, ce331 h4), (h4, ce330 kc0 h6 h7 h8 h9 h10 h11 h12)] H73 := hP
  have hD := vd_as hP hD rfl
  refine lv_aload_n hx hb dX9_restart_47 rfl (lv_at hl 0 rfl) ?_
  refine lv_iconst (v := (-1)) hx hb dX9_restart_48 (by decide) ?_
  refine va_put (D := (dC, dI)) (ci := 7) (v := .int (-1)) (ty := .int) (C := RX8) (T := TX8) (N := 6) hx hb hts in_X8 tyX8 tyX8_ok nmX8 hown hK hP hD (va_Sre hS) 3 rfl rfl 3 (by decide) (hts _ q_313) (fun _ h9 => h9) rfl (by decide +kernel) rfl rfl (Nat.le_of_ble_eq_true rfl) dX9_restart_49 (fun H74 _ hP hD hS' => ?_)
  have hG : s.heap.size + 9 ≤ H74.size := Nat.le_trans hG hS'.1
  have hS := va_Str hS hS'
  have hP : va_P (dC, dI) xCl [(h6, ce49), (h7, ce49), (h8, ce49), (h9, ce49), (h10, ce49), (h11, ce49), (h12, ce49), (h0, ce21 h1 h2 o0 h3), (h2, ce3 z.1), (h3, ce366 h5), (h5, ce330 kc1 (z.2.2.1 128) (z.2.2.1 129) (z.2.2.1 130) (z.2.2.1 131) (z.2.2.1 132) (z.2.2.1 133) (z.2.2.1 134)), (a14, ce378 h1), (h1, ce331 h4), (h4, ce330 kc0 h6 h7 h8 h9 h10 h11 h12)] H74 := hP
  have hD := vd_as hP hD rfl
  refine lv_goto (tgt := 17) hx hb dX9_restart_52 (by decide) ?_
  refine lv_aload_n hx hb dX9_restart_17 rfl (lv_at hl 1 rfl) ?_
  have hM77 := k737_hasNext l hl9 dC dI z a14 h1 h4 H74.size
  obtain ⟨hF75, hC78⟩ := pc_M hM77 hP hD hK hS hX hT hA [11, 12] [] rfl rfl rfl
  refine va_callFi (va_runF (As := []) (rest := []) (hK.1 1 (RJx35411, TJx35411, 4) rfl).2 ⟨hx, hb, hml, hown, hts⟩ hM77 (va_cwF 0 hts (gF q_261 q_262 q_263 q_246 q_260) rfl rfl rfl hT.2.2.2.2.2.2.1 hF_xIh ⟨Nat.le_of_ble_eq_true rfl, Nat.le_of_ble_eq_true rfl⟩) ⟨pc_blind, va_recv hK hP (ci := 1) (q := (RJx35411, TJx35411, 4)) (q0 := 11) rfl rfl, fun U hU hW => ⟨rfl, hC78 U hU hW⟩⟩ rfl rfl hl.1 rfl (lv_room (Nat.le_of_ble_eq_true rfl)) dX9_restart_18 ⟨(Nat.le_of_ble_eq_true rfl), (Nat.le_of_ble_eq_true rfl)⟩) hS (fun q9 _ h9 => hF75 q9 h9) hF75 (fun r80 u79 t79 H79 L79 ht79 hvm79 hw79 hB79 hz79 hk79 hS => ?_)
  have hP := pq_keep hP hD [11, 12] rfl hk79 hB79.1 ht79
  have hG : s.heap.size + 9 ≤ H79.size := Nat.le_trans hG hz79
  refine W.eq (g2 := F0 m 23 ls [.int 1]) (by rw [hw79]) ?_
  refine lv_if_eq (tgt := 55) hx hb dX9_restart_23 (by decide) (fun cz => absurd cz (by decide)) (fun _ => ?_)
  refine lv_aload_n hx hb dX9_restart_26 rfl (lv_at hl 1 rfl) ?_
  have hM83 := k739_next l hl9 dC dI z a14 h1 h4 h6 h7 h8 h9 h10 h11 h12 H79.size kc0
  obtain ⟨hF81, hC84⟩ := pc_M hM83 hP hD hK hS hX hT hA [11, 12, 13] [1] rfl rfl rfl
  refine va_callFr (va_runF (As := []) (rest := []) (hK.1 1 (RJx35411, TJx35411, 4) rfl).2 ⟨hx, hb, hml, hown, hts⟩ hM83 (va_cwF 0 hts (gF q_308 q_309 q_310 q_246 q_307) rfl rfl rfl hT.2.2.2.2.2.2.2.1 hF_xIn ⟨Nat.le_of_ble_eq_true rfl, Nat.le_of_ble_eq_true rfl⟩) ⟨pc_blind, va_recv hK hP (ci := 1) (q := (RJx35411, TJx35411, 4)) (q0 := 11) rfl rfl, fun U hU hW => ⟨rfl, hC84 U hU hW⟩⟩ rfl rfl hl.1 rfl (lv_room (Nat.le_of_ble_eq_true rfl)) dX9_restart_27 ⟨(Nat.le_of_ble_eq_true rfl), (Nat.le_of_ble_eq_true rfl)⟩) hS (fun q9 _ h9 => hF81 q9 h9) hF81 (fun u85 r86 t85 H85 L85 ht85 hvm85 hw85 hB85 hz85 hk85 hS => ?_)
  obtain ⟨hr85, hB85⟩ := hB85
  obtain ⟨hP, hD, hK⟩ := pq_jn (wz := [(h6, ce49), (h7, ce49), (h8, ce49), (h9, ce49), (h10, ce49), (h11, ce49), (h12, ce49), (h0, ce21 h1 h2 o0 h3), (h2, ce3 z.1), (h3, ce366 h5), (h5, ce330 kc1 (z.2.2.1 128) (z.2.2.1 129) (z.2.2.1 130) (z.2.2.1 131) (z.2.2.1 132) (z.2.2.1 133) (z.2.2.1 134)), (a14, ce380 h1), (h1, ce331 h4), (h4, ce330 kc0 h6 h7 h8 h9 h10 h11 h12)]) (tz := [(kc1, .object "java/lang/Object"), (kc0, .object "java/lang/Object")]) hP hD hK [11, 12, 13] [0] rfl hk85 hF81 hB85.1 ht85 hvm85 rfl rfl
  have hG : s.heap.size + 9 ≤ H85.size := Nat.le_trans hG hz85
  refine W.eq (g2 := F0 m 32 ls [.ref h10]) (by rw [hr85]) ?_
  refine va_castE (nm := RX8) hx hb hown (hts _ q_273) (va_recv hK hP (ci := 7) (q := (RX8, TX8, 6)) (q0 := 4) rfl rfl) dX9_restart_32 ?_
  refine lv_astore_n (lv' := [(2, .ref h10), (1, .ref a14), (0, .ref h0)]) hx hb dX9_restart_35 rfl hl (by decide) rfl (fun ls hl => ?_)
  refine lv_aload_n hx hb dX9_restart_36 rfl (lv_at hl 0 rfl) ?_
  refine lv_bipush (v := 120) hx hb dX9_restart_37 (by decide) ?_
  refine va_put (D := (dC, dI)) (ci := 7) (v := .int 120) (ty := .char) (C := RX8) (T := TX8) (N := 6) hx hb hts in_X8 tyX8 tyX8_ok nmX8 hown hK hP hD (va_Sre hS) 4 rfl rfl 1 (by decide) (hts _ q_311) (fun _ h9 => h9) rfl (by decide +kernel) rfl rfl (Nat.le_of_ble_eq_true rfl) dX9_restart_39 (fun H87 _ hP hD hS' => ?_)
  have hG : s.heap.size + 9 ≤ H87.size := Nat.le_trans hG hS'.1
  have hS := va_Str hS hS'
  have hP : va_P (dC, dI) xCl [(h6, ce49), (h7, ce49), (h8, ce49), (h9, ce49), (h10, ce49), (h11, ce49), (h12, ce49), (h0, ce21 h1 h2 o0 h3), (h2, ce3 z.1), (h3, ce366 h5), (h5, ce330 kc1 (z.2.2.1 128) (z.2.2.1 129) (z.2.2.1 130) (z.2.2.1 131) (z.2.2.1 132) (z.2.2.1 133) (z.2.2.1 134)), (a14, ce380 h1), (h1, ce331 h4), (h4, ce330 kc0 h6 h7 h8 h9 h10 h11 h12)] H87 := hP
  have hD := vd_as hP hD rfl
  refine lv_aload_n hx hb dX9_restart_42 rfl (lv_at hl 0 rfl) ?_
  refine lv_iconst (v := 0) hx hb dX9_restart_43 (by decide) ?_
  refine va_put (D := (dC, dI)) (ci := 7) (v := .int 0) (ty := .int) (C := RX8) (T := TX8) (N := 6) hx hb hts in_X8 tyX8 tyX8_ok nmX8 hown hK hP hD (va_Sre hS) 4 rfl rfl 2 (by decide) (hts _ q_312) (fun _ h9 => h9) rfl (by decide +kernel) rfl rfl (Nat.le_of_ble_eq_true rfl) dX9_restart_44 (fun H88 _ hP hD hS' => ?_)
  have hG : s.heap.size + 9 ≤ H88.size := Nat.le_trans hG hS'.1
  have hS := va_Str hS hS'
  have hP : va_P (dC, dI) xCl [(h6, ce49), (h7, ce49), (h8, ce49), (h9, ce49), (h10, ce49), (h11, ce49), (h12, ce49), (h0, ce21 h1 h2 o0 h3), (h2, ce3 z.1), (h3, ce366 h5), (h5, ce330 kc1 (z.2.2.1 128) (z.2.2.1 129) (z.2.2.1 130) (z.2.2.1 131) (z.2.2.1 132) (z.2.2.1 133) (z.2.2.1 134)), (a14, ce380 h1), (h1, ce331 h4), (h4, ce330 kc0 h6 h7 h8 h9 h10 h11 h12)] H88 := hP
  have hD := vd_as hP hD rfl
  refine lv_aload_n hx hb dX9_restart_47 rfl (lv_at hl 0 rfl) ?_
  refine lv_iconst (v := (-1)) hx hb dX9_restart_48 (by decide) ?_
  refine va_put (D := (dC, dI)) (ci := 7) (v := .int (-1)) (ty := .int) (C := RX8) (T := TX8) (N := 6) hx hb hts in_X8 tyX8 tyX8_ok nmX8 hown hK hP hD (va_Sre hS) 4 rfl rfl 3 (by decide) (hts _ q_313) (fun _ h9 => h9) rfl (by decide +kernel) rfl rfl (Nat.le_of_ble_eq_true rfl) dX9_restart_49 (fun H89 _ hP hD hS' => ?_)
  have hG : s.heap.size + 9 ≤ H89.size := Nat.le_trans hG hS'.1
  have hS := va_Str hS hS'
  have hP : va_P (dC, dI) xCl [(h6, ce49), (h7, ce49), (h8, ce49), (h9, ce49), (h10, ce49), (h11, ce49), (h12, ce49), (h0, ce21 h1 h2 o0 h3), (h2, ce3 z.1), (h3, ce366 h5), (h5, ce330 kc1 (z.2.2.1 128) (z.2.2.1 129) (z.2.2.1 130) (z.2.2.1 131) (z.2.2.1 132) (z.2.2.1 133) (z.2.2.1 134)), (a14, ce380 h1), (h1, ce331 h4), (h4, ce330 kc0 h6 h7 h8 h9 h10 h11 h12)] H89 := hP
  have hD := vd_as hP hD rfl
  refine lv_goto (tgt := 17) hx hb dX9_restart_52 (by decide) ?_
  refine lv_aload_n hx hb dX9_restart_17 rfl (lv_at hl 1 rfl) ?_
  have hM92 := k740_hasNext l hl9 dC dI z a14 h1 h4 H89.size
  obtain ⟨hF90, hC93⟩ := pc_M hM92 hP hD hK hS hX hT hA [11, 12] [] rfl rfl rfl
  refine va_callFi (va_runF (As := []) (rest := []) (hK.1 1 (RJx35411, TJx35411, 4) rfl).2 ⟨hx, hb, hml, hown, hts⟩ hM92 (va_cwF 0 hts (gF q_261 q_262 q_263 q_246 q_260) rfl rfl rfl hT.2.2.2.2.2.2.1 hF_xIh ⟨Nat.le_of_ble_eq_true rfl, Nat.le_of_ble_eq_true rfl⟩) ⟨pc_blind, va_recv hK hP (ci := 1) (q := (RJx35411, TJx35411, 4)) (q0 := 11) rfl rfl, fun U hU hW => ⟨rfl, hC93 U hU hW⟩⟩ rfl rfl hl.1 rfl (lv_room (Nat.le_of_ble_eq_true rfl)) dX9_restart_18 ⟨(Nat.le_of_ble_eq_true rfl), (Nat.le_of_ble_eq_true rfl)⟩) hS (fun q9 _ h9 => hF90 q9 h9) hF90 (fun r95 u94 t94 H94 L94 ht94 hvm94 hw94 hB94 hz94 hk94 hS => ?_)
  have hP := pq_keep hP hD [11, 12] rfl hk94 hB94.1 ht94
  have hG : s.heap.size + 9 ≤ H94.size := Nat.le_trans hG hz94
  refine W.eq (g2 := F0 m 23 ls [.int 1]) (by rw [hw94]) ?_
  refine lv_if_eq (tgt := 55) hx hb dX9_restart_23 (by decide) (fun cz => absurd cz (by decide)) (fun _ => ?_)
  refine lv_aload_n hx hb dX9_restart_26 rfl (lv_at hl 1 rfl) ?_
  have hM98 := k742_next l hl9 dC dI z a14 h1 h4 h6 h7 h8 h9 h10 h11 h12 H94.size kc0
  obtain ⟨hF96, hC99⟩ := pc_M hM98 hP hD hK hS hX hT hA [11, 12, 13] [1] rfl rfl rfl
  refine va_callFr (va_runF (As := []) (rest := []) (hK.1 1 (RJx35411, TJx35411, 4) rfl).2 ⟨hx, hb, hml, hown, hts⟩ hM98 (va_cwF 0 hts (gF q_308 q_309 q_310 q_246 q_307) rfl rfl rfl hT.2.2.2.2.2.2.2.1 hF_xIn ⟨Nat.le_of_ble_eq_true rfl, Nat.le_of_ble_eq_true rfl⟩) ⟨pc_blind, va_recv hK hP (ci := 1) (q := (RJx35411, TJx35411, 4)) (q0 := 11) rfl rfl, fun U hU hW => ⟨rfl, hC99 U hU hW⟩⟩ rfl rfl hl.1 rfl (lv_room (Nat.le_of_ble_eq_true rfl)) dX9_restart_27 ⟨(Nat.le_of_ble_eq_true rfl), (Nat.le_of_ble_eq_true rfl)⟩) hS (fun q9 _ h9 => hF96 q9 h9) hF96 (fun u100 r101 t100 H100 L100 ht100 hvm100 hw100 hB100 hz100 hk100 hS => ?_)
  obtain ⟨hr100, hB100⟩ := hB100
  obtain ⟨hP, hD, hK⟩ := pq_jn (wz := [(h6, ce49), (h7, ce49), (h8, ce49), (h9, ce49), (h10, ce49), (h11, ce49), (h12, ce49), (h0, ce21 h1 h2 o0 h3), (h2, ce3 z.1), (h3, ce366 h5), (h5, ce330 kc1 (z.2.2.1 128) (z.2.2.1 129) (z.2.2.1 130) (z.2.2.1 131) (z.2.2.1 132) (z.2.2.1 133) (z.2.2.1 134)), (a14, ce382 h1), (h1, ce331 h4), (h4, ce330 kc0 h6 h7 h8 h9 h10 h11 h12)]) (tz := [(kc1, .object "java/lang/Object"), (kc0, .object "java/lang/Object")]) hP hD hK [11, 12, 13] [0] rfl hk100 hF96 hB100.1 ht100 hvm100 rfl rfl
  have hG : s.heap.size + 9 ≤ H100.size := Nat.le_trans hG hz100
  refine W.eq (g2 := F0 m 32 ls [.ref h11]) (by rw [hr100]) ?_
  refine va_castE (nm := RX8) hx hb hown (hts _ q_273) (va_recv hK hP (ci := 7) (q := (RX8, TX8, 6)) (q0 := 5) rfl rfl) dX9_restart_32 ?_
  refine lv_astore_n (lv' := [(2, .ref h11), (1, .ref a14), (0, .ref h0)]) hx hb dX9_restart_35 rfl hl (by decide) rfl (fun ls hl => ?_)
  refine lv_aload_n hx hb dX9_restart_36 rfl (lv_at hl 0 rfl) ?_
  refine lv_bipush (v := 120) hx hb dX9_restart_37 (by decide) ?_
  refine va_put (D := (dC, dI)) (ci := 7) (v := .int 120) (ty := .char) (C := RX8) (T := TX8) (N := 6) hx hb hts in_X8 tyX8 tyX8_ok nmX8 hown hK hP hD (va_Sre hS) 5 rfl rfl 1 (by decide) (hts _ q_311) (fun _ h9 => h9) rfl (by decide +kernel) rfl rfl (Nat.le_of_ble_eq_true rfl) dX9_restart_39 (fun H102 _ hP hD hS' => ?_)
  have hG : s.heap.size + 9 ≤ H102.size := Nat.le_trans hG hS'.1
  have hS := va_Str hS hS'
  have hP : va_P (dC, dI) xCl [(h6, ce49), (h7, ce49), (h8, ce49), (h9, ce49), (h10, ce49), (h11, ce49), (h12, ce49), (h0, ce21 h1 h2 o0 h3), (h2, ce3 z.1), (h3, ce366 h5), (h5, ce330 kc1 (z.2.2.1 128) (z.2.2.1 129) (z.2.2.1 130) (z.2.2.1 131) (z.2.2.1 132) (z.2.2.1 133) (z.2.2.1 134)), (a14, ce382 h1), (h1, ce331 h4), (h4, ce330 kc0 h6 h7 h8 h9 h10 h11 h12)] H102 := hP
  have hD := vd_as hP hD rfl
  refine lv_aload_n hx hb dX9_restart_42 rfl (lv_at hl 0 rfl) ?_
  refine lv_iconst (v := 0) hx hb dX9_restart_43 (by decide) ?_
  refine va_put (D := (dC, dI)) (ci := 7) (v := .int 0) (ty := .int) (C := RX8) (T := TX8) (N := 6) hx hb hts in_X8 tyX8 tyX8_ok nmX8 hown hK hP hD (va_Sre hS) 5 rfl rfl 2 (by decide) (hts _ q_312) (fun _ h9 => h9) rfl (by decide +kernel) rfl rfl (Nat.le_of_ble_eq_true rfl) dX9_restart_44 (fun H103 _ hP hD hS' => ?_)
  have hG : s.heap.size + 9 ≤ H103.size := Nat.le_trans hG hS'.1
  have hS := va_Str hS hS'
  have hP : va_P (dC, dI) xCl [(h6, ce49), (h7, ce49), (h8, ce49), (h9, ce49), (h10, ce49), (h11, ce49), (h12, ce49), (h0, ce21 h1 h2 o0 h3), (h2, ce3 z.1), (h3, ce366 h5), (h5, ce330 kc1 (z.2.2.1 128) (z.2.2.1 129) (z.2.2.1 130) (z.2.2.1 131) (z.2.2.1 132) (z.2.2.1 133) (z.2.2.1 134)), (a14, ce382 h1), (h1, ce331 h4), (h4, ce330 kc0 h6 h7 h8 h9 h10 h11 h12)] H103 := hP
  have hD := vd_as hP hD rfl
  refine lv_aload_n hx hb dX9_restart_47 rfl (lv_at hl 0 rfl) ?_
  refine lv_iconst (v := (-1)) hx hb dX9_restart_48 (by decide) ?_
  refine va_put (D := (dC, dI)) (ci := 7) (v := .int (-1)) (ty := .int) (C := RX8) (T := TX8) (N := 6) hx hb hts in_X8 tyX8 tyX8_ok nmX8 hown hK hP hD (va_Sre hS) 5 rfl rfl 3 (by decide) (hts _ q_313) (fun _ h9 => h9) rfl (by decide +kernel) rfl rfl (Nat.le_of_ble_eq_true rfl) dX9_restart_49 (fun H104 _ hP hD hS' => ?_)
  have hG : s.heap.size + 9 ≤ H104.size := Nat.le_trans hG hS'.1
  have hS := va_Str hS hS'
  have hP : va_P (dC, dI) xCl [(h6, ce49), (h7, ce49), (h8, ce49), (h9, ce49), (h10, ce49), (h11, ce49), (h12, ce49), (h0, ce21 h1 h2 o0 h3), (h2, ce3 z.1), (h3, ce366 h5), (h5, ce330 kc1 (z.2.2.1 128) (z.2.2.1 129) (z.2.2.1 130) (z.2.2.1 131) (z.2.2.1 132) (z.2.2.1 133) (z.2.2.1 134)), (a14, ce382 h1), (h1, ce331 h4), (h4, ce330 kc0 h6 h7 h8 h9 h10 h11 h12)] H104 := hP
  have hD := vd_as hP hD rfl
  refine lv_goto (tgt := 17) hx hb dX9_restart_52 (by decide) ?_
  refine lv_aload_n hx hb dX9_restart_17 rfl (lv_at hl 1 rfl) ?_
  have hM107 := k743_hasNext l hl9 dC dI z a14 h1 h4 H104.size
  obtain ⟨hF105, hC108⟩ := pc_M hM107 hP hD hK hS hX hT hA [11, 12] [] rfl rfl rfl
  refine va_callFi (va_runF (As := []) (rest := []) (hK.1 1 (RJx35411, TJx35411, 4) rfl).2 ⟨hx, hb, hml, hown, hts⟩ hM107 (va_cwF 0 hts (gF q_261 q_262 q_263 q_246 q_260) rfl rfl rfl hT.2.2.2.2.2.2.1 hF_xIh ⟨Nat.le_of_ble_eq_true rfl, Nat.le_of_ble_eq_true rfl⟩) ⟨pc_blind, va_recv hK hP (ci := 1) (q := (RJx35411, TJx35411, 4)) (q0 := 11) rfl rfl, fun U hU hW => ⟨rfl, hC108 U hU hW⟩⟩ rfl rfl hl.1 rfl (lv_room (Nat.le_of_ble_eq_true rfl)) dX9_restart_18 ⟨(Nat.le_of_ble_eq_true rfl), (Nat.le_of_ble_eq_true rfl)⟩) hS (fun q9 _ h9 => hF105 q9 h9) hF105 (fun r110 u109 t109 H109 L109 ht109 hvm109 hw109 hB109 hz109 hk109 hS => ?_)
  have hP := pq_keep hP hD [11, 12] rfl hk109 hB109.1 ht109
  have hG : s.heap.size + 9 ≤ H109.size := Nat.le_trans hG hz109
  refine W.eq (g2 := F0 m 23 ls [.int 1]) (by rw [hw109]) ?_
  refine lv_if_eq (tgt := 55) hx hb dX9_restart_23 (by decide) (fun cz => absurd cz (by decide)) (fun _ => ?_)
  refine lv_aload_n hx hb dX9_restart_26 rfl (lv_at hl 1 rfl) ?_
  have hM113 := k745_next l hl9 dC dI z a14 h1 h4 h6 h7 h8 h9 h10 h11 h12 H109.size kc0
  obtain ⟨hF111, hC114⟩ := pc_M hM113 hP hD hK hS hX hT hA [11, 12, 13] [1] rfl rfl rfl
  refine va_callFr (va_runF (As := []) (rest := []) (hK.1 1 (RJx35411, TJx35411, 4) rfl).2 ⟨hx, hb, hml, hown, hts⟩ hM113 (va_cwF 0 hts (gF q_308 q_309 q_310 q_246 q_307) rfl rfl rfl hT.2.2.2.2.2.2.2.1 hF_xIn ⟨Nat.le_of_ble_eq_true rfl, Nat.le_of_ble_eq_true rfl⟩) ⟨pc_blind, va_recv hK hP (ci := 1) (q := (RJx35411, TJx35411, 4)) (q0 := 11) rfl rfl, fun U hU hW => ⟨rfl, hC114 U hU hW⟩⟩ rfl rfl hl.1 rfl (lv_room (Nat.le_of_ble_eq_true rfl)) dX9_restart_27 ⟨(Nat.le_of_ble_eq_true rfl), (Nat.le_of_ble_eq_true rfl)⟩) hS (fun q9 _ h9 => hF111 q9 h9) hF111 (fun u115 r116 t115 H115 L115 ht115 hvm115 hw115 hB115 hz115 hk115 hS => ?_)
  obtain ⟨hr115, hB115⟩ := hB115
  obtain ⟨hP, hD, hK⟩ := pq_jn (wz := [(h6, ce49), (h7, ce49), (h8, ce49), (h9, ce49), (h10, ce49), (h11, ce49), (h12, ce49), (h0, ce21 h1 h2 o0 h3), (h2, ce3 z.1), (h3, ce366 h5), (h5, ce330 kc1 (z.2.2.1 128) (z.2.2.1 129) (z.2.2.1 130) (z.2.2.1 131) (z.2.2.1 132) (z.2.2.1 133) (z.2.2.1 134)), (a14, ce384 h1), (h1, ce331 h4), (h4, ce330 kc0 h6 h7 h8 h9 h10 h11 h12)]) (tz := [(kc1, .object "java/lang/Object"), (kc0, .object "java/lang/Object")]) hP hD hK [11, 12, 13] [0] rfl hk115 hF111 hB115.1 ht115 hvm115 rfl rfl
  have hG : s.heap.size + 9 ≤ H115.size := Nat.le_trans hG hz115
  refine W.eq (g2 := F0 m 32 ls [.ref h12]) (by rw [hr115]) ?_
  refine va_castE (nm := RX8) hx hb hown (hts _ q_273) (va_recv hK hP (ci := 7) (q := (RX8, TX8, 6)) (q0 := 6) rfl rfl) dX9_restart_32 ?_
  refine lv_astore_n (lv' := [(2, .ref h12), (1, .ref a14), (0, .ref h0)]) hx hb dX9_restart_35 rfl hl (by decide) rfl (fun ls hl => ?_)
  refine lv_aload_n hx hb dX9_restart_36 rfl (lv_at hl 0 rfl) ?_
  refine lv_bipush (v := 120) hx hb dX9_restart_37 (by decide) ?_
  refine va_put (D := (dC, dI)) (ci := 7) (v := .int 120) (ty := .char) (C := RX8) (T := TX8) (N := 6) hx hb hts in_X8 tyX8 tyX8_ok nmX8 hown hK hP hD (va_Sre hS) 6 rfl rfl 1 (by decide) (hts _ q_311) (fun _ h9 => h9) rfl (by decide +kernel) rfl rfl (Nat.le_of_ble_eq_true rfl) dX9_restart_39 (fun H117 _ hP hD hS' => ?_)
  have hG : s.heap.size + 9 ≤ H117.size := Nat.le_trans hG hS'.1
  have hS := va_Str hS hS'
  have hP : va_P (dC, dI) xCl [(h6, ce49), (h7, ce49), (h8, ce49), (h9, ce49), (h10, ce49), (h11, ce49), (h12, ce49), (h0, ce21 h1 h2 o0 h3), (h2, ce3 z.1), (h3, ce366 h5), (h5, ce330 kc1 (z.2.2.1 128) (z.2.2.1 129) (z.2.2.1 130) (z.2.2.1 131) (z.2.2.1 132) (z.2.2.1 133) (z.2.2.1 134)), (a14, ce384 h1), (h1, ce331 h4), (h4, ce330 kc0 h6 h7 h8 h9 h10 h11 h12)] H117 := hP
  have hD := vd_as hP hD rfl
  refine lv_aload_n hx hb dX9_restart_42 rfl (lv_at hl 0 rfl) ?_
  refine lv_iconst (v := 0) hx hb dX9_restart_43 (by decide) ?_
  refine va_put (D := (dC, dI)) (ci := 7) (v := .int 0) (ty := .int) (C := RX8) (T := TX8) (N := 6) hx hb hts in_X8 tyX8 tyX8_ok nmX8 hown hK hP hD (va_Sre hS) 6 rfl rfl 2 (by decide) (hts _ q_312) (fun _ h9 => h9) rfl (by decide +kernel) rfl rfl (Nat.le_of_ble_eq_true rfl) dX9_restart_44 (fun H118 _ hP hD hS' => ?_)
  have hG : s.heap.size + 9 ≤ H118.size := Nat.le_trans hG hS'.1
  have hS := va_Str hS hS'
  have hP : va_P (dC, dI) xCl [(h6, ce49), (h7, ce49), (h8, ce49), (h9, ce49), (h10, ce49), (h11, ce49), (h12, ce49), (h0, ce21 h1 h2 o0 h3), (h2, ce3 z.1), (h3, ce366 h5), (h5, ce330 kc1 (z.2.2.1 128) (z.2.2.1 129) (z.2.2.1 130) (z.2.2.1 131) (z.2.2.1 132) (z.2.2.1 133) (z.2.2.1 134)), (a14, ce384 h1), (h1, ce331 h4), (h4, ce330 kc0 h6 h7 h8 h9 h10 h11 h12)] H118 := hP
  have hD := vd_as hP hD rfl
  refine lv_aload_n hx hb dX9_restart_47 rfl (lv_at hl 0 rfl) ?_
  refine lv_iconst (v := (-1)) hx hb dX9_restart_48 (by decide) ?_
  refine va_put (D := (dC, dI)) (ci := 7) (v := .int (-1)) (ty := .int) (C := RX8) (T := TX8) (N := 6) hx hb hts in_X8 tyX8 tyX8_ok nmX8 hown hK hP hD (va_Sre hS) 6 rfl rfl 3 (by decide) (hts _ q_313) (fun _ h9 => h9) rfl (by decide +kernel) rfl rfl (Nat.le_of_ble_eq_true rfl) dX9_restart_49 (fun H119 _ hP hD hS' => ?_)
  have hG : s.heap.size + 9 ≤ H119.size := Nat.le_trans hG hS'.1
  have hS := va_Str hS hS'
  have hP : va_P (dC, dI) xCl [(h6, ce49), (h7, ce49), (h8, ce49), (h9, ce49), (h10, ce49), (h11, ce49), (h12, ce49), (h0, ce21 h1 h2 o0 h3), (h2, ce3 z.1), (h3, ce366 h5), (h5, ce330 kc1 (z.2.2.1 128) (z.2.2.1 129) (z.2.2.1 130) (z.2.2.1 131) (z.2.2.1 132) (z.2.2.1 133) (z.2.2.1 134)), (a14, ce384 h1), (h1, ce331 h4), (h4, ce330 kc0 h6 h7 h8 h9 h10 h11 h12)] H119 := hP
  have hD := vd_as hP hD rfl
  refine lv_goto (tgt := 17) hx hb dX9_restart_52 (by decide) ?_
  refine lv_aload_n hx hb dX9_restart_17 rfl (lv_at hl 1 rfl) ?_
  have hM122 := k746_hasNext l hl9 dC dI z a14 h1 h4 H119.size
  obtain ⟨hF120, hC123⟩ := pc_M hM122 hP hD hK hS hX hT hA [11, 12] [] rfl rfl rfl
  refine va_callFi (va_runF (As := []) (rest := []) (hK.1 1 (RJx35411, TJx35411, 4) rfl).2 ⟨hx, hb, hml, hown, hts⟩ hM122 (va_cwF 0 hts (gF q_261 q_262 q_263 q_246 q_260) rfl rfl rfl hT.2.2.2.2.2.2.1 hF_xIh ⟨Nat.le_of_ble_eq_true rfl, Nat.le_of_ble_eq_true rfl⟩) ⟨pc_blind, va_recv hK hP (ci := 1) (q := (RJx35411, TJx35411, 4)) (q0 := 11) rfl rfl, fun U hU hW => ⟨rfl, hC123 U hU hW⟩⟩ rfl rfl hl.1 rfl (lv_room (Nat.le_of_ble_eq_true rfl)) dX9_restart_18 ⟨(Nat.le_of_ble_eq_true rfl), (Nat.le_of_ble_eq_true rfl)⟩) hS (fun q9 _ h9 => hF120 q9 h9) hF120 (fun r125 u124 t124 H124 L124 ht124 hvm124 hw124 hB124 hz124 hk124 hS => ?_)
  have hP := pq_keep hP hD [11, 12] rfl hk124 hB124.1 ht124
  have hG : s.heap.size + 9 ≤ H124.size := Nat.le_trans hG hz124
  refine W.eq (g2 := F0 m 23 ls [.int 0]) (by rw [hw124]) ?_
  refine lv_if_eq (tgt := 55) hx hb dX9_restart_23 (by decide) (fun _ => ?_) (fun cz => absurd (by decide) cz)
  refine lv_aload_n hx hb dX9_restart_55 rfl (lv_at hl 2 rfl) ?_
  refine lv_aload_n hx hb dX9_restart_56 rfl (lv_at hl 2 rfl) ?_
  have hM128 := k747_valuesNow l hl9 dC dI z h0 h1 h4 h6 h7 h8 h9 h10 h11 h12 h2 o0 h3 H124.size kc0
  obtain ⟨hF126, hC129⟩ := pc_M hM128 hP hD hK hS hX hT hA [7, 12, 13, 0, 1, 2, 3, 4, 5, 6] [1] rfl rfl rfl
  refine va_callr (va_runV (As := []) (rest := [.ref h0]) ⟨hx, hb, hml, hown, hts⟩ hM128 (cwV 0 hts (gV q_317 q_318 q_319 q_60 q_316) rfl rfl rfl hV_X9_valuesNow ⟨Nat.le_of_ble_eq_true rfl, Nat.le_of_ble_eq_true rfl⟩) ⟨pc_blind, va_recv hK hP (ci := 8) (q := (RX9, TX9, 6)) (q0 := 7) rfl rfl, fun U hU hW => ⟨rfl, hC129 U hU hW⟩⟩ rfl rfl hl.1 rfl (lv_room (Nat.le_of_ble_eq_true rfl)) dX9_restart_57 ⟨(Nat.le_of_ble_eq_true rfl), (Nat.le_of_ble_eq_true rfl)⟩) hS (fun q9 _ h9 => hF126 q9 h9) hF126 (fun u130 r131 t130 H130 L130 ht130 hvm130 hw130 hB130 hz130 hk130 hS => ?_)
  obtain ⟨a132, k133, hr130, hB130⟩ := hB130
  obtain ⟨hP, hD, hK⟩ := pq_jn (wz := [(h2, ce3 z.1), (h3, ce366 h5), (h5, ce330 kc1 (z.2.2.1 128) (z.2.2.1 129) (z.2.2.1 130) (z.2.2.1 131) (z.2.2.1 132) (z.2.2.1 133) (z.2.2.1 134)), (a14, ce384 h1), (h0, ce21 h1 h2 o0 h3), (h1, ce331 h4), (h4, ce330 kc0 h6 h7 h8 h9 h10 h11 h12), (h6, ce49), (h7, ce49), (h8, ce49), (h9, ce49), (h10, ce49), (h11, ce49), (h12, ce49), (a132, ce385 k133)]) (tz := [(kc1, .object "java/lang/Object"), (kc0, .object "java/lang/Object"), (k133, .char)]) hP hD hK [7, 12, 13, 0, 1, 2, 3, 4, 5, 6] [0] rfl hk130 hF126 hB130.1 ht130 hvm130 rfl rfl
  have hG : s.heap.size + 10 ≤ H130.size := va_gr (g := 9) (g1 := 1) hG (by rw [← ht130]; exact hB130.2)
  refine W.eq (g2 := F0 m 60 ls [.ref a132, .ref h0]) (by rw [hr130]) ?_
  refine W.widen (k := 10) (n := 112) (by decide) (by decide) ?_
  refine lv_iconst (v := (-1)) hx hb dX9_restart_60 (by decide) ?_
  refine lv_bipush (v := 120) hx hb dX9_restart_61 (by decide) ?_
  have hM136 := k773_settledAll l hl9 dC dI z h0 a132 h1 h2 h3 h4 h5 h6 h7 h8 h9 h10 h11 h12 o0 H130.size k133 kc0 kc1
  obtain ⟨hF134, hC137⟩ := pc_M hM136 hP hD hK hS hX hT hA [4, 14, 5, 0, 1, 6, 2, 7, 8, 9, 10, 11, 12, 13] [2, 1, 0] rfl rfl rfl
  refine va_callr (va_runV (As := [.ref a132, .int (-1), .int 120]) (rest := []) ⟨hx, hb, hml, hown, hts⟩ hM136 (cwV 3 hts (gV q_328 q_329 q_330 q_60 q_327) rfl rfl rfl hV_X9_settledAll ⟨Nat.le_of_ble_eq_true rfl, Nat.le_of_ble_eq_true rfl⟩) ⟨pc_blind, va_recv hK hP (ci := 8) (q := (RX9, TX9, 6)) (q0 := 4) rfl rfl, fun U hU hW => ⟨rfl, hC137 U hU hW⟩⟩ rfl rfl hl.1 rfl (lv_room (Nat.le_of_ble_eq_true rfl)) dX9_restart_63 ⟨(Nat.le_of_ble_eq_true rfl), (Nat.le_of_ble_eq_true rfl)⟩) hS (fun q9 _ h9 => hF134 q9 h9) hF134 (fun u138 r139 t138 H138 L138 ht138 hvm138 hw138 hB138 hz138 hk138 hS => ?_)
  obtain ⟨a140, k141, hr138, hB138⟩ := hB138
  obtain ⟨hP, hD, hK⟩ := pq_jn (wz := [(a14, ce384 h1), (h0, ce21 h1 h2 o0 h3), (a132, ce385 k133), (h1, ce331 h4), (h2, ce3 z.1), (h3, ce366 h5), (h4, ce330 kc0 h6 h7 h8 h9 h10 h11 h12), (h5, ce330 kc1 (z.2.2.1 128) (z.2.2.1 129) (z.2.2.1 130) (z.2.2.1 131) (z.2.2.1 132) (z.2.2.1 133) (z.2.2.1 134)), (h6, ce49), (h7, ce49), (h8, ce49), (h9, ce49), (h10, ce49), (h11, ce49), (h12, ce49), (a140, ce385 k141)]) (tz := [(k133, .char), (kc0, .object "java/lang/Object"), (kc1, .object "java/lang/Object"), (k141, .char)]) hP hD hK [4, 14, 5, 0, 1, 6, 2, 7, 8, 9, 10, 11, 12, 13] [] rfl hk138 hF134 hB138.1 ht138 hvm138 rfl rfl
  have hG : s.heap.size + 19 ≤ H138.size := va_gr (g := 10) (g1 := 9) hG (by rw [← ht138]; exact hB138.2)
  refine W.eq (g2 := F0 m 66 ls [.ref a140]) (by rw [hr138]) ?_
  refine W.widen (k := 19) (n := 184) (by decide) (by decide) ?_
  refine lv_astore_n (lv' := [(1, .ref a140), (2, .ref h12), (0, .ref h0)]) hx hb dX9_restart_66 rfl hl (by decide) rfl (fun ls hl => ?_)
  refine lv_iconst (v := 0) hx hb dX9_restart_67 (by decide) ?_
  refine lv_istore_n (lv' := [(2, .int 0), (1, .ref a140), (0, .ref h0)]) hx hb dX9_restart_68 rfl hl (by decide) rfl (fun ls hl => ?_)
  refine lv_iload_n hx hb dX9_restart_69 rfl (lv_at hl 0 rfl) ?_
  refine lv_aload_n hx hb dX9_restart_70 rfl (lv_at hl 2 rfl) ?_
  refine va_get (D := (dC, dI)) (ci := 8) (v := .ref h1) (C := RX9) (T := TX9) (N := 6) hx hb hts in_X9 hown hK hP 1 rfl rfl 1 (by decide) (hts _ q_64) (fun _ h9 => h9) rfl dX9_restart_71 ?_
  have hM144 := k20_size l hl9 dC dI z h1 h4 H138.size 7 7
  obtain ⟨hF142, hC145⟩ := pc_M hM144 hP hD hK hS hX hT hA [3] [] rfl rfl rfl
  refine va_calli (va_runV (As := []) (rest := [.int 0]) ⟨hx, hb, hml, hown, hts⟩ hM144 (cwV 0 hts (gV q_272 q_77 q_78 q_12 q_75) rfl rfl rfl hV_Jx4a65c_size_8abf5 ⟨Nat.le_of_ble_eq_true rfl, Nat.le_of_ble_eq_true rfl⟩) ⟨pc_blind, va_recv hK hP (ci := 0) (q := (RJx4a65c, TJx4a65c, 3)) (q0 := 3) rfl rfl, fun U hU hW => ⟨rfl, hC145 U hU hW⟩⟩ rfl rfl hl.1 rfl (lv_room (Nat.le_of_ble_eq_true rfl)) dX9_restart_74 ⟨(Nat.le_of_ble_eq_true rfl), (Nat.le_of_ble_eq_true rfl)⟩) hS (fun q9 _ h9 => hF142 q9 h9) hF142 (fun r147 u146 t146 H146 L146 ht146 hvm146 hw146 hB146 hz146 hk146 hS => ?_)
  have hP := pq_keep hP hD [3] rfl hk146 hB146.1 ht146
  have hG : s.heap.size + 19 ≤ H146.size := Nat.le_trans hG hz146
  refine W.eq (g2 := F0 m 77 ls [.int 7, .int 0]) (by rw [hw146]) ?_
  refine lv_icmp_ge (tgt := 103) hx hb dX9_restart_77 (by decide) (fun cz => absurd cz (by decide)) (fun _ => ?_)
  refine lv_aload_n hx hb dX9_restart_80 rfl (lv_at hl 2 rfl) ?_
  refine va_get (D := (dC, dI)) (ci := 8) (v := .ref h1) (C := RX9) (T := TX9) (N := 6) hx hb hts in_X9 hown hK hP 1 rfl rfl 1 (by decide) (hts _ q_64) (fun _ h9 => h9) rfl dX9_restart_81 ?_
  refine lv_iload_n hx hb dX9_restart_84 rfl (lv_at hl 0 rfl) ?_
  have hM150 := k632_get l hl9 dC dI z h1 h4 h6 h7 h8 h9 h10 h11 h12 H146.size kc0
  obtain ⟨hF148, hC151⟩ := pc_M hM150 hP hD hK hS hX hT hA [3, 6] [1] rfl rfl rfl
  refine va_callr (va_runV (As := [.int 0]) (rest := []) ⟨hx, hb, hml, hown, hts⟩ hM150 (cwV 1 hts (gV q_315 q_157 q_158 q_12 q_155) rfl rfl rfl hV_Jx4a65c_get_915e3 ⟨Nat.le_of_ble_eq_true rfl, Nat.le_of_ble_eq_true rfl⟩) ⟨pc_blind, va_recv hK hP (ci := 0) (q := (RJx4a65c, TJx4a65c, 3)) (q0 := 3) rfl rfl, fun U hU hW => ⟨rfl, hC151 U hU hW⟩⟩ rfl rfl hl.1 rfl (lv_room (Nat.le_of_ble_eq_true rfl)) dX9_restart_85 ⟨(Nat.le_of_ble_eq_true rfl), (Nat.le_of_ble_eq_true rfl)⟩) hS (fun q9 _ h9 => hF148 q9 h9) hF148 (fun u152 r153 t152 H152 L152 ht152 hvm152 hw152 hB152 hz152 hk152 hS => ?_)
  obtain ⟨hr152, hB152⟩ := hB152
  have hP := pq_keep hP hD [3, 6] rfl hk152 hB152.1 ht152
  have hG : s.heap.size + 19 ≤ H152.size := Nat.le_trans hG hz152
  refine W.eq (g2 := F0 m 88 ls [.ref h6]) (by rw [hr152]) ?_
  refine va_castE (nm := RX8) hx hb hown (hts _ q_273) (va_recv hK hP (ci := 7) (q := (RX8, TX8, 6)) (q0 := 8) rfl rfl) dX9_restart_88 ?_
  refine lv_aload_n hx hb dX9_restart_91 rfl (lv_at hl 1 rfl) ?_
  refine lv_iload_n hx hb dX9_restart_92 rfl (lv_at hl 0 rfl) ?_
  refine va_cald hx hb hK hP 15 3 rfl rfl (i := 0) (by unfold vp_in; decide) dX9_restart_93 ?_
  refine W.eq (g2 := F0 m 94 ls [.int 120, .ref h6]) rfl ?_
  refine va_put (D := (dC, dI)) (ci := 7) (v := .int 120) (ty := .char) (C := RX8) (T := TX8) (N := 6) hx hb hts in_X8 tyX8 tyX8_ok nmX8 hown hK hP hD (va_Sre hS) 8 rfl rfl 1 (by decide) (hts _ q_311) (fun _ h9 => h9) rfl (by decide +kernel) rfl rfl (Nat.le_of_ble_eq_true rfl) dX9_restart_94 (fun H154 _ hP hD hS' => ?_)
  have hG : s.heap.size + 19 ≤ H154.size := Nat.le_trans hG hS'.1
  have hS := va_Str hS hS'
  have hP : va_P (dC, dI) xCl [(a14, ce384 h1), (h0, ce21 h1 h2 o0 h3), (a132, ce385 k133), (h1, ce331 h4), (h2, ce3 z.1), (h3, ce366 h5), (h4, ce330 kc0 h6 h7 h8 h9 h10 h11 h12), (h5, ce330 kc1 (z.2.2.1 128) (z.2.2.1 129) (z.2.2.1 130) (z.2.2.1 131) (z.2.2.1 132) (z.2.2.1 133) (z.2.2.1 134)), (h6, ce49), (h7, ce49), (h8, ce49), (h9, ce49), (h10, ce49), (h11, ce49), (h12, ce49), (a140, ce385 k141)] H154 := hP
  have hD := vd_as hP hD rfl
  refine lv_iinc (v := 1) (lv' := [(2, .int 1), (1, .ref a140), (0, .ref h0)]) hx hb dX9_restart_97 hl (k := 0) rfl (by decide) (by decide) rfl (fun ls hl => ?_)
  refine lv_goto (tgt := 69) hx hb dX9_restart_100 (by decide) ?_
  refine lv_iload_n hx hb dX9_restart_69 rfl (lv_at hl 0 rfl) ?_
  refine lv_aload_n hx hb dX9_restart_70 rfl (lv_at hl 2 rfl) ?_
  refine va_get (D := (dC, dI)) (ci := 8) (v := .ref h1) (C := RX9) (T := TX9) (N := 6) hx hb hts in_X9 hown hK hP 1 rfl rfl 1 (by decide) (hts _ q_64) (fun _ h9 => h9) rfl dX9_restart_71 ?_
  have hM157 := k20_size l hl9 dC dI z h1 h4 H154.size 7 7
  obtain ⟨hF155, hC158⟩ := pc_M hM157 hP hD hK hS hX hT hA [3] [] rfl rfl rfl
  refine va_calli (va_runV (As := []) (rest := [.int 1]) ⟨hx, hb, hml, hown, hts⟩ hM157 (cwV 0 hts (gV q_272 q_77 q_78 q_12 q_75) rfl rfl rfl hV_Jx4a65c_size_8abf5 ⟨Nat.le_of_ble_eq_true rfl, Nat.le_of_ble_eq_true rfl⟩) ⟨pc_blind, va_recv hK hP (ci := 0) (q := (RJx4a65c, TJx4a65c, 3)) (q0 := 3) rfl rfl, fun U hU hW => ⟨rfl, hC158 U hU hW⟩⟩ rfl rfl hl.1 rfl (lv_room (Nat.le_of_ble_eq_true rfl)) dX9_restart_74 ⟨(Nat.le_of_ble_eq_true rfl), (Nat.le_of_ble_eq_true rfl)⟩) hS (fun q9 _ h9 => hF155 q9 h9) hF155 (fun r160 u159 t159 H159 L159 ht159 hvm159 hw159 hB159 hz159 hk159 hS => ?_)
  have hP := pq_keep hP hD [3] rfl hk159 hB159.1 ht159
  have hG : s.heap.size + 19 ≤ H159.size := Nat.le_trans hG hz159
  refine W.eq (g2 := F0 m 77 ls [.int 7, .int 1]) (by rw [hw159]) ?_
  refine lv_icmp_ge (tgt := 103) hx hb dX9_restart_77 (by decide) (fun cz => absurd cz (by decide)) (fun _ => ?_)
  refine lv_aload_n hx hb dX9_restart_80 rfl (lv_at hl 2 rfl) ?_
  refine va_get (D := (dC, dI)) (ci := 8) (v := .ref h1) (C := RX9) (T := TX9) (N := 6) hx hb hts in_X9 hown hK hP 1 rfl rfl 1 (by decide) (hts _ q_64) (fun _ h9 => h9) rfl dX9_restart_81 ?_
  refine lv_iload_n hx hb dX9_restart_84 rfl (lv_at hl 0 rfl) ?_
  have hM163 := k636_get l hl9 dC dI z h1 h4 h6 h7 h8 h9 h10 h11 h12 H159.size kc0
  obtain ⟨hF161, hC164⟩ := pc_M hM163 hP hD hK hS hX hT hA [3, 6] [1] rfl rfl rfl
  refine va_callr (va_runV (As := [.int 1]) (rest := []) ⟨hx, hb, hml, hown, hts⟩ hM163 (cwV 1 hts (gV q_315 q_157 q_158 q_12 q_155) rfl rfl rfl hV_Jx4a65c_get_915e3 ⟨Nat.le_of_ble_eq_true rfl, Nat.le_of_ble_eq_true rfl⟩) ⟨pc_blind, va_recv hK hP (ci := 0) (q := (RJx4a65c, TJx4a65c, 3)) (q0 := 3) rfl rfl, fun U hU hW => ⟨rfl, hC164 U hU hW⟩⟩ rfl rfl hl.1 rfl (lv_room (Nat.le_of_ble_eq_true rfl)) dX9_restart_85 ⟨(Nat.le_of_ble_eq_true rfl), (Nat.le_of_ble_eq_true rfl)⟩) hS (fun q9 _ h9 => hF161 q9 h9) hF161 (fun u165 r166 t165 H165 L165 ht165 hvm165 hw165 hB165 hz165 hk165 hS => ?_)
  obtain ⟨hr165, hB165⟩ := hB165
  have hP := pq_keep hP hD [3, 6] rfl hk165 hB165.1 ht165
  have hG : s.heap.size + 19 ≤ H165.size := Nat.le_trans hG hz165
  refine W.eq (g2 := F0 m 88 ls [.ref h7]) (by rw [hr165]) ?_
  refine va_castE (nm := RX8) hx hb hown (hts _ q_273) (va_recv hK hP (ci := 7) (q := (RX8, TX8, 6)) (q0 := 9) rfl rfl) dX9_restart_88 ?_
  refine lv_aload_n hx hb dX9_restart_91 rfl (lv_at hl 1 rfl) ?_
  refine lv_iload_n hx hb dX9_restart_92 rfl (lv_at hl 0 rfl) ?_
  refine va_cald hx hb hK hP 15 3 rfl rfl (i := 1) (by unfold vp_in; decide) dX9_restart_93 ?_
  refine W.eq (g2 := F0 m 94 ls [.int 120, .ref h7]) rfl ?_
  refine va_put (D := (dC, dI)) (ci := 7) (v := .int 120) (ty := .char) (C := RX8) (T := TX8) (N := 6) hx hb hts in_X8 tyX8 tyX8_ok nmX8 hown hK hP hD (va_Sre hS) 9 rfl rfl 1 (by decide) (hts _ q_311) (fun _ h9 => h9) rfl (by decide +kernel) rfl rfl (Nat.le_of_ble_eq_true rfl) dX9_restart_94 (fun H167 _ hP hD hS' => ?_)
  have hG : s.heap.size + 19 ≤ H167.size := Nat.le_trans hG hS'.1
  have hS := va_Str hS hS'
  have hP : va_P (dC, dI) xCl [(a14, ce384 h1), (h0, ce21 h1 h2 o0 h3), (a132, ce385 k133), (h1, ce331 h4), (h2, ce3 z.1), (h3, ce366 h5), (h4, ce330 kc0 h6 h7 h8 h9 h10 h11 h12), (h5, ce330 kc1 (z.2.2.1 128) (z.2.2.1 129) (z.2.2.1 130) (z.2.2.1 131) (z.2.2.1 132) (z.2.2.1 133) (z.2.2.1 134)), (h6, ce49), (h7, ce49), (h8, ce49), (h9, ce49), (h10, ce49), (h11, ce49), (h12, ce49), (a140, ce385 k141)] H167 := hP
  have hD := vd_as hP hD rfl
  refine lv_iinc (v := 2) (lv' := [(2, .int 2), (1, .ref a140), (0, .ref h0)]) hx hb dX9_restart_97 hl (k := 0) rfl (by decide) (by decide) rfl (fun ls hl => ?_)
  refine lv_goto (tgt := 69) hx hb dX9_restart_100 (by decide) ?_
  refine lv_iload_n hx hb dX9_restart_69 rfl (lv_at hl 0 rfl) ?_
  refine lv_aload_n hx hb dX9_restart_70 rfl (lv_at hl 2 rfl) ?_
  refine va_get (D := (dC, dI)) (ci := 8) (v := .ref h1) (C := RX9) (T := TX9) (N := 6) hx hb hts in_X9 hown hK hP 1 rfl rfl 1 (by decide) (hts _ q_64) (fun _ h9 => h9) rfl dX9_restart_71 ?_
  have hM170 := k20_size l hl9 dC dI z h1 h4 H167.size 7 7
  obtain ⟨hF168, hC171⟩ := pc_M hM170 hP hD hK hS hX hT hA [3] [] rfl rfl rfl
  refine va_calli (va_runV (As := []) (rest := [.int 2]) ⟨hx, hb, hml, hown, hts⟩ hM170 (cwV 0 hts (gV q_272 q_77 q_78 q_12 q_75) rfl rfl rfl hV_Jx4a65c_size_8abf5 ⟨Nat.le_of_ble_eq_true rfl, Nat.le_of_ble_eq_true rfl⟩) ⟨pc_blind, va_recv hK hP (ci := 0) (q := (RJx4a65c, TJx4a65c, 3)) (q0 := 3) rfl rfl, fun U hU hW => ⟨rfl, hC171 U hU hW⟩⟩ rfl rfl hl.1 rfl (lv_room (Nat.le_of_ble_eq_true rfl)) dX9_restart_74 ⟨(Nat.le_of_ble_eq_true rfl), (Nat.le_of_ble_eq_true rfl)⟩) hS (fun q9 _ h9 => hF168 q9 h9) hF168 (fun r173 u172 t172 H172 L172 ht172 hvm172 hw172 hB172 hz172 hk172 hS => ?_)
  have hP := pq_keep hP hD [3] rfl hk172 hB172.1 ht172
  have hG : s.heap.size + 19 ≤ H172.size := Nat.le_trans hG hz172
  refine W.eq (g2 := F0 m 77 ls [.int 7, .int 2]) (by rw [hw172]) ?_
  refine lv_icmp_ge (tgt := 103) hx hb dX9_restart_77 (by decide) (fun cz => absurd cz (by decide)) (fun _ => ?_)
  refine lv_aload_n hx hb dX9_restart_80 rfl (lv_at hl 2 rfl) ?_
  refine va_get (D := (dC, dI)) (ci := 8) (v := .ref h1) (C := RX9) (T := TX9) (N := 6) hx hb hts in_X9 hown hK hP 1 rfl rfl 1 (by decide) (hts _ q_64) (fun _ h9 => h9) rfl dX9_restart_81 ?_
  refine lv_iload_n hx hb dX9_restart_84 rfl (lv_at hl 0 rfl) ?_
  have hM176 := k640_get l hl9 dC dI z h1 h4 h6 h7 h8 h9 h10 h11 h12 H172.size kc0
  obtain ⟨hF174, hC177⟩ := pc_M hM176 hP hD hK hS hX hT hA [3, 6] [1] rfl rfl rfl
  refine va_callr (va_runV (As := [.int 2]) (rest := []) ⟨hx, hb, hml, hown, hts⟩ hM176 (cwV 1 hts (gV q_315 q_157 q_158 q_12 q_155) rfl rfl rfl hV_Jx4a65c_get_915e3 ⟨Nat.le_of_ble_eq_true rfl, Nat.le_of_ble_eq_true rfl⟩) ⟨pc_blind, va_recv hK hP (ci := 0) (q := (RJx4a65c, TJx4a65c, 3)) (q0 := 3) rfl rfl, fun U hU hW => ⟨rfl, hC177 U hU hW⟩⟩ rfl rfl hl.1 rfl (lv_room (Nat.le_of_ble_eq_true rfl)) dX9_restart_85 ⟨(Nat.le_of_ble_eq_true rfl), (Nat.le_of_ble_eq_true rfl)⟩) hS (fun q9 _ h9 => hF174 q9 h9) hF174 (fun u178 r179 t178 H178 L178 ht178 hvm178 hw178 hB178 hz178 hk178 hS => ?_)
  obtain ⟨hr178, hB178⟩ := hB178
  have hP := pq_keep hP hD [3, 6] rfl hk178 hB178.1 ht178
  have hG : s.heap.size + 19 ≤ H178.size := Nat.le_trans hG hz178
  refine W.eq (g2 := F0 m 88 ls [.ref h8]) (by rw [hr178]) ?_
  refine va_castE (nm := RX8) hx hb hown (hts _ q_273) (va_recv hK hP (ci := 7) (q := (RX8, TX8, 6)) (q0 := 10) rfl rfl) dX9_restart_88 ?_
  refine lv_aload_n hx hb dX9_restart_91 rfl (lv_at hl 1 rfl) ?_
  refine lv_iload_n hx hb dX9_restart_92 rfl (lv_at hl 0 rfl) ?_
  refine va_cald hx hb hK hP 15 3 rfl rfl (i := 2) (by unfold vp_in; decide) dX9_restart_93 ?_
  refine W.eq (g2 := F0 m 94 ls [.int 120, .ref h8]) rfl ?_
  refine va_put (D := (dC, dI)) (ci := 7) (v := .int 120) (ty := .char) (C := RX8) (T := TX8) (N := 6) hx hb hts in_X8 tyX8 tyX8_ok nmX8 hown hK hP hD (va_Sre hS) 10 rfl rfl 1 (by decide) (hts _ q_311) (fun _ h9 => h9) rfl (by decide +kernel) rfl rfl (Nat.le_of_ble_eq_true rfl) dX9_restart_94 (fun H180 _ hP hD hS' => ?_)
  have hG : s.heap.size + 19 ≤ H180.size := Nat.le_trans hG hS'.1
  have hS := va_Str hS hS'
  have hP : va_P (dC, dI) xCl [(a14, ce384 h1), (h0, ce21 h1 h2 o0 h3), (a132, ce385 k133), (h1, ce331 h4), (h2, ce3 z.1), (h3, ce366 h5), (h4, ce330 kc0 h6 h7 h8 h9 h10 h11 h12), (h5, ce330 kc1 (z.2.2.1 128) (z.2.2.1 129) (z.2.2.1 130) (z.2.2.1 131) (z.2.2.1 132) (z.2.2.1 133) (z.2.2.1 134)), (h6, ce49), (h7, ce49), (h8, ce49), (h9, ce49), (h10, ce49), (h11, ce49), (h12, ce49), (a140, ce385 k141)] H180 := hP
  have hD := vd_as hP hD rfl
  refine lv_iinc (v := 3) (lv' := [(2, .int 3), (1, .ref a140), (0, .ref h0)]) hx hb dX9_restart_97 hl (k := 0) rfl (by decide) (by decide) rfl (fun ls hl => ?_)
  refine lv_goto (tgt := 69) hx hb dX9_restart_100 (by decide) ?_
  refine lv_iload_n hx hb dX9_restart_69 rfl (lv_at hl 0 rfl) ?_
  refine lv_aload_n hx hb dX9_restart_70 rfl (lv_at hl 2 rfl) ?_
  refine va_get (D := (dC, dI)) (ci := 8) (v := .ref h1) (C := RX9) (T := TX9) (N := 6) hx hb hts in_X9 hown hK hP 1 rfl rfl 1 (by decide) (hts _ q_64) (fun _ h9 => h9) rfl dX9_restart_71 ?_
  have hM183 := k20_size l hl9 dC dI z h1 h4 H180.size 7 7
  obtain ⟨hF181, hC184⟩ := pc_M hM183 hP hD hK hS hX hT hA [3] [] rfl rfl rfl
  refine va_calli (va_runV (As := []) (rest := [.int 3]) ⟨hx, hb, hml, hown, hts⟩ hM183 (cwV 0 hts (gV q_272 q_77 q_78 q_12 q_75) rfl rfl rfl hV_Jx4a65c_size_8abf5 ⟨Nat.le_of_ble_eq_true rfl, Nat.le_of_ble_eq_true rfl⟩) ⟨pc_blind, va_recv hK hP (ci := 0) (q := (RJx4a65c, TJx4a65c, 3)) (q0 := 3) rfl rfl, fun U hU hW => ⟨rfl, hC184 U hU hW⟩⟩ rfl rfl hl.1 rfl (lv_room (Nat.le_of_ble_eq_true rfl)) dX9_restart_74 ⟨(Nat.le_of_ble_eq_true rfl), (Nat.le_of_ble_eq_true rfl)⟩) hS (fun q9 _ h9 => hF181 q9 h9) hF181 (fun r186 u185 t185 H185 L185 ht185 hvm185 hw185 hB185 hz185 hk185 hS => ?_)
  have hP := pq_keep hP hD [3] rfl hk185 hB185.1 ht185
  have hG : s.heap.size + 19 ≤ H185.size := Nat.le_trans hG hz185
  refine W.eq (g2 := F0 m 77 ls [.int 7, .int 3]) (by rw [hw185]) ?_
  refine lv_icmp_ge (tgt := 103) hx hb dX9_restart_77 (by decide) (fun cz => absurd cz (by decide)) (fun _ => ?_)
  refine lv_aload_n hx hb dX9_restart_80 rfl (lv_at hl 2 rfl) ?_
  refine va_get (D := (dC, dI)) (ci := 8) (v := .ref h1) (C := RX9) (T := TX9) (N := 6) hx hb hts in_X9 hown hK hP 1 rfl rfl 1 (by decide) (hts _ q_64) (fun _ h9 => h9) rfl dX9_restart_81 ?_
  refine lv_iload_n hx hb dX9_restart_84 rfl (lv_at hl 0 rfl) ?_
  have hM189 := k644_get l hl9 dC dI z h1 h4 h6 h7 h8 h9 h10 h11 h12 H185.size kc0
  obtain ⟨hF187, hC190⟩ := pc_M hM189 hP hD hK hS hX hT hA [3, 6] [1] rfl rfl rfl
  refine va_callr (va_runV (As := [.int 3]) (rest := []) ⟨hx, hb, hml, hown, hts⟩ hM189 (cwV 1 hts (gV q_315 q_157 q_158 q_12 q_155) rfl rfl rfl hV_Jx4a65c_get_915e3 ⟨Nat.le_of_ble_eq_true rfl, Nat.le_of_ble_eq_true rfl⟩) ⟨pc_blind, va_recv hK hP (ci := 0) (q := (RJx4a65c, TJx4a65c, 3)) (q0 := 3) rfl rfl, fun U hU hW => ⟨rfl, hC190 U hU hW⟩⟩ rfl rfl hl.1 rfl (lv_room (Nat.le_of_ble_eq_true rfl)) dX9_restart_85 ⟨(Nat.le_of_ble_eq_true rfl), (Nat.le_of_ble_eq_true rfl)⟩) hS (fun q9 _ h9 => hF187 q9 h9) hF187 (fun u191 r192 t191 H191 L191 ht191 hvm191 hw191 hB191 hz191 hk191 hS => ?_)
  obtain ⟨hr191, hB191⟩ := hB191
  have hP := pq_keep hP hD [3, 6] rfl hk191 hB191.1 ht191
  have hG : s.heap.size + 19 ≤ H191.size := Nat.le_trans hG hz191
  refine W.eq (g2 := F0 m 88 ls [.ref h9]) (by rw [hr191]) ?_
  refine va_castE (nm := RX8) hx hb hown (hts _ q_273) (va_recv hK hP (ci := 7) (q := (RX8, TX8, 6)) (q0 := 11) rfl rfl) dX9_restart_88 ?_
  refine lv_aload_n hx hb dX9_restart_91 rfl (lv_at hl 1 rfl) ?_
  refine lv_iload_n hx hb dX9_restart_92 rfl (lv_at hl 0 rfl) ?_
  refine va_cald hx hb hK hP 15 3 rfl rfl (i := 3) (by unfold vp_in; decide) dX9_restart_93 ?_
  refine W.eq (g2 := F0 m 94 ls [.int 120, .ref h9]) rfl ?_
  refine va_put (D := (dC, dI)) (ci := 7) (v := .int 120) (ty := .char) (C := RX8) (T := TX8) (N := 6) hx hb hts in_X8 tyX8 tyX8_ok nmX8 hown hK hP hD (va_Sre hS) 11 rfl rfl 1 (by decide) (hts _ q_311) (fun _ h9 => h9) rfl (by decide +kernel) rfl rfl (Nat.le_of_ble_eq_true rfl) dX9_restart_94 (fun H193 _ hP hD hS' => ?_)
  have hG : s.heap.size + 19 ≤ H193.size := Nat.le_trans hG hS'.1
  have hS := va_Str hS hS'
  have hP : va_P (dC, dI) xCl [(a14, ce384 h1), (h0, ce21 h1 h2 o0 h3), (a132, ce385 k133), (h1, ce331 h4), (h2, ce3 z.1), (h3, ce366 h5), (h4, ce330 kc0 h6 h7 h8 h9 h10 h11 h12), (h5, ce330 kc1 (z.2.2.1 128) (z.2.2.1 129) (z.2.2.1 130) (z.2.2.1 131) (z.2.2.1 132) (z.2.2.1 133) (z.2.2.1 134)), (h6, ce49), (h7, ce49), (h8, ce49), (h9, ce49), (h10, ce49), (h11, ce49), (h12, ce49), (a140, ce385 k141)] H193 := hP
  have hD := vd_as hP hD rfl
  refine lv_iinc (v := 4) (lv' := [(2, .int 4), (1, .ref a140), (0, .ref h0)]) hx hb dX9_restart_97 hl (k := 0) rfl (by decide) (by decide) rfl (fun ls hl => ?_)
  refine lv_goto (tgt := 69) hx hb dX9_restart_100 (by decide) ?_
  refine lv_iload_n hx hb dX9_restart_69 rfl (lv_at hl 0 rfl) ?_
  refine lv_aload_n hx hb dX9_restart_70 rfl (lv_at hl 2 rfl) ?_
  refine va_get (D := (dC, dI)) (ci := 8) (v := .ref h1) (C := RX9) (T := TX9) (N := 6) hx hb hts in_X9 hown hK hP 1 rfl rfl 1 (by decide) (hts _ q_64) (fun _ h9 => h9) rfl dX9_restart_71 ?_
  have hM196 := k20_size l hl9 dC dI z h1 h4 H193.size 7 7
  obtain ⟨hF194, hC197⟩ := pc_M hM196 hP hD hK hS hX hT hA [3] [] rfl rfl rfl
  refine va_calli (va_runV (As := []) (rest := [.int 4]) ⟨hx, hb, hml, hown, hts⟩ hM196 (cwV 0 hts (gV q_272 q_77 q_78 q_12 q_75) rfl rfl rfl hV_Jx4a65c_size_8abf5 ⟨Nat.le_of_ble_eq_true rfl, Nat.le_of_ble_eq_true rfl⟩) ⟨pc_blind, va_recv hK hP (ci := 0) (q := (RJx4a65c, TJx4a65c, 3)) (q0 := 3) rfl rfl, fun U hU hW => ⟨rfl, hC197 U hU hW⟩⟩ rfl rfl hl.1 rfl (lv_room (Nat.le_of_ble_eq_true rfl)) dX9_restart_74 ⟨(Nat.le_of_ble_eq_true rfl), (Nat.le_of_ble_eq_true rfl)⟩) hS (fun q9 _ h9 => hF194 q9 h9) hF194 (fun r199 u198 t198 H198 L198 ht198 hvm198 hw198 hB198 hz198 hk198 hS => ?_)
  have hP := pq_keep hP hD [3] rfl hk198 hB198.1 ht198
  have hG : s.heap.size + 19 ≤ H198.size := Nat.le_trans hG hz198
  refine W.eq (g2 := F0 m 77 ls [.int 7, .int 4]) (by rw [hw198]) ?_
  refine lv_icmp_ge (tgt := 103) hx hb dX9_restart_77 (by decide) (fun cz => absurd cz (by decide)) (fun _ => ?_)
  refine lv_aload_n hx hb dX9_restart_80 rfl (lv_at hl 2 rfl) ?_
  refine va_get (D := (dC, dI)) (ci := 8) (v := .ref h1) (C := RX9) (T := TX9) (N := 6) hx hb hts in_X9 hown hK hP 1 rfl rfl 1 (by decide) (hts _ q_64) (fun _ h9 => h9) rfl dX9_restart_81 ?_
  refine lv_iload_n hx hb dX9_restart_84 rfl (lv_at hl 0 rfl) ?_
  have hM202 := k648_get l hl9 dC dI z h1 h4 h6 h7 h8 h9 h10 h11 h12 H198.size kc0
  obtain ⟨hF200, hC203⟩ := pc_M hM202 hP hD hK hS hX hT hA [3, 6] [1] rfl rfl rfl
  refine va_callr (va_runV (As := [.int 4]) (rest := []) ⟨hx, hb, hml, hown, hts⟩ hM202 (cwV 1 hts (gV q_315 q_157 q_158 q_12 q_155) rfl rfl rfl hV_Jx4a65c_get_915e3 ⟨Nat.le_of_ble_eq_true rfl, Nat.le_of_ble_eq_true rfl⟩) ⟨pc_blind, va_recv hK hP (ci := 0) (q := (RJx4a65c, TJx4a65c, 3)) (q0 := 3) rfl rfl, fun U hU hW => ⟨rfl, hC203 U hU hW⟩⟩ rfl rfl hl.1 rfl (lv_room (Nat.le_of_ble_eq_true rfl)) dX9_restart_85 ⟨(Nat.le_of_ble_eq_true rfl), (Nat.le_of_ble_eq_true rfl)⟩) hS (fun q9 _ h9 => hF200 q9 h9) hF200 (fun u204 r205 t204 H204 L204 ht204 hvm204 hw204 hB204 hz204 hk204 hS => ?_)
  obtain ⟨hr204, hB204⟩ := hB204
  have hP := pq_keep hP hD [3, 6] rfl hk204 hB204.1 ht204
  have hG : s.heap.size + 19 ≤ H204.size := Nat.le_trans hG hz204
  refine W.eq (g2 := F0 m 88 ls [.ref h10]) (by rw [hr204]) ?_
  refine va_castE (nm := RX8) hx hb hown (hts _ q_273) (va_recv hK hP (ci := 7) (q := (RX8, TX8, 6)) (q0 := 12) rfl rfl) dX9_restart_88 ?_
  refine lv_aload_n hx hb dX9_restart_91 rfl (lv_at hl 1 rfl) ?_
  refine lv_iload_n hx hb dX9_restart_92 rfl (lv_at hl 0 rfl) ?_
  refine va_cald hx hb hK hP 15 3 rfl rfl (i := 4) (by unfold vp_in; decide) dX9_restart_93 ?_
  refine W.eq (g2 := F0 m 94 ls [.int 120, .ref h10]) rfl ?_
  refine va_put (D := (dC, dI)) (ci := 7) (v := .int 120) (ty := .char) (C := RX8) (T := TX8) (N := 6) hx hb hts in_X8 tyX8 tyX8_ok nmX8 hown hK hP hD (va_Sre hS) 12 rfl rfl 1 (by decide) (hts _ q_311) (fun _ h9 => h9) rfl (by decide +kernel) rfl rfl (Nat.le_of_ble_eq_true rfl) dX9_restart_94 (fun H206 _ hP hD hS' => ?_)
  have hG : s.heap.size + 19 ≤ H206.size := Nat.le_trans hG hS'.1
  have hS := va_Str hS hS'
  have hP : va_P (dC, dI) xCl [(a14, ce384 h1), (h0, ce21 h1 h2 o0 h3), (a132, ce385 k133), (h1, ce331 h4), (h2, ce3 z.1), (h3, ce366 h5), (h4, ce330 kc0 h6 h7 h8 h9 h10 h11 h12), (h5, ce330 kc1 (z.2.2.1 128) (z.2.2.1 129) (z.2.2.1 130) (z.2.2.1 131) (z.2.2.1 132) (z.2.2.1 133) (z.2.2.1 134)), (h6, ce49), (h7, ce49), (h8, ce49), (h9, ce49), (h10, ce49), (h11, ce49), (h12, ce49), (a140, ce385 k141)] H206 := hP
  have hD := vd_as hP hD rfl
  refine lv_iinc (v := 5) (lv' := [(2, .int 5), (1, .ref a140), (0, .ref h0)]) hx hb dX9_restart_97 hl (k := 0) rfl (by decide) (by decide) rfl (fun ls hl => ?_)
  refine lv_goto (tgt := 69) hx hb dX9_restart_100 (by decide) ?_
  refine lv_iload_n hx hb dX9_restart_69 rfl (lv_at hl 0 rfl) ?_
  refine lv_aload_n hx hb dX9_restart_70 rfl (lv_at hl 2 rfl) ?_
  refine va_get (D := (dC, dI)) (ci := 8) (v := .ref h1) (C := RX9) (T := TX9) (N := 6) hx hb hts in_X9 hown hK hP 1 rfl rfl 1 (by decide) (hts _ q_64) (fun _ h9 => h9) rfl dX9_restart_71 ?_
  have hM209 := k20_size l hl9 dC dI z h1 h4 H206.size 7 7
  obtain ⟨hF207, hC210⟩ := pc_M hM209 hP hD hK hS hX hT hA [3] [] rfl rfl rfl
  refine va_calli (va_runV (As := []) (rest := [.int 5]) ⟨hx, hb, hml, hown, hts⟩ hM209 (cwV 0 hts (gV q_272 q_77 q_78 q_12 q_75) rfl rfl rfl hV_Jx4a65c_size_8abf5 ⟨Nat.le_of_ble_eq_true rfl, Nat.le_of_ble_eq_true rfl⟩) ⟨pc_blind, va_recv hK hP (ci := 0) (q := (RJx4a65c, TJx4a65c, 3)) (q0 := 3) rfl rfl, fun U hU hW => ⟨rfl, hC210 U hU hW⟩⟩ rfl rfl hl.1 rfl (lv_room (Nat.le_of_ble_eq_true rfl)) dX9_restart_74 ⟨(Nat.le_of_ble_eq_true rfl), (Nat.le_of_ble_eq_true rfl)⟩) hS (fun q9 _ h9 => hF207 q9 h9) hF207 (fun r212 u211 t211 H211 L211 ht211 hvm211 hw211 hB211 hz211 hk211 hS => ?_)
  have hP := pq_keep hP hD [3] rfl hk211 hB211.1 ht211
  have hG : s.heap.size + 19 ≤ H211.size := Nat.le_trans hG hz211
  refine W.eq (g2 := F0 m 77 ls [.int 7, .int 5]) (by rw [hw211]) ?_
  refine lv_icmp_ge (tgt := 103) hx hb dX9_restart_77 (by decide) (fun cz => absurd cz (by decide)) (fun _ => ?_)
  refine lv_aload_n hx hb dX9_restart_80 rfl (lv_at hl 2 rfl) ?_
  refine va_get (D := (dC, dI)) (ci := 8) (v := .ref h1) (C := RX9) (T := TX9) (N := 6) hx hb hts in_X9 hown hK hP 1 rfl rfl 1 (by decide) (hts _ q_64) (fun _ h9 => h9) rfl dX9_restart_81 ?_
  refine lv_iload_n hx hb dX9_restart_84 rfl (lv_at hl 0 rfl) ?_
  have hM215 := k652_get l hl9 dC dI z h1 h4 h6 h7 h8 h9 h10 h11 h12 H211.size kc0
  obtain ⟨hF213, hC216⟩ := pc_M hM215 hP hD hK hS hX hT hA [3, 6] [1] rfl rfl rfl
  refine va_callr (va_runV (As := [.int 5]) (rest := []) ⟨hx, hb, hml, hown, hts⟩ hM215 (cwV 1 hts (gV q_315 q_157 q_158 q_12 q_155) rfl rfl rfl hV_Jx4a65c_get_915e3 ⟨Nat.le_of_ble_eq_true rfl, Nat.le_of_ble_eq_true rfl⟩) ⟨pc_blind, va_recv hK hP (ci := 0) (q := (RJx4a65c, TJx4a65c, 3)) (q0 := 3) rfl rfl, fun U hU hW => ⟨rfl, hC216 U hU hW⟩⟩ rfl rfl hl.1 rfl (lv_room (Nat.le_of_ble_eq_true rfl)) dX9_restart_85 ⟨(Nat.le_of_ble_eq_true rfl), (Nat.le_of_ble_eq_true rfl)⟩) hS (fun q9 _ h9 => hF213 q9 h9) hF213 (fun u217 r218 t217 H217 L217 ht217 hvm217 hw217 hB217 hz217 hk217 hS => ?_)
  obtain ⟨hr217, hB217⟩ := hB217
  have hP := pq_keep hP hD [3, 6] rfl hk217 hB217.1 ht217
  have hG : s.heap.size + 19 ≤ H217.size := Nat.le_trans hG hz217
  refine W.eq (g2 := F0 m 88 ls [.ref h11]) (by rw [hr217]) ?_
  refine va_castE (nm := RX8) hx hb hown (hts _ q_273) (va_recv hK hP (ci := 7) (q := (RX8, TX8, 6)) (q0 := 13) rfl rfl) dX9_restart_88 ?_
  refine lv_aload_n hx hb dX9_restart_91 rfl (lv_at hl 1 rfl) ?_
  refine lv_iload_n hx hb dX9_restart_92 rfl (lv_at hl 0 rfl) ?_
  refine va_cald hx hb hK hP 15 3 rfl rfl (i := 5) (by unfold vp_in; decide) dX9_restart_93 ?_
  refine W.eq (g2 := F0 m 94 ls [.int 120, .ref h11]) rfl ?_
  refine va_put (D := (dC, dI)) (ci := 7) (v := .int 120) (ty := .char) (C := RX8) (T := TX8) (N := 6) hx hb hts in_X8 tyX8 tyX8_ok nmX8 hown hK hP hD (va_Sre hS) 13 rfl rfl 1 (by decide) (hts _ q_311) (fun _ h9 => h9) rfl (by decide +kernel) rfl rfl (Nat.le_of_ble_eq_true rfl) dX9_restart_94 (fun H219 _ hP hD hS' => ?_)
  have hG : s.heap.size + 19 ≤ H219.size := Nat.le_trans hG hS'.1
  have hS := va_Str hS hS'
  have hP : va_P (dC, dI) xCl [(a14, ce384 h1), (h0, ce21 h1 h2 o0 h3), (a132, ce385 k133), (h1, ce331 h4), (h2, ce3 z.1), (h3, ce366 h5), (h4, ce330 kc0 h6 h7 h8 h9 h10 h11 h12), (h5, ce330 kc1 (z.2.2.1 128) (z.2.2.1 129) (z.2.2.1 130) (z.2.2.1 131) (z.2.2.1 132) (z.2.2.1 133) (z.2.2.1 134)), (h6, ce49), (h7, ce49), (h8, ce49), (h9, ce49), (h10, ce49), (h11, ce49), (h12, ce49), (a140, ce385 k141)] H219 := hP
  have hD := vd_as hP hD rfl
  refine lv_iinc (v := 6) (lv' := [(2, .int 6), (1, .ref a140), (0, .ref h0)]) hx hb dX9_restart_97 hl (k := 0) rfl (by decide) (by decide) rfl (fun ls hl => ?_)
  refine lv_goto (tgt := 69) hx hb dX9_restart_100 (by decide) ?_
  refine lv_iload_n hx hb dX9_restart_69 rfl (lv_at hl 0 rfl) ?_
  refine lv_aload_n hx hb dX9_restart_70 rfl (lv_at hl 2 rfl) ?_
  refine va_get (D := (dC, dI)) (ci := 8) (v := .ref h1) (C := RX9) (T := TX9) (N := 6) hx hb hts in_X9 hown hK hP 1 rfl rfl 1 (by decide) (hts _ q_64) (fun _ h9 => h9) rfl dX9_restart_71 ?_
  have hM222 := k20_size l hl9 dC dI z h1 h4 H219.size 7 7
  obtain ⟨hF220, hC223⟩ := pc_M hM222 hP hD hK hS hX hT hA [3] [] rfl rfl rfl
  refine va_calli (va_runV (As := []) (rest := [.int 6]) ⟨hx, hb, hml, hown, hts⟩ hM222 (cwV 0 hts (gV q_272 q_77 q_78 q_12 q_75) rfl rfl rfl hV_Jx4a65c_size_8abf5 ⟨Nat.le_of_ble_eq_true rfl, Nat.le_of_ble_eq_true rfl⟩) ⟨pc_blind, va_recv hK hP (ci := 0) (q := (RJx4a65c, TJx4a65c, 3)) (q0 := 3) rfl rfl, fun U hU hW => ⟨rfl, hC223 U hU hW⟩⟩ rfl rfl hl.1 rfl (lv_room (Nat.le_of_ble_eq_true rfl)) dX9_restart_74 ⟨(Nat.le_of_ble_eq_true rfl), (Nat.le_of_ble_eq_true rfl)⟩) hS (fun q9 _ h9 => hF220 q9 h9) hF220 (fun r225 u224 t224 H224 L224 ht224 hvm224 hw224 hB224 hz224 hk224 hS => ?_)
  have hP := pq_keep hP hD [3] rfl hk224 hB224.1 ht224
  have hG : s.heap.size + 19 ≤ H224.size := Nat.le_trans hG hz224
  refine W.eq (g2 := F0 m 77 ls [.int 7, .int 6]) (by rw [hw224]) ?_
  refine lv_icmp_ge (tgt := 103) hx hb dX9_restart_77 (by decide) (fun cz => absurd cz (by decide)) (fun _ => ?_)
  refine lv_aload_n hx hb dX9_restart_80 rfl (lv_at hl 2 rfl) ?_
  refine va_get (D := (dC, dI)) (ci := 8) (v := .ref h1) (C := RX9) (T := TX9) (N := 6) hx hb hts in_X9 hown hK hP 1 rfl rfl 1 (by decide) (hts _ q_64) (fun _ h9 => h9) rfl dX9_restart_81 ?_
  refine lv_iload_n hx hb dX9_restart_84 rfl (lv_at hl 0 rfl) ?_
  have hM228 := k656_get l hl9 dC dI z h1 h4 h6 h7 h8 h9 h10 h11 h12 H224.size kc0
  obtain ⟨hF226, hC229⟩ := pc_M hM228 hP hD hK hS hX hT hA [3, 6] [1] rfl rfl rfl
  refine va_callr (va_runV (As := [.int 6]) (rest := []) ⟨hx, hb, hml, hown, hts⟩ hM228 (cwV 1 hts (gV q_315 q_157 q_158 q_12 q_155) rfl rfl rfl hV_Jx4a65c_get_915e3 ⟨Nat.le_of_ble_eq_true rfl, Nat.le_of_ble_eq_true rfl⟩) ⟨pc_blind, va_recv hK hP (ci := 0) (q := (RJx4a65c, TJx4a65c, 3)) (q0 := 3) rfl rfl, fun U hU hW => ⟨rfl, hC229 U hU hW⟩⟩ rfl rfl hl.1 rfl (lv_room (Nat.le_of_ble_eq_true rfl)) dX9_restart_85 ⟨(Nat.le_of_ble_eq_true rfl), (Nat.le_of_ble_eq_true rfl)⟩) hS (fun q9 _ h9 => hF226 q9 h9) hF226 (fun u230 r231 t230 H230 L230 ht230 hvm230 hw230 hB230 hz230 hk230 hS => ?_)
  obtain ⟨hr230, hB230⟩ := hB230
  have hP := pq_keep hP hD [3, 6] rfl hk230 hB230.1 ht230
  have hG : s.heap.size + 19 ≤ H230.size := Nat.le_trans hG hz230
  refine W.eq (g2 := F0 m 88 ls [.ref h12]) (by rw [hr230]) ?_
  refine va_castE (nm := RX8) hx hb hown (hts _ q_273) (va_recv hK hP (ci := 7) (q := (RX8, TX8, 6)) (q0 := 14) rfl rfl) dX9_restart_88 ?_
  refine lv_aload_n hx hb dX9_restart_91 rfl (lv_at hl 1 rfl) ?_
  refine lv_iload_n hx hb dX9_restart_92 rfl (lv_at hl 0 rfl) ?_
  refine va_cald hx hb hK hP 15 3 rfl rfl (i := 6) (by unfold vp_in; decide) dX9_restart_93 ?_
  refine W.eq (g2 := F0 m 94 ls [.int 120, .ref h12]) rfl ?_
  refine va_put (D := (dC, dI)) (ci := 7) (v := .int 120) (ty := .char) (C := RX8) (T := TX8) (N := 6) hx hb hts in_X8 tyX8 tyX8_ok nmX8 hown hK hP hD (va_Sre hS) 14 rfl rfl 1 (by decide) (hts _ q_311) (fun _ h9 => h9) rfl (by decide +kernel) rfl rfl (Nat.le_of_ble_eq_true rfl) dX9_restart_94 (fun H232 _ hP hD hS' => ?_)
  have hG : s.heap.size + 19 ≤ H232.size := Nat.le_trans hG hS'.1
  have hS := va_Str hS hS'
  have hP : va_P (dC, dI) xCl [(a14, ce384 h1), (h0, ce21 h1 h2 o0 h3), (a132, ce385 k133), (h1, ce331 h4), (h2, ce3 z.1), (h3, ce366 h5), (h4, ce330 kc0 h6 h7 h8 h9 h10 h11 h12), (h5, ce330 kc1 (z.2.2.1 128) (z.2.2.1 129) (z.2.2.1 130) (z.2.2.1 131) (z.2.2.1 132) (z.2.2.1 133) (z.2.2.1 134)), (h6, ce49), (h7, ce49), (h8, ce49), (h9, ce49), (h10, ce49), (h11, ce49), (h12, ce49), (a140, ce385 k141)] H232 := hP
  have hD := vd_as hP hD rfl
  refine lv_iinc (v := 7) (lv' := [(2, .int 7), (1, .ref a140), (0, .ref h0)]) hx hb dX9_restart_97 hl (k := 0) rfl (by decide) (by decide) rfl (fun ls hl => ?_)
  refine lv_goto (tgt := 69) hx hb dX9_restart_100 (by decide) ?_
  refine lv_iload_n hx hb dX9_restart_69 rfl (lv_at hl 0 rfl) ?_
  refine lv_aload_n hx hb dX9_restart_70 rfl (lv_at hl 2 rfl) ?_
  refine va_get (D := (dC, dI)) (ci := 8) (v := .ref h1) (C := RX9) (T := TX9) (N := 6) hx hb hts in_X9 hown hK hP 1 rfl rfl 1 (by decide) (hts _ q_64) (fun _ h9 => h9) rfl dX9_restart_71 ?_
  have hM235 := k20_size l hl9 dC dI z h1 h4 H232.size 7 7
  obtain ⟨hF233, hC236⟩ := pc_M hM235 hP hD hK hS hX hT hA [3] [] rfl rfl rfl
  refine va_calli (va_runV (As := []) (rest := [.int 7]) ⟨hx, hb, hml, hown, hts⟩ hM235 (cwV 0 hts (gV q_272 q_77 q_78 q_12 q_75) rfl rfl rfl hV_Jx4a65c_size_8abf5 ⟨Nat.le_of_ble_eq_true rfl, Nat.le_of_ble_eq_true rfl⟩) ⟨pc_blind, va_recv hK hP (ci := 0) (q := (RJx4a65c, TJx4a65c, 3)) (q0 := 3) rfl rfl, fun U hU hW => ⟨rfl, hC236 U hU hW⟩⟩ rfl rfl hl.1 rfl (lv_room (Nat.le_of_ble_eq_true rfl)) dX9_restart_74 ⟨(Nat.le_of_ble_eq_true rfl), (Nat.le_of_ble_eq_true rfl)⟩) hS (fun q9 _ h9 => hF233 q9 h9) hF233 (fun r238 u237 t237 H237 L237 ht237 hvm237 hw237 hB237 hz237 hk237 hS => ?_)
  have hP := pq_keep hP hD [3] rfl hk237 hB237.1 ht237
  have hG : s.heap.size + 19 ≤ H237.size := Nat.le_trans hG hz237
  refine W.eq (g2 := F0 m 77 ls [.int 7, .int 7]) (by rw [hw237]) ?_
  refine lv_icmp_ge (tgt := 103) hx hb dX9_restart_77 (by decide) (fun _ => ?_) (fun cz => absurd (by decide) cz)
  refine lv_aload_n hx hb dX9_restart_103 rfl (lv_at hl 2 rfl) ?_
  refine va_get (D := (dC, dI)) (ci := 8) (v := .ref h2) (C := RX9) (T := TX9) (N := 6) hx hb hts in_X9 hown hK hP 1 rfl rfl 2 (by decide) (hts _ q_65) (fun _ h9 => h9) rfl dX9_restart_104 ?_
  have hM241 := k49_iterator l hl9 dC dI z h2 H237.size
  obtain ⟨hF239, hC242⟩ := pc_M hM241 hP hD hK hS hX hT hA [4] [] rfl rfl rfl
  refine va_callr (va_runV (As := []) (rest := []) ⟨hx, hb, hml, hown, hts⟩ hM241 (cwV 0 hts (gV q_256 q_257 q_258 q_12 q_255) rfl rfl rfl hV_Jx4a65c_iterator_32c93 ⟨Nat.le_of_ble_eq_true rfl, Nat.le_of_ble_eq_true rfl⟩) ⟨pc_blind, va_recv hK hP (ci := 0) (q := (RJx4a65c, TJx4a65c, 3)) (q0 := 4) rfl rfl, fun U hU hW => ⟨rfl, hC242 U hU hW⟩⟩ rfl rfl hl.1 rfl (lv_room (Nat.le_of_ble_eq_true rfl)) dX9_restart_107 ⟨(Nat.le_of_ble_eq_true rfl), (Nat.le_of_ble_eq_true rfl)⟩) hS (fun q9 _ h9 => hF239 q9 h9) hF239 (fun u243 r244 t243 H243 L243 ht243 hvm243 hw243 hB243 hz243 hk243 hS => ?_)
  obtain ⟨a245, hr243, hB243⟩ := hB243
  obtain ⟨hP, hD, hK⟩ := pq_jn (wz := [(a14, ce384 h1), (h0, ce21 h1 h2 o0 h3), (a132, ce385 k133), (h1, ce331 h4), (h3, ce366 h5), (h4, ce330 kc0 h6 h7 h8 h9 h10 h11 h12), (h5, ce330 kc1 (z.2.2.1 128) (z.2.2.1 129) (z.2.2.1 130) (z.2.2.1 131) (z.2.2.1 132) (z.2.2.1 133) (z.2.2.1 134)), (h6, ce49), (h7, ce49), (h8, ce49), (h9, ce49), (h10, ce49), (h11, ce49), (h12, ce49), (a140, ce385 k141), (h2, ce3 z.1), (a245, ce44 h2)]) (tz := [(k133, .char), (kc0, .object "java/lang/Object"), (kc1, .object "java/lang/Object"), (k141, .char)]) hP hD hK [4] [0, 1, 2, 3] rfl hk243 hF239 hB243.1 ht243 hvm243 rfl rfl
  have hG : s.heap.size + 20 ≤ H243.size := va_gr (g := 19) (g1 := 1) hG (by rw [← ht243]; exact hB243.2)
  refine W.eq (g2 := F0 m 110 ls [.ref a245]) (by rw [hr243]) ?_
  refine W.widen (k := 20) (n := 188) (by decide) (by decide) ?_
  refine lv_astore_n (lv' := [(2, .ref a245), (1, .ref a140), (0, .ref h0)]) hx hb dX9_restart_110 rfl hl (by decide) rfl (fun ls hl => ?_)
  refine lv_aload_n hx hb dX9_restart_111 rfl (lv_at hl 0 rfl) ?_
  have hM248 := k50_hasNext l hl9 dC dI z a245 h2 H243.size
  obtain ⟨hF246, hC249⟩ := pc_M hM248 hP hD hK hS hX hT hA [16, 15] [] rfl rfl rfl
  refine va_callFi (va_runF (As := []) (rest := []) (hK.1 1 (RJx35411, TJx35411, 4) rfl).2 ⟨hx, hb, hml, hown, hts⟩ hM248 (va_cwF 0 hts (gF q_261 q_262 q_263 q_246 q_260) rfl rfl rfl hT.2.2.2.2.2.2.1 hF_xIh ⟨Nat.le_of_ble_eq_true rfl, Nat.le_of_ble_eq_true rfl⟩) ⟨pc_blind, va_recv hK hP (ci := 1) (q := (RJx35411, TJx35411, 4)) (q0 := 16) rfl rfl, fun U hU hW => ⟨rfl, hC249 U hU hW⟩⟩ rfl rfl hl.1 rfl (lv_room (Nat.le_of_ble_eq_true rfl)) dX9_restart_112 ⟨(Nat.le_of_ble_eq_true rfl), (Nat.le_of_ble_eq_true rfl)⟩) hS (fun q9 _ h9 => hF246 q9 h9) hF246 (fun r251 u250 t250 H250 L250 ht250 hvm250 hw250 hB250 hz250 hk250 hS => ?_)
  have hP := pq_keep hP hD [16, 15] rfl hk250 hB250.1 ht250
  have hG : s.heap.size + 20 ≤ H250.size := Nat.le_trans hG hz250
  refine W.eq (g2 := F0 m 117 ls [.int 0]) (by rw [hw250]) ?_
  refine lv_if_eq (tgt := 147) hx hb dX9_restart_117 (by decide) (fun _ => ?_) (fun cz => absurd (by decide) cz)
  exact W.vret hx hb hr (fun t9 ht9 hW9 => ⟨⟨(), rfl, trivial, ⟨pq_mk2 hP hD hK [1, 3, 15, 4, 5, 6, 7, 8, 9, 10, 11, 12, 13] [1, 2] rfl rfl rfl ht9 hW9, by rw [ht9]; exact Nat.le_trans (Nat.add_le_add_left (Nat.le_of_ble_eq_true rfl) _) hG⟩⟩, hS.F ht9⟩) hS.2.2 dX9_restart_147

set_option maxHeartbeats 4000000 in
set_option maxRecDepth 100000 in
theorem k775_addSource (l : Launch) (hl9 : l.stackTraces = false) (dC : Nat → ClassId) (dI : Nat → Nat → Nat) (z : XZ) (h0 h1 h2 h3 h4 h5 h6 h7 h8 h9 h10 h11 : Nat) (o0 : Nat) (sz : Nat) (kc0 kc1 : ClassId) : Met l yX9_addSource (.code yX9_addSource cX9_addSource 3 (some .int) :: wsL_law) ({ frames := 5, cells := 22, slots := 198, locals := 117 }) (va_Pc [.ref h0, .int 105] (PC (dC, dI) [(h0, ce21 h1 h2 o0 h3), (h1, ce259 h4), (h2, ce3 z.1), (h3, ce289 h5), (h4, ce258 kc0 h6 h7 h8 h9 h10 h11), (h5, ce258 kc1 (z.2.2.1 128) (z.2.2.1 129) (z.2.2.1 130) (z.2.2.1 131) (z.2.2.1 132) (z.2.2.1 133)), (h6, ce49), (h7, ce49), (h8, ce49), (h9, ce49), (h10, ce49), (h11, ce49)] [(kc0, .object "java/lang/Object"), (kc1, .object "java/lang/Object")] sz z)) (va_Qi (fun (r : Int32) (_ : Unit) => r = 6) (fun (_ : Unit) (t : State) => ∃ (n0 : Nat), PG (dC, dI) [(h0, ce21 h1 h2 o0 h3), (h1, ce331 h4), (h2, ce3 z.1), (h3, ce366 h5), (h4, ce330 kc0 h6 h7 h8 h9 h10 h11 n0), (h5, ce330 kc1 (z.2.2.1 128) (z.2.2.1 129) (z.2.2.1 130) (z.2.2.1 131) (z.2.2.1 132) (z.2.2.1 133) (z.2.2.1 134)), (h6, ce49), (h7, ce49), (h8, ce49), (h9, ce49), (h10, ce49), (h11, ce49), (n0, ce49)] [(kc0, .object "java/lang/Object"), (kc1, .object "java/lang/Object")] (va_A [(h0, ce21 h1 h2 o0 h3), (h1, ce259 h4), (h2, ce3 z.1), (h3, ce289 h5), (h4, ce258 kc0 h6 h7 h8 h9 h10 h11), (h5, ce258 kc1 (z.2.2.1 128) (z.2.2.1 129) (z.2.2.1 130) (z.2.2.1 131) (z.2.2.1 132) (z.2.2.1 133)), (h6, ce49), (h7, ce49), (h8, ce49), (h9, ce49), (h10, ce49), (h11, ce49)] sz) sz 22 t) (va_A [(h0, ce21 h1 h2 o0 h3), (h1, ce259 h4), (h2, ce3 z.1), (h3, ce289 h5), (h4, ce258 kc0 h6 h7 h8 h9 h10 h11), (h5, ce258 kc1 (z.2.2.1 128) (z.2.2.1 129) (z.2.2.1 130) (z.2.2.1 131) (z.2.2.1 132) (z.2.2.1 133)), (h6, ce49), (h7, ce49), (h8, ce49), (h9, ce49), (h10, ce49), (h11, ce49)] sz)) 22 198 (va_A [(h0, ce21 h1 h2 o0 h3), (h1, ce259 h4), (h2, ce3 z.1), (h3, ce289 h5), (h4, ce258 kc0 h6 h7 h8 h9 h10 h11), (h5, ce258 kc1 (z.2.2.1 128) (z.2.2.1 129) (z.2.2.1 130) (z.2.2.1 131) (z.2.2.1 132) (z.2.2.1 133)), (h6, ce49), (h7, ce49), (h8, ce49), (h9, ce49), (h10, ce49), (h11, ce49)] sz) := by
  refine Met.ofW (cc := cX9_addSource) (maxL := 3) (ret := (some .int)) (by decide) rfl ?_
  intro p e s m args below meth c s₁ B hml hv
  obtain ⟨rfl, hsz, hP, hK, hD0, hX, hT⟩ := hv
  have hx := B.exec
  have hb := B.bytes
  have hr := B.returns
  have hts0 := atoms_spec (ws := .code yX9_addSource cX9_addSource 3 (some .int) :: wsL_law) B.pre
  have hts := xTail hts0
  have hown : s.vm.findClass RX9 = some m.cls := xown B.named rfl
  have hlocks := B.notSynchronized
  subst hsz
  have hD := hD0.self (sz := s.heap.size)
  generalize hAe : va_A [(h0, ce21 h1 h2 o0 h3), (h1, ce259 h4), (h2, ce3 z.1), (h3, ce289 h5), (h4, ce258 kc0 h6 h7 h8 h9 h10 h11), (h5, ce258 kc1 (z.2.2.1 128) (z.2.2.1 129) (z.2.2.1 130) (z.2.2.1 131) (z.2.2.1 132) (z.2.2.1 133)), (h6, ce49), (h7, ce49), (h8, ce49), (h9, ce49), (h10, ce49), (h11, ce49)] s.heap.size = A at hD hX ⊢
  have hA : ∀ q : Nat, s.heap.size ≤ q → A q := fun q h => by rw [← hAe]; exact Or.inr h
  have hS : va_S A s.heap s.heap [] := va_S.rf
  have hG : s.heap.size + 0 ≤ s.heap.size := Nat.le_refl _
  have hl := lv_entry ([.ref h0, .int 105]) (n := 3) (Nat.le_of_ble_eq_true rfl)
  rw [lg_entry_eq]
  generalize (lg_sl ([.ref h0, .int 105]) ++ List.replicate (3 - (lg_sl ([.ref h0, .int 105])).length) Slot.unset).toArray = ls at hl ⊢
  have hl : lv_has ls 3 [(0, .ref h0), (1, .int 105)] := hl
  refine lv_aload_n hx hb dX9_addSource_0 rfl (lv_at hl 0 rfl) ?_
  refine lv_aload_n hx hb dX9_addSource_1 rfl (lv_at hl 0 rfl) ?_
  have hM3 := k702_sources l hl9 dC dI z h0 h1 h4 h6 h7 h8 h9 h10 h11 h2 o0 h3 s.heap.size kc0
  obtain ⟨hF1, hC4⟩ := pc_M hM3 hP hD hK hS hX hT hA [0, 1, 4, 6, 7, 8, 9, 10, 11] [0] rfl rfl rfl
  refine va_calli (va_runV (As := []) (rest := [.ref h0]) ⟨hx, hb, hml, hown, hts⟩ hM3 (cwV 0 hts (gV q_265 q_266 q_267 q_60 q_264) rfl rfl rfl hV_X9_sources ⟨Nat.le_of_ble_eq_true rfl, Nat.le_of_ble_eq_true rfl⟩) ⟨pc_blind, va_recv hK hP (ci := 8) (q := (RX9, TX9, 6)) (q0 := 0) rfl rfl, fun U hU hW => ⟨rfl, hC4 U hU hW⟩⟩ rfl rfl hl.1 rfl (lv_room (Nat.le_of_ble_eq_true rfl)) dX9_addSource_2 ⟨(Nat.le_of_ble_eq_true rfl), (Nat.le_of_ble_eq_true rfl)⟩) hS (fun q9 _ h9 => hF1 q9 h9) hF1 (fun r6 u5 t5 H5 L5 ht5 hvm5 hw5 hB5 hz5 hk5 hS => ?_)
  have hP := pq_keep hP hD [0, 1, 4, 6, 7, 8, 9, 10, 11] rfl hk5 hB5.1 ht5
  have hG : s.heap.size + 1 ≤ H5.size := va_gr (g := 0) (g1 := 1) hG (by rw [← ht5]; exact hB5.2)
  refine W.eq (g2 := F0 m 5 ls [.int 6, .ref h0]) (by rw [hw5]) ?_
  refine W.widen (k := 1) (n := 4) (by decide) (by decide) ?_
  refine lv_bipush (v := 8) hx hb dX9_addSource_5 (by decide) ?_
  refine lv_icmp_ne (tgt := 14) hx hb dX9_addSource_7 (by decide) (fun _ => ?_) (fun cz => absurd cz (by decide))
  refine lv_iconst (v := 0) hx hb dX9_addSource_14 (by decide) ?_
  refine lv_iconst (v := 1) hx hb dX9_addSource_15 (by decide) ?_
  have hM9 := k52_fails l hl9 dC dI z h0 h1 h2 o0 h3 H5.size
  obtain ⟨hF7, hC10⟩ := pc_M hM9 hP hD hK hS hX hT hA [0] [] rfl rfl rfl
  refine va_calli (va_runV (As := [.int 0, .int 1]) (rest := []) ⟨hx, hb, hml, hown, hts⟩ hM9 (cwV 2 hts (gV q_269 q_270 q_271 q_60 q_268) rfl rfl rfl hV_X9_fails ⟨Nat.le_of_ble_eq_true rfl, Nat.le_of_ble_eq_true rfl⟩) ⟨pc_blind, va_recv hK hP (ci := 8) (q := (RX9, TX9, 6)) (q0 := 0) rfl rfl, fun U hU hW => ⟨rfl, hC10 U hU hW⟩⟩ rfl rfl hl.1 rfl (lv_room (Nat.le_of_ble_eq_true rfl)) dX9_addSource_16 ⟨(Nat.le_of_ble_eq_true rfl), (Nat.le_of_ble_eq_true rfl)⟩) hS (fun q9 _ h9 => hF7 q9 h9) hF7 (fun r12 u11 t11 H11 L11 ht11 hvm11 hw11 hB11 hz11 hk11 hS => ?_)
  have hP := pq_keep hP hD [0] rfl hk11 hB11.1 ht11
  have hG : s.heap.size + 1 ≤ H11.size := Nat.le_trans hG hz11
  refine W.eq (g2 := F0 m 19 ls [.int 0]) (by rw [hw11]) ?_
  refine lv_if_ne (tgt := 47) hx hb dX9_addSource_19 (by decide) (fun cz => absurd (by decide) cz) (fun _ => ?_)
  refine lv_aload_n hx hb dX9_addSource_22 rfl (lv_at hl 0 rfl) ?_
  refine lv_aload_n hx hb dX9_addSource_23 rfl (lv_at hl 0 rfl) ?_
  refine va_get (D := (dC, dI)) (ci := 8) (v := .ref h1) (C := RX9) (T := TX9) (N := 6) hx hb hts in_X9 hown hK hP 0 rfl rfl 1 (by decide) (hts _ q_64) (fun _ h9 => h9) rfl dX9_addSource_24 ?_
  have hM15 := k20_size l hl9 dC dI z h1 h4 H11.size 6 6
  obtain ⟨hF13, hC16⟩ := pc_M hM15 hP hD hK hS hX hT hA [1] [] rfl rfl rfl
  refine va_calli (va_runV (As := []) (rest := [.ref h0]) ⟨hx, hb, hml, hown, hts⟩ hM15 (cwV 0 hts (gV q_272 q_77 q_78 q_12 q_75) rfl rfl rfl hV_Jx4a65c_size_8abf5 ⟨Nat.le_of_ble_eq_true rfl, Nat.le_of_ble_eq_true rfl⟩) ⟨pc_blind, va_recv hK hP (ci := 0) (q := (RJx4a65c, TJx4a65c, 3)) (q0 := 1) rfl rfl, fun U hU hW => ⟨rfl, hC16 U hU hW⟩⟩ rfl rfl hl.1 rfl (lv_room (Nat.le_of_ble_eq_true rfl)) dX9_addSource_27 ⟨(Nat.le_of_ble_eq_true rfl), (Nat.le_of_ble_eq_true rfl)⟩) hS (fun q9 _ h9 => hF13 q9 h9) hF13 (fun r18 u17 t17 H17 L17 ht17 hvm17 hw17 hB17 hz17 hk17 hS => ?_)
  have hP := pq_keep hP hD [1] rfl hk17 hB17.1 ht17
  have hG : s.heap.size + 1 ≤ H17.size := Nat.le_trans hG hz17
  refine W.eq (g2 := F0 m 30 ls [.int 6, .ref h0]) (by rw [hw17]) ?_
  refine lv_bipush (v := 40) hx hb dX9_addSource_30 (by decide) ?_
  refine lv_icmp_ne (tgt := 39) hx hb dX9_addSource_32 (by decide) (fun _ => ?_) (fun cz => absurd cz (by decide))
  refine lv_iconst (v := 0) hx hb dX9_addSource_39 (by decide) ?_
  refine lv_iconst (v := 2) hx hb dX9_addSource_40 (by decide) ?_
  have hM21 := k53_fails l hl9 dC dI z h0 h1 h2 o0 h3 H17.size
  obtain ⟨hF19, hC22⟩ := pc_M hM21 hP hD hK hS hX hT hA [0] [] rfl rfl rfl
  refine va_calli (va_runV (As := [.int 0, .int 2]) (rest := []) ⟨hx, hb, hml, hown, hts⟩ hM21 (cwV 2 hts (gV q_269 q_270 q_271 q_60 q_268) rfl rfl rfl hV_X9_fails ⟨Nat.le_of_ble_eq_true rfl, Nat.le_of_ble_eq_true rfl⟩) ⟨pc_blind, va_recv hK hP (ci := 8) (q := (RX9, TX9, 6)) (q0 := 0) rfl rfl, fun U hU hW => ⟨rfl, hC22 U hU hW⟩⟩ rfl rfl hl.1 rfl (lv_room (Nat.le_of_ble_eq_true rfl)) dX9_addSource_41 ⟨(Nat.le_of_ble_eq_true rfl), (Nat.le_of_ble_eq_true rfl)⟩) hS (fun q9 _ h9 => hF19 q9 h9) hF19 (fun r24 u23 t23 H23 L23 ht23 hvm23 hw23 hB23 hz23 hk23 hS => ?_)
  have hP := pq_keep hP hD [0] rfl hk23 hB23.1 ht23
  have hG : s.heap.size + 1 ≤ H23.size := Nat.le_trans hG hz23
  refine W.eq (g2 := F0 m 44 ls [.int 0]) (by rw [hw23]) ?_
  refine lv_if_eq (tgt := 49) hx hb dX9_addSource_44 (by decide) (fun _ => ?_) (fun cz => absurd (by decide) cz)
  refine lv_aload_n hx hb dX9_addSource_49 rfl (lv_at hl 0 rfl) ?_
  refine lv_iload_n hx hb dX9_addSource_50 rfl (lv_at hl 1 rfl) ?_
  have hM27 := k705_add l hl9 dC dI z h0 h1 h4 h2 o0 h3 h6 h7 h8 h9 h10 h11 H23.size kc0
  obtain ⟨hF25, hC28⟩ := pc_M hM27 hP hD hK hS hX hT hA [0, 1, 4] [0] rfl rfl rfl
  refine va_calli (va_runV (As := [.int 105]) (rest := []) ⟨hx, hb, hml, hown, hts⟩ hM27 (cwV 1 hts (gV q_286 q_287 q_288 q_60 q_285) rfl rfl rfl hV_X9_add ⟨Nat.le_of_ble_eq_true rfl, Nat.le_of_ble_eq_true rfl⟩) ⟨pc_blind, va_recv hK hP (ci := 8) (q := (RX9, TX9, 6)) (q0 := 0) rfl rfl, fun U hU hW => ⟨rfl, hC28 U hU hW⟩⟩ rfl rfl hl.1 rfl (lv_room (Nat.le_of_ble_eq_true rfl)) dX9_addSource_51 ⟨(Nat.le_of_ble_eq_true rfl), (Nat.le_of_ble_eq_true rfl)⟩) hS (fun q9 _ h9 => hF25 q9 h9) hF25 (fun r30 u29 t29 H29 L29 ht29 hvm29 hw29 hB29 hz29 hk29 hS => ?_)
  obtain ⟨a31, hB29⟩ := hB29
  obtain ⟨hP, hD, hK⟩ := pq_jn (wz := [(h2, ce3 z.1), (h3, ce289 h5), (h5, ce258 kc1 (z.2.2.1 128) (z.2.2.1 129) (z.2.2.1 130) (z.2.2.1 131) (z.2.2.1 132) (z.2.2.1 133)), (h6, ce49), (h7, ce49), (h8, ce49), (h9, ce49), (h10, ce49), (h11, ce49), (h0, ce21 h1 h2 o0 h3), (h1, ce331 h4), (h4, ce330 kc0 h6 h7 h8 h9 h10 h11 a31), (a31, ce49)]) (tz := [(kc1, .object "java/lang/Object"), (kc0, .object "java/lang/Object")]) hP hD hK [0, 1, 4] [1] rfl hk29 hF25 hB29.1 ht29 hvm29 rfl rfl
  have hG : s.heap.size + 2 ≤ H29.size := va_gr (g := 1) (g1 := 1) hG (by rw [← ht29]; exact hB29.2)
  refine W.eq (g2 := F0 m 54 ls [.int 6]) (by rw [hw29]) ?_
  refine W.widen (k := 2) (n := 10) (by decide) (by decide) ?_
  refine lv_istore_n (lv' := [(2, .int 6), (0, .ref h0), (1, .int 105)]) hx hb dX9_addSource_54 rfl hl (by decide) rfl (fun ls hl => ?_)
  refine lv_aload_n hx hb dX9_addSource_55 rfl (lv_at hl 1 rfl) ?_
  have hM34 := k774_restart l hl9 dC dI z h0 h1 h2 h3 h4 h5 h6 h7 h8 h9 h10 h11 a31 o0 H29.size kc0 kc1
  obtain ⟨hF32, hC35⟩ := pc_M hM34 hP hD hK hS hX hT hA [9, 10, 0, 1, 11, 2, 3, 4, 5, 6, 7, 8, 12] [1, 0] rfl rfl rfl
  refine va_callv (va_runV (As := []) (rest := []) ⟨hx, hb, hml, hown, hts⟩ hM34 (cwV 0 hts (gV q_332 q_333 q_334 q_60 q_331) rfl rfl rfl hV_X9_restart ⟨Nat.le_of_ble_eq_true rfl, Nat.le_of_ble_eq_true rfl⟩) ⟨pc_blind, va_recv hK hP (ci := 8) (q := (RX9, TX9, 6)) (q0 := 9) rfl rfl, fun U hU hW => ⟨rfl, hC35 U hU hW⟩⟩ rfl rfl hl.1 rfl (lv_room (Nat.le_of_ble_eq_true rfl)) dX9_addSource_56 ⟨(Nat.le_of_ble_eq_true rfl), (Nat.le_of_ble_eq_true rfl)⟩) hS (fun q9 _ h9 => hF32 q9 h9) hF32 (fun u36 t36 H36 L36 ht36 hvm36 hw36 hB36 hz36 hk36 hS => ?_)
  obtain ⟨hP, hD, hK⟩ := pq_jn (wz := [(h0, ce21 h1 h2 o0 h3), (h1, ce331 h4), (h2, ce3 z.1), (h3, ce366 h5), (h4, ce330 kc0 h6 h7 h8 h9 h10 h11 a31), (h5, ce330 kc1 (z.2.2.1 128) (z.2.2.1 129) (z.2.2.1 130) (z.2.2.1 131) (z.2.2.1 132) (z.2.2.1 133) (z.2.2.1 134)), (h6, ce49), (h7, ce49), (h8, ce49), (h9, ce49), (h10, ce49), (h11, ce49), (a31, ce49)]) (tz := [(kc0, .object "java/lang/Object"), (kc1, .object "java/lang/Object")]) hP hD hK [9, 10, 0, 1, 11, 2, 3, 4, 5, 6, 7, 8, 12] [] rfl hk36 hF32 hB36.1 ht36 hvm36 rfl rfl
  have hG : s.heap.size + 22 ≤ H36.size := va_gr (g := 2) (g1 := 20) hG (by rw [← ht36]; exact hB36.2)
  refine W.widen (k := 22) (n := 198) (by decide) (by decide) ?_
  refine lv_iload_n hx hb dX9_addSource_59 rfl (lv_at hl 0 rfl) ?_
  exact W.iret (v := 6) hx hb hr (fun t9 ht9 hW9 => ⟨⟨6, (), rfl, rfl, ⟨a31, ⟨pq_mk2 hP hD hK [0, 1, 2, 3, 4, 5, 6, 7, 8, 9, 10, 11, 12] [0, 1] rfl rfl rfl ht9 hW9, by rw [ht9]; exact Nat.le_trans (Nat.add_le_add_left (Nat.le_of_ble_eq_true rfl) _) hG⟩⟩⟩, hS.F ht9⟩) hS.2.2 dX9_addSource_60

set_option maxHeartbeats 4000000 in
set_option maxRecDepth 100000 in
theorem k776_addInput (l : Launch) (hl9 : l.stackTraces = false) (dC : Nat → ClassId) (dI : Nat → Nat → Nat) (z : XZ) (h0 h1 h2 h3 h4 h5 h6 h7 h8 h9 h10 h11 : Nat) (o0 : Nat) (sz : Nat) (kc0 kc1 : ClassId) : Met l yX9_addInput (.code yX9_addInput cX9_addInput 1 (some .int) :: wsL_law) ({ frames := 6, cells := 22, slots := 198, locals := 139 }) (va_Pc [.ref h0] (PC (dC, dI) [(h0, ce21 h1 h2 o0 h3), (h1, ce259 h4), (h2, ce3 z.1), (h3, ce289 h5), (h4, ce258 kc0 h6 h7 h8 h9 h10 h11), (h5, ce258 kc1 (z.2.2.1 128) (z.2.2.1 129) (z.2.2.1 130) (z.2.2.1 131) (z.2.2.1 132) (z.2.2.1 133)), (h6, ce49), (h7, ce49), (h8, ce49), (h9, ce49), (h10, ce49), (h11, ce49)] [(kc0, .object "java/lang/Object"), (kc1, .object "java/lang/Object")] sz z)) (va_Qi (fun (r : Int32) (_ : Unit) => r = 6) (fun (_ : Unit) (t : State) => ∃ (n0 : Nat), PG (dC, dI) [(h0, ce21 h1 h2 o0 h3), (h1, ce331 h4), (h2, ce3 z.1), (h3, ce366 h5), (h4, ce330 kc0 h6 h7 h8 h9 h10 h11 n0), (h5, ce330 kc1 (z.2.2.1 128) (z.2.2.1 129) (z.2.2.1 130) (z.2.2.1 131) (z.2.2.1 132) (z.2.2.1 133) (z.2.2.1 134)), (h6, ce49), (h7, ce49), (h8, ce49), (h9, ce49), (h10, ce49), (h11, ce49), (n0, ce49)] [(kc0, .object "java/lang/Object"), (kc1, .object "java/lang/Object")] (va_A [(h0, ce21 h1 h2 o0 h3), (h1, ce259 h4), (h2, ce3 z.1), (h3, ce289 h5), (h4, ce258 kc0 h6 h7 h8 h9 h10 h11), (h5, ce258 kc1 (z.2.2.1 128) (z.2.2.1 129) (z.2.2.1 130) (z.2.2.1 131) (z.2.2.1 132) (z.2.2.1 133)), (h6, ce49), (h7, ce49), (h8, ce49), (h9, ce49), (h10, ce49), (h11, ce49)] sz) sz 22 t) (va_A [(h0, ce21 h1 h2 o0 h3), (h1, ce259 h4), (h2, ce3 z.1), (h3, ce289 h5), (h4, ce258 kc0 h6 h7 h8 h9 h10 h11), (h5, ce258 kc1 (z.2.2.1 128) (z.2.2.1 129) (z.2.2.1 130) (z.2.2.1 131) (z.2.2.1 132) (z.2.2.1 133)), (h6, ce49), (h7, ce49), (h8, ce49), (h9, ce49), (h10, ce49), (h11, ce49)] sz)) 22 198 (va_A [(h0, ce21 h1 h2 o0 h3), (h1, ce259 h4), (h2, ce3 z.1), (h3, ce289 h5), (h4, ce258 kc0 h6 h7 h8 h9 h10 h11), (h5, ce258 kc1 (z.2.2.1 128) (z.2.2.1 129) (z.2.2.1 130) (z.2.2.1 131) (z.2.2.1 132) (z.2.2.1 133)), (h6, ce49), (h7, ce49), (h8, ce49), (h9, ce49), (h10, ce49), (h11, ce49)] sz) := by
  refine Met.ofW (cc := cX9_addInput) (maxL := 1) (ret := (some .int)) (by decide) rfl ?_
  intro p e s m args below meth c s₁ B hml hv
  obtain ⟨rfl, hsz, hP, hK, hD0, hX, hT⟩ := hv
  have hx := B.exec
  have hb := B.bytes
  have hr := B.returns
  have hts0 := atoms_spec (ws := .code yX9_addInput cX9_addInput 1 (some .int) :: wsL_law) B.pre
  have hts := xTail hts0
  have hown : s.vm.findClass RX9 = some m.cls := xown B.named rfl
  have hlocks := B.notSynchronized
  subst hsz
  have hD := hD0.self (sz := s.heap.size)
  generalize hAe : va_A [(h0, ce21 h1 h2 o0 h3), (h1, ce259 h4), (h2, ce3 z.1), (h3, ce289 h5), (h4, ce258 kc0 h6 h7 h8 h9 h10 h11), (h5, ce258 kc1 (z.2.2.1 128) (z.2.2.1 129) (z.2.2.1 130) (z.2.2.1 131) (z.2.2.1 132) (z.2.2.1 133)), (h6, ce49), (h7, ce49), (h8, ce49), (h9, ce49), (h10, ce49), (h11, ce49)] s.heap.size = A at hD hX ⊢
  have hA : ∀ q : Nat, s.heap.size ≤ q → A q := fun q h => by rw [← hAe]; exact Or.inr h
  have hS : va_S A s.heap s.heap [] := va_S.rf
  have hG : s.heap.size + 0 ≤ s.heap.size := Nat.le_refl _
  have hl := lv_entry ([.ref h0]) (n := 1) (Nat.le_of_ble_eq_true rfl)
  rw [lg_entry_eq]
  generalize (lg_sl ([.ref h0]) ++ List.replicate (1 - (lg_sl ([.ref h0])).length) Slot.unset).toArray = ls at hl ⊢
  have hl : lv_has ls 1 [(0, .ref h0)] := hl
  refine lv_aload_n hx hb dX9_addInput_0 rfl (lv_at hl 0 rfl) ?_
  refine lv_iconst (v := 0) hx hb dX9_addInput_1 (by decide) ?_
  refine va_put (D := (dC, dI)) (ci := 8) (v := .int 0) (ty := .int) (C := RX9) (T := TX9) (N := 6) hx hb hts in_X9 tyX9 tyX9_ok nmX9 hown hK hP hD (va_Sre hS) 0 rfl rfl 0 (by decide) (hts _ q_243) (fun _ h9 => h9) rfl (by decide +kernel) rfl rfl (Nat.le_of_ble_eq_true rfl) dX9_addInput_2 (fun H1 _ hP hD hS' => ?_)
  have hG : s.heap.size + 0 ≤ H1.size := Nat.le_trans hG hS'.1
  have hS := va_Str hS hS'
  have hP : va_P (dC, dI) xCl [(h0, ce21 h1 h2 o0 h3), (h1, ce259 h4), (h2, ce3 z.1), (h3, ce289 h5), (h4, ce258 kc0 h6 h7 h8 h9 h10 h11), (h5, ce258 kc1 (z.2.2.1 128) (z.2.2.1 129) (z.2.2.1 130) (z.2.2.1 131) (z.2.2.1 132) (z.2.2.1 133)), (h6, ce49), (h7, ce49), (h8, ce49), (h9, ce49), (h10, ce49), (h11, ce49)] H1 := hP
  have hD := vd_as hP hD rfl
  refine lv_aload_n hx hb dX9_addInput_5 rfl (lv_at hl 0 rfl) ?_
  refine lv_bipush (v := 105) hx hb dX9_addInput_6 (by decide) ?_
  have hM4 := k775_addSource l hl9 dC dI z h0 h1 h2 h3 h4 h5 h6 h7 h8 h9 h10 h11 o0 H1.size kc0 kc1
  obtain ⟨hF2, hC5⟩ := pc_M hM4 hP hD hK hS hX hT hA [0, 1, 2, 3, 4, 5, 6, 7, 8, 9, 10, 11] [0, 1] rfl rfl rfl
  refine va_calli (va_runV (As := [.int 105]) (rest := []) ⟨hx, hb, hml, hown, hts⟩ hM4 (cwV 1 hts (gV q_336 q_337 q_338 q_60 q_335) rfl rfl rfl hV_X9_addSource ⟨Nat.le_of_ble_eq_true rfl, Nat.le_of_ble_eq_true rfl⟩) ⟨pc_blind, va_recv hK hP (ci := 8) (q := (RX9, TX9, 6)) (q0 := 0) rfl rfl, fun U hU hW => ⟨rfl, hC5 U hU hW⟩⟩ rfl rfl hl.1 rfl (lv_room (Nat.le_of_ble_eq_true rfl)) dX9_addInput_8 ⟨(Nat.le_of_ble_eq_true rfl), (Nat.le_of_ble_eq_true rfl)⟩) hS (fun q9 _ h9 => hF2 q9 h9) hF2 (fun r7 u6 t6 H6 L6 ht6 hvm6 hw6 hB6 hz6 hk6 hS => ?_)
  obtain ⟨a8, hB6⟩ := hB6
  obtain ⟨hP, hD, hK⟩ := pq_jn (wz := [(h0, ce21 h1 h2 o0 h3), (h1, ce331 h4), (h2, ce3 z.1), (h3, ce366 h5), (h4, ce330 kc0 h6 h7 h8 h9 h10 h11 a8), (h5, ce330 kc1 (z.2.2.1 128) (z.2.2.1 129) (z.2.2.1 130) (z.2.2.1 131) (z.2.2.1 132) (z.2.2.1 133) (z.2.2.1 134)), (h6, ce49), (h7, ce49), (h8, ce49), (h9, ce49), (h10, ce49), (h11, ce49), (a8, ce49)]) (tz := [(kc0, .object "java/lang/Object"), (kc1, .object "java/lang/Object")]) hP hD hK [0, 1, 2, 3, 4, 5, 6, 7, 8, 9, 10, 11] [] rfl hk6 hF2 hB6.1 ht6 hvm6 rfl rfl
  have hG : s.heap.size + 22 ≤ H6.size := va_gr (g := 0) (g1 := 22) hG (by rw [← ht6]; exact hB6.2)
  refine W.eq (g2 := F0 m 11 ls [.int 6]) (by rw [hw6]) ?_
  refine W.widen (k := 22) (n := 198) (by decide) (by decide) ?_
  exact W.iret (v := 6) hx hb hr (fun t9 ht9 hW9 => ⟨⟨6, (), rfl, rfl, ⟨a8, ⟨pq_mk2 hP hD hK [0, 1, 2, 3, 4, 5, 6, 7, 8, 9, 10, 11, 12] [0, 1] rfl rfl rfl ht9 hW9, by rw [ht9]; exact Nat.le_trans (Nat.add_le_add_left (Nat.le_of_ble_eq_true rfl) _) hG⟩⟩⟩, hS.F ht9⟩) hS.2.2 dX9_addInput_11

set_option maxHeartbeats 4000000 in
set_option maxRecDepth 100000 in
theorem k777_rowCount (l : Launch) (hl9 : l.stackTraces = false) (dC : Nat → ClassId) (dI : Nat → Nat → Nat) (z : XZ) (h0 h1 h2 : Nat) (o0 o1 o2 o3 o4 : Nat) (sz : Nat) : Met l yX4_rowCount (.code yX4_rowCount cX4_rowCount 1 (some .int) :: wsL_law) ({ frames := 1, cells := 0, slots := 0, locals := 20 }) (va_Pc [.ref h0] (PC (dC, dI) [(h0, ce15 h1 o0), (h1, ce7 o1 h2 o2 o3), (h2, ce331 o4)] [] sz z)) (va_Qi (fun (r : Int32) (_ : Unit) => r = 128) (fun (_ : Unit) (t : State) => PG (dC, dI) [(h0, ce15 h1 o0), (h1, ce7 o1 h2 o2 o3), (h2, ce331 o4)] [] (va_A [(h0, ce15 h1 o0), (h1, ce7 o1 h2 o2 o3), (h2, ce331 o4)] sz) sz 0 t) (va_A [(h0, ce15 h1 o0), (h1, ce7 o1 h2 o2 o3), (h2, ce331 o4)] sz)) 0 0 (va_A [(h0, ce15 h1 o0), (h1, ce7 o1 h2 o2 o3), (h2, ce331 o4)] sz) := by
  refine Met.ofW (cc := cX4_rowCount) (maxL := 1) (ret := (some .int)) (by decide) rfl ?_
  intro p e s m args below meth c s₁ B hml hv
  obtain ⟨rfl, hsz, hP, hK, hD0, hX, hT⟩ := hv
  have hx := B.exec
  have hb := B.bytes
  have hr := B.returns
  have hts0 := atoms_spec (ws := .code yX4_rowCount cX4_rowCount 1 (some .int) :: wsL_law) B.pre
  have hts := xTail hts0
  have hown : s.vm.findClass RX4 = some m.cls := xown B.named rfl
  have hlocks := B.notSynchronized
  subst hsz
  have hD := hD0.self (sz := s.heap.size)
  generalize hAe : va_A [(h0, ce15 h1 o0), (h1, ce7 o1 h2 o2 o3), (h2, ce331 o4)] s.heap.size = A at hD hX ⊢
  have hA : ∀ q : Nat, s.heap.size ≤ q → A q := fun q h => by rw [← hAe]; exact Or.inr h
  have hS : va_S A s.heap s.heap [] := va_S.rf
  have hG : s.heap.size + 0 ≤ s.heap.size := Nat.le_refl _
  have hl := lv_entry ([.ref h0]) (n := 1) (Nat.le_of_ble_eq_true rfl)
  rw [lg_entry_eq]
  generalize (lg_sl ([.ref h0]) ++ List.replicate (1 - (lg_sl ([.ref h0])).length) Slot.unset).toArray = ls at hl ⊢
  have hl : lv_has ls 1 [(0, .ref h0)] := hl
  refine lv_iconst (v := 1) hx hb dX4_rowCount_0 (by decide) ?_
  refine lv_aload_n hx hb dX4_rowCount_1 rfl (lv_at hl 0 rfl) ?_
  refine va_get (D := (dC, dI)) (ci := 4) (v := .ref h1) (C := RX4) (T := TX4) (N := 3) hx hb hts in_X4 hown hK hP 0 rfl rfl 0 (by decide) (hts _ q_50) (fun _ h9 => h9) rfl dX4_rowCount_2 ?_
  refine va_get (D := (dC, dI)) (ci := 2) (v := .ref h2) (C := RX0) (T := TX0) (N := 4) hx hb hts in_X0 hown hK hP 1 rfl rfl 1 (by decide) (hts _ q_347) (fun _ h9 => h9) rfl dX4_rowCount_5 ?_
  have hM3 := k20_size l hl9 dC dI z h2 o4 s.heap.size 7 7
  obtain ⟨hF1, hC4⟩ := pc_M hM3 hP hD hK hS hX hT hA [2] [] rfl rfl rfl
  refine va_calli (va_runV (As := []) (rest := [.int 1]) ⟨hx, hb, hml, hown, hts⟩ hM3 (cwV 0 hts (gV q_348 q_77 q_78 q_12 q_75) rfl rfl rfl hV_Jx4a65c_size_8abf5 ⟨Nat.le_of_ble_eq_true rfl, Nat.le_of_ble_eq_true rfl⟩) ⟨pc_blind, va_recv hK hP (ci := 0) (q := (RJx4a65c, TJx4a65c, 3)) (q0 := 2) rfl rfl, fun U hU hW => ⟨rfl, hC4 U hU hW⟩⟩ rfl rfl hl.1 rfl (lv_room (Nat.le_of_ble_eq_true rfl)) dX4_rowCount_8 ⟨(Nat.le_of_ble_eq_true rfl), (Nat.le_of_ble_eq_true rfl)⟩) hS (fun q9 _ h9 => hF1 q9 h9) hF1 (fun r6 u5 t5 H5 L5 ht5 hvm5 hw5 hB5 hz5 hk5 hS => ?_)
  have hP := pq_keep hP hD [2] rfl hk5 hB5.1 ht5
  have hG : s.heap.size + 0 ≤ H5.size := Nat.le_trans hG hz5
  refine W.eq (g2 := F0 m 11 ls [.int 7, .int 1]) (by rw [hw5]) ?_
  refine lv_ishl hx hb dX4_rowCount_11 ?_
  refine lv_topi (fun y7 ey7 => ?_)
  obtain rfl : y7 = 128 := ey7.trans (by decide)
  exact W.iret (v := 128) hx hb hr (fun t9 ht9 hW9 => ⟨⟨128, (), rfl, rfl, ⟨pq_mk2 hP hD hK [0, 1, 2] [] rfl rfl rfl ht9 hW9, by rw [ht9]; exact Nat.le_trans (Nat.add_le_add_left (Nat.le_of_ble_eq_true rfl) _) hG⟩⟩, hS.F ht9⟩) hS.2.2 dX4_rowCount_12

set_option maxHeartbeats 4000000 in
set_option maxRecDepth 100000 in
theorem k778_requireRow (l : Launch) (hl9 : l.stackTraces = false) (dC : Nat → ClassId) (dI : Nat → Nat → Nat) (z : XZ) (h0 h1 h2 h3 : Nat) (o0 o1 o2 o3 o4 o5 : Nat) (sz : Nat) : Met l yX6_requireRow (.code yX6_requireRow cX6_requireRow 2 none :: wsL_law) ({ frames := 2, cells := 0, slots := 0, locals := 40 }) (va_Pc [.ref h0, .int 0] (PC (dC, dI) [(h0, ce16 h1 o0 h2), (h1, ce7 o1 h3 o2 o3), (h2, ce15 h1 o4), (h3, ce331 o5)] [] sz z)) (va_Qv (fun (_ : Unit) => True) (fun (_ : Unit) (t : State) => PG (dC, dI) [(h0, ce16 h1 o0 h2), (h1, ce7 o1 h3 o2 o3), (h2, ce15 h1 o4), (h3, ce331 o5)] [] (va_A [(h0, ce16 h1 o0 h2), (h1, ce7 o1 h3 o2 o3), (h2, ce15 h1 o4), (h3, ce331 o5)] sz) sz 0 t) (va_A [(h0, ce16 h1 o0 h2), (h1, ce7 o1 h3 o2 o3), (h2, ce15 h1 o4), (h3, ce331 o5)] sz)) 0 0 (va_A [(h0, ce16 h1 o0 h2), (h1, ce7 o1 h3 o2 o3), (h2, ce15 h1 o4), (h3, ce331 o5)] sz) := by
  refine Met.ofW (cc := cX6_requireRow) (maxL := 2) (ret := none) (by decide) rfl ?_
  intro p e s m args below meth c s₁ B hml hv
  obtain ⟨rfl, hsz, hP, hK, hD0, hX, hT⟩ := hv
  have hx := B.exec
  have hb := B.bytes
  have hr := B.returns
  have hts0 := atoms_spec (ws := .code yX6_requireRow cX6_requireRow 2 none :: wsL_law) B.pre
  have hts := xTail hts0
  have hown : s.vm.findClass RX6 = some m.cls := xown B.named rfl
  have hlocks := B.notSynchronized
  subst hsz
  have hD := hD0.self (sz := s.heap.size)
  generalize hAe : va_A [(h0, ce16 h1 o0 h2), (h1, ce7 o1 h3 o2 o3), (h2, ce15 h1 o4), (h3, ce331 o5)] s.heap.size = A at hD hX ⊢
  have hA : ∀ q : Nat, s.heap.size ≤ q → A q := fun q h => by rw [← hAe]; exact Or.inr h
  have hS : va_S A s.heap s.heap [] := va_S.rf
  have hG : s.heap.size + 0 ≤ s.heap.size := Nat.le_refl _
  have hl := lv_entry ([.ref h0, .int 0]) (n := 2) (Nat.le_of_ble_eq_true rfl)
  rw [lg_entry_eq]
  generalize (lg_sl ([.ref h0, .int 0]) ++ List.replicate (2 - (lg_sl ([.ref h0, .int 0])).length) Slot.unset).toArray = ls at hl ⊢
  have hl : lv_has ls 2 [(0, .ref h0), (1, .int 0)] := hl
  refine lv_iload_n hx hb dX6_requireRow_0 rfl (lv_at hl 1 rfl) ?_
  refine lv_if_lt (tgt := 15) hx hb dX6_requireRow_1 (by decide) (fun cz => absurd cz (by decide)) (fun _ => ?_)
  refine lv_iload_n hx hb dX6_requireRow_4 rfl (lv_at hl 1 rfl) ?_
  refine lv_aload_n hx hb dX6_requireRow_5 rfl (lv_at hl 0 rfl) ?_
  refine va_get (D := (dC, dI)) (ci := 6) (v := .ref h2) (C := RX6) (T := TX6) (N := 3) hx hb hts in_X6 hown hK hP 0 rfl rfl 2 (by decide) (hts _ q_54) (fun _ h9 => h9) rfl dX6_requireRow_6 ?_
  have hM3 := k777_rowCount l hl9 dC dI z h2 h1 h3 o4 o1 o2 o3 o5 s.heap.size
  obtain ⟨hF1, hC4⟩ := pc_M hM3 hP hD hK hS hX hT hA [2, 1, 3] [] rfl rfl rfl
  refine va_calli (va_runV (As := []) (rest := [.int 0]) ⟨hx, hb, hml, hown, hts⟩ hM3 (cwV 0 hts (gV q_350 q_351 q_352 q_46 q_349) rfl rfl rfl hV_X4_rowCount ⟨Nat.le_of_ble_eq_true rfl, Nat.le_of_ble_eq_true rfl⟩) ⟨pc_blind, va_recv hK hP (ci := 4) (q := (RX4, TX4, 3)) (q0 := 2) rfl rfl, fun U hU hW => ⟨rfl, hC4 U hU hW⟩⟩ rfl rfl hl.1 rfl (lv_room (Nat.le_of_ble_eq_true rfl)) dX6_requireRow_9 ⟨(Nat.le_of_ble_eq_true rfl), (Nat.le_of_ble_eq_true rfl)⟩) hS (fun q9 _ h9 => hF1 q9 h9) hF1 (fun r6 u5 t5 H5 L5 ht5 hvm5 hw5 hB5 hz5 hk5 hS => ?_)
  have hP := pq_keep hP hD [2, 1, 3] rfl hk5 hB5.1 ht5
  have hG : s.heap.size + 0 ≤ H5.size := Nat.le_trans hG hz5
  refine W.eq (g2 := F0 m 12 ls [.int 128, .int 0]) (by rw [hw5]) ?_
  refine lv_icmp_lt (tgt := 26) hx hb dX6_requireRow_12 (by decide) (fun _ => ?_) (fun cz => absurd (by decide) cz)
  exact W.vret hx hb hr (fun t9 ht9 hW9 => ⟨⟨(), rfl, trivial, ⟨pq_mk2 hP hD hK [0, 1, 2, 3] [] rfl rfl rfl ht9 hW9, by rw [ht9]; exact Nat.le_trans (Nat.add_le_add_left (Nat.le_of_ble_eq_true rfl) _) hG⟩⟩, hS.F ht9⟩) hS.2.2 dX6_requireRow_26

set_option maxHeartbeats 4000000 in
set_option maxRecDepth 100000 in
theorem k779_keepTest (l : Launch) (hl9 : l.stackTraces = false) (dC : Nat → ClassId) (dI : Nat → Nat → Nat) (z : XZ) (h0 h1 : Nat) (o0 : Nat) (sz : Nat) (kc0 : ClassId) : Met l yX4_keepTest (.code yX4_keepTest cX4_keepTest 2 none :: wsL_law) ({ frames := 0, cells := 0, slots := 0, locals := 0 }) (va_Pc [.ref h0, .int 0] (PC (dC, dI) [(h0, ce15 o0 h1), (h1, ce13 kc0)] [(kc0, .int)] sz z)) (va_Qv (fun (_ : Unit) => True) (fun (_ : Unit) (t : State) => PG (dC, dI) [(h0, ce404 o0 h1), (h1, ce403 kc0)] [(kc0, .int)] (va_A [(h0, ce15 o0 h1), (h1, ce13 kc0)] sz) sz 0 t) (va_A [(h0, ce15 o0 h1), (h1, ce13 kc0)] sz)) 0 0 (va_A [(h0, ce15 o0 h1), (h1, ce13 kc0)] sz) := by
  refine Met.ofW (cc := cX4_keepTest) (maxL := 2) (ret := none) (by decide) rfl ?_
  intro p e s m args below meth c s₁ B hml hv
  obtain ⟨rfl, hsz, hP, hK, hD0, hX, hT⟩ := hv
  have hx := B.exec
  have hb := B.bytes
  have hr := B.returns
  have hts0 := atoms_spec (ws := .code yX4_keepTest cX4_keepTest 2 none :: wsL_law) B.pre
  have hts := xTail hts0
  have hown : s.vm.findClass RX4 = some m.cls := xown B.named rfl
  have hlocks := B.notSynchronized
  subst hsz
  have hD := hD0.self (sz := s.heap.size)
  generalize hAe : va_A [(h0, ce15 o0 h1), (h1, ce13 kc0)] s.heap.size = A at hD hX ⊢
  have hA : ∀ q : Nat, s.heap.size ≤ q → A q := fun q h => by rw [← hAe]; exact Or.inr h
  have hS : va_S A s.heap s.heap [] := va_S.rf
  have hG : s.heap.size + 0 ≤ s.heap.size := Nat.le_refl _
  have hl := lv_entry ([.ref h0, .int 0]) (n := 2) (Nat.le_of_ble_eq_true rfl)
  rw [lg_entry_eq]
  generalize (lg_sl ([.ref h0, .int 0]) ++ List.replicate (2 - (lg_sl ([.ref h0, .int 0])).length) Slot.unset).toArray = ls at hl ⊢
  have hl : lv_has ls 2 [(0, .ref h0), (1, .int 0)] := hl
  refine lv_aload_n hx hb dX4_keepTest_0 rfl (lv_at hl 0 rfl) ?_
  refine va_get (D := (dC, dI)) (ci := 4) (v := .int 0) (C := RX4) (T := TX4) (N := 3) hx hb hts in_X4 hown hK hP 0 rfl rfl 2 (by decide) (hts _ q_358) (fun _ h9 => h9) rfl dX4_keepTest_1 ?_
  refine lv_aload_n hx hb dX4_keepTest_4 rfl (lv_at hl 0 rfl) ?_
  refine va_get (D := (dC, dI)) (ci := 4) (v := .ref h1) (C := RX4) (T := TX4) (N := 3) hx hb hts in_X4 hown hK hP 0 rfl rfl 1 (by decide) (hts _ q_49) (fun _ h9 => h9) rfl dX4_keepTest_5 ?_
  refine va_alen hx hb hK hP 1 0 rfl rfl (v := 8) rfl dX4_keepTest_8 ?_
  refine lv_icmp_ge (tgt := 32) hx hb dX4_keepTest_9 (by decide) (fun cz => absurd cz (by decide)) (fun _ => ?_)
  refine lv_aload_n hx hb dX4_keepTest_12 rfl (lv_at hl 0 rfl) ?_
  refine va_get (D := (dC, dI)) (ci := 4) (v := .ref h1) (C := RX4) (T := TX4) (N := 3) hx hb hts in_X4 hown hK hP 0 rfl rfl 1 (by decide) (hts _ q_49) (fun _ h9 => h9) rfl dX4_keepTest_13 ?_
  refine lv_aload_n hx hb dX4_keepTest_16 rfl (lv_at hl 0 rfl) ?_
  refine va_get (D := (dC, dI)) (ci := 4) (v := .int 0) (C := RX4) (T := TX4) (N := 3) hx hb hts in_X4 hown hK hP 0 rfl rfl 2 (by decide) (hts _ q_358) (fun _ h9 => h9) rfl dX4_keepTest_17 ?_
  refine lv_iload_n hx hb dX4_keepTest_20 rfl (lv_at hl 1 rfl) ?_
  refine va_iast hx hb hK hP hD (va_Sre hS) 1 0 rfl rfl (i := 0) (by unfold vp_in; decide) dX4_keepTest_21 (fun H1 _ hP hD hS' => ?_)
  have hG : s.heap.size + 0 ≤ H1.size := Nat.le_trans hG hS'.1
  have hS := va_Str hS hS'
  have hP : va_P (dC, dI) xCl [(h0, ce15 o0 h1), (h1, ce403 kc0)] H1 := hP
  have hD := vd_as hP hD rfl
  refine lv_aload_n hx hb dX4_keepTest_22 rfl (lv_at hl 0 rfl) ?_
  refine lv_dup hx hb dX4_keepTest_23 rfl ?_
  refine va_get (D := (dC, dI)) (ci := 4) (v := .int 0) (C := RX4) (T := TX4) (N := 3) hx hb hts in_X4 hown hK hP 0 rfl rfl 2 (by decide) (hts _ q_358) (fun _ h9 => h9) rfl dX4_keepTest_24 ?_
  refine lv_iconst (v := 1) hx hb dX4_keepTest_27 (by decide) ?_
  refine lv_iadd hx hb dX4_keepTest_28 ?_
  refine lv_topi (fun y2 ey2 => ?_)
  obtain rfl : y2 = 1 := ey2.trans (by decide)
  refine va_put (D := (dC, dI)) (ci := 4) (v := .int 1) (ty := .int) (C := RX4) (T := TX4) (N := 3) hx hb hts in_X4 tyX4 tyX4_ok nmX4 hown hK hP hD (va_Sre hS) 0 rfl rfl 2 (by decide) (hts _ q_358) (fun _ h9 => h9) rfl (by decide +kernel) rfl rfl (Nat.le_of_ble_eq_true rfl) dX4_keepTest_29 (fun H3 _ hP hD hS' => ?_)
  have hG : s.heap.size + 0 ≤ H3.size := Nat.le_trans hG hS'.1
  have hS := va_Str hS hS'
  have hP : va_P (dC, dI) xCl [(h0, ce404 o0 h1), (h1, ce403 kc0)] H3 := hP
  have hD := vd_as hP hD rfl
  exact W.vret hx hb hr (fun t9 ht9 hW9 => ⟨⟨(), rfl, trivial, ⟨pq_mk2 hP hD hK [0, 1] [0] rfl rfl rfl ht9 hW9, by rw [ht9]; exact Nat.le_trans (Nat.add_le_add_left (Nat.le_of_ble_eq_true rfl) _) hG⟩⟩, hS.F ht9⟩) hS.2.2 dX4_keepTest_32

set_option maxHeartbeats 4000000 in
set_option maxRecDepth 100000 in
theorem k780_addTest (l : Launch) (hl9 : l.stackTraces = false) (dC : Nat → ClassId) (dI : Nat → Nat → Nat) (z : XZ) (h0 h1 h2 h3 h4 : Nat) (o0 o1 o2 o3 o4 : Nat) (sz : Nat) (kc0 : ClassId) : Met l yX6_addTest (.code yX6_addTest cX6_addTest 2 (some .int) :: wsL_law) ({ frames := 3, cells := 0, slots := 0, locals := 61 }) (va_Pc [.ref h0, .int 0] (PC (dC, dI) [(h0, ce16 h1 o0 h2), (h1, ce7 o1 h3 o2 o3), (h2, ce15 h1 h4), (h3, ce331 o4), (h4, ce13 kc0)] [(kc0, .int)] sz z)) (va_Qi (fun (r : Int32) (_ : Unit) => r = 1) (fun (_ : Unit) (t : State) => PG (dC, dI) [(h0, ce16 h1 o0 h2), (h1, ce7 o1 h3 o2 o3), (h2, ce404 h1 h4), (h3, ce331 o4), (h4, ce403 kc0)] [(kc0, .int)] (va_A [(h0, ce16 h1 o0 h2), (h1, ce7 o1 h3 o2 o3), (h2, ce15 h1 h4), (h3, ce331 o4), (h4, ce13 kc0)] sz) sz 0 t) (va_A [(h0, ce16 h1 o0 h2), (h1, ce7 o1 h3 o2 o3), (h2, ce15 h1 h4), (h3, ce331 o4), (h4, ce13 kc0)] sz)) 0 0 (va_A [(h0, ce16 h1 o0 h2), (h1, ce7 o1 h3 o2 o3), (h2, ce15 h1 h4), (h3, ce331 o4), (h4, ce13 kc0)] sz) := by
  refine Met.ofW (cc := cX6_addTest) (maxL := 2) (ret := (some .int)) (by decide) rfl ?_
  intro p e s m args below meth c s₁ B hml hv
  obtain ⟨rfl, hsz, hP, hK, hD0, hX, hT⟩ := hv
  have hx := B.exec
  have hb := B.bytes
  have hr := B.returns
  have hts0 := atoms_spec (ws := .code yX6_addTest cX6_addTest 2 (some .int) :: wsL_law) B.pre
  have hts := xTail hts0
  have hown : s.vm.findClass RX6 = some m.cls := xown B.named rfl
  have hlocks := B.notSynchronized
  subst hsz
  have hD := hD0.self (sz := s.heap.size)
  generalize hAe : va_A [(h0, ce16 h1 o0 h2), (h1, ce7 o1 h3 o2 o3), (h2, ce15 h1 h4), (h3, ce331 o4), (h4, ce13 kc0)] s.heap.size = A at hD hX ⊢
  have hA : ∀ q : Nat, s.heap.size ≤ q → A q := fun q h => by rw [← hAe]; exact Or.inr h
  have hS : va_S A s.heap s.heap [] := va_S.rf
  have hG : s.heap.size + 0 ≤ s.heap.size := Nat.le_refl _
  have hl := lv_entry ([.ref h0, .int 0]) (n := 2) (Nat.le_of_ble_eq_true rfl)
  rw [lg_entry_eq]
  generalize (lg_sl ([.ref h0, .int 0]) ++ List.replicate (2 - (lg_sl ([.ref h0, .int 0])).length) Slot.unset).toArray = ls at hl ⊢
  have hl : lv_has ls 2 [(0, .ref h0), (1, .int 0)] := hl
  refine lv_aload_n hx hb dX6_addTest_0 rfl (lv_at hl 0 rfl) ?_
  refine lv_iload_n hx hb dX6_addTest_1 rfl (lv_at hl 1 rfl) ?_
  have hM3 := k778_requireRow l hl9 dC dI z h0 h1 h2 h3 o0 o1 o2 o3 h4 o4 s.heap.size
  obtain ⟨hF1, hC4⟩ := pc_M hM3 hP hD hK hS hX hT hA [0, 1, 2, 3] [] rfl rfl rfl
  refine va_callv (va_runV (As := [.int 0]) (rest := []) ⟨hx, hb, hml, hown, hts⟩ hM3 (cwV 1 hts (gV q_354 q_355 q_356 q_2 q_353) rfl rfl rfl hV_X6_requireRow ⟨Nat.le_of_ble_eq_true rfl, Nat.le_of_ble_eq_true rfl⟩) ⟨pc_blind, va_recv hK hP (ci := 6) (q := (RX6, TX6, 3)) (q0 := 0) rfl rfl, fun U hU hW => ⟨rfl, hC4 U hU hW⟩⟩ rfl rfl hl.1 rfl (lv_room (Nat.le_of_ble_eq_true rfl)) dX6_addTest_2 ⟨(Nat.le_of_ble_eq_true rfl), (Nat.le_of_ble_eq_true rfl)⟩) hS (fun q9 _ h9 => hF1 q9 h9) hF1 (fun u5 t5 H5 L5 ht5 hvm5 hw5 hB5 hz5 hk5 hS => ?_)
  have hP := pq_keep hP hD [0, 1, 2, 3] rfl hk5 hB5.1 ht5
  have hG : s.heap.size + 0 ≤ H5.size := Nat.le_trans hG hz5
  refine lv_aload_n hx hb dX6_addTest_5 rfl (lv_at hl 0 rfl) ?_
  refine va_get (D := (dC, dI)) (ci := 6) (v := .ref h2) (C := RX6) (T := TX6) (N := 3) hx hb hts in_X6 hown hK hP 0 rfl rfl 2 (by decide) (hts _ q_54) (fun _ h9 => h9) rfl dX6_addTest_6 ?_
  refine va_get (D := (dC, dI)) (ci := 4) (v := .int 0) (C := RX4) (T := TX4) (N := 3) hx hb hts in_X4 hown hK hP 2 rfl rfl 2 (by decide) (hts _ q_357) (fun _ h9 => h9) rfl dX6_addTest_9 ?_
  refine lv_bipush (v := 8) hx hb dX6_addTest_12 (by decide) ?_
  refine lv_icmp_lt (tgt := 27) hx hb dX6_addTest_14 (by decide) (fun _ => ?_) (fun cz => absurd (by decide) cz)
  refine lv_aload_n hx hb dX6_addTest_27 rfl (lv_at hl 0 rfl) ?_
  refine va_get (D := (dC, dI)) (ci := 6) (v := .ref h2) (C := RX6) (T := TX6) (N := 3) hx hb hts in_X6 hown hK hP 0 rfl rfl 2 (by decide) (hts _ q_54) (fun _ h9 => h9) rfl dX6_addTest_28 ?_
  refine lv_iload_n hx hb dX6_addTest_31 rfl (lv_at hl 1 rfl) ?_
  have hM9 := k779_keepTest l hl9 dC dI z h2 h4 h1 H5.size kc0
  obtain ⟨hF7, hC10⟩ := pc_M hM9 hP hD hK hS hX hT hA [2, 4] [0] rfl rfl rfl
  refine va_callv (va_runV (As := [.int 0]) (rest := []) ⟨hx, hb, hml, hown, hts⟩ hM9 (cwV 1 hts (gV q_360 q_361 q_362 q_46 q_359) rfl rfl rfl hV_X4_keepTest ⟨Nat.le_of_ble_eq_true rfl, Nat.le_of_ble_eq_true rfl⟩) ⟨pc_blind, va_recv hK hP (ci := 4) (q := (RX4, TX4, 3)) (q0 := 2) rfl rfl, fun U hU hW => ⟨rfl, hC10 U hU hW⟩⟩ rfl rfl hl.1 rfl (lv_room (Nat.le_of_ble_eq_true rfl)) dX6_addTest_32 ⟨(Nat.le_of_ble_eq_true rfl), (Nat.le_of_ble_eq_true rfl)⟩) hS (fun q9 _ h9 => hF7 q9 h9) hF7 (fun u11 t11 H11 L11 ht11 hvm11 hw11 hB11 hz11 hk11 hS => ?_)
  obtain ⟨hP, hD, hK⟩ := pq_jn (wz := [(h0, ce16 h1 o0 h2), (h1, ce7 o1 h3 o2 o3), (h3, ce331 o4), (h2, ce404 h1 h4), (h4, ce403 kc0)]) (tz := [(kc0, .int)]) hP hD hK [2, 4] [] rfl hk11 hF7 hB11.1 ht11 hvm11 rfl rfl
  have hG : s.heap.size + 0 ≤ H11.size := Nat.le_trans hG hz11
  refine lv_aload_n hx hb dX6_addTest_35 rfl (lv_at hl 0 rfl) ?_
  refine va_get (D := (dC, dI)) (ci := 6) (v := .ref h2) (C := RX6) (T := TX6) (N := 3) hx hb hts in_X6 hown hK hP 0 rfl rfl 2 (by decide) (hts _ q_54) (fun _ h9 => h9) rfl dX6_addTest_36 ?_
  refine va_get (D := (dC, dI)) (ci := 4) (v := .int 1) (C := RX4) (T := TX4) (N := 3) hx hb hts in_X4 hown hK hP 3 rfl rfl 2 (by decide) (hts _ q_357) (fun _ h9 => h9) rfl dX6_addTest_39 ?_
  exact W.iret (v := 1) hx hb hr (fun t9 ht9 hW9 => ⟨⟨1, (), rfl, rfl, ⟨pq_mk2 hP hD hK [0, 1, 3, 2, 4] [0] rfl rfl rfl ht9 hW9, by rw [ht9]; exact Nat.le_trans (Nat.add_le_add_left (Nat.le_of_ble_eq_true rfl) _) hG⟩⟩, hS.F ht9⟩) hS.2.2 dX6_addTest_42

set_option maxHeartbeats 4000000 in
set_option maxRecDepth 100000 in
theorem k781_addTest (l : Launch) (hl9 : l.stackTraces = false) (dC : Nat → ClassId) (dI : Nat → Nat → Nat) (z : XZ) (h0 h1 h2 h3 h4 h5 : Nat) (o0 o1 o2 o3 o4 : Nat) (sz : Nat) (kc0 kc1 : ClassId) : Met l yL_addTest (.codeWith yL_addTest cL_addTest 4 (some .int) [(0, 9, 12, 64), (0, 9, 15, 15)] :: wsL_law) ({ frames := 4, cells := 0, slots := 0, locals := 82 }) (va_Pc [.ref h0, .int 0, .ref h1] (PC (dC, dI) [(h0, ce16 h2 o0 h3), (h1, ce368 kc0), (h2, ce7 o1 h4 o2 o3), (h3, ce15 h2 h5), (h4, ce331 o4), (h5, ce13 kc1)] [(kc0, .long), (kc1, .int)] sz z)) (va_Qi (fun (r : Int32) (_ : Unit) => r = 0) (fun (_ : Unit) (t : State) => PG (dC, dI) [(h0, ce16 h2 o0 h3), (h1, ce81 kc0), (h2, ce7 o1 h4 o2 o3), (h3, ce404 h2 h5), (h4, ce331 o4), (h5, ce403 kc1)] [(kc0, .long), (kc1, .int)] (va_A [(h0, ce16 h2 o0 h3), (h1, ce368 kc0), (h2, ce7 o1 h4 o2 o3), (h3, ce15 h2 h5), (h4, ce331 o4), (h5, ce13 kc1)] sz) sz 0 t) (va_A [(h0, ce16 h2 o0 h3), (h1, ce368 kc0), (h2, ce7 o1 h4 o2 o3), (h3, ce15 h2 h5), (h4, ce331 o4), (h5, ce13 kc1)] sz)) 0 0 (va_A [(h0, ce16 h2 o0 h3), (h1, ce368 kc0), (h2, ce7 o1 h4 o2 o3), (h3, ce15 h2 h5), (h4, ce331 o4), (h5, ce13 kc1)] sz) := by
  refine va_MetW (cc := cL_addTest) (maxL := 4) (ret := (some .int)) (hh := [(0, 9, 12, 64), (0, 9, 15, 15)]) (by decide) rfl ?_
  intro p e s m args below meth c s₁ B hml hv
  obtain ⟨rfl, hsz, hP, hK, hD0, hX, hT⟩ := hv
  have hx := B.exec
  have hb := B.bytes
  have hr := B.returns
  have hts0 := atoms_spec (ws := .codeWith yL_addTest cL_addTest 4 (some .int) [(0, 9, 12, 64), (0, 9, 15, 15)] :: wsL_law) B.pre
  have htab := vx_table (x := yL_addTest) B (hts0 _ List.mem_cons_self)
  have hts := xTail hts0
  have hown : s.vm.findClass RL = some m.cls := xown B.named rfl
  have hlocks := B.notSynchronized
  subst hsz
  have hD := hD0.self (sz := s.heap.size)
  generalize hAe : va_A [(h0, ce16 h2 o0 h3), (h1, ce368 kc0), (h2, ce7 o1 h4 o2 o3), (h3, ce15 h2 h5), (h4, ce331 o4), (h5, ce13 kc1)] s.heap.size = A at hD hX ⊢
  have hA : ∀ q : Nat, s.heap.size ≤ q → A q := fun q h => by rw [← hAe]; exact Or.inr h
  have hS : va_S A s.heap s.heap [] := va_S.rf
  have hG : s.heap.size + 0 ≤ s.heap.size := Nat.le_refl _
  have hl := lv_entry ([.ref h0, .int 0, .ref h1]) (n := 4) (Nat.le_of_ble_eq_true rfl)
  rw [lg_entry_eq]
  generalize (lg_sl ([.ref h0, .int 0, .ref h1]) ++ List.replicate (4 - (lg_sl ([.ref h0, .int 0, .ref h1])).length) Slot.unset).toArray = ls at hl ⊢
  have hl : lv_has ls 4 [(0, .ref h0), (1, .int 0), (2, .ref h1)] := hl
  refine lv_aload_n hx hb dL_addTest_0 rfl (lv_at hl 2 rfl) ?_
  refine lv_iconst (v := 0) hx hb dL_addTest_1 (by decide) ?_
  refine lv_aload_n hx hb dL_addTest_2 rfl (lv_at hl 0 rfl) ?_
  refine lv_iload_n hx hb dL_addTest_3 rfl (lv_at hl 1 rfl) ?_
  have hM3 := k780_addTest l hl9 dC dI z h0 h2 h3 h4 h5 o0 o1 o2 o3 o4 s.heap.size kc1
  obtain ⟨hF1, hC4⟩ := pc_M hM3 hP hD hK hS hX hT hA [0, 2, 3, 4, 5] [1] rfl rfl rfl
  refine va_calli (va_runV (As := [.int 0]) (rest := [.int 0, .ref h1]) ⟨hx, hb, hml, hown, hts⟩ hM3 (cwV 1 hts (gV q_364 q_365 q_366 q_2 q_363) rfl rfl rfl hV_X6_addTest ⟨Nat.le_of_ble_eq_true rfl, Nat.le_of_ble_eq_true rfl⟩) ⟨pc_blind, va_recv hK hP (ci := 6) (q := (RX6, TX6, 3)) (q0 := 0) rfl rfl, fun U hU hW => ⟨rfl, hC4 U hU hW⟩⟩ rfl rfl hl.1 rfl (lv_room (Nat.le_of_ble_eq_true rfl)) dL_addTest_4 ⟨(Nat.le_of_ble_eq_true rfl), (Nat.le_of_ble_eq_true rfl)⟩) hS (fun q9 _ h9 => hF1 q9 h9) hF1 (fun r6 u5 t5 H5 L5 ht5 hvm5 hw5 hB5 hz5 hk5 hS => ?_)
  obtain ⟨hP, hD, hK⟩ := pq_jn (wz := [(h1, ce368 kc0), (h0, ce16 h2 o0 h3), (h2, ce7 o1 h4 o2 o3), (h3, ce404 h2 h5), (h4, ce331 o4), (h5, ce403 kc1)]) (tz := [(kc0, .long), (kc1, .int)]) hP hD hK [0, 2, 3, 4, 5] [0] rfl hk5 hF1 hB5.1 ht5 hvm5 rfl rfl
  have hG : s.heap.size + 0 ≤ H5.size := Nat.le_trans hG hz5
  refine W.eq (g2 := F0 m 7 ls [.int 1, .int 0, .ref h1]) (by rw [hw5]) ?_
  refine lv_i2l (v := 1) hx hb dL_addTest_7 (by decide) ?_
  refine va_last hx hb hK hP hD (va_Sre hS) 0 0 rfl rfl (i := 0) (by unfold vp_in; decide) dL_addTest_8 (fun H7 _ hP hD hS' => ?_)
  have hG : s.heap.size + 0 ≤ H7.size := Nat.le_trans hG hS'.1
  have hS := va_Str hS hS'
  have hP : va_P (dC, dI) xCl [(h1, ce405 kc0), (h0, ce16 h2 o0 h3), (h2, ce7 o1 h4 o2 o3), (h3, ce404 h2 h5), (h4, ce331 o4), (h5, ce403 kc1)] H7 := hP
  have hD := vd_as hP hD rfl
  refine lv_goto (tgt := 18) hx hb dL_addTest_9 (by decide) ?_
  refine lv_iconst (v := 0) hx hb dL_addTest_18 (by decide) ?_
  have ehu8 : (vp_updL (vp_updL (fun _ => 0) 0 6) 0 1) = (vp_updL (fun _ => 0) 0 1) := by funext j; by_cases g0 : j = 0; (subst g0; rfl); simp only [vp_updL, g0, if_false]
  have hu8 : (ce405 kc0 : va_E) = ce81 kc0 := (show (.inl (kc0, 1, .inr (.inl (vp_updL (vp_updL (fun _ => 0) 0 6) 0 1))) : va_E) = .inl (kc0, 1, .inr (.inl (vp_updL (fun _ => 0) 0 1))) by rw [ehu8])
  rw [hu8] at hP hD
  have hP : va_P (dC, dI) xCl [(h1, ce81 kc0), (h0, ce16 h2 o0 h3), (h2, ce7 o1 h4 o2 o3), (h3, ce404 h2 h5), (h4, ce331 o4), (h5, ce403 kc1)] H7 := hP
  have hD := vd_as hP hD rfl
  exact W.iret (v := 0) hx hb hr (fun t9 ht9 hW9 => ⟨⟨0, (), rfl, rfl, ⟨pq_mk2 hP hD hK [1, 0, 2, 3, 4, 5] [0, 1] rfl rfl rfl ht9 hW9, by rw [ht9]; exact Nat.le_trans (Nat.add_le_add_left (Nat.le_of_ble_eq_true rfl) _) hG⟩⟩, hS.F ht9⟩) hS.2.2 dL_addTest_19

set_option maxHeartbeats 4000000 in
set_option maxRecDepth 100000 in
theorem k782_sources (l : Launch) (hl9 : l.stackTraces = false) (dC : Nat → ClassId) (dI : Nat → Nat → Nat) (z : XZ) (h0 h1 h2 h3 h4 h5 h6 h7 h8 h9 : Nat) (o0 o1 o2 : Nat) (sz : Nat) (kc0 : ClassId) : Met l yX9_sources (.code yX9_sources cX9_sources 4 (some .int) :: wsL_law) ({ frames := 3, cells := 1, slots := 4, locals := 57 }) (va_Pc [.ref h0] (PC (dC, dI) [(h0, ce21 h1 o0 o1 o2), (h1, ce331 h2), (h2, ce330 kc0 h3 h4 h5 h6 h7 h8 h9), (h3, ce49), (h4, ce49), (h5, ce49), (h6, ce49), (h7, ce49), (h8, ce49), (h9, ce49)] [(kc0, .object "java/lang/Object")] sz z)) (va_Qi (fun (r : Int32) (_ : Unit) => r = 7) (fun (_ : Unit) (t : State) => PG (dC, dI) [(h0, ce21 h1 o0 o1 o2), (h1, ce331 h2), (h2, ce330 kc0 h3 h4 h5 h6 h7 h8 h9), (h3, ce49), (h4, ce49), (h5, ce49), (h6, ce49), (h7, ce49), (h8, ce49), (h9, ce49)] [(kc0, .object "java/lang/Object")] (va_A [(h0, ce21 h1 o0 o1 o2), (h1, ce331 h2), (h2, ce330 kc0 h3 h4 h5 h6 h7 h8 h9), (h3, ce49), (h4, ce49), (h5, ce49), (h6, ce49), (h7, ce49), (h8, ce49), (h9, ce49)] sz) sz 1 t) (va_A [(h0, ce21 h1 o0 o1 o2), (h1, ce331 h2), (h2, ce330 kc0 h3 h4 h5 h6 h7 h8 h9), (h3, ce49), (h4, ce49), (h5, ce49), (h6, ce49), (h7, ce49), (h8, ce49), (h9, ce49)] sz)) 1 4 (va_A [(h0, ce21 h1 o0 o1 o2), (h1, ce331 h2), (h2, ce330 kc0 h3 h4 h5 h6 h7 h8 h9), (h3, ce49), (h4, ce49), (h5, ce49), (h6, ce49), (h7, ce49), (h8, ce49), (h9, ce49)] sz) := by
  refine Met.ofW (cc := cX9_sources) (maxL := 4) (ret := (some .int)) (by decide) rfl ?_
  intro p e s m args below meth c s₁ B hml hv
  obtain ⟨rfl, hsz, hP, hK, hD0, hX, hT⟩ := hv
  have hx := B.exec
  have hb := B.bytes
  have hr := B.returns
  have hts0 := atoms_spec (ws := .code yX9_sources cX9_sources 4 (some .int) :: wsL_law) B.pre
  have hts := xTail hts0
  have hown : s.vm.findClass RX9 = some m.cls := xown B.named rfl
  have hlocks := B.notSynchronized
  subst hsz
  have hD := hD0.self (sz := s.heap.size)
  generalize hAe : va_A [(h0, ce21 h1 o0 o1 o2), (h1, ce331 h2), (h2, ce330 kc0 h3 h4 h5 h6 h7 h8 h9), (h3, ce49), (h4, ce49), (h5, ce49), (h6, ce49), (h7, ce49), (h8, ce49), (h9, ce49)] s.heap.size = A at hD hX ⊢
  have hA : ∀ q : Nat, s.heap.size ≤ q → A q := fun q h => by rw [← hAe]; exact Or.inr h
  have hS : va_S A s.heap s.heap [] := va_S.rf
  have hG : s.heap.size + 0 ≤ s.heap.size := Nat.le_refl _
  have hl := lv_entry ([.ref h0]) (n := 4) (Nat.le_of_ble_eq_true rfl)
  rw [lg_entry_eq]
  generalize (lg_sl ([.ref h0]) ++ List.replicate (4 - (lg_sl ([.ref h0])).length) Slot.unset).toArray = ls at hl ⊢
  have hl : lv_has ls 4 [(0, .ref h0)] := hl
  refine lv_iconst (v := 0) hx hb dX9_sources_0 (by decide) ?_
  refine lv_istore_n (lv' := [(1, .int 0), (0, .ref h0)]) hx hb dX9_sources_1 rfl hl (by decide) rfl (fun ls hl => ?_)
  refine lv_aload_n hx hb dX9_sources_2 rfl (lv_at hl 1 rfl) ?_
  refine va_get (D := (dC, dI)) (ci := 8) (v := .ref h1) (C := RX9) (T := TX9) (N := 6) hx hb hts in_X9 hown hK hP 0 rfl rfl 1 (by decide) (hts _ q_64) (fun _ h9 => h9) rfl dX9_sources_3 ?_
  have hM3 := k724_iterator l hl9 dC dI z h1 h2 s.heap.size
  obtain ⟨hF1, hC4⟩ := pc_M hM3 hP hD hK hS hX hT hA [1] [] rfl rfl rfl
  refine va_callr (va_runV (As := []) (rest := []) ⟨hx, hb, hml, hown, hts⟩ hM3 (cwV 0 hts (gV q_256 q_257 q_258 q_12 q_255) rfl rfl rfl hV_Jx4a65c_iterator_32c93 ⟨Nat.le_of_ble_eq_true rfl, Nat.le_of_ble_eq_true rfl⟩) ⟨pc_blind, va_recv hK hP (ci := 0) (q := (RJx4a65c, TJx4a65c, 3)) (q0 := 1) rfl rfl, fun U hU hW => ⟨rfl, hC4 U hU hW⟩⟩ rfl rfl hl.1 rfl (lv_room (Nat.le_of_ble_eq_true rfl)) dX9_sources_6 ⟨(Nat.le_of_ble_eq_true rfl), (Nat.le_of_ble_eq_true rfl)⟩) hS (fun q9 _ h9 => hF1 q9 h9) hF1 (fun u5 r6 t5 H5 L5 ht5 hvm5 hw5 hB5 hz5 hk5 hS => ?_)
  obtain ⟨a7, hr5, hB5⟩ := hB5
  obtain ⟨hP, hD, hK⟩ := pq_jn (wz := [(h0, ce21 h1 o0 o1 o2), (h2, ce330 kc0 h3 h4 h5 h6 h7 h8 h9), (h3, ce49), (h4, ce49), (h5, ce49), (h6, ce49), (h7, ce49), (h8, ce49), (h9, ce49), (h1, ce331 h2), (a7, ce370 h1)]) (tz := [(kc0, .object "java/lang/Object")]) hP hD hK [1] [0] rfl hk5 hF1 hB5.1 ht5 hvm5 rfl rfl
  have hG : s.heap.size + 1 ≤ H5.size := va_gr (g := 0) (g1 := 1) hG (by rw [← ht5]; exact hB5.2)
  refine W.eq (g2 := F0 m 9 ls [.ref a7]) (by rw [hr5]) ?_
  refine W.widen (k := 1) (n := 4) (by decide) (by decide) ?_
  refine lv_astore_n (lv' := [(2, .ref a7), (1, .int 0), (0, .ref h0)]) hx hb dX9_sources_9 rfl hl (by decide) rfl (fun ls hl => ?_)
  refine lv_aload_n hx hb dX9_sources_10 rfl (lv_at hl 0 rfl) ?_
  have hM10 := k725_hasNext l hl9 dC dI z a7 h1 h2 H5.size
  obtain ⟨hF8, hC11⟩ := pc_M hM10 hP hD hK hS hX hT hA [10, 9] [] rfl rfl rfl
  refine va_callFi (va_runF (As := []) (rest := []) (hK.1 1 (RJx35411, TJx35411, 4) rfl).2 ⟨hx, hb, hml, hown, hts⟩ hM10 (va_cwF 0 hts (gF q_261 q_262 q_263 q_246 q_260) rfl rfl rfl hT.2.2.2.2.2.2.1 hF_xIh ⟨Nat.le_of_ble_eq_true rfl, Nat.le_of_ble_eq_true rfl⟩) ⟨pc_blind, va_recv hK hP (ci := 1) (q := (RJx35411, TJx35411, 4)) (q0 := 10) rfl rfl, fun U hU hW => ⟨rfl, hC11 U hU hW⟩⟩ rfl rfl hl.1 rfl (lv_room (Nat.le_of_ble_eq_true rfl)) dX9_sources_11 ⟨(Nat.le_of_ble_eq_true rfl), (Nat.le_of_ble_eq_true rfl)⟩) hS (fun q9 _ h9 => hF8 q9 h9) hF8 (fun r13 u12 t12 H12 L12 ht12 hvm12 hw12 hB12 hz12 hk12 hS => ?_)
  have hP := pq_keep hP hD [10, 9] rfl hk12 hB12.1 ht12
  have hG : s.heap.size + 1 ≤ H12.size := Nat.le_trans hG hz12
  refine W.eq (g2 := F0 m 16 ls [.int 1]) (by rw [hw12]) ?_
  refine lv_if_eq (tgt := 47) hx hb dX9_sources_16 (by decide) (fun cz => absurd cz (by decide)) (fun _ => ?_)
  refine lv_aload_n hx hb dX9_sources_19 rfl (lv_at hl 0 rfl) ?_
  have hM16 := k727_next l hl9 dC dI z a7 h1 h2 h3 h4 h5 h6 h7 h8 h9 H12.size kc0
  obtain ⟨hF14, hC17⟩ := pc_M hM16 hP hD hK hS hX hT hA [10, 9, 1] [0] rfl rfl rfl
  refine va_callFr (va_runF (As := []) (rest := []) (hK.1 1 (RJx35411, TJx35411, 4) rfl).2 ⟨hx, hb, hml, hown, hts⟩ hM16 (va_cwF 0 hts (gF q_308 q_309 q_310 q_246 q_307) rfl rfl rfl hT.2.2.2.2.2.2.2.1 hF_xIn ⟨Nat.le_of_ble_eq_true rfl, Nat.le_of_ble_eq_true rfl⟩) ⟨pc_blind, va_recv hK hP (ci := 1) (q := (RJx35411, TJx35411, 4)) (q0 := 10) rfl rfl, fun U hU hW => ⟨rfl, hC17 U hU hW⟩⟩ rfl rfl hl.1 rfl (lv_room (Nat.le_of_ble_eq_true rfl)) dX9_sources_20 ⟨(Nat.le_of_ble_eq_true rfl), (Nat.le_of_ble_eq_true rfl)⟩) hS (fun q9 _ h9 => hF14 q9 h9) hF14 (fun u18 r19 t18 H18 L18 ht18 hvm18 hw18 hB18 hz18 hk18 hS => ?_)
  obtain ⟨hr18, hB18⟩ := hB18
  obtain ⟨hP, hD, hK⟩ := pq_jn (wz := [(h0, ce21 h1 o0 o1 o2), (h3, ce49), (h4, ce49), (h5, ce49), (h6, ce49), (h7, ce49), (h8, ce49), (h9, ce49), (a7, ce372 h1), (h1, ce331 h2), (h2, ce330 kc0 h3 h4 h5 h6 h7 h8 h9)]) (tz := [(kc0, .object "java/lang/Object")]) hP hD hK [10, 9, 1] [] rfl hk18 hF14 hB18.1 ht18 hvm18 rfl rfl
  have hG : s.heap.size + 1 ≤ H18.size := Nat.le_trans hG hz18
  refine W.eq (g2 := F0 m 25 ls [.ref h3]) (by rw [hr18]) ?_
  refine va_castE (nm := RX8) hx hb hown (hts _ q_273) (va_recv hK hP (ci := 7) (q := (RX8, TX8, 6)) (q0 := 1) rfl rfl) dX9_sources_25 ?_
  refine lv_astore_n (lv' := [(3, .ref h3), (2, .ref a7), (1, .int 0), (0, .ref h0)]) hx hb dX9_sources_28 rfl hl (by decide) rfl (fun ls hl => ?_)
  refine lv_iload_n hx hb dX9_sources_29 rfl (lv_at hl 2 rfl) ?_
  refine lv_aload_n hx hb dX9_sources_30 rfl (lv_at hl 0 rfl) ?_
  have hM22 := k121_isSource l hl9 dC dI z h3 H18.size
  obtain ⟨hF20, hC23⟩ := pc_M hM22 hP hD hK hS hX hT hA [1] [] rfl rfl rfl
  refine va_calli (va_runV (As := []) (rest := [.int 0]) ⟨hx, hb, hml, hown, hts⟩ hM22 (cwV 0 hts (gV q_344 q_345 q_346 q_275 q_343) rfl rfl rfl hV_X8_isSource ⟨Nat.le_of_ble_eq_true rfl, Nat.le_of_ble_eq_true rfl⟩) ⟨pc_blind, va_recv hK hP (ci := 7) (q := (RX8, TX8, 6)) (q0 := 1) rfl rfl, fun U hU hW => ⟨rfl, hC23 U hU hW⟩⟩ rfl rfl hl.1 rfl (lv_room (Nat.le_of_ble_eq_true rfl)) dX9_sources_31 ⟨(Nat.le_of_ble_eq_true rfl), (Nat.le_of_ble_eq_true rfl)⟩) hS (fun q9 _ h9 => hF20 q9 h9) hF20 (fun r25 u24 t24 H24 L24 ht24 hvm24 hw24 hB24 hz24 hk24 hS => ?_)
  have hP := pq_keep hP hD [1] rfl hk24 hB24.1 ht24
  have hG : s.heap.size + 1 ≤ H24.size := Nat.le_trans hG hz24
  refine W.eq (g2 := F0 m 34 ls [.int 1, .int 0]) (by rw [hw24]) ?_
  refine lv_if_eq (tgt := 41) hx hb dX9_sources_34 (by decide) (fun cz => absurd cz (by decide)) (fun _ => ?_)
  refine lv_iconst (v := 1) hx hb dX9_sources_37 (by decide) ?_
  refine lv_goto (tgt := 42) hx hb dX9_sources_38 (by decide) ?_
  refine lv_iadd hx hb dX9_sources_42 ?_
  refine lv_topi (fun y26 ey26 => ?_)
  obtain rfl : y26 = 1 := ey26.trans (by decide)
  refine lv_istore_n (lv' := [(1, .int 1), (3, .ref h3), (2, .ref a7), (0, .ref h0)]) hx hb dX9_sources_43 rfl hl (by decide) rfl (fun ls hl => ?_)
  refine lv_goto (tgt := 10) hx hb dX9_sources_44 (by decide) ?_
  refine lv_aload_n hx hb dX9_sources_10 rfl (lv_at hl 2 rfl) ?_
  have hM29 := k728_hasNext l hl9 dC dI z a7 h1 h2 H24.size
  obtain ⟨hF27, hC30⟩ := pc_M hM29 hP hD hK hS hX hT hA [8, 9] [] rfl rfl rfl
  refine va_callFi (va_runF (As := []) (rest := []) (hK.1 1 (RJx35411, TJx35411, 4) rfl).2 ⟨hx, hb, hml, hown, hts⟩ hM29 (va_cwF 0 hts (gF q_261 q_262 q_263 q_246 q_260) rfl rfl rfl hT.2.2.2.2.2.2.1 hF_xIh ⟨Nat.le_of_ble_eq_true rfl, Nat.le_of_ble_eq_true rfl⟩) ⟨pc_blind, va_recv hK hP (ci := 1) (q := (RJx35411, TJx35411, 4)) (q0 := 8) rfl rfl, fun U hU hW => ⟨rfl, hC30 U hU hW⟩⟩ rfl rfl hl.1 rfl (lv_room (Nat.le_of_ble_eq_true rfl)) dX9_sources_11 ⟨(Nat.le_of_ble_eq_true rfl), (Nat.le_of_ble_eq_true rfl)⟩) hS (fun q9 _ h9 => hF27 q9 h9) hF27 (fun r32 u31 t31 H31 L31 ht31 hvm31 hw31 hB31 hz31 hk31 hS => ?_)
  have hP := pq_keep hP hD [8, 9] rfl hk31 hB31.1 ht31
  have hG : s.heap.size + 1 ≤ H31.size := Nat.le_trans hG hz31
  refine W.eq (g2 := F0 m 16 ls [.int 1]) (by rw [hw31]) ?_
  refine lv_if_eq (tgt := 47) hx hb dX9_sources_16 (by decide) (fun cz => absurd cz (by decide)) (fun _ => ?_)
  refine lv_aload_n hx hb dX9_sources_19 rfl (lv_at hl 2 rfl) ?_
  have hM35 := k730_next l hl9 dC dI z a7 h1 h2 h3 h4 h5 h6 h7 h8 h9 H31.size kc0
  obtain ⟨hF33, hC36⟩ := pc_M hM35 hP hD hK hS hX hT hA [8, 9, 10] [0] rfl rfl rfl
  refine va_callFr (va_runF (As := []) (rest := []) (hK.1 1 (RJx35411, TJx35411, 4) rfl).2 ⟨hx, hb, hml, hown, hts⟩ hM35 (va_cwF 0 hts (gF q_308 q_309 q_310 q_246 q_307) rfl rfl rfl hT.2.2.2.2.2.2.2.1 hF_xIn ⟨Nat.le_of_ble_eq_true rfl, Nat.le_of_ble_eq_true rfl⟩) ⟨pc_blind, va_recv hK hP (ci := 1) (q := (RJx35411, TJx35411, 4)) (q0 := 8) rfl rfl, fun U hU hW => ⟨rfl, hC36 U hU hW⟩⟩ rfl rfl hl.1 rfl (lv_room (Nat.le_of_ble_eq_true rfl)) dX9_sources_20 ⟨(Nat.le_of_ble_eq_true rfl), (Nat.le_of_ble_eq_true rfl)⟩) hS (fun q9 _ h9 => hF33 q9 h9) hF33 (fun u37 r38 t37 H37 L37 ht37 hvm37 hw37 hB37 hz37 hk37 hS => ?_)
  obtain ⟨hr37, hB37⟩ := hB37
  obtain ⟨hP, hD, hK⟩ := pq_jn (wz := [(h0, ce21 h1 o0 o1 o2), (h3, ce49), (h4, ce49), (h5, ce49), (h6, ce49), (h7, ce49), (h8, ce49), (h9, ce49), (a7, ce374 h1), (h1, ce331 h2), (h2, ce330 kc0 h3 h4 h5 h6 h7 h8 h9)]) (tz := [(kc0, .object "java/lang/Object")]) hP hD hK [8, 9, 10] [] rfl hk37 hF33 hB37.1 ht37 hvm37 rfl rfl
  have hG : s.heap.size + 1 ≤ H37.size := Nat.le_trans hG hz37
  refine W.eq (g2 := F0 m 25 ls [.ref h4]) (by rw [hr37]) ?_
  refine va_castE (nm := RX8) hx hb hown (hts _ q_273) (va_recv hK hP (ci := 7) (q := (RX8, TX8, 6)) (q0 := 2) rfl rfl) dX9_sources_25 ?_
  refine lv_astore_n (lv' := [(3, .ref h4), (1, .int 1), (2, .ref a7), (0, .ref h0)]) hx hb dX9_sources_28 rfl hl (by decide) rfl (fun ls hl => ?_)
  refine lv_iload_n hx hb dX9_sources_29 rfl (lv_at hl 1 rfl) ?_
  refine lv_aload_n hx hb dX9_sources_30 rfl (lv_at hl 0 rfl) ?_
  have hM41 := k121_isSource l hl9 dC dI z h4 H37.size
  obtain ⟨hF39, hC42⟩ := pc_M hM41 hP hD hK hS hX hT hA [2] [] rfl rfl rfl
  refine va_calli (va_runV (As := []) (rest := [.int 1]) ⟨hx, hb, hml, hown, hts⟩ hM41 (cwV 0 hts (gV q_344 q_345 q_346 q_275 q_343) rfl rfl rfl hV_X8_isSource ⟨Nat.le_of_ble_eq_true rfl, Nat.le_of_ble_eq_true rfl⟩) ⟨pc_blind, va_recv hK hP (ci := 7) (q := (RX8, TX8, 6)) (q0 := 2) rfl rfl, fun U hU hW => ⟨rfl, hC42 U hU hW⟩⟩ rfl rfl hl.1 rfl (lv_room (Nat.le_of_ble_eq_true rfl)) dX9_sources_31 ⟨(Nat.le_of_ble_eq_true rfl), (Nat.le_of_ble_eq_true rfl)⟩) hS (fun q9 _ h9 => hF39 q9 h9) hF39 (fun r44 u43 t43 H43 L43 ht43 hvm43 hw43 hB43 hz43 hk43 hS => ?_)
  have hP := pq_keep hP hD [2] rfl hk43 hB43.1 ht43
  have hG : s.heap.size + 1 ≤ H43.size := Nat.le_trans hG hz43
  refine W.eq (g2 := F0 m 34 ls [.int 1, .int 1]) (by rw [hw43]) ?_
  refine lv_if_eq (tgt := 41) hx hb dX9_sources_34 (by decide) (fun cz => absurd cz (by decide)) (fun _ => ?_)
  refine lv_iconst (v := 1) hx hb dX9_sources_37 (by decide) ?_
  refine lv_goto (tgt := 42) hx hb dX9_sources_38 (by decide) ?_
  refine lv_iadd hx hb dX9_sources_42 ?_
  refine lv_topi (fun y45 ey45 => ?_)
  obtain rfl : y45 = 2 := ey45.trans (by decide)
  refine lv_istore_n (lv' := [(1, .int 2), (3, .ref h4), (2, .ref a7), (0, .ref h0)]) hx hb dX9_sources_43 rfl hl (by decide) rfl (fun ls hl => ?_)
  refine lv_goto (tgt := 10) hx hb dX9_sources_44 (by decide) ?_
  refine lv_aload_n hx hb dX9_sources_10 rfl (lv_at hl 2 rfl) ?_
  have hM48 := k731_hasNext l hl9 dC dI z a7 h1 h2 H43.size
  obtain ⟨hF46, hC49⟩ := pc_M hM48 hP hD hK hS hX hT hA [8, 9] [] rfl rfl rfl
  refine va_callFi (va_runF (As := []) (rest := []) (hK.1 1 (RJx35411, TJx35411, 4) rfl).2 ⟨hx, hb, hml, hown, hts⟩ hM48 (va_cwF 0 hts (gF q_261 q_262 q_263 q_246 q_260) rfl rfl rfl hT.2.2.2.2.2.2.1 hF_xIh ⟨Nat.le_of_ble_eq_true rfl, Nat.le_of_ble_eq_true rfl⟩) ⟨pc_blind, va_recv hK hP (ci := 1) (q := (RJx35411, TJx35411, 4)) (q0 := 8) rfl rfl, fun U hU hW => ⟨rfl, hC49 U hU hW⟩⟩ rfl rfl hl.1 rfl (lv_room (Nat.le_of_ble_eq_true rfl)) dX9_sources_11 ⟨(Nat.le_of_ble_eq_true rfl), (Nat.le_of_ble_eq_true rfl)⟩) hS (fun q9 _ h9 => hF46 q9 h9) hF46 (fun r51 u50 t50 H50 L50 ht50 hvm50 hw50 hB50 hz50 hk50 hS => ?_)
  have hP := pq_keep hP hD [8, 9] rfl hk50 hB50.1 ht50
  have hG : s.heap.size + 1 ≤ H50.size := Nat.le_trans hG hz50
  refine W.eq (g2 := F0 m 16 ls [.int 1]) (by rw [hw50]) ?_
  refine lv_if_eq (tgt := 47) hx hb dX9_sources_16 (by decide) (fun cz => absurd cz (by decide)) (fun _ => ?_)
  refine lv_aload_n hx hb dX9_sources_19 rfl (lv_at hl 2 rfl) ?_
  have hM54 := k733_next l hl9 dC dI z a7 h1 h2 h3 h4 h5 h6 h7 h8 h9 H50.size kc0
  obtain ⟨hF52, hC55⟩ := pc_M hM54 hP hD hK hS hX hT hA [8, 9, 10] [0] rfl rfl rfl
  refine va_callFr (va_runF (As := []) (rest := []) (hK.1 1 (RJx35411, TJx35411, 4) rfl).2 ⟨hx, hb, hml, hown, hts⟩ hM54 (va_cwF 0 hts (gF q_308 q_309 q_310 q_246 q_307) rfl rfl rfl hT.2.2.2.2.2.2.2.1 hF_xIn ⟨Nat.le_of_ble_eq_true rfl, Nat.le_of_ble_eq_true rfl⟩) ⟨pc_blind, va_recv hK hP (ci := 1) (q := (RJx35411, TJx35411, 4)) (q0 := 8) rfl rfl, fun U hU hW => ⟨rfl, hC55 U hU hW⟩⟩ rfl rfl hl.1 rfl (lv_room (Nat.le_of_ble_eq_true rfl)) dX9_sources_20 ⟨(Nat.le_of_ble_eq_true rfl), (Nat.le_of_ble_eq_true rfl)⟩) hS (fun q9 _ h9 => hF52 q9 h9) hF52 (fun u56 r57 t56 H56 L56 ht56 hvm56 hw56 hB56 hz56 hk56 hS => ?_)
  obtain ⟨hr56, hB56⟩ := hB56
  obtain ⟨hP, hD, hK⟩ := pq_jn (wz := [(h0, ce21 h1 o0 o1 o2), (h3, ce49), (h4, ce49), (h5, ce49), (h6, ce49), (h7, ce49), (h8, ce49), (h9, ce49), (a7, ce376 h1), (h1, ce331 h2), (h2, ce330 kc0 h3 h4 h5 h6 h7 h8 h9)]) (tz := [(kc0, .object "java/lang/Object")]) hP hD hK [8, 9, 10] [] rfl hk56 hF52 hB56.1 ht56 hvm56 rfl rfl
  have hG : s.heap.size + 1 ≤ H56.size := Nat.le_trans hG hz56
  refine W.eq (g2 := F0 m 25 ls [.ref h5]) (by rw [hr56]) ?_
  refine va_castE (nm := RX8) hx hb hown (hts _ q_273) (va_recv hK hP (ci := 7) (q := (RX8, TX8, 6)) (q0 := 3) rfl rfl) dX9_sources_25 ?_
  refine lv_astore_n (lv' := [(3, .ref h5), (1, .int 2), (2, .ref a7), (0, .ref h0)]) hx hb dX9_sources_28 rfl hl (by decide) rfl (fun ls hl => ?_)
  refine lv_iload_n hx hb dX9_sources_29 rfl (lv_at hl 1 rfl) ?_
  refine lv_aload_n hx hb dX9_sources_30 rfl (lv_at hl 0 rfl) ?_
  have hM60 := k121_isSource l hl9 dC dI z h5 H56.size
  obtain ⟨hF58, hC61⟩ := pc_M hM60 hP hD hK hS hX hT hA [3] [] rfl rfl rfl
  refine va_calli (va_runV (As := []) (rest := [.int 2]) ⟨hx, hb, hml, hown, hts⟩ hM60 (cwV 0 hts (gV q_344 q_345 q_346 q_275 q_343) rfl rfl rfl hV_X8_isSource ⟨Nat.le_of_ble_eq_true rfl, Nat.le_of_ble_eq_true rfl⟩) ⟨pc_blind, va_recv hK hP (ci := 7) (q := (RX8, TX8, 6)) (q0 := 3) rfl rfl, fun U hU hW => ⟨rfl, hC61 U hU hW⟩⟩ rfl rfl hl.1 rfl (lv_room (Nat.le_of_ble_eq_true rfl)) dX9_sources_31 ⟨(Nat.le_of_ble_eq_true rfl), (Nat.le_of_ble_eq_true rfl)⟩) hS (fun q9 _ h9 => hF58 q9 h9) hF58 (fun r63 u62 t62 H62 L62 ht62 hvm62 hw62 hB62 hz62 hk62 hS => ?_)
  have hP := pq_keep hP hD [3] rfl hk62 hB62.1 ht62
  have hG : s.heap.size + 1 ≤ H62.size := Nat.le_trans hG hz62
  refine W.eq (g2 := F0 m 34 ls [.int 1, .int 2]) (by rw [hw62]) ?_
  refine lv_if_eq (tgt := 41) hx hb dX9_sources_34 (by decide) (fun cz => absurd cz (by decide)) (fun _ => ?_)
  refine lv_iconst (v := 1) hx hb dX9_sources_37 (by decide) ?_
  refine lv_goto (tgt := 42) hx hb dX9_sources_38 (by decide) ?_
  refine lv_iadd hx hb dX9_sources_42 ?_
  refine lv_topi (fun y64 ey64 => ?_)
  obtain rfl : y64 = 3 := ey64.trans (by decide)
  refine lv_istore_n (lv' := [(1, .int 3), (3, .ref h5), (2, .ref a7), (0, .ref h0)]) hx hb dX9_sources_43 rfl hl (by decide) rfl (fun ls hl => ?_)
  refine lv_goto (tgt := 10) hx hb dX9_sources_44 (by decide) ?_
  refine lv_aload_n hx hb dX9_sources_10 rfl (lv_at hl 2 rfl) ?_
  have hM67 := k734_hasNext l hl9 dC dI z a7 h1 h2 H62.size
  obtain ⟨hF65, hC68⟩ := pc_M hM67 hP hD hK hS hX hT hA [8, 9] [] rfl rfl rfl
  refine va_callFi (va_runF (As := []) (rest := []) (hK.1 1 (RJx35411, TJx35411, 4) rfl).2 ⟨hx, hb, hml, hown, hts⟩ hM67 (va_cwF 0 hts (gF q_261 q_262 q_263 q_246 q_260) rfl rfl rfl hT.2.2.2.2.2.2.1 hF_xIh ⟨Nat.le_of_ble_eq_true rfl, Nat.le_of_ble_eq_true rfl⟩) ⟨pc_blind, va_recv hK hP (ci := 1) (q := (RJx35411, TJx35411, 4)) (q0 := 8) rfl rfl, fun U hU hW => ⟨rfl, hC68 U hU hW⟩⟩ rfl rfl hl.1 rfl (lv_room (Nat.le_of_ble_eq_true rfl)) dX9_sources_11 ⟨(Nat.le_of_ble_eq_true rfl), (Nat.le_of_ble_eq_true rfl)⟩) hS (fun q9 _ h9 => hF65 q9 h9) hF65 (fun r70 u69 t69 H69 L69 ht69 hvm69 hw69 hB69 hz69 hk69 hS => ?_)
  have hP := pq_keep hP hD [8, 9] rfl hk69 hB69.1 ht69
  have hG : s.heap.size + 1 ≤ H69.size := Nat.le_trans hG hz69
  refine W.eq (g2 := F0 m 16 ls [.int 1]) (by rw [hw69]) ?_
  refine lv_if_eq (tgt := 47) hx hb dX9_sources_16 (by decide) (fun cz => absurd cz (by decide)) (fun _ => ?_)
  refine lv_aload_n hx hb dX9_sources_19 rfl (lv_at hl 2 rfl) ?_
  have hM73 := k736_next l hl9 dC dI z a7 h1 h2 h3 h4 h5 h6 h7 h8 h9 H69.size kc0
  obtain ⟨hF71, hC74⟩ := pc_M hM73 hP hD hK hS hX hT hA [8, 9, 10] [0] rfl rfl rfl
  refine va_callFr (va_runF (As := []) (rest := []) (hK.1 1 (RJx35411, TJx35411, 4) rfl).2 ⟨hx, hb, hml, hown, hts⟩ hM73 (va_cwF 0 hts (gF q_308 q_309 q_310 q_246 q_307) rfl rfl rfl hT.2.2.2.2.2.2.2.1 hF_xIn ⟨Nat.le_of_ble_eq_true rfl, Nat.le_of_ble_eq_true rfl⟩) ⟨pc_blind, va_recv hK hP (ci := 1) (q := (RJx35411, TJx35411, 4)) (q0 := 8) rfl rfl, fun U hU hW => ⟨rfl, hC74 U hU hW⟩⟩ rfl rfl hl.1 rfl (lv_room (Nat.le_of_ble_eq_true rfl)) dX9_sources_20 ⟨(Nat.le_of_ble_eq_true rfl), (Nat.le_of_ble_eq_true rfl)⟩) hS (fun q9 _ h9 => hF71 q9 h9) hF71 (fun u75 r76 t75 H75 L75 ht75 hvm75 hw75 hB75 hz75 hk75 hS => ?_)
  obtain ⟨hr75, hB75⟩ := hB75
  obtain ⟨hP, hD, hK⟩ := pq_jn (wz := [(h0, ce21 h1 o0 o1 o2), (h3, ce49), (h4, ce49), (h5, ce49), (h6, ce49), (h7, ce49), (h8, ce49), (h9, ce49), (a7, ce378 h1), (h1, ce331 h2), (h2, ce330 kc0 h3 h4 h5 h6 h7 h8 h9)]) (tz := [(kc0, .object "java/lang/Object")]) hP hD hK [8, 9, 10] [] rfl hk75 hF71 hB75.1 ht75 hvm75 rfl rfl
  have hG : s.heap.size + 1 ≤ H75.size := Nat.le_trans hG hz75
  refine W.eq (g2 := F0 m 25 ls [.ref h6]) (by rw [hr75]) ?_
  refine va_castE (nm := RX8) hx hb hown (hts _ q_273) (va_recv hK hP (ci := 7) (q := (RX8, TX8, 6)) (q0 := 4) rfl rfl) dX9_sources_25 ?_
  refine lv_astore_n (lv' := [(3, .ref h6), (1, .int 3), (2, .ref a7), (0, .ref h0)]) hx hb dX9_sources_28 rfl hl (by decide) rfl (fun ls hl => ?_)
  refine lv_iload_n hx hb dX9_sources_29 rfl (lv_at hl 1 rfl) ?_
  refine lv_aload_n hx hb dX9_sources_30 rfl (lv_at hl 0 rfl) ?_
  have hM79 := k121_isSource l hl9 dC dI z h6 H75.size
  obtain ⟨hF77, hC80⟩ := pc_M hM79 hP hD hK hS hX hT hA [4] [] rfl rfl rfl
  refine va_calli (va_runV (As := []) (rest := [.int 3]) ⟨hx, hb, hml, hown, hts⟩ hM79 (cwV 0 hts (gV q_344 q_345 q_346 q_275 q_343) rfl rfl rfl hV_X8_isSource ⟨Nat.le_of_ble_eq_true rfl, Nat.le_of_ble_eq_true rfl⟩) ⟨pc_blind, va_recv hK hP (ci := 7) (q := (RX8, TX8, 6)) (q0 := 4) rfl rfl, fun U hU hW => ⟨rfl, hC80 U hU hW⟩⟩ rfl rfl hl.1 rfl (lv_room (Nat.le_of_ble_eq_true rfl)) dX9_sources_31 ⟨(Nat.le_of_ble_eq_true rfl), (Nat.le_of_ble_eq_true rfl)⟩) hS (fun q9 _ h9 => hF77 q9 h9) hF77 (fun r82 u81 t81 H81 L81 ht81 hvm81 hw81 hB81 hz81 hk81 hS => ?_)
  have hP := pq_keep hP hD [4] rfl hk81 hB81.1 ht81
  have hG : s.heap.size + 1 ≤ H81.size := Nat.le_trans hG hz81
  refine W.eq (g2 := F0 m 34 ls [.int 1, .int 3]) (by rw [hw81]) ?_
  refine lv_if_eq (tgt := 41) hx hb dX9_sources_34 (by decide) (fun cz => absurd cz (by decide)) (fun _ => ?_)
  refine lv_iconst (v := 1) hx hb dX9_sources_37 (by decide) ?_
  refine lv_goto (tgt := 42) hx hb dX9_sources_38 (by decide) ?_
  refine lv_iadd hx hb dX9_sources_42 ?_
  refine lv_topi (fun y83 ey83 => ?_)
  obtain rfl : y83 = 4 := ey83.trans (by decide)
  refine lv_istore_n (lv' := [(1, .int 4), (3, .ref h6), (2, .ref a7), (0, .ref h0)]) hx hb dX9_sources_43 rfl hl (by decide) rfl (fun ls hl => ?_)
  refine lv_goto (tgt := 10) hx hb dX9_sources_44 (by decide) ?_
  refine lv_aload_n hx hb dX9_sources_10 rfl (lv_at hl 2 rfl) ?_
  have hM86 := k737_hasNext l hl9 dC dI z a7 h1 h2 H81.size
  obtain ⟨hF84, hC87⟩ := pc_M hM86 hP hD hK hS hX hT hA [8, 9] [] rfl rfl rfl
  refine va_callFi (va_runF (As := []) (rest := []) (hK.1 1 (RJx35411, TJx35411, 4) rfl).2 ⟨hx, hb, hml, hown, hts⟩ hM86 (va_cwF 0 hts (gF q_261 q_262 q_263 q_246 q_260) rfl rfl rfl hT.2.2.2.2.2.2.1 hF_xIh ⟨Nat.le_of_ble_eq_true rfl, Nat.le_of_ble_eq_true rfl⟩) ⟨pc_blind, va_recv hK hP (ci := 1) (q := (RJx35411, TJx35411, 4)) (q0 := 8) rfl rfl, fun U hU hW => ⟨rfl, hC87 U hU hW⟩⟩ rfl rfl hl.1 rfl (lv_room (Nat.le_of_ble_eq_true rfl)) dX9_sources_11 ⟨(Nat.le_of_ble_eq_true rfl), (Nat.le_of_ble_eq_true rfl)⟩) hS (fun q9 _ h9 => hF84 q9 h9) hF84 (fun r89 u88 t88 H88 L88 ht88 hvm88 hw88 hB88 hz88 hk88 hS => ?_)
  have hP := pq_keep hP hD [8, 9] rfl hk88 hB88.1 ht88
  have hG : s.heap.size + 1 ≤ H88.size := Nat.le_trans hG hz88
  refine W.eq (g2 := F0 m 16 ls [.int 1]) (by rw [hw88]) ?_
  refine lv_if_eq (tgt := 47) hx hb dX9_sources_16 (by decide) (fun cz => absurd cz (by decide)) (fun _ => ?_)
  refine lv_aload_n hx hb dX9_sources_19 rfl (lv_at hl 2 rfl) ?_
  have hM92 := k739_next l hl9 dC dI z a7 h1 h2 h3 h4 h5 h6 h7 h8 h9 H88.size kc0
  obtain ⟨hF90, hC93⟩ := pc_M hM92 hP hD hK hS hX hT hA [8, 9, 10] [0] rfl rfl rfl
  refine va_callFr (va_runF (As := []) (rest := []) (hK.1 1 (RJx35411, TJx35411, 4) rfl).2 ⟨hx, hb, hml, hown, hts⟩ hM92 (va_cwF 0 hts (gF q_308 q_309 q_310 q_246 q_307) rfl rfl rfl hT.2.2.2.2.2.2.2.1 hF_xIn ⟨Nat.le_of_ble_eq_true rfl, Nat.le_of_ble_eq_true rfl⟩) ⟨pc_blind, va_recv hK hP (ci := 1) (q := (RJx35411, TJx35411, 4)) (q0 := 8) rfl rfl, fun U hU hW => ⟨rfl, hC93 U hU hW⟩⟩ rfl rfl hl.1 rfl (lv_room (Nat.le_of_ble_eq_true rfl)) dX9_sources_20 ⟨(Nat.le_of_ble_eq_true rfl), (Nat.le_of_ble_eq_true rfl)⟩) hS (fun q9 _ h9 => hF90 q9 h9) hF90 (fun u94 r95 t94 H94 L94 ht94 hvm94 hw94 hB94 hz94 hk94 hS => ?_)
  obtain ⟨hr94, hB94⟩ := hB94
  obtain ⟨hP, hD, hK⟩ := pq_jn (wz := [(h0, ce21 h1 o0 o1 o2), (h3, ce49), (h4, ce49), (h5, ce49), (h6, ce49), (h7, ce49), (h8, ce49), (h9, ce49), (a7, ce380 h1), (h1, ce331 h2), (h2, ce330 kc0 h3 h4 h5 h6 h7 h8 h9)]) (tz := [(kc0, .object "java/lang/Object")]) hP hD hK [8, 9, 10] [] rfl hk94 hF90 hB94.1 ht94 hvm94 rfl rfl
  have hG : s.heap.size + 1 ≤ H94.size := Nat.le_trans hG hz94
  refine W.eq (g2 := F0 m 25 ls [.ref h7]) (by rw [hr94]) ?_
  refine va_castE (nm := RX8) hx hb hown (hts _ q_273) (va_recv hK hP (ci := 7) (q := (RX8, TX8, 6)) (q0 := 5) rfl rfl) dX9_sources_25 ?_
  refine lv_astore_n (lv' := [(3, .ref h7), (1, .int 4), (2, .ref a7), (0, .ref h0)]) hx hb dX9_sources_28 rfl hl (by decide) rfl (fun ls hl => ?_)
  refine lv_iload_n hx hb dX9_sources_29 rfl (lv_at hl 1 rfl) ?_
  refine lv_aload_n hx hb dX9_sources_30 rfl (lv_at hl 0 rfl) ?_
  have hM98 := k121_isSource l hl9 dC dI z h7 H94.size
  obtain ⟨hF96, hC99⟩ := pc_M hM98 hP hD hK hS hX hT hA [5] [] rfl rfl rfl
  refine va_calli (va_runV (As := []) (rest := [.int 4]) ⟨hx, hb, hml, hown, hts⟩ hM98 (cwV 0 hts (gV q_344 q_345 q_346 q_275 q_343) rfl rfl rfl hV_X8_isSource ⟨Nat.le_of_ble_eq_true rfl, Nat.le_of_ble_eq_true rfl⟩) ⟨pc_blind, va_recv hK hP (ci := 7) (q := (RX8, TX8, 6)) (q0 := 5) rfl rfl, fun U hU hW => ⟨rfl, hC99 U hU hW⟩⟩ rfl rfl hl.1 rfl (lv_room (Nat.le_of_ble_eq_true rfl)) dX9_sources_31 ⟨(Nat.le_of_ble_eq_true rfl), (Nat.le_of_ble_eq_true rfl)⟩) hS (fun q9 _ h9 => hF96 q9 h9) hF96 (fun r101 u100 t100 H100 L100 ht100 hvm100 hw100 hB100 hz100 hk100 hS => ?_)
  have hP := pq_keep hP hD [5] rfl hk100 hB100.1 ht100
  have hG : s.heap.size + 1 ≤ H100.size := Nat.le_trans hG hz100
  refine W.eq (g2 := F0 m 34 ls [.int 1, .int 4]) (by rw [hw100]) ?_
  refine lv_if_eq (tgt := 41) hx hb dX9_sources_34 (by decide) (fun cz => absurd cz (by decide)) (fun _ => ?_)
  refine lv_iconst (v := 1) hx hb dX9_sources_37 (by decide) ?_
  refine lv_goto (tgt := 42) hx hb dX9_sources_38 (by decide) ?_
  refine lv_iadd hx hb dX9_sources_42 ?_
  refine lv_topi (fun y102 ey102 => ?_)
  obtain rfl : y102 = 5 := ey102.trans (by decide)
  refine lv_istore_n (lv' := [(1, .int 5), (3, .ref h7), (2, .ref a7), (0, .ref h0)]) hx hb dX9_sources_43 rfl hl (by decide) rfl (fun ls hl => ?_)
  refine lv_goto (tgt := 10) hx hb dX9_sources_44 (by decide) ?_
  refine lv_aload_n hx hb dX9_sources_10 rfl (lv_at hl 2 rfl) ?_
  have hM105 := k740_hasNext l hl9 dC dI z a7 h1 h2 H100.size
  obtain ⟨hF103, hC106⟩ := pc_M hM105 hP hD hK hS hX hT hA [8, 9] [] rfl rfl rfl
  refine va_callFi (va_runF (As := []) (rest := []) (hK.1 1 (RJx35411, TJx35411, 4) rfl).2 ⟨hx, hb, hml, hown, hts⟩ hM105 (va_cwF 0 hts (gF q_261 q_262 q_263 q_246 q_260) rfl rfl rfl hT.2.2.2.2.2.2.1 hF_xIh ⟨Nat.le_of_ble_eq_true rfl, Nat.le_of_ble_eq_true rfl⟩) ⟨pc_blind, va_recv hK hP (ci := 1) (q := (RJx35411, TJx35411, 4)) (q0 := 8) rfl rfl, fun U hU hW => ⟨rfl, hC106 U hU hW⟩⟩ rfl rfl hl.1 rfl (lv_room (Nat.le_of_ble_eq_true rfl)) dX9_sources_11 ⟨(Nat.le_of_ble_eq_true rfl), (Nat.le_of_ble_eq_true rfl)⟩) hS (fun q9 _ h9 => hF103 q9 h9) hF103 (fun r108 u107 t107 H107 L107 ht107 hvm107 hw107 hB107 hz107 hk107 hS => ?_)
  have hP := pq_keep hP hD [8, 9] rfl hk107 hB107.1 ht107
  have hG : s.heap.size + 1 ≤ H107.size := Nat.le_trans hG hz107
  refine W.eq (g2 := F0 m 16 ls [.int 1]) (by rw [hw107]) ?_
  refine lv_if_eq (tgt := 47) hx hb dX9_sources_16 (by decide) (fun cz => absurd cz (by decide)) (fun _ => ?_)
  refine lv_aload_n hx hb dX9_sources_19 rfl (lv_at hl 2 rfl) ?_
  have hM111 := k742_next l hl9 dC dI z a7 h1 h2 h3 h4 h5 h6 h7 h8 h9 H107.size kc0
  obtain ⟨hF109, hC112⟩ := pc_M hM111 hP hD hK hS hX hT hA [8, 9, 10] [0] rfl rfl rfl
  refine va_callFr (va_runF (As := []) (rest := []) (hK.1 1 (RJx35411, TJx35411, 4) rfl).2 ⟨hx, hb, hml, hown, hts⟩ hM111 (va_cwF 0 hts (gF q_308 q_309 q_310 q_246 q_307) rfl rfl rfl hT.2.2.2.2.2.2.2.1 hF_xIn ⟨Nat.le_of_ble_eq_true rfl, Nat.le_of_ble_eq_true rfl⟩) ⟨pc_blind, va_recv hK hP (ci := 1) (q := (RJx35411, TJx35411, 4)) (q0 := 8) rfl rfl, fun U hU hW => ⟨rfl, hC112 U hU hW⟩⟩ rfl rfl hl.1 rfl (lv_room (Nat.le_of_ble_eq_true rfl)) dX9_sources_20 ⟨(Nat.le_of_ble_eq_true rfl), (Nat.le_of_ble_eq_true rfl)⟩) hS (fun q9 _ h9 => hF109 q9 h9) hF109 (fun u113 r114 t113 H113 L113 ht113 hvm113 hw113 hB113 hz113 hk113 hS => ?_)
  obtain ⟨hr113, hB113⟩ := hB113
  obtain ⟨hP, hD, hK⟩ := pq_jn (wz := [(h0, ce21 h1 o0 o1 o2), (h3, ce49), (h4, ce49), (h5, ce49), (h6, ce49), (h7, ce49), (h8, ce49), (h9, ce49), (a7, ce382 h1), (h1, ce331 h2), (h2, ce330 kc0 h3 h4 h5 h6 h7 h8 h9)]) (tz := [(kc0, .object "java/lang/Object")]) hP hD hK [8, 9, 10] [] rfl hk113 hF109 hB113.1 ht113 hvm113 rfl rfl
  have hG : s.heap.size + 1 ≤ H113.size := Nat.le_trans hG hz113
  refine W.eq (g2 := F0 m 25 ls [.ref h8]) (by rw [hr113]) ?_
  refine va_castE (nm := RX8) hx hb hown (hts _ q_273) (va_recv hK hP (ci := 7) (q := (RX8, TX8, 6)) (q0 := 6) rfl rfl) dX9_sources_25 ?_
  refine lv_astore_n (lv' := [(3, .ref h8), (1, .int 5), (2, .ref a7), (0, .ref h0)]) hx hb dX9_sources_28 rfl hl (by decide) rfl (fun ls hl => ?_)
  refine lv_iload_n hx hb dX9_sources_29 rfl (lv_at hl 1 rfl) ?_
  refine lv_aload_n hx hb dX9_sources_30 rfl (lv_at hl 0 rfl) ?_
  have hM117 := k121_isSource l hl9 dC dI z h8 H113.size
  obtain ⟨hF115, hC118⟩ := pc_M hM117 hP hD hK hS hX hT hA [6] [] rfl rfl rfl
  refine va_calli (va_runV (As := []) (rest := [.int 5]) ⟨hx, hb, hml, hown, hts⟩ hM117 (cwV 0 hts (gV q_344 q_345 q_346 q_275 q_343) rfl rfl rfl hV_X8_isSource ⟨Nat.le_of_ble_eq_true rfl, Nat.le_of_ble_eq_true rfl⟩) ⟨pc_blind, va_recv hK hP (ci := 7) (q := (RX8, TX8, 6)) (q0 := 6) rfl rfl, fun U hU hW => ⟨rfl, hC118 U hU hW⟩⟩ rfl rfl hl.1 rfl (lv_room (Nat.le_of_ble_eq_true rfl)) dX9_sources_31 ⟨(Nat.le_of_ble_eq_true rfl), (Nat.le_of_ble_eq_true rfl)⟩) hS (fun q9 _ h9 => hF115 q9 h9) hF115 (fun r120 u119 t119 H119 L119 ht119 hvm119 hw119 hB119 hz119 hk119 hS => ?_)
  have hP := pq_keep hP hD [6] rfl hk119 hB119.1 ht119
  have hG : s.heap.size + 1 ≤ H119.size := Nat.le_trans hG hz119
  refine W.eq (g2 := F0 m 34 ls [.int 1, .int 5]) (by rw [hw119]) ?_
  refine lv_if_eq (tgt := 41) hx hb dX9_sources_34 (by decide) (fun cz => absurd cz (by decide)) (fun _ => ?_)
  refine lv_iconst (v := 1) hx hb dX9_sources_37 (by decide) ?_
  refine lv_goto (tgt := 42) hx hb dX9_sources_38 (by decide) ?_
  refine lv_iadd hx hb dX9_sources_42 ?_
  refine lv_topi (fun y121 ey121 => ?_)
  obtain rfl : y121 = 6 := ey121.trans (by decide)
  refine lv_istore_n (lv' := [(1, .int 6), (3, .ref h8), (2, .ref a7), (0, .ref h0)]) hx hb dX9_sources_43 rfl hl (by decide) rfl (fun ls hl => ?_)
  refine lv_goto (tgt := 10) hx hb dX9_sources_44 (by decide) ?_
  refine lv_aload_n hx hb dX9_sources_10 rfl (lv_at hl 2 rfl) ?_
  have hM124 := k743_hasNext l hl9 dC dI z a7 h1 h2 H119.size
  obtain ⟨hF122, hC125⟩ := pc_M hM124 hP hD hK hS hX hT hA [8, 9] [] rfl rfl rfl
  refine va_callFi (va_runF (As := []) (rest := []) (hK.1 1 (RJx35411, TJx35411, 4) rfl).2 ⟨hx, hb, hml, hown, hts⟩ hM124 (va_cwF 0 hts (gF q_261 q_262 q_263 q_246 q_260) rfl rfl rfl hT.2.2.2.2.2.2.1 hF_xIh ⟨Nat.le_of_ble_eq_true rfl, Nat.le_of_ble_eq_true rfl⟩) ⟨pc_blind, va_recv hK hP (ci := 1) (q := (RJx35411, TJx35411, 4)) (q0 := 8) rfl rfl, fun U hU hW => ⟨rfl, hC125 U hU hW⟩⟩ rfl rfl hl.1 rfl (lv_room (Nat.le_of_ble_eq_true rfl)) dX9_sources_11 ⟨(Nat.le_of_ble_eq_true rfl), (Nat.le_of_ble_eq_true rfl)⟩) hS (fun q9 _ h9 => hF122 q9 h9) hF122 (fun r127 u126 t126 H126 L126 ht126 hvm126 hw126 hB126 hz126 hk126 hS => ?_)
  have hP := pq_keep hP hD [8, 9] rfl hk126 hB126.1 ht126
  have hG : s.heap.size + 1 ≤ H126.size := Nat.le_trans hG hz126
  refine W.eq (g2 := F0 m 16 ls [.int 1]) (by rw [hw126]) ?_
  refine lv_if_eq (tgt := 47) hx hb dX9_sources_16 (by decide) (fun cz => absurd cz (by decide)) (fun _ => ?_)
  refine lv_aload_n hx hb dX9_sources_19 rfl (lv_at hl 2 rfl) ?_
  have hM130 := k745_next l hl9 dC dI z a7 h1 h2 h3 h4 h5 h6 h7 h8 h9 H126.size kc0
  obtain ⟨hF128, hC131⟩ := pc_M hM130 hP hD hK hS hX hT hA [8, 9, 10] [0] rfl rfl rfl
  refine va_callFr (va_runF (As := []) (rest := []) (hK.1 1 (RJx35411, TJx35411, 4) rfl).2 ⟨hx, hb, hml, hown, hts⟩ hM130 (va_cwF 0 hts (gF q_308 q_309 q_310 q_246 q_307) rfl rfl rfl hT.2.2.2.2.2.2.2.1 hF_xIn ⟨Nat.le_of_ble_eq_true rfl, Nat.le_of_ble_eq_true rfl⟩) ⟨pc_blind, va_recv hK hP (ci := 1) (q := (RJx35411, TJx35411, 4)) (q0 := 8) rfl rfl, fun U hU hW => ⟨rfl, hC131 U hU hW⟩⟩ rfl rfl hl.1 rfl (lv_room (Nat.le_of_ble_eq_true rfl)) dX9_sources_20 ⟨(Nat.le_of_ble_eq_true rfl), (Nat.le_of_ble_eq_true rfl)⟩) hS (fun q9 _ h9 => hF128 q9 h9) hF128 (fun u132 r133 t132 H132 L132 ht132 hvm132 hw132 hB132 hz132 hk132 hS => ?_)
  obtain ⟨hr132, hB132⟩ := hB132
  obtain ⟨hP, hD, hK⟩ := pq_jn (wz := [(h0, ce21 h1 o0 o1 o2), (h3, ce49), (h4, ce49), (h5, ce49), (h6, ce49), (h7, ce49), (h8, ce49), (h9, ce49), (a7, ce384 h1), (h1, ce331 h2), (h2, ce330 kc0 h3 h4 h5 h6 h7 h8 h9)]) (tz := [(kc0, .object "java/lang/Object")]) hP hD hK [8, 9, 10] [] rfl hk132 hF128 hB132.1 ht132 hvm132 rfl rfl
  have hG : s.heap.size + 1 ≤ H132.size := Nat.le_trans hG hz132
  refine W.eq (g2 := F0 m 25 ls [.ref h9]) (by rw [hr132]) ?_
  refine va_castE (nm := RX8) hx hb hown (hts _ q_273) (va_recv hK hP (ci := 7) (q := (RX8, TX8, 6)) (q0 := 7) rfl rfl) dX9_sources_25 ?_
  refine lv_astore_n (lv' := [(3, .ref h9), (1, .int 6), (2, .ref a7), (0, .ref h0)]) hx hb dX9_sources_28 rfl hl (by decide) rfl (fun ls hl => ?_)
  refine lv_iload_n hx hb dX9_sources_29 rfl (lv_at hl 1 rfl) ?_
  refine lv_aload_n hx hb dX9_sources_30 rfl (lv_at hl 0 rfl) ?_
  have hM136 := k121_isSource l hl9 dC dI z h9 H132.size
  obtain ⟨hF134, hC137⟩ := pc_M hM136 hP hD hK hS hX hT hA [7] [] rfl rfl rfl
  refine va_calli (va_runV (As := []) (rest := [.int 6]) ⟨hx, hb, hml, hown, hts⟩ hM136 (cwV 0 hts (gV q_344 q_345 q_346 q_275 q_343) rfl rfl rfl hV_X8_isSource ⟨Nat.le_of_ble_eq_true rfl, Nat.le_of_ble_eq_true rfl⟩) ⟨pc_blind, va_recv hK hP (ci := 7) (q := (RX8, TX8, 6)) (q0 := 7) rfl rfl, fun U hU hW => ⟨rfl, hC137 U hU hW⟩⟩ rfl rfl hl.1 rfl (lv_room (Nat.le_of_ble_eq_true rfl)) dX9_sources_31 ⟨(Nat.le_of_ble_eq_true rfl), (Nat.le_of_ble_eq_true rfl)⟩) hS (fun q9 _ h9 => hF134 q9 h9) hF134 (fun r139 u138 t138 H138 L138 ht138 hvm138 hw138 hB138 hz138 hk138 hS => ?_)
  have hP := pq_keep hP hD [7] rfl hk138 hB138.1 ht138
  have hG : s.heap.size + 1 ≤ H138.size := Nat.le_trans hG hz138
  refine W.eq (g2 := F0 m 34 ls [.int 1, .int 6]) (by rw [hw138]) ?_
  refine lv_if_eq (tgt := 41) hx hb dX9_sources_34 (by decide) (fun cz => absurd cz (by decide)) (fun _ => ?_)
  refine lv_iconst (v := 1) hx hb dX9_sources_37 (by decide) ?_
  refine lv_goto (tgt := 42) hx hb dX9_sources_38 (by decide) ?_
  refine lv_iadd hx hb dX9_sources_42 ?_
  refine lv_topi (fun y140 ey140 => ?_)
  obtain rfl : y140 = 7 := ey140.trans (by decide)
  refine lv_istore_n (lv' := [(1, .int 7), (3, .ref h9), (2, .ref a7), (0, .ref h0)]) hx hb dX9_sources_43 rfl hl (by decide) rfl (fun ls hl => ?_)
  refine lv_goto (tgt := 10) hx hb dX9_sources_44 (by decide) ?_
  refine lv_aload_n hx hb dX9_sources_10 rfl (lv_at hl 2 rfl) ?_
  have hM143 := k746_hasNext l hl9 dC dI z a7 h1 h2 H138.size
  obtain ⟨hF141, hC144⟩ := pc_M hM143 hP hD hK hS hX hT hA [8, 9] [] rfl rfl rfl
  refine va_callFi (va_runF (As := []) (rest := []) (hK.1 1 (RJx35411, TJx35411, 4) rfl).2 ⟨hx, hb, hml, hown, hts⟩ hM143 (va_cwF 0 hts (gF q_261 q_262 q_263 q_246 q_260) rfl rfl rfl hT.2.2.2.2.2.2.1 hF_xIh ⟨Nat.le_of_ble_eq_true rfl, Nat.le_of_ble_eq_true rfl⟩) ⟨pc_blind, va_recv hK hP (ci := 1) (q := (RJx35411, TJx35411, 4)) (q0 := 8) rfl rfl, fun U hU hW => ⟨rfl, hC144 U hU hW⟩⟩ rfl rfl hl.1 rfl (lv_room (Nat.le_of_ble_eq_true rfl)) dX9_sources_11 ⟨(Nat.le_of_ble_eq_true rfl), (Nat.le_of_ble_eq_true rfl)⟩) hS (fun q9 _ h9 => hF141 q9 h9) hF141 (fun r146 u145 t145 H145 L145 ht145 hvm145 hw145 hB145 hz145 hk145 hS => ?_)
  have hP := pq_keep hP hD [8, 9] rfl hk145 hB145.1 ht145
  have hG : s.heap.size + 1 ≤ H145.size := Nat.le_trans hG hz145
  refine W.eq (g2 := F0 m 16 ls [.int 0]) (by rw [hw145]) ?_
  refine lv_if_eq (tgt := 47) hx hb dX9_sources_16 (by decide) (fun _ => ?_) (fun cz => absurd (by decide) cz)
  refine lv_iload_n hx hb dX9_sources_47 rfl (lv_at hl 0 rfl) ?_
  exact W.iret (v := 7) hx hb hr (fun t9 ht9 hW9 => ⟨⟨7, (), rfl, rfl, ⟨pq_mk2 hP hD hK [0, 9, 10, 1, 2, 3, 4, 5, 6, 7] [0] rfl rfl rfl ht9 hW9, by rw [ht9]; exact Nat.le_trans (Nat.add_le_add_left (Nat.le_of_ble_eq_true rfl) _) hG⟩⟩, hS.F ht9⟩) hS.2.2 dX9_sources_48

set_option maxHeartbeats 4000000 in
set_option maxRecDepth 100000 in
theorem k783_rows (l : Launch) (hl9 : l.stackTraces = false) (dC : Nat → ClassId) (dI : Nat → Nat → Nat) (z : XZ) (h0 h1 h2 h3 h4 h5 h6 h7 h8 h9 : Nat) (o0 o1 o2 : Nat) (sz : Nat) (kc0 : ClassId) : Met l yX9_rows (.code yX9_rows cX9_rows 1 (some .int) :: wsL_law) ({ frames := 4, cells := 1, slots := 4, locals := 80 }) (va_Pc [.ref h0] (PC (dC, dI) [(h0, ce21 h1 o0 o1 o2), (h1, ce331 h2), (h2, ce330 kc0 h3 h4 h5 h6 h7 h8 h9), (h3, ce49), (h4, ce49), (h5, ce49), (h6, ce49), (h7, ce49), (h8, ce49), (h9, ce49)] [(kc0, .object "java/lang/Object")] sz z)) (va_Qi (fun (r : Int32) (_ : Unit) => r = 128) (fun (_ : Unit) (t : State) => PG (dC, dI) [(h0, ce21 h1 o0 o1 o2), (h1, ce331 h2), (h2, ce330 kc0 h3 h4 h5 h6 h7 h8 h9), (h3, ce49), (h4, ce49), (h5, ce49), (h6, ce49), (h7, ce49), (h8, ce49), (h9, ce49)] [(kc0, .object "java/lang/Object")] (va_A [(h0, ce21 h1 o0 o1 o2), (h1, ce331 h2), (h2, ce330 kc0 h3 h4 h5 h6 h7 h8 h9), (h3, ce49), (h4, ce49), (h5, ce49), (h6, ce49), (h7, ce49), (h8, ce49), (h9, ce49)] sz) sz 1 t) (va_A [(h0, ce21 h1 o0 o1 o2), (h1, ce331 h2), (h2, ce330 kc0 h3 h4 h5 h6 h7 h8 h9), (h3, ce49), (h4, ce49), (h5, ce49), (h6, ce49), (h7, ce49), (h8, ce49), (h9, ce49)] sz)) 1 4 (va_A [(h0, ce21 h1 o0 o1 o2), (h1, ce331 h2), (h2, ce330 kc0 h3 h4 h5 h6 h7 h8 h9), (h3, ce49), (h4, ce49), (h5, ce49), (h6, ce49), (h7, ce49), (h8, ce49), (h9, ce49)] sz) := by
  refine Met.ofW (cc := cX9_rows) (maxL := 1) (ret := (some .int)) (by decide) rfl ?_
  intro p e s m args below meth c s₁ B hml hv
  obtain ⟨rfl, hsz, hP, hK, hD0, hX, hT⟩ := hv
  have hx := B.exec
  have hb := B.bytes
  have hr := B.returns
  have hts0 := atoms_spec (ws := .code yX9_rows cX9_rows 1 (some .int) :: wsL_law) B.pre
  have hts := xTail hts0
  have hown : s.vm.findClass RX9 = some m.cls := xown B.named rfl
  have hlocks := B.notSynchronized
  subst hsz
  have hD := hD0.self (sz := s.heap.size)
  generalize hAe : va_A [(h0, ce21 h1 o0 o1 o2), (h1, ce331 h2), (h2, ce330 kc0 h3 h4 h5 h6 h7 h8 h9), (h3, ce49), (h4, ce49), (h5, ce49), (h6, ce49), (h7, ce49), (h8, ce49), (h9, ce49)] s.heap.size = A at hD hX ⊢
  have hA : ∀ q : Nat, s.heap.size ≤ q → A q := fun q h => by rw [← hAe]; exact Or.inr h
  have hS : va_S A s.heap s.heap [] := va_S.rf
  have hG : s.heap.size + 0 ≤ s.heap.size := Nat.le_refl _
  have hl := lv_entry ([.ref h0]) (n := 1) (Nat.le_of_ble_eq_true rfl)
  rw [lg_entry_eq]
  generalize (lg_sl ([.ref h0]) ++ List.replicate (1 - (lg_sl ([.ref h0])).length) Slot.unset).toArray = ls at hl ⊢
  have hl : lv_has ls 1 [(0, .ref h0)] := hl
  refine lv_iconst (v := 1) hx hb dX9_rows_0 (by decide) ?_
  refine lv_aload_n hx hb dX9_rows_1 rfl (lv_at hl 0 rfl) ?_
  have hM3 := k782_sources l hl9 dC dI z h0 h1 h2 h3 h4 h5 h6 h7 h8 h9 o0 o1 o2 s.heap.size kc0
  obtain ⟨hF1, hC4⟩ := pc_M hM3 hP hD hK hS hX hT hA [0, 1, 2, 3, 4, 5, 6, 7, 8, 9] [0] rfl rfl rfl
  refine va_calli (va_runV (As := []) (rest := [.int 1]) ⟨hx, hb, hml, hown, hts⟩ hM3 (cwV 0 hts (gV q_265 q_266 q_267 q_60 q_264) rfl rfl rfl hV_X9_sources ⟨Nat.le_of_ble_eq_true rfl, Nat.le_of_ble_eq_true rfl⟩) ⟨pc_blind, va_recv hK hP (ci := 8) (q := (RX9, TX9, 6)) (q0 := 0) rfl rfl, fun U hU hW => ⟨rfl, hC4 U hU hW⟩⟩ rfl rfl hl.1 rfl (lv_room (Nat.le_of_ble_eq_true rfl)) dX9_rows_2 ⟨(Nat.le_of_ble_eq_true rfl), (Nat.le_of_ble_eq_true rfl)⟩) hS (fun q9 _ h9 => hF1 q9 h9) hF1 (fun r6 u5 t5 H5 L5 ht5 hvm5 hw5 hB5 hz5 hk5 hS => ?_)
  have hP := pq_keep hP hD [0, 1, 2, 3, 4, 5, 6, 7, 8, 9] rfl hk5 hB5.1 ht5
  have hG : s.heap.size + 1 ≤ H5.size := va_gr (g := 0) (g1 := 1) hG (by rw [← ht5]; exact hB5.2)
  refine W.eq (g2 := F0 m 5 ls [.int 7, .int 1]) (by rw [hw5]) ?_
  refine W.widen (k := 1) (n := 4) (by decide) (by decide) ?_
  refine lv_ishl hx hb dX9_rows_5 ?_
  refine lv_topi (fun y7 ey7 => ?_)
  obtain rfl : y7 = 128 := ey7.trans (by decide)
  exact W.iret (v := 128) hx hb hr (fun t9 ht9 hW9 => ⟨⟨128, (), rfl, rfl, ⟨pq_mk2 hP hD hK [0, 1, 2, 3, 4, 5, 6, 7, 8, 9] [0] rfl rfl rfl ht9 hW9, by rw [ht9]; exact Nat.le_trans (Nat.add_le_add_left (Nat.le_of_ble_eq_true rfl) _) hG⟩⟩, hS.F ht9⟩) hS.2.2 dX9_rows_6

set_option maxHeartbeats 4000000 in
set_option maxRecDepth 100000 in
theorem k784_in (l : Launch) (hl9 : l.stackTraces = false) (dC : Nat → ClassId) (dI : Nat → Nat → Nat) (z : XZ) (sz : Nat) : Met l yX9_in (.code yX9_in cX9_in 3 (some .boolean) :: wsL_law) ({ frames := 0, cells := 0, slots := 0, locals := 0 }) (va_Pc [.int 0, .int 0, .int 127] (PC (dC, dI) [] [] sz z)) (va_Qi (fun (r : Int32) (_ : Unit) => r = 1) (fun (_ : Unit) (t : State) => PG (dC, dI) [] [] (va_A [] sz) sz 0 t) (va_A [] sz)) 0 0 (va_A [] sz) := by
  refine Met.ofW (cc := cX9_in) (maxL := 3) (ret := (some .boolean)) (by decide) rfl ?_
  intro p e s m args below meth c s₁ B hml hv
  obtain ⟨rfl, hsz, hP, hK, hD0, hX, hT⟩ := hv
  have hx := B.exec
  have hb := B.bytes
  have hr := B.returns
  have hts0 := atoms_spec (ws := .code yX9_in cX9_in 3 (some .boolean) :: wsL_law) B.pre
  have hts := xTail hts0
  have hown : s.vm.findClass RX9 = some m.cls := xown B.named rfl
  have hlocks := B.notSynchronized
  subst hsz
  have hD := hD0.self (sz := s.heap.size)
  generalize hAe : va_A [] s.heap.size = A at hD hX ⊢
  have hA : ∀ q : Nat, s.heap.size ≤ q → A q := fun q h => by rw [← hAe]; exact Or.inr h
  have hS : va_S A s.heap s.heap [] := va_S.rf
  have hG : s.heap.size + 0 ≤ s.heap.size := Nat.le_refl _
  have hl := lv_entry ([.int 0, .int 0, .int 127]) (n := 3) (Nat.le_of_ble_eq_true rfl)
  rw [lg_entry_eq]
  generalize (lg_sl ([.int 0, .int 0, .int 127]) ++ List.replicate (3 - (lg_sl ([.int 0, .int 0, .int 127])).length) Slot.unset).toArray = ls at hl ⊢
  have hl : lv_has ls 3 [(0, .int 0), (1, .int 0), (2, .int 127)] := hl
  refine lv_iload_n hx hb dX9_in_0 rfl (lv_at hl 0 rfl) ?_
  refine lv_iload_n hx hb dX9_in_1 rfl (lv_at hl 1 rfl) ?_
  refine lv_icmp_lt (tgt := 14) hx hb dX9_in_2 (by decide) (fun cz => absurd cz (by decide)) (fun _ => ?_)
  refine lv_iload_n hx hb dX9_in_5 rfl (lv_at hl 0 rfl) ?_
  refine lv_iload_n hx hb dX9_in_6 rfl (lv_at hl 2 rfl) ?_
  refine lv_icmp_gt (tgt := 14) hx hb dX9_in_7 (by decide) (fun cz => absurd cz (by decide)) (fun _ => ?_)
  refine lv_iconst (v := 1) hx hb dX9_in_10 (by decide) ?_
  refine lv_goto (tgt := 15) hx hb dX9_in_11 (by decide) ?_
  exact W.zret (v := 1) (ty := .boolean) hx hb hr rfl (fun t9 ht9 hW9 => ⟨⟨1, (), rfl, rfl, ⟨pq_mk2 hP hD hK [] [] rfl rfl rfl ht9 hW9, by rw [ht9]; exact Nat.le_trans (Nat.add_le_add_left (Nat.le_of_ble_eq_true rfl) _) hG⟩⟩, hS.F ht9⟩) hS.2.2 dX9_in_15

set_option maxHeartbeats 4000000 in
set_option maxRecDepth 100000 in
theorem k785_add (l : Launch) (hl9 : l.stackTraces = false) (dC : Nat → ClassId) (dI : Nat → Nat → Nat) (z : XZ) (h0 : Nat) (sz : Nat) : Met l yJx4a65c_add_72be8 (.code yJx4a65c_add_72be8 cJx4a65c_add_72be8 4 none :: wsL_law) ({ frames := 3, cells := 1, slots := 10, locals := 65 }) (va_Pc [.ref h0, .ref (z.2.2.1 128), .ref z.1, .int 0] (PC (dC, dI) [(h0, ce33 z.1)] [] sz z)) (va_Qv (fun (_ : Unit) => True) (fun (_ : Unit) (t : State) => ∃ (n0 : Nat), ∃ (m0 : ClassId), PG (dC, dI) [(h0, ce36 n0), (n0, ce35 m0 (z.2.2.1 128))] [(m0, .object "java/lang/Object")] (va_A [(h0, ce33 z.1)] sz) sz 1 t) (va_A [(h0, ce33 z.1)] sz)) 1 10 (va_A [(h0, ce33 z.1)] sz) := by
  refine Met.ofW (cc := cJx4a65c_add_72be8) (maxL := 4) (ret := none) (by decide) rfl ?_
  intro p e s m args below meth c s₁ B hml hv
  obtain ⟨rfl, hsz, hP, hK, hD0, hX, hT⟩ := hv
  have hx := B.exec
  have hb := B.bytes
  have hr := B.returns
  have hts0 := atoms_spec (ws := .code yJx4a65c_add_72be8 cJx4a65c_add_72be8 4 none :: wsL_law) B.pre
  have hts := xTail hts0
  have hown : s.vm.findClass RJx4a65c = some m.cls := xown B.named rfl
  have hlocks := B.notSynchronized
  subst hsz
  have hD := hD0.self (sz := s.heap.size)
  generalize hAe : va_A [(h0, ce33 z.1)] s.heap.size = A at hD hX ⊢
  have hA : ∀ q : Nat, s.heap.size ≤ q → A q := fun q h => by rw [← hAe]; exact Or.inr h
  have hS : va_S A s.heap s.heap [] := va_S.rf
  have hG : s.heap.size + 0 ≤ s.heap.size := Nat.le_refl _
  have hl := lv_entry ([.ref h0, .ref (z.2.2.1 128), .ref z.1, .int 0]) (n := 4) (Nat.le_of_ble_eq_true rfl)
  rw [lg_entry_eq]
  generalize (lg_sl ([.ref h0, .ref (z.2.2.1 128), .ref z.1, .int 0]) ++ List.replicate (4 - (lg_sl ([.ref h0, .ref (z.2.2.1 128), .ref z.1, .int 0])).length) Slot.unset).toArray = ls at hl ⊢
  have hl : lv_has ls 4 [(0, .ref h0), (1, .ref (z.2.2.1 128)), (2, .ref z.1), (3, .int 0)] := hl
  refine lv_iload_n hx hb dJx4a65c_add_72be8_0 rfl (lv_at hl 3 rfl) ?_
  refine lv_aload_n hx hb dJx4a65c_add_72be8_1 rfl (lv_at hl 2 rfl) ?_
  refine va_tlen hx hb hX.1.2 hS (v := 0) rfl dJx4a65c_add_72be8_2 ?_
  refine lv_icmp_ne (tgt := 11) hx hb dJx4a65c_add_72be8_3 (by decide) (fun cz => absurd (by decide) cz) (fun _ => ?_)
  refine lv_aload_n hx hb dJx4a65c_add_72be8_6 rfl (lv_at hl 0 rfl) ?_
  have hM3 := k14_grow l hl9 dC dI z h0 s.heap.size
  obtain ⟨hF1, hC4⟩ := pc_M hM3 hP hD hK hS hX hT hA [0] [] rfl rfl rfl
  refine va_callr (va_runV (As := []) (rest := []) ⟨hx, hb, hml, hown, hts⟩ hM3 (cwV 0 hts (gV q_119 q_120 q_121 q_12 q_118) rfl rfl rfl hV_Jx4a65c_grow_d5877 ⟨Nat.le_of_ble_eq_true rfl, Nat.le_of_ble_eq_true rfl⟩) ⟨pc_blind, va_recv hK hP (ci := 0) (q := (RJx4a65c, TJx4a65c, 3)) (q0 := 0) rfl rfl, fun U hU hW => ⟨rfl, hC4 U hU hW⟩⟩ rfl rfl hl.1 rfl (lv_room (Nat.le_of_ble_eq_true rfl)) dJx4a65c_add_72be8_7 ⟨(Nat.le_of_ble_eq_true rfl), (Nat.le_of_ble_eq_true rfl)⟩) hS (fun q9 _ h9 => hF1 q9 h9) hF1 (fun u5 r6 t5 H5 L5 ht5 hvm5 hw5 hB5 hz5 hk5 hS => ?_)
  obtain ⟨a7, k8, hr5, hB5⟩ := hB5
  obtain ⟨hP, hD, hK⟩ := pq_jn (wz := [(h0, ce33 a7), (a7, ce34 k8)]) (tz := [(k8, .object "java/lang/Object")]) hP hD hK [0] [] rfl hk5 hF1 hB5.1 ht5 hvm5 rfl rfl
  have hG : s.heap.size + 1 ≤ H5.size := va_gr (g := 0) (g1 := 1) hG (by rw [← ht5]; exact hB5.2)
  refine W.eq (g2 := F0 m 10 ls [.ref a7]) (by rw [hr5]) ?_
  refine W.widen (k := 1) (n := 10) (by decide) (by decide) ?_
  refine lv_astore_n (lv' := [(2, .ref a7), (0, .ref h0), (1, .ref (z.2.2.1 128)), (3, .int 0)]) hx hb dJx4a65c_add_72be8_10 rfl hl (by decide) rfl (fun ls hl => ?_)
  refine lv_aload_n hx hb dJx4a65c_add_72be8_11 rfl (lv_at hl 0 rfl) ?_
  refine lv_iload_n hx hb dJx4a65c_add_72be8_12 rfl (lv_at hl 3 rfl) ?_
  refine lv_aload_n hx hb dJx4a65c_add_72be8_13 rfl (lv_at hl 2 rfl) ?_
  refine vb_astq (E := "java/lang/Object") (C := "java/lang/Integer") hx hb hK hP hD (va_Sre hS) 1 0 rfl rfl (va_Orecv (hX.2.2.1.1.1 128 (by decide)) hS) (vb_asgC (hT.2.1.1 ("java/lang/Integer", "java/lang/Object") (by decide))) (i := 0) (by unfold vp_in; decide) dJx4a65c_add_72be8_14 (fun H9 _ hP hD hS' => ?_)
  have hG : s.heap.size + 1 ≤ H9.size := Nat.le_trans hG hS'.1
  have hS := va_Str hS hS'
  have hP : va_P (dC, dI) xCl [(h0, ce33 a7), (a7, ce35 k8 (z.2.2.1 128))] H9 := hP
  have hD := vd_as hP hD rfl
  refine lv_aload_n hx hb dJx4a65c_add_72be8_15 rfl (lv_at hl 1 rfl) ?_
  refine lv_iload_n hx hb dJx4a65c_add_72be8_16 rfl (lv_at hl 3 rfl) ?_
  refine lv_iconst (v := 1) hx hb dJx4a65c_add_72be8_17 (by decide) ?_
  refine lv_iadd hx hb dJx4a65c_add_72be8_18 ?_
  refine lv_topi (fun y10 ey10 => ?_)
  obtain rfl : y10 = 1 := ey10.trans (by decide)
  refine va_put (D := (dC, dI)) (ci := 0) (v := .int 1) (ty := .int) (C := RJx4a65c) (T := TJx4a65c) (N := 3) hx hb hts in_Jx4a65c tyJx4a65c tyJx4a65c_ok nmJx4a65c hown hK hP hD (va_Sre hS) 0 rfl rfl 2 (by decide) (hts _ q_74) (fun _ h9 => h9) rfl (by decide +kernel) rfl rfl (Nat.le_of_ble_eq_true rfl) dJx4a65c_add_72be8_19 (fun H11 _ hP hD hS' => ?_)
  have hG : s.heap.size + 1 ≤ H11.size := Nat.le_trans hG hS'.1
  have hS := va_Str hS hS'
  have hP : va_P (dC, dI) xCl [(h0, ce36 a7), (a7, ce35 k8 (z.2.2.1 128))] H11 := hP
  have hD := vd_as hP hD rfl
  exact W.vret hx hb hr (fun t9 ht9 hW9 => ⟨⟨(), rfl, trivial, ⟨a7, k8, ⟨pq_mk2 hP hD hK [0, 1] [0] rfl rfl rfl ht9 hW9, by rw [ht9]; exact Nat.le_trans (Nat.add_le_add_left (Nat.le_of_ble_eq_true rfl) _) hG⟩⟩⟩, hS.F ht9⟩) hS.2.2 dJx4a65c_add_72be8_22

set_option maxHeartbeats 4000000 in
set_option maxRecDepth 100000 in
theorem k786_add (l : Launch) (hl9 : l.stackTraces = false) (dC : Nat → ClassId) (dI : Nat → Nat → Nat) (z : XZ) (h0 : Nat) (sz : Nat) : Met l yJx4a65c_add_9ea2d (.code yJx4a65c_add_9ea2d cJx4a65c_add_9ea2d 2 (some .boolean) :: wsL_law) ({ frames := 4, cells := 1, slots := 10, locals := 88 }) (va_Pc [.ref h0, .ref (z.2.2.1 128)] (PC (dC, dI) [(h0, ce3 z.1)] [] sz z)) (va_Qi (fun (r : Int32) (_ : Unit) => r = 1) (fun (_ : Unit) (t : State) => ∃ (n0 : Nat), ∃ (m0 : ClassId), PG (dC, dI) [(h0, ce36 n0), (n0, ce35 m0 (z.2.2.1 128))] [(m0, .object "java/lang/Object")] (va_A [(h0, ce3 z.1)] sz) sz 1 t) (va_A [(h0, ce3 z.1)] sz)) 1 10 (va_A [(h0, ce3 z.1)] sz) := by
  refine Met.ofW (cc := cJx4a65c_add_9ea2d) (maxL := 2) (ret := (some .boolean)) (by decide) rfl ?_
  intro p e s m args below meth c s₁ B hml hv
  obtain ⟨rfl, hsz, hP, hK, hD0, hX, hT⟩ := hv
  have hx := B.exec
  have hb := B.bytes
  have hr := B.returns
  have hts0 := atoms_spec (ws := .code yJx4a65c_add_9ea2d cJx4a65c_add_9ea2d 2 (some .boolean) :: wsL_law) B.pre
  have hts := xTail hts0
  have hown : s.vm.findClass RJx4a65c = some m.cls := xown B.named rfl
  have hlocks := B.notSynchronized
  subst hsz
  have hD := hD0.self (sz := s.heap.size)
  generalize hAe : va_A [(h0, ce3 z.1)] s.heap.size = A at hD hX ⊢
  have hA : ∀ q : Nat, s.heap.size ≤ q → A q := fun q h => by rw [← hAe]; exact Or.inr h
  have hS : va_S A s.heap s.heap [] := va_S.rf
  have hG : s.heap.size + 0 ≤ s.heap.size := Nat.le_refl _
  have hl := lv_entry ([.ref h0, .ref (z.2.2.1 128)]) (n := 2) (Nat.le_of_ble_eq_true rfl)
  rw [lg_entry_eq]
  generalize (lg_sl ([.ref h0, .ref (z.2.2.1 128)]) ++ List.replicate (2 - (lg_sl ([.ref h0, .ref (z.2.2.1 128)])).length) Slot.unset).toArray = ls at hl ⊢
  have hl : lv_has ls 2 [(0, .ref h0), (1, .ref (z.2.2.1 128))] := hl
  refine lv_aload_n hx hb dJx4a65c_add_9ea2d_0 rfl (lv_at hl 0 rfl) ?_
  refine lv_dup hx hb dJx4a65c_add_9ea2d_1 rfl ?_
  refine va_get (D := (dC, dI)) (ci := 0) (v := .int 0) (C := RJx4a65c) (T := TJx4a65c) (N := 3) hx hb hts in_Jx4a65c hown hK hP 0 rfl rfl 0 (by decide) (hts _ q_108) (u_same (hts _ q_107)) rfl dJx4a65c_add_9ea2d_2 ?_
  refine lv_iconst (v := 1) hx hb dJx4a65c_add_9ea2d_5 (by decide) ?_
  refine lv_iadd hx hb dJx4a65c_add_9ea2d_6 ?_
  refine lv_topi (fun y1 ey1 => ?_)
  obtain rfl : y1 = 1 := ey1.trans (by decide)
  refine va_put (D := (dC, dI)) (ci := 0) (v := .int 1) (ty := .int) (C := RJx4a65c) (T := TJx4a65c) (N := 3) hx hb hts in_Jx4a65c tyJx4a65c tyJx4a65c_ok nmJx4a65c hown hK hP hD (va_Sre hS) 0 rfl rfl 0 (by decide) (hts _ q_108) (u_same (hts _ q_107)) rfl (by decide +kernel) rfl rfl (Nat.le_of_ble_eq_true rfl) dJx4a65c_add_9ea2d_7 (fun H2 _ hP hD hS' => ?_)
  have hG : s.heap.size + 0 ≤ H2.size := Nat.le_trans hG hS'.1
  have hS := va_Str hS hS'
  have hP : va_P (dC, dI) xCl [(h0, ce33 z.1)] H2 := hP
  have hD := vd_as hP hD rfl
  refine lv_aload_n hx hb dJx4a65c_add_9ea2d_10 rfl (lv_at hl 0 rfl) ?_
  refine lv_aload_n hx hb dJx4a65c_add_9ea2d_11 rfl (lv_at hl 1 rfl) ?_
  refine lv_aload_n hx hb dJx4a65c_add_9ea2d_12 rfl (lv_at hl 0 rfl) ?_
  refine va_get (D := (dC, dI)) (ci := 0) (v := .ref z.1) (C := RJx4a65c) (T := TJx4a65c) (N := 3) hx hb hts in_Jx4a65c hown hK hP 0 rfl rfl 1 (by decide) (hts _ q_24) (fun _ h9 => h9) rfl dJx4a65c_add_9ea2d_13 ?_
  refine lv_aload_n hx hb dJx4a65c_add_9ea2d_16 rfl (lv_at hl 0 rfl) ?_
  refine va_get (D := (dC, dI)) (ci := 0) (v := .int 0) (C := RJx4a65c) (T := TJx4a65c) (N := 3) hx hb hts in_Jx4a65c hown hK hP 0 rfl rfl 2 (by decide) (hts _ q_74) (fun _ h9 => h9) rfl dJx4a65c_add_9ea2d_17 ?_
  have hM5 := k785_add l hl9 dC dI z h0 H2.size
  obtain ⟨hF3, hC6⟩ := pc_M hM5 hP hD hK hS hX hT hA [0] [] rfl rfl rfl
  refine va_callv (va_runV (As := [.ref (z.2.2.1 128), .ref z.1, .int 0]) (rest := []) ⟨hx, hb, hml, hown, hts⟩ hM5 (cwV 3 hts (gV q_123 q_124 q_125 q_12 q_122) rfl rfl rfl hV_Jx4a65c_add_72be8 ⟨Nat.le_of_ble_eq_true rfl, Nat.le_of_ble_eq_true rfl⟩) ⟨pc_blind, va_recv hK hP (ci := 0) (q := (RJx4a65c, TJx4a65c, 3)) (q0 := 0) rfl rfl, fun U hU hW => ⟨rfl, hC6 U hU hW⟩⟩ rfl rfl hl.1 rfl (lv_room (Nat.le_of_ble_eq_true rfl)) dJx4a65c_add_9ea2d_20 ⟨(Nat.le_of_ble_eq_true rfl), (Nat.le_of_ble_eq_true rfl)⟩) hS (fun q9 _ h9 => hF3 q9 h9) hF3 (fun u7 t7 H7 L7 ht7 hvm7 hw7 hB7 hz7 hk7 hS => ?_)
  obtain ⟨a9, k10, hB7⟩ := hB7
  obtain ⟨hP, hD, hK⟩ := pq_jn (wz := [(h0, ce36 a9), (a9, ce35 k10 (z.2.2.1 128))]) (tz := [(k10, .object "java/lang/Object")]) hP hD hK [0] [] rfl hk7 hF3 hB7.1 ht7 hvm7 rfl rfl
  have hG : s.heap.size + 1 ≤ H7.size := va_gr (g := 0) (g1 := 1) hG (by rw [← ht7]; exact hB7.2)
  refine W.widen (k := 1) (n := 10) (by decide) (by decide) ?_
  refine lv_iconst (v := 1) hx hb dJx4a65c_add_9ea2d_23 (by decide) ?_
  exact W.zret (v := 1) (ty := .boolean) hx hb hr rfl (fun t9 ht9 hW9 => ⟨⟨1, (), rfl, rfl, ⟨a9, k10, ⟨pq_mk2 hP hD hK [0, 1] [0] rfl rfl rfl ht9 hW9, by rw [ht9]; exact Nat.le_trans (Nat.add_le_add_left (Nat.le_of_ble_eq_true rfl) _) hG⟩⟩⟩, hS.F ht9⟩) hS.2.2 dJx4a65c_add_9ea2d_24

set_option maxHeartbeats 4000000 in
set_option maxRecDepth 100000 in
theorem k787_addTest (l : Launch) (hl9 : l.stackTraces = false) (dC : Nat → ClassId) (dI : Nat → Nat → Nat) (z : XZ) (h0 h1 h2 h3 h4 h5 h6 h7 h8 h9 h10 : Nat) (o0 o1 : Nat) (sz : Nat) (kc0 : ClassId) : Met l yX9_addTest (.code yX9_addTest cX9_addTest 2 (some .int) :: wsL_law) ({ frames := 5, cells := 2, slots := 14, locals := 109 }) (va_Pc [.ref h0, .int 0] (PC (dC, dI) [(h0, ce21 h1 o0 h2 o1), (h1, ce331 h3), (h2, ce3 z.1), (h3, ce330 kc0 h4 h5 h6 h7 h8 h9 h10), (h4, ce49), (h5, ce49), (h6, ce49), (h7, ce49), (h8, ce49), (h9, ce49), (h10, ce49)] [(kc0, .object "java/lang/Object")] sz z)) (va_Qi (fun (r : Int32) (_ : Unit) => r = 1) (fun (_ : Unit) (t : State) => ∃ (n0 : Nat), ∃ (m0 : ClassId), PG (dC, dI) [(h0, ce21 h1 o0 h2 o1), (h1, ce331 h3), (h2, ce36 n0), (h3, ce330 kc0 h4 h5 h6 h7 h8 h9 h10), (h4, ce49), (h5, ce49), (h6, ce49), (h7, ce49), (h8, ce49), (h9, ce49), (h10, ce49), (n0, ce35 m0 (z.2.2.1 128))] [(kc0, .object "java/lang/Object"), (m0, .object "java/lang/Object")] (va_A [(h0, ce21 h1 o0 h2 o1), (h1, ce331 h3), (h2, ce3 z.1), (h3, ce330 kc0 h4 h5 h6 h7 h8 h9 h10), (h4, ce49), (h5, ce49), (h6, ce49), (h7, ce49), (h8, ce49), (h9, ce49), (h10, ce49)] sz) sz 2 t) (va_A [(h0, ce21 h1 o0 h2 o1), (h1, ce331 h3), (h2, ce3 z.1), (h3, ce330 kc0 h4 h5 h6 h7 h8 h9 h10), (h4, ce49), (h5, ce49), (h6, ce49), (h7, ce49), (h8, ce49), (h9, ce49), (h10, ce49)] sz)) 2 14 (va_A [(h0, ce21 h1 o0 h2 o1), (h1, ce331 h3), (h2, ce3 z.1), (h3, ce330 kc0 h4 h5 h6 h7 h8 h9 h10), (h4, ce49), (h5, ce49), (h6, ce49), (h7, ce49), (h8, ce49), (h9, ce49), (h10, ce49)] sz) := by
  refine Met.ofW (cc := cX9_addTest) (maxL := 2) (ret := (some .int)) (by decide) rfl ?_
  intro p e s m args below meth c s₁ B hml hv
  obtain ⟨rfl, hsz, hP, hK, hD0, hX, hT⟩ := hv
  have hx := B.exec
  have hb := B.bytes
  have hr := B.returns
  have hts0 := atoms_spec (ws := .code yX9_addTest cX9_addTest 2 (some .int) :: wsL_law) B.pre
  have hts := xTail hts0
  have hown : s.vm.findClass RX9 = some m.cls := xown B.named rfl
  have hlocks := B.notSynchronized
  subst hsz
  have hD := hD0.self (sz := s.heap.size)
  generalize hAe : va_A [(h0, ce21 h1 o0 h2 o1), (h1, ce331 h3), (h2, ce3 z.1), (h3, ce330 kc0 h4 h5 h6 h7 h8 h9 h10), (h4, ce49), (h5, ce49), (h6, ce49), (h7, ce49), (h8, ce49), (h9, ce49), (h10, ce49)] s.heap.size = A at hD hX ⊢
  have hA : ∀ q : Nat, s.heap.size ≤ q → A q := fun q h => by rw [← hAe]; exact Or.inr h
  have hS : va_S A s.heap s.heap [] := va_S.rf
  have hG : s.heap.size + 0 ≤ s.heap.size := Nat.le_refl _
  have hl := lv_entry ([.ref h0, .int 0]) (n := 2) (Nat.le_of_ble_eq_true rfl)
  rw [lg_entry_eq]
  generalize (lg_sl ([.ref h0, .int 0]) ++ List.replicate (2 - (lg_sl ([.ref h0, .int 0])).length) Slot.unset).toArray = ls at hl ⊢
  have hl : lv_has ls 2 [(0, .ref h0), (1, .int 0)] := hl
  refine lv_aload_n hx hb dX9_addTest_0 rfl (lv_at hl 0 rfl) ?_
  refine lv_iconst (v := 0) hx hb dX9_addTest_1 (by decide) ?_
  refine va_put (D := (dC, dI)) (ci := 8) (v := .int 0) (ty := .int) (C := RX9) (T := TX9) (N := 6) hx hb hts in_X9 tyX9 tyX9_ok nmX9 hown hK hP hD (va_Sre hS) 0 rfl rfl 0 (by decide) (hts _ q_243) (fun _ h9 => h9) rfl (by decide +kernel) rfl rfl (Nat.le_of_ble_eq_true rfl) dX9_addTest_2 (fun H1 _ hP hD hS' => ?_)
  have hG : s.heap.size + 0 ≤ H1.size := Nat.le_trans hG hS'.1
  have hS := va_Str hS hS'
  have hP : va_P (dC, dI) xCl [(h0, ce21 h1 o0 h2 o1), (h1, ce331 h3), (h2, ce3 z.1), (h3, ce330 kc0 h4 h5 h6 h7 h8 h9 h10), (h4, ce49), (h5, ce49), (h6, ce49), (h7, ce49), (h8, ce49), (h9, ce49), (h10, ce49)] H1 := hP
  have hD := vd_as hP hD rfl
  refine lv_aload_n hx hb dX9_addTest_5 rfl (lv_at hl 0 rfl) ?_
  refine lv_iload_n hx hb dX9_addTest_6 rfl (lv_at hl 1 rfl) ?_
  refine lv_iconst (v := 0) hx hb dX9_addTest_7 (by decide) ?_
  refine lv_aload_n hx hb dX9_addTest_8 rfl (lv_at hl 0 rfl) ?_
  have hM4 := k783_rows l hl9 dC dI z h0 h1 h3 h4 h5 h6 h7 h8 h9 h10 o0 h2 o1 H1.size kc0
  obtain ⟨hF2, hC5⟩ := pc_M hM4 hP hD hK hS hX hT hA [0, 1, 3, 4, 5, 6, 7, 8, 9, 10] [0] rfl rfl rfl
  refine va_calli (va_runV (As := []) (rest := [.int 0, .int 0, .ref h0]) ⟨hx, hb, hml, hown, hts⟩ hM4 (cwV 0 hts (gV q_371 q_372 q_373 q_60 q_370) rfl rfl rfl hV_X9_rows ⟨Nat.le_of_ble_eq_true rfl, Nat.le_of_ble_eq_true rfl⟩) ⟨pc_blind, va_recv hK hP (ci := 8) (q := (RX9, TX9, 6)) (q0 := 0) rfl rfl, fun U hU hW => ⟨rfl, hC5 U hU hW⟩⟩ rfl rfl hl.1 rfl (lv_room (Nat.le_of_ble_eq_true rfl)) dX9_addTest_9 ⟨(Nat.le_of_ble_eq_true rfl), (Nat.le_of_ble_eq_true rfl)⟩) hS (fun q9 _ h9 => hF2 q9 h9) hF2 (fun r7 u6 t6 H6 L6 ht6 hvm6 hw6 hB6 hz6 hk6 hS => ?_)
  have hP := pq_keep hP hD [0, 1, 3, 4, 5, 6, 7, 8, 9, 10] rfl hk6 hB6.1 ht6
  have hG : s.heap.size + 1 ≤ H6.size := va_gr (g := 0) (g1 := 1) hG (by rw [← ht6]; exact hB6.2)
  refine W.eq (g2 := F0 m 12 ls [.int 128, .int 0, .int 0, .ref h0]) (by rw [hw6]) ?_
  refine W.widen (k := 1) (n := 4) (by decide) (by decide) ?_
  refine lv_iconst (v := 1) hx hb dX9_addTest_12 (by decide) ?_
  refine lv_isub hx hb dX9_addTest_13 ?_
  refine lv_topi (fun y8 ey8 => ?_)
  obtain rfl : y8 = 127 := ey8.trans (by decide)
  have hM11 := k784_in l hl9 dC dI z H6.size
  obtain ⟨hF9, hC12⟩ := pc_M hM11 hP hD hK hS hX hT hA [] [] rfl rfl rfl
  refine va_calli (va_runS (As := [.int 0, .int 0, .int 127]) (rest := [.ref h0]) ⟨hx, hb, hml, hown, hts⟩ hM11 (va_cwS 3 hts (gS q_375 q_376 q_60 q_374) rfl rfl rfl hS_X9_in ⟨Nat.le_of_ble_eq_true rfl, Nat.le_of_ble_eq_true rfl⟩) ⟨pc_blind, fun U hU hW => ⟨rfl, hC12 U hU hW⟩⟩ rfl rfl hl.1 rfl (lv_room (Nat.le_of_ble_eq_true rfl)) dX9_addTest_14 ⟨(Nat.le_of_ble_eq_true rfl), (Nat.le_of_ble_eq_true rfl)⟩) hS (fun q9 _ h9 => hF9 q9 h9) hF9 (fun r14 u13 t13 H13 L13 ht13 hvm13 hw13 hB13 hz13 hk13 hS => ?_)
  have hP := pq_keep hP hD [] rfl hk13 hB13.1 ht13
  have hG : s.heap.size + 1 ≤ H13.size := Nat.le_trans hG hz13
  refine W.eq (g2 := F0 m 17 ls [.int 1, .ref h0]) (by rw [hw13]) ?_
  refine lv_if_ne (tgt := 24) hx hb dX9_addTest_17 (by decide) (fun _ => ?_) (fun cz => absurd cz (by decide))
  refine lv_iconst (v := 0) hx hb dX9_addTest_24 (by decide) ?_
  refine lv_iconst (v := 1) hx hb dX9_addTest_25 (by decide) ?_
  have hM17 := k52_fails l hl9 dC dI z h0 h1 o0 h2 o1 H13.size
  obtain ⟨hF15, hC18⟩ := pc_M hM17 hP hD hK hS hX hT hA [0] [] rfl rfl rfl
  refine va_calli (va_runV (As := [.int 0, .int 1]) (rest := []) ⟨hx, hb, hml, hown, hts⟩ hM17 (cwV 2 hts (gV q_269 q_270 q_271 q_60 q_268) rfl rfl rfl hV_X9_fails ⟨Nat.le_of_ble_eq_true rfl, Nat.le_of_ble_eq_true rfl⟩) ⟨pc_blind, va_recv hK hP (ci := 8) (q := (RX9, TX9, 6)) (q0 := 0) rfl rfl, fun U hU hW => ⟨rfl, hC18 U hU hW⟩⟩ rfl rfl hl.1 rfl (lv_room (Nat.le_of_ble_eq_true rfl)) dX9_addTest_26 ⟨(Nat.le_of_ble_eq_true rfl), (Nat.le_of_ble_eq_true rfl)⟩) hS (fun q9 _ h9 => hF15 q9 h9) hF15 (fun r20 u19 t19 H19 L19 ht19 hvm19 hw19 hB19 hz19 hk19 hS => ?_)
  have hP := pq_keep hP hD [0] rfl hk19 hB19.1 ht19
  have hG : s.heap.size + 1 ≤ H19.size := Nat.le_trans hG hz19
  refine W.eq (g2 := F0 m 29 ls [.int 0]) (by rw [hw19]) ?_
  refine lv_if_ne (tgt := 57) hx hb dX9_addTest_29 (by decide) (fun cz => absurd (by decide) cz) (fun _ => ?_)
  refine lv_aload_n hx hb dX9_addTest_32 rfl (lv_at hl 0 rfl) ?_
  refine lv_aload_n hx hb dX9_addTest_33 rfl (lv_at hl 0 rfl) ?_
  refine va_get (D := (dC, dI)) (ci := 8) (v := .ref h2) (C := RX9) (T := TX9) (N := 6) hx hb hts in_X9 hown hK hP 0 rfl rfl 3 (by decide) (hts _ q_66) (fun _ h9 => h9) rfl dX9_addTest_34 ?_
  have hM23 := k9_size l hl9 dC dI z h2 H19.size 0 0
  obtain ⟨hF21, hC24⟩ := pc_M hM23 hP hD hK hS hX hT hA [2] [] rfl rfl rfl
  refine va_calli (va_runV (As := []) (rest := [.ref h0]) ⟨hx, hb, hml, hown, hts⟩ hM23 (cwV 0 hts (gV q_272 q_77 q_78 q_12 q_75) rfl rfl rfl hV_Jx4a65c_size_8abf5 ⟨Nat.le_of_ble_eq_true rfl, Nat.le_of_ble_eq_true rfl⟩) ⟨pc_blind, va_recv hK hP (ci := 0) (q := (RJx4a65c, TJx4a65c, 3)) (q0 := 2) rfl rfl, fun U hU hW => ⟨rfl, hC24 U hU hW⟩⟩ rfl rfl hl.1 rfl (lv_room (Nat.le_of_ble_eq_true rfl)) dX9_addTest_37 ⟨(Nat.le_of_ble_eq_true rfl), (Nat.le_of_ble_eq_true rfl)⟩) hS (fun q9 _ h9 => hF21 q9 h9) hF21 (fun r26 u25 t25 H25 L25 ht25 hvm25 hw25 hB25 hz25 hk25 hS => ?_)
  have hP := pq_keep hP hD [2] rfl hk25 hB25.1 ht25
  have hG : s.heap.size + 1 ≤ H25.size := Nat.le_trans hG hz25
  refine W.eq (g2 := F0 m 40 ls [.int 0, .ref h0]) (by rw [hw25]) ?_
  refine lv_bipush (v := 8) hx hb dX9_addTest_40 (by decide) ?_
  refine lv_icmp_ne (tgt := 49) hx hb dX9_addTest_42 (by decide) (fun _ => ?_) (fun cz => absurd cz (by decide))
  refine lv_iconst (v := 0) hx hb dX9_addTest_49 (by decide) ?_
  refine lv_iconst (v := 2) hx hb dX9_addTest_50 (by decide) ?_
  have hM29 := k53_fails l hl9 dC dI z h0 h1 o0 h2 o1 H25.size
  obtain ⟨hF27, hC30⟩ := pc_M hM29 hP hD hK hS hX hT hA [0] [] rfl rfl rfl
  refine va_calli (va_runV (As := [.int 0, .int 2]) (rest := []) ⟨hx, hb, hml, hown, hts⟩ hM29 (cwV 2 hts (gV q_269 q_270 q_271 q_60 q_268) rfl rfl rfl hV_X9_fails ⟨Nat.le_of_ble_eq_true rfl, Nat.le_of_ble_eq_true rfl⟩) ⟨pc_blind, va_recv hK hP (ci := 8) (q := (RX9, TX9, 6)) (q0 := 0) rfl rfl, fun U hU hW => ⟨rfl, hC30 U hU hW⟩⟩ rfl rfl hl.1 rfl (lv_room (Nat.le_of_ble_eq_true rfl)) dX9_addTest_51 ⟨(Nat.le_of_ble_eq_true rfl), (Nat.le_of_ble_eq_true rfl)⟩) hS (fun q9 _ h9 => hF27 q9 h9) hF27 (fun r32 u31 t31 H31 L31 ht31 hvm31 hw31 hB31 hz31 hk31 hS => ?_)
  have hP := pq_keep hP hD [0] rfl hk31 hB31.1 ht31
  have hG : s.heap.size + 1 ≤ H31.size := Nat.le_trans hG hz31
  refine W.eq (g2 := F0 m 54 ls [.int 0]) (by rw [hw31]) ?_
  refine lv_if_eq (tgt := 59) hx hb dX9_addTest_54 (by decide) (fun _ => ?_) (fun cz => absurd (by decide) cz)
  refine lv_aload_n hx hb dX9_addTest_59 rfl (lv_at hl 0 rfl) ?_
  refine va_get (D := (dC, dI)) (ci := 8) (v := .ref h2) (C := RX9) (T := TX9) (N := 6) hx hb hts in_X9 hown hK hP 0 rfl rfl 3 (by decide) (hts _ q_66) (fun _ h9 => h9) rfl dX9_addTest_60 ?_
  refine lv_iload_n hx hb dX9_addTest_63 rfl (lv_at hl 1 rfl) ?_
  have hM35 := k58_valueOf l hl9 dC dI z H31.size
  obtain ⟨hF33, hC36⟩ := pc_M hM35 hP hD hK hS hX hT hA [] [] rfl rfl rfl
  refine va_callr (va_runS (As := [.int 0]) (rest := [.ref h2]) ⟨hx, hb, hml, hown, hts⟩ hM35 (va_cwS 1 hts (gS q_295 q_296 q_297 q_294) rfl rfl rfl hS_J6_valueOf_2dffe ⟨Nat.le_of_ble_eq_true rfl, Nat.le_of_ble_eq_true rfl⟩) ⟨pc_blind, fun U hU hW => ⟨rfl, hC36 U hU hW⟩⟩ rfl rfl hl.1 rfl (lv_room (Nat.le_of_ble_eq_true rfl)) dX9_addTest_64 ⟨(Nat.le_of_ble_eq_true rfl), (Nat.le_of_ble_eq_true rfl)⟩) hS (fun q9 _ h9 => hF33 q9 h9) hF33 (fun u37 r38 t37 H37 L37 ht37 hvm37 hw37 hB37 hz37 hk37 hS => ?_)
  obtain ⟨hr37, hB37⟩ := hB37
  have hP := pq_keep hP hD [] rfl hk37 hB37.1 ht37
  have hG : s.heap.size + 1 ≤ H37.size := Nat.le_trans hG hz37
  refine W.eq (g2 := F0 m 67 ls [.ref (z.2.2.1 128), .ref h2]) (by rw [hr37]) ?_
  have hM41 := k786_add l hl9 dC dI z h2 H37.size
  obtain ⟨hF39, hC42⟩ := pc_M hM41 hP hD hK hS hX hT hA [2] [] rfl rfl rfl
  refine va_calli (va_runV (As := [.ref (z.2.2.1 128)]) (rest := []) ⟨hx, hb, hml, hown, hts⟩ hM41 (cwV 1 hts (gV q_284 q_128 q_129 q_12 q_126) rfl rfl rfl hV_Jx4a65c_add_9ea2d ⟨Nat.le_of_ble_eq_true rfl, Nat.le_of_ble_eq_true rfl⟩) ⟨pc_blind, va_recv hK hP (ci := 0) (q := (RJx4a65c, TJx4a65c, 3)) (q0 := 2) rfl rfl, fun U hU hW => ⟨rfl, hC42 U hU hW⟩⟩ rfl rfl hl.1 rfl (lv_room (Nat.le_of_ble_eq_true rfl)) dX9_addTest_67 ⟨(Nat.le_of_ble_eq_true rfl), (Nat.le_of_ble_eq_true rfl)⟩) hS (fun q9 _ h9 => hF39 q9 h9) hF39 (fun r44 u43 t43 H43 L43 ht43 hvm43 hw43 hB43 hz43 hk43 hS => ?_)
  obtain ⟨a45, k46, hB43⟩ := hB43
  obtain ⟨hP, hD, hK⟩ := pq_jn (wz := [(h0, ce21 h1 o0 h2 o1), (h1, ce331 h3), (h3, ce330 kc0 h4 h5 h6 h7 h8 h9 h10), (h4, ce49), (h5, ce49), (h6, ce49), (h7, ce49), (h8, ce49), (h9, ce49), (h10, ce49), (h2, ce36 a45), (a45, ce35 k46 (z.2.2.1 128))]) (tz := [(kc0, .object "java/lang/Object"), (k46, .object "java/lang/Object")]) hP hD hK [2] [0] rfl hk43 hF39 hB43.1 ht43 hvm43 rfl rfl
  have hG : s.heap.size + 2 ≤ H43.size := va_gr (g := 1) (g1 := 1) hG (by rw [← ht43]; exact hB43.2)
  refine W.eq (g2 := F0 m 70 ls [.int 1]) (by rw [hw43]) ?_
  refine W.widen (k := 2) (n := 14) (by decide) (by decide) ?_
  refine lv_pop hx hb dX9_addTest_70 rfl ?_
  refine lv_aload_n hx hb dX9_addTest_71 rfl (lv_at hl 0 rfl) ?_
  refine va_get (D := (dC, dI)) (ci := 8) (v := .ref h2) (C := RX9) (T := TX9) (N := 6) hx hb hts in_X9 hown hK hP 0 rfl rfl 3 (by decide) (hts _ q_66) (fun _ h9 => h9) rfl dX9_addTest_72 ?_
  have hM49 := k20_size l hl9 dC dI z h2 a45 H43.size 1 1
  obtain ⟨hF47, hC50⟩ := pc_M hM49 hP hD hK hS hX hT hA [10] [] rfl rfl rfl
  refine va_calli (va_runV (As := []) (rest := []) ⟨hx, hb, hml, hown, hts⟩ hM49 (cwV 0 hts (gV q_272 q_77 q_78 q_12 q_75) rfl rfl rfl hV_Jx4a65c_size_8abf5 ⟨Nat.le_of_ble_eq_true rfl, Nat.le_of_ble_eq_true rfl⟩) ⟨pc_blind, va_recv hK hP (ci := 0) (q := (RJx4a65c, TJx4a65c, 3)) (q0 := 10) rfl rfl, fun U hU hW => ⟨rfl, hC50 U hU hW⟩⟩ rfl rfl hl.1 rfl (lv_room (Nat.le_of_ble_eq_true rfl)) dX9_addTest_75 ⟨(Nat.le_of_ble_eq_true rfl), (Nat.le_of_ble_eq_true rfl)⟩) hS (fun q9 _ h9 => hF47 q9 h9) hF47 (fun r52 u51 t51 H51 L51 ht51 hvm51 hw51 hB51 hz51 hk51 hS => ?_)
  have hP := pq_keep hP hD [10] rfl hk51 hB51.1 ht51
  have hG : s.heap.size + 2 ≤ H51.size := Nat.le_trans hG hz51
  refine W.eq (g2 := F0 m 78 ls [.int 1]) (by rw [hw51]) ?_
  exact W.iret (v := 1) hx hb hr (fun t9 ht9 hW9 => ⟨⟨1, (), rfl, rfl, ⟨a45, k46, ⟨pq_mk2 hP hD hK [0, 1, 10, 2, 3, 4, 5, 6, 7, 8, 9, 11] [0, 1] rfl rfl rfl ht9 hW9, by rw [ht9]; exact Nat.le_trans (Nat.add_le_add_left (Nat.le_of_ble_eq_true rfl) _) hG⟩⟩⟩, hS.F ht9⟩) hS.2.2 dX9_addTest_78

set_option maxHeartbeats 4000000 in
set_option maxRecDepth 100000 in
theorem k788_rowCount (l : Launch) (hl9 : l.stackTraces = false) (dC : Nat → ClassId) (dI : Nat → Nat → Nat) (z : XZ) (h0 h1 h2 : Nat) (o0 o1 o2 o3 o4 : Nat) (sz : Nat) : Met l yX4_rowCount (.code yX4_rowCount cX4_rowCount 1 (some .int) :: wsL_law) ({ frames := 1, cells := 0, slots := 0, locals := 20 }) (va_Pc [.ref h0] (PC (dC, dI) [(h0, ce404 h1 o0), (h1, ce7 o1 h2 o2 o3), (h2, ce331 o4)] [] sz z)) (va_Qi (fun (r : Int32) (_ : Unit) => r = 128) (fun (_ : Unit) (t : State) => PG (dC, dI) [(h0, ce404 h1 o0), (h1, ce7 o1 h2 o2 o3), (h2, ce331 o4)] [] (va_A [(h0, ce404 h1 o0), (h1, ce7 o1 h2 o2 o3), (h2, ce331 o4)] sz) sz 0 t) (va_A [(h0, ce404 h1 o0), (h1, ce7 o1 h2 o2 o3), (h2, ce331 o4)] sz)) 0 0 (va_A [(h0, ce404 h1 o0), (h1, ce7 o1 h2 o2 o3), (h2, ce331 o4)] sz) := by
  refine Met.ofW (cc := cX4_rowCount) (maxL := 1) (ret := (some .int)) (by decide) rfl ?_
  intro p e s m args below meth c s₁ B hml hv
  obtain ⟨rfl, hsz, hP, hK, hD0, hX, hT⟩ := hv
  have hx := B.exec
  have hb := B.bytes
  have hr := B.returns
  have hts0 := atoms_spec (ws := .code yX4_rowCount cX4_rowCount 1 (some .int) :: wsL_law) B.pre
  have hts := xTail hts0
  have hown : s.vm.findClass RX4 = some m.cls := xown B.named rfl
  have hlocks := B.notSynchronized
  subst hsz
  have hD := hD0.self (sz := s.heap.size)
  generalize hAe : va_A [(h0, ce404 h1 o0), (h1, ce7 o1 h2 o2 o3), (h2, ce331 o4)] s.heap.size = A at hD hX ⊢
  have hA : ∀ q : Nat, s.heap.size ≤ q → A q := fun q h => by rw [← hAe]; exact Or.inr h
  have hS : va_S A s.heap s.heap [] := va_S.rf
  have hG : s.heap.size + 0 ≤ s.heap.size := Nat.le_refl _
  have hl := lv_entry ([.ref h0]) (n := 1) (Nat.le_of_ble_eq_true rfl)
  rw [lg_entry_eq]
  generalize (lg_sl ([.ref h0]) ++ List.replicate (1 - (lg_sl ([.ref h0])).length) Slot.unset).toArray = ls at hl ⊢
  have hl : lv_has ls 1 [(0, .ref h0)] := hl
  refine lv_iconst (v := 1) hx hb dX4_rowCount_0 (by decide) ?_
  refine lv_aload_n hx hb dX4_rowCount_1 rfl (lv_at hl 0 rfl) ?_
  refine va_get (D := (dC, dI)) (ci := 4) (v := .ref h1) (C := RX4) (T := TX4) (N := 3) hx hb hts in_X4 hown hK hP 0 rfl rfl 0 (by decide) (hts _ q_50) (fun _ h9 => h9) rfl dX4_rowCount_2 ?_
  refine va_get (D := (dC, dI)) (ci := 2) (v := .ref h2) (C := RX0) (T := TX0) (N := 4) hx hb hts in_X0 hown hK hP 1 rfl rfl 1 (by decide) (hts _ q_347) (fun _ h9 => h9) rfl dX4_rowCount_5 ?_
  have hM3 := k20_size l hl9 dC dI z h2 o4 s.heap.size 7 7
  obtain ⟨hF1, hC4⟩ := pc_M hM3 hP hD hK hS hX hT hA [2] [] rfl rfl rfl
  refine va_calli (va_runV (As := []) (rest := [.int 1]) ⟨hx, hb, hml, hown, hts⟩ hM3 (cwV 0 hts (gV q_348 q_77 q_78 q_12 q_75) rfl rfl rfl hV_Jx4a65c_size_8abf5 ⟨Nat.le_of_ble_eq_true rfl, Nat.le_of_ble_eq_true rfl⟩) ⟨pc_blind, va_recv hK hP (ci := 0) (q := (RJx4a65c, TJx4a65c, 3)) (q0 := 2) rfl rfl, fun U hU hW => ⟨rfl, hC4 U hU hW⟩⟩ rfl rfl hl.1 rfl (lv_room (Nat.le_of_ble_eq_true rfl)) dX4_rowCount_8 ⟨(Nat.le_of_ble_eq_true rfl), (Nat.le_of_ble_eq_true rfl)⟩) hS (fun q9 _ h9 => hF1 q9 h9) hF1 (fun r6 u5 t5 H5 L5 ht5 hvm5 hw5 hB5 hz5 hk5 hS => ?_)
  have hP := pq_keep hP hD [2] rfl hk5 hB5.1 ht5
  have hG : s.heap.size + 0 ≤ H5.size := Nat.le_trans hG hz5
  refine W.eq (g2 := F0 m 11 ls [.int 7, .int 1]) (by rw [hw5]) ?_
  refine lv_ishl hx hb dX4_rowCount_11 ?_
  refine lv_topi (fun y7 ey7 => ?_)
  obtain rfl : y7 = 128 := ey7.trans (by decide)
  exact W.iret (v := 128) hx hb hr (fun t9 ht9 hW9 => ⟨⟨128, (), rfl, rfl, ⟨pq_mk2 hP hD hK [0, 1, 2] [] rfl rfl rfl ht9 hW9, by rw [ht9]; exact Nat.le_trans (Nat.add_le_add_left (Nat.le_of_ble_eq_true rfl) _) hG⟩⟩, hS.F ht9⟩) hS.2.2 dX4_rowCount_12

set_option maxHeartbeats 4000000 in
set_option maxRecDepth 100000 in
theorem k789_requireRow (l : Launch) (hl9 : l.stackTraces = false) (dC : Nat → ClassId) (dI : Nat → Nat → Nat) (z : XZ) (h0 h1 h2 h3 : Nat) (o0 o1 o2 o3 o4 o5 : Nat) (sz : Nat) : Met l yX6_requireRow (.code yX6_requireRow cX6_requireRow 2 none :: wsL_law) ({ frames := 2, cells := 0, slots := 0, locals := 40 }) (va_Pc [.ref h0, .int 0] (PC (dC, dI) [(h0, ce16 h1 o0 h2), (h1, ce7 o1 h3 o2 o3), (h2, ce404 h1 o4), (h3, ce331 o5)] [] sz z)) (va_Qv (fun (_ : Unit) => True) (fun (_ : Unit) (t : State) => PG (dC, dI) [(h0, ce16 h1 o0 h2), (h1, ce7 o1 h3 o2 o3), (h2, ce404 h1 o4), (h3, ce331 o5)] [] (va_A [(h0, ce16 h1 o0 h2), (h1, ce7 o1 h3 o2 o3), (h2, ce404 h1 o4), (h3, ce331 o5)] sz) sz 0 t) (va_A [(h0, ce16 h1 o0 h2), (h1, ce7 o1 h3 o2 o3), (h2, ce404 h1 o4), (h3, ce331 o5)] sz)) 0 0 (va_A [(h0, ce16 h1 o0 h2), (h1, ce7 o1 h3 o2 o3), (h2, ce404 h1 o4), (h3, ce331 o5)] sz) := by
  refine Met.ofW (cc := cX6_requireRow) (maxL := 2) (ret := none) (by decide) rfl ?_
  intro p e s m args below meth c s₁ B hml hv
  obtain ⟨rfl, hsz, hP, hK, hD0, hX, hT⟩ := hv
  have hx := B.exec
  have hb := B.bytes
  have hr := B.returns
  have hts0 := atoms_spec (ws := .code yX6_requireRow cX6_requireRow 2 none :: wsL_law) B.pre
  have hts := xTail hts0
  have hown : s.vm.findClass RX6 = some m.cls := xown B.named rfl
  have hlocks := B.notSynchronized
  subst hsz
  have hD := hD0.self (sz := s.heap.size)
  generalize hAe : va_A [(h0, ce16 h1 o0 h2), (h1, ce7 o1 h3 o2 o3), (h2, ce404 h1 o4), (h3, ce331 o5)] s.heap.size = A at hD hX ⊢
  have hA : ∀ q : Nat, s.heap.size ≤ q → A q := fun q h => by rw [← hAe]; exact Or.inr h
  have hS : va_S A s.heap s.heap [] := va_S.rf
  have hG : s.heap.size + 0 ≤ s.heap.size := Nat.le_refl _
  have hl := lv_entry ([.ref h0, .int 0]) (n := 2) (Nat.le_of_ble_eq_true rfl)
  rw [lg_entry_eq]
  generalize (lg_sl ([.ref h0, .int 0]) ++ List.replicate (2 - (lg_sl ([.ref h0, .int 0])).length) Slot.unset).toArray = ls at hl ⊢
  have hl : lv_has ls 2 [(0, .ref h0), (1, .int 0)] := hl
  refine lv_iload_n hx hb dX6_requireRow_0 rfl (lv_at hl 1 rfl) ?_
  refine lv_if_lt (tgt := 15) hx hb dX6_requireRow_1 (by decide) (fun cz => absurd cz (by decide)) (fun _ => ?_)
  refine lv_iload_n hx hb dX6_requireRow_4 rfl (lv_at hl 1 rfl) ?_
  refine lv_aload_n hx hb dX6_requireRow_5 rfl (lv_at hl 0 rfl) ?_
  refine va_get (D := (dC, dI)) (ci := 6) (v := .ref h2) (C := RX6) (T := TX6) (N := 3) hx hb hts in_X6 hown hK hP 0 rfl rfl 2 (by decide) (hts _ q_54) (fun _ h9 => h9) rfl dX6_requireRow_6 ?_
  have hM3 := k788_rowCount l hl9 dC dI z h2 h1 h3 o4 o1 o2 o3 o5 s.heap.size
  obtain ⟨hF1, hC4⟩ := pc_M hM3 hP hD hK hS hX hT hA [2, 1, 3] [] rfl rfl rfl
  refine va_calli (va_runV (As := []) (rest := [.int 0]) ⟨hx, hb, hml, hown, hts⟩ hM3 (cwV 0 hts (gV q_350 q_351 q_352 q_46 q_349) rfl rfl rfl hV_X4_rowCount ⟨Nat.le_of_ble_eq_true rfl, Nat.le_of_ble_eq_true rfl⟩) ⟨pc_blind, va_recv hK hP (ci := 4) (q := (RX4, TX4, 3)) (q0 := 2) rfl rfl, fun U hU hW => ⟨rfl, hC4 U hU hW⟩⟩ rfl rfl hl.1 rfl (lv_room (Nat.le_of_ble_eq_true rfl)) dX6_requireRow_9 ⟨(Nat.le_of_ble_eq_true rfl), (Nat.le_of_ble_eq_true rfl)⟩) hS (fun q9 _ h9 => hF1 q9 h9) hF1 (fun r6 u5 t5 H5 L5 ht5 hvm5 hw5 hB5 hz5 hk5 hS => ?_)
  have hP := pq_keep hP hD [2, 1, 3] rfl hk5 hB5.1 ht5
  have hG : s.heap.size + 0 ≤ H5.size := Nat.le_trans hG hz5
  refine W.eq (g2 := F0 m 12 ls [.int 128, .int 0]) (by rw [hw5]) ?_
  refine lv_icmp_lt (tgt := 26) hx hb dX6_requireRow_12 (by decide) (fun _ => ?_) (fun cz => absurd (by decide) cz)
  exact W.vret hx hb hr (fun t9 ht9 hW9 => ⟨⟨(), rfl, trivial, ⟨pq_mk2 hP hD hK [0, 1, 2, 3] [] rfl rfl rfl ht9 hW9, by rw [ht9]; exact Nat.le_trans (Nat.add_le_add_left (Nat.le_of_ble_eq_true rfl) _) hG⟩⟩, hS.F ht9⟩) hS.2.2 dX6_requireRow_26

set_option maxHeartbeats 4000000 in
set_option maxRecDepth 100000 in
theorem k790_keepTest (l : Launch) (hl9 : l.stackTraces = false) (dC : Nat → ClassId) (dI : Nat → Nat → Nat) (z : XZ) (h0 h1 : Nat) (o0 : Nat) (sz : Nat) (kc0 : ClassId) : Met l yX4_keepTest (.code yX4_keepTest cX4_keepTest 2 none :: wsL_law) ({ frames := 0, cells := 0, slots := 0, locals := 0 }) (va_Pc [.ref h0, .int 0] (PC (dC, dI) [(h0, ce404 o0 h1), (h1, ce403 kc0)] [(kc0, .int)] sz z)) (va_Qv (fun (_ : Unit) => True) (fun (_ : Unit) (t : State) => PG (dC, dI) [(h0, ce407 o0 h1), (h1, ce406 kc0)] [(kc0, .int)] (va_A [(h0, ce404 o0 h1), (h1, ce403 kc0)] sz) sz 0 t) (va_A [(h0, ce404 o0 h1), (h1, ce403 kc0)] sz)) 0 0 (va_A [(h0, ce404 o0 h1), (h1, ce403 kc0)] sz) := by
  refine Met.ofW (cc := cX4_keepTest) (maxL := 2) (ret := none) (by decide) rfl ?_
  intro p e s m args below meth c s₁ B hml hv
  obtain ⟨rfl, hsz, hP, hK, hD0, hX, hT⟩ := hv
  have hx := B.exec
  have hb := B.bytes
  have hr := B.returns
  have hts0 := atoms_spec (ws := .code yX4_keepTest cX4_keepTest 2 none :: wsL_law) B.pre
  have hts := xTail hts0
  have hown : s.vm.findClass RX4 = some m.cls := xown B.named rfl
  have hlocks := B.notSynchronized
  subst hsz
  have hD := hD0.self (sz := s.heap.size)
  generalize hAe : va_A [(h0, ce404 o0 h1), (h1, ce403 kc0)] s.heap.size = A at hD hX ⊢
  have hA : ∀ q : Nat, s.heap.size ≤ q → A q := fun q h => by rw [← hAe]; exact Or.inr h
  have hS : va_S A s.heap s.heap [] := va_S.rf
  have hG : s.heap.size + 0 ≤ s.heap.size := Nat.le_refl _
  have hl := lv_entry ([.ref h0, .int 0]) (n := 2) (Nat.le_of_ble_eq_true rfl)
  rw [lg_entry_eq]
  generalize (lg_sl ([.ref h0, .int 0]) ++ List.replicate (2 - (lg_sl ([.ref h0, .int 0])).length) Slot.unset).toArray = ls at hl ⊢
  have hl : lv_has ls 2 [(0, .ref h0), (1, .int 0)] := hl
  refine lv_aload_n hx hb dX4_keepTest_0 rfl (lv_at hl 0 rfl) ?_
  refine va_get (D := (dC, dI)) (ci := 4) (v := .int 1) (C := RX4) (T := TX4) (N := 3) hx hb hts in_X4 hown hK hP 0 rfl rfl 2 (by decide) (hts _ q_358) (fun _ h9 => h9) rfl dX4_keepTest_1 ?_
  refine lv_aload_n hx hb dX4_keepTest_4 rfl (lv_at hl 0 rfl) ?_
  refine va_get (D := (dC, dI)) (ci := 4) (v := .ref h1) (C := RX4) (T := TX4) (N := 3) hx hb hts in_X4 hown hK hP 0 rfl rfl 1 (by decide) (hts _ q_49) (fun _ h9 => h9) rfl dX4_keepTest_5 ?_
  refine va_alen hx hb hK hP 1 0 rfl rfl (v := 8) rfl dX4_keepTest_8 ?_
  refine lv_icmp_ge (tgt := 32) hx hb dX4_keepTest_9 (by decide) (fun cz => absurd cz (by decide)) (fun _ => ?_)
  refine lv_aload_n hx hb dX4_keepTest_12 rfl (lv_at hl 0 rfl) ?_
  refine va_get (D := (dC, dI)) (ci := 4) (v := .ref h1) (C := RX4) (T := TX4) (N := 3) hx hb hts in_X4 hown hK hP 0 rfl rfl 1 (by decide) (hts _ q_49) (fun _ h9 => h9) rfl dX4_keepTest_13 ?_
  refine lv_aload_n hx hb dX4_keepTest_16 rfl (lv_at hl 0 rfl) ?_
  refine va_get (D := (dC, dI)) (ci := 4) (v := .int 1) (C := RX4) (T := TX4) (N := 3) hx hb hts in_X4 hown hK hP 0 rfl rfl 2 (by decide) (hts _ q_358) (fun _ h9 => h9) rfl dX4_keepTest_17 ?_
  refine lv_iload_n hx hb dX4_keepTest_20 rfl (lv_at hl 1 rfl) ?_
  refine va_iast hx hb hK hP hD (va_Sre hS) 1 0 rfl rfl (i := 1) (by unfold vp_in; decide) dX4_keepTest_21 (fun H1 _ hP hD hS' => ?_)
  have hG : s.heap.size + 0 ≤ H1.size := Nat.le_trans hG hS'.1
  have hS := va_Str hS hS'
  have hP : va_P (dC, dI) xCl [(h0, ce404 o0 h1), (h1, ce406 kc0)] H1 := hP
  have hD := vd_as hP hD rfl
  refine lv_aload_n hx hb dX4_keepTest_22 rfl (lv_at hl 0 rfl) ?_
  refine lv_dup hx hb dX4_keepTest_23 rfl ?_
  refine va_get (D := (dC, dI)) (ci := 4) (v := .int 1) (C := RX4) (T := TX4) (N := 3) hx hb hts in_X4 hown hK hP 0 rfl rfl 2 (by decide) (hts _ q_358) (fun _ h9 => h9) rfl dX4_keepTest_24 ?_
  refine lv_iconst (v := 1) hx hb dX4_keepTest_27 (by decide) ?_
  refine lv_iadd hx hb dX4_keepTest_28 ?_
  refine lv_topi (fun y2 ey2 => ?_)
  obtain rfl : y2 = 2 := ey2.trans (by decide)
  refine va_put (D := (dC, dI)) (ci := 4) (v := .int 2) (ty := .int) (C := RX4) (T := TX4) (N := 3) hx hb hts in_X4 tyX4 tyX4_ok nmX4 hown hK hP hD (va_Sre hS) 0 rfl rfl 2 (by decide) (hts _ q_358) (fun _ h9 => h9) rfl (by decide +kernel) rfl rfl (Nat.le_of_ble_eq_true rfl) dX4_keepTest_29 (fun H3 _ hP hD hS' => ?_)
  have hG : s.heap.size + 0 ≤ H3.size := Nat.le_trans hG hS'.1
  have hS := va_Str hS hS'
  have hP : va_P (dC, dI) xCl [(h0, ce407 o0 h1), (h1, ce406 kc0)] H3 := hP
  have hD := vd_as hP hD rfl
  exact W.vret hx hb hr (fun t9 ht9 hW9 => ⟨⟨(), rfl, trivial, ⟨pq_mk2 hP hD hK [0, 1] [0] rfl rfl rfl ht9 hW9, by rw [ht9]; exact Nat.le_trans (Nat.add_le_add_left (Nat.le_of_ble_eq_true rfl) _) hG⟩⟩, hS.F ht9⟩) hS.2.2 dX4_keepTest_32

set_option maxHeartbeats 4000000 in
set_option maxRecDepth 100000 in
theorem k791_addTest (l : Launch) (hl9 : l.stackTraces = false) (dC : Nat → ClassId) (dI : Nat → Nat → Nat) (z : XZ) (h0 h1 h2 h3 h4 : Nat) (o0 o1 o2 o3 o4 : Nat) (sz : Nat) (kc0 : ClassId) : Met l yX6_addTest (.code yX6_addTest cX6_addTest 2 (some .int) :: wsL_law) ({ frames := 3, cells := 0, slots := 0, locals := 61 }) (va_Pc [.ref h0, .int 0] (PC (dC, dI) [(h0, ce16 h1 o0 h2), (h1, ce7 o1 h3 o2 o3), (h2, ce404 h1 h4), (h3, ce331 o4), (h4, ce403 kc0)] [(kc0, .int)] sz z)) (va_Qi (fun (r : Int32) (_ : Unit) => r = 2) (fun (_ : Unit) (t : State) => PG (dC, dI) [(h0, ce16 h1 o0 h2), (h1, ce7 o1 h3 o2 o3), (h2, ce407 h1 h4), (h3, ce331 o4), (h4, ce406 kc0)] [(kc0, .int)] (va_A [(h0, ce16 h1 o0 h2), (h1, ce7 o1 h3 o2 o3), (h2, ce404 h1 h4), (h3, ce331 o4), (h4, ce403 kc0)] sz) sz 0 t) (va_A [(h0, ce16 h1 o0 h2), (h1, ce7 o1 h3 o2 o3), (h2, ce404 h1 h4), (h3, ce331 o4), (h4, ce403 kc0)] sz)) 0 0 (va_A [(h0, ce16 h1 o0 h2), (h1, ce7 o1 h3 o2 o3), (h2, ce404 h1 h4), (h3, ce331 o4), (h4, ce403 kc0)] sz) := by
  refine Met.ofW (cc := cX6_addTest) (maxL := 2) (ret := (some .int)) (by decide) rfl ?_
  intro p e s m args below meth c s₁ B hml hv
  obtain ⟨rfl, hsz, hP, hK, hD0, hX, hT⟩ := hv
  have hx := B.exec
  have hb := B.bytes
  have hr := B.returns
  have hts0 := atoms_spec (ws := .code yX6_addTest cX6_addTest 2 (some .int) :: wsL_law) B.pre
  have hts := xTail hts0
  have hown : s.vm.findClass RX6 = some m.cls := xown B.named rfl
  have hlocks := B.notSynchronized
  subst hsz
  have hD := hD0.self (sz := s.heap.size)
  generalize hAe : va_A [(h0, ce16 h1 o0 h2), (h1, ce7 o1 h3 o2 o3), (h2, ce404 h1 h4), (h3, ce331 o4), (h4, ce403 kc0)] s.heap.size = A at hD hX ⊢
  have hA : ∀ q : Nat, s.heap.size ≤ q → A q := fun q h => by rw [← hAe]; exact Or.inr h
  have hS : va_S A s.heap s.heap [] := va_S.rf
  have hG : s.heap.size + 0 ≤ s.heap.size := Nat.le_refl _
  have hl := lv_entry ([.ref h0, .int 0]) (n := 2) (Nat.le_of_ble_eq_true rfl)
  rw [lg_entry_eq]
  generalize (lg_sl ([.ref h0, .int 0]) ++ List.replicate (2 - (lg_sl ([.ref h0, .int 0])).length) Slot.unset).toArray = ls at hl ⊢
  have hl : lv_has ls 2 [(0, .ref h0), (1, .int 0)] := hl
  refine lv_aload_n hx hb dX6_addTest_0 rfl (lv_at hl 0 rfl) ?_
  refine lv_iload_n hx hb dX6_addTest_1 rfl (lv_at hl 1 rfl) ?_
  have hM3 := k789_requireRow l hl9 dC dI z h0 h1 h2 h3 o0 o1 o2 o3 h4 o4 s.heap.size
  obtain ⟨hF1, hC4⟩ := pc_M hM3 hP hD hK hS hX hT hA [0, 1, 2, 3] [] rfl rfl rfl
  refine va_callv (va_runV (As := [.int 0]) (rest := []) ⟨hx, hb, hml, hown, hts⟩ hM3 (cwV 1 hts (gV q_354 q_355 q_356 q_2 q_353) rfl rfl rfl hV_X6_requireRow ⟨Nat.le_of_ble_eq_true rfl, Nat.le_of_ble_eq_true rfl⟩) ⟨pc_blind, va_recv hK hP (ci := 6) (q := (RX6, TX6, 3)) (q0 := 0) rfl rfl, fun U hU hW => ⟨rfl, hC4 U hU hW⟩⟩ rfl rfl hl.1 rfl (lv_room (Nat.le_of_ble_eq_true rfl)) dX6_addTest_2 ⟨(Nat.le_of_ble_eq_true rfl), (Nat.le_of_ble_eq_true rfl)⟩) hS (fun q9 _ h9 => hF1 q9 h9) hF1 (fun u5 t5 H5 L5 ht5 hvm5 hw5 hB5 hz5 hk5 hS => ?_)
  have hP := pq_keep hP hD [0, 1, 2, 3] rfl hk5 hB5.1 ht5
  have hG : s.heap.size + 0 ≤ H5.size := Nat.le_trans hG hz5
  refine lv_aload_n hx hb dX6_addTest_5 rfl (lv_at hl 0 rfl) ?_
  refine va_get (D := (dC, dI)) (ci := 6) (v := .ref h2) (C := RX6) (T := TX6) (N := 3) hx hb hts in_X6 hown hK hP 0 rfl rfl 2 (by decide) (hts _ q_54) (fun _ h9 => h9) rfl dX6_addTest_6 ?_
  refine va_get (D := (dC, dI)) (ci := 4) (v := .int 1) (C := RX4) (T := TX4) (N := 3) hx hb hts in_X4 hown hK hP 2 rfl rfl 2 (by decide) (hts _ q_357) (fun _ h9 => h9) rfl dX6_addTest_9 ?_
  refine lv_bipush (v := 8) hx hb dX6_addTest_12 (by decide) ?_
  refine lv_icmp_lt (tgt := 27) hx hb dX6_addTest_14 (by decide) (fun _ => ?_) (fun cz => absurd (by decide) cz)
  refine lv_aload_n hx hb dX6_addTest_27 rfl (lv_at hl 0 rfl) ?_
  refine va_get (D := (dC, dI)) (ci := 6) (v := .ref h2) (C := RX6) (T := TX6) (N := 3) hx hb hts in_X6 hown hK hP 0 rfl rfl 2 (by decide) (hts _ q_54) (fun _ h9 => h9) rfl dX6_addTest_28 ?_
  refine lv_iload_n hx hb dX6_addTest_31 rfl (lv_at hl 1 rfl) ?_
  have hM9 := k790_keepTest l hl9 dC dI z h2 h4 h1 H5.size kc0
  obtain ⟨hF7, hC10⟩ := pc_M hM9 hP hD hK hS hX hT hA [2, 4] [0] rfl rfl rfl
  refine va_callv (va_runV (As := [.int 0]) (rest := []) ⟨hx, hb, hml, hown, hts⟩ hM9 (cwV 1 hts (gV q_360 q_361 q_362 q_46 q_359) rfl rfl rfl hV_X4_keepTest ⟨Nat.le_of_ble_eq_true rfl, Nat.le_of_ble_eq_true rfl⟩) ⟨pc_blind, va_recv hK hP (ci := 4) (q := (RX4, TX4, 3)) (q0 := 2) rfl rfl, fun U hU hW => ⟨rfl, hC10 U hU hW⟩⟩ rfl rfl hl.1 rfl (lv_room (Nat.le_of_ble_eq_true rfl)) dX6_addTest_32 ⟨(Nat.le_of_ble_eq_true rfl), (Nat.le_of_ble_eq_true rfl)⟩) hS (fun q9 _ h9 => hF7 q9 h9) hF7 (fun u11 t11 H11 L11 ht11 hvm11 hw11 hB11 hz11 hk11 hS => ?_)
  obtain ⟨hP, hD, hK⟩ := pq_jn (wz := [(h0, ce16 h1 o0 h2), (h1, ce7 o1 h3 o2 o3), (h3, ce331 o4), (h2, ce407 h1 h4), (h4, ce406 kc0)]) (tz := [(kc0, .int)]) hP hD hK [2, 4] [] rfl hk11 hF7 hB11.1 ht11 hvm11 rfl rfl
  have hG : s.heap.size + 0 ≤ H11.size := Nat.le_trans hG hz11
  refine lv_aload_n hx hb dX6_addTest_35 rfl (lv_at hl 0 rfl) ?_
  refine va_get (D := (dC, dI)) (ci := 6) (v := .ref h2) (C := RX6) (T := TX6) (N := 3) hx hb hts in_X6 hown hK hP 0 rfl rfl 2 (by decide) (hts _ q_54) (fun _ h9 => h9) rfl dX6_addTest_36 ?_
  refine va_get (D := (dC, dI)) (ci := 4) (v := .int 2) (C := RX4) (T := TX4) (N := 3) hx hb hts in_X4 hown hK hP 3 rfl rfl 2 (by decide) (hts _ q_357) (fun _ h9 => h9) rfl dX6_addTest_39 ?_
  exact W.iret (v := 2) hx hb hr (fun t9 ht9 hW9 => ⟨⟨2, (), rfl, rfl, ⟨pq_mk2 hP hD hK [0, 1, 3, 2, 4] [0] rfl rfl rfl ht9 hW9, by rw [ht9]; exact Nat.le_trans (Nat.add_le_add_left (Nat.le_of_ble_eq_true rfl) _) hG⟩⟩, hS.F ht9⟩) hS.2.2 dX6_addTest_42

set_option maxHeartbeats 4000000 in
set_option maxRecDepth 100000 in
theorem k792_addTest (l : Launch) (hl9 : l.stackTraces = false) (dC : Nat → ClassId) (dI : Nat → Nat → Nat) (z : XZ) (h0 h1 h2 h3 h4 h5 : Nat) (o0 o1 o2 o3 o4 : Nat) (sz : Nat) (kc0 kc1 : ClassId) : Met l yL_addTest (.codeWith yL_addTest cL_addTest 4 (some .int) [(0, 9, 12, 64), (0, 9, 15, 15)] :: wsL_law) ({ frames := 4, cells := 0, slots := 0, locals := 82 }) (va_Pc [.ref h0, .int 0, .ref h1] (PC (dC, dI) [(h0, ce16 h2 o0 h3), (h1, ce81 kc0), (h2, ce7 o1 h4 o2 o3), (h3, ce404 h2 h5), (h4, ce331 o4), (h5, ce403 kc1)] [(kc0, .long), (kc1, .int)] sz z)) (va_Qi (fun (r : Int32) (_ : Unit) => r = 0) (fun (_ : Unit) (t : State) => PG (dC, dI) [(h0, ce16 h2 o0 h3), (h1, ce119 kc0), (h2, ce7 o1 h4 o2 o3), (h3, ce407 h2 h5), (h4, ce331 o4), (h5, ce406 kc1)] [(kc0, .long), (kc1, .int)] (va_A [(h0, ce16 h2 o0 h3), (h1, ce81 kc0), (h2, ce7 o1 h4 o2 o3), (h3, ce404 h2 h5), (h4, ce331 o4), (h5, ce403 kc1)] sz) sz 0 t) (va_A [(h0, ce16 h2 o0 h3), (h1, ce81 kc0), (h2, ce7 o1 h4 o2 o3), (h3, ce404 h2 h5), (h4, ce331 o4), (h5, ce403 kc1)] sz)) 0 0 (va_A [(h0, ce16 h2 o0 h3), (h1, ce81 kc0), (h2, ce7 o1 h4 o2 o3), (h3, ce404 h2 h5), (h4, ce331 o4), (h5, ce403 kc1)] sz) := by
  refine va_MetW (cc := cL_addTest) (maxL := 4) (ret := (some .int)) (hh := [(0, 9, 12, 64), (0, 9, 15, 15)]) (by decide) rfl ?_
  intro p e s m args below meth c s₁ B hml hv
  obtain ⟨rfl, hsz, hP, hK, hD0, hX, hT⟩ := hv
  have hx := B.exec
  have hb := B.bytes
  have hr := B.returns
  have hts0 := atoms_spec (ws := .codeWith yL_addTest cL_addTest 4 (some .int) [(0, 9, 12, 64), (0, 9, 15, 15)] :: wsL_law) B.pre
  have htab := vx_table (x := yL_addTest) B (hts0 _ List.mem_cons_self)
  have hts := xTail hts0
  have hown : s.vm.findClass RL = some m.cls := xown B.named rfl
  have hlocks := B.notSynchronized
  subst hsz
  have hD := hD0.self (sz := s.heap.size)
  generalize hAe : va_A [(h0, ce16 h2 o0 h3), (h1, ce81 kc0), (h2, ce7 o1 h4 o2 o3), (h3, ce404 h2 h5), (h4, ce331 o4), (h5, ce403 kc1)] s.heap.size = A at hD hX ⊢
  have hA : ∀ q : Nat, s.heap.size ≤ q → A q := fun q h => by rw [← hAe]; exact Or.inr h
  have hS : va_S A s.heap s.heap [] := va_S.rf
  have hG : s.heap.size + 0 ≤ s.heap.size := Nat.le_refl _
  have hl := lv_entry ([.ref h0, .int 0, .ref h1]) (n := 4) (Nat.le_of_ble_eq_true rfl)
  rw [lg_entry_eq]
  generalize (lg_sl ([.ref h0, .int 0, .ref h1]) ++ List.replicate (4 - (lg_sl ([.ref h0, .int 0, .ref h1])).length) Slot.unset).toArray = ls at hl ⊢
  have hl : lv_has ls 4 [(0, .ref h0), (1, .int 0), (2, .ref h1)] := hl
  refine lv_aload_n hx hb dL_addTest_0 rfl (lv_at hl 2 rfl) ?_
  refine lv_iconst (v := 0) hx hb dL_addTest_1 (by decide) ?_
  refine lv_aload_n hx hb dL_addTest_2 rfl (lv_at hl 0 rfl) ?_
  refine lv_iload_n hx hb dL_addTest_3 rfl (lv_at hl 1 rfl) ?_
  have hM3 := k791_addTest l hl9 dC dI z h0 h2 h3 h4 h5 o0 o1 o2 o3 o4 s.heap.size kc1
  obtain ⟨hF1, hC4⟩ := pc_M hM3 hP hD hK hS hX hT hA [0, 2, 3, 4, 5] [1] rfl rfl rfl
  refine va_calli (va_runV (As := [.int 0]) (rest := [.int 0, .ref h1]) ⟨hx, hb, hml, hown, hts⟩ hM3 (cwV 1 hts (gV q_364 q_365 q_366 q_2 q_363) rfl rfl rfl hV_X6_addTest ⟨Nat.le_of_ble_eq_true rfl, Nat.le_of_ble_eq_true rfl⟩) ⟨pc_blind, va_recv hK hP (ci := 6) (q := (RX6, TX6, 3)) (q0 := 0) rfl rfl, fun U hU hW => ⟨rfl, hC4 U hU hW⟩⟩ rfl rfl hl.1 rfl (lv_room (Nat.le_of_ble_eq_true rfl)) dL_addTest_4 ⟨(Nat.le_of_ble_eq_true rfl), (Nat.le_of_ble_eq_true rfl)⟩) hS (fun q9 _ h9 => hF1 q9 h9) hF1 (fun r6 u5 t5 H5 L5 ht5 hvm5 hw5 hB5 hz5 hk5 hS => ?_)
  obtain ⟨hP, hD, hK⟩ := pq_jn (wz := [(h1, ce81 kc0), (h0, ce16 h2 o0 h3), (h2, ce7 o1 h4 o2 o3), (h3, ce407 h2 h5), (h4, ce331 o4), (h5, ce406 kc1)]) (tz := [(kc0, .long), (kc1, .int)]) hP hD hK [0, 2, 3, 4, 5] [0] rfl hk5 hF1 hB5.1 ht5 hvm5 rfl rfl
  have hG : s.heap.size + 0 ≤ H5.size := Nat.le_trans hG hz5
  refine W.eq (g2 := F0 m 7 ls [.int 2, .int 0, .ref h1]) (by rw [hw5]) ?_
  refine lv_i2l (v := 2) hx hb dL_addTest_7 (by decide) ?_
  refine va_last hx hb hK hP hD (va_Sre hS) 0 0 rfl rfl (i := 0) (by unfold vp_in; decide) dL_addTest_8 (fun H7 _ hP hD hS' => ?_)
  have hG : s.heap.size + 0 ≤ H7.size := Nat.le_trans hG hS'.1
  have hS := va_Str hS hS'
  have hP : va_P (dC, dI) xCl [(h1, ce118 kc0), (h0, ce16 h2 o0 h3), (h2, ce7 o1 h4 o2 o3), (h3, ce407 h2 h5), (h4, ce331 o4), (h5, ce406 kc1)] H7 := hP
  have hD := vd_as hP hD rfl
  refine lv_goto (tgt := 18) hx hb dL_addTest_9 (by decide) ?_
  refine lv_iconst (v := 0) hx hb dL_addTest_18 (by decide) ?_
  have ehu8 : (vp_updL (vp_updL (fun _ => 0) 0 1) 0 2) = (vp_updL (fun _ => 0) 0 2) := by funext j; by_cases g0 : j = 0; (subst g0; rfl); simp only [vp_updL, g0, if_false]
  have hu8 : (ce118 kc0 : va_E) = ce119 kc0 := (show (.inl (kc0, 1, .inr (.inl (vp_updL (vp_updL (fun _ => 0) 0 1) 0 2))) : va_E) = .inl (kc0, 1, .inr (.inl (vp_updL (fun _ => 0) 0 2))) by rw [ehu8])
  rw [hu8] at hP hD
  have hP : va_P (dC, dI) xCl [(h1, ce119 kc0), (h0, ce16 h2 o0 h3), (h2, ce7 o1 h4 o2 o3), (h3, ce407 h2 h5), (h4, ce331 o4), (h5, ce406 kc1)] H7 := hP
  have hD := vd_as hP hD rfl
  exact W.iret (v := 0) hx hb hr (fun t9 ht9 hW9 => ⟨⟨0, (), rfl, rfl, ⟨pq_mk2 hP hD hK [1, 0, 2, 3, 4, 5] [0, 1] rfl rfl rfl ht9 hW9, by rw [ht9]; exact Nat.le_trans (Nat.add_le_add_left (Nat.le_of_ble_eq_true rfl) _) hG⟩⟩, hS.F ht9⟩) hS.2.2 dL_addTest_19

set_option maxHeartbeats 4000000 in
set_option maxRecDepth 100000 in
theorem k793_add (l : Launch) (hl9 : l.stackTraces = false) (dC : Nat → ClassId) (dI : Nat → Nat → Nat) (z : XZ) (h0 h1 : Nat) (sz : Nat) (kc0 : ClassId) : Met l yJx4a65c_add_72be8 (.code yJx4a65c_add_72be8 cJx4a65c_add_72be8 4 none :: wsL_law) ({ frames := 0, cells := 0, slots := 0, locals := 0 }) (va_Pc [.ref h0, .ref (z.2.2.1 128), .ref h1, .int 1] (PC (dC, dI) [(h0, ce40 h1), (h1, ce35 kc0 (z.2.2.1 128))] [(kc0, .object "java/lang/Object")] sz z)) (va_Qv (fun (_ : Unit) => True) (fun (_ : Unit) (t : State) => PG (dC, dI) [(h0, ce69 h1), (h1, ce68 kc0 (z.2.2.1 128) (z.2.2.1 128))] [(kc0, .object "java/lang/Object")] (va_A [(h0, ce40 h1), (h1, ce35 kc0 (z.2.2.1 128))] sz) sz 0 t) (va_A [(h0, ce40 h1), (h1, ce35 kc0 (z.2.2.1 128))] sz)) 0 0 (va_A [(h0, ce40 h1), (h1, ce35 kc0 (z.2.2.1 128))] sz) := by
  refine Met.ofW (cc := cJx4a65c_add_72be8) (maxL := 4) (ret := none) (by decide) rfl ?_
  intro p e s m args below meth c s₁ B hml hv
  obtain ⟨rfl, hsz, hP, hK, hD0, hX, hT⟩ := hv
  have hx := B.exec
  have hb := B.bytes
  have hr := B.returns
  have hts0 := atoms_spec (ws := .code yJx4a65c_add_72be8 cJx4a65c_add_72be8 4 none :: wsL_law) B.pre
  have hts := xTail hts0
  have hown : s.vm.findClass RJx4a65c = some m.cls := xown B.named rfl
  have hlocks := B.notSynchronized
  subst hsz
  have hD := hD0.self (sz := s.heap.size)
  generalize hAe : va_A [(h0, ce40 h1), (h1, ce35 kc0 (z.2.2.1 128))] s.heap.size = A at hD hX ⊢
  have hA : ∀ q : Nat, s.heap.size ≤ q → A q := fun q h => by rw [← hAe]; exact Or.inr h
  have hS : va_S A s.heap s.heap [] := va_S.rf
  have hG : s.heap.size + 0 ≤ s.heap.size := Nat.le_refl _
  have hl := lv_entry ([.ref h0, .ref (z.2.2.1 128), .ref h1, .int 1]) (n := 4) (Nat.le_of_ble_eq_true rfl)
  rw [lg_entry_eq]
  generalize (lg_sl ([.ref h0, .ref (z.2.2.1 128), .ref h1, .int 1]) ++ List.replicate (4 - (lg_sl ([.ref h0, .ref (z.2.2.1 128), .ref h1, .int 1])).length) Slot.unset).toArray = ls at hl ⊢
  have hl : lv_has ls 4 [(0, .ref h0), (1, .ref (z.2.2.1 128)), (2, .ref h1), (3, .int 1)] := hl
  refine lv_iload_n hx hb dJx4a65c_add_72be8_0 rfl (lv_at hl 3 rfl) ?_
  refine lv_aload_n hx hb dJx4a65c_add_72be8_1 rfl (lv_at hl 2 rfl) ?_
  refine va_alen hx hb hK hP 1 0 rfl rfl (v := 10) rfl dJx4a65c_add_72be8_2 ?_
  refine lv_icmp_ne (tgt := 11) hx hb dJx4a65c_add_72be8_3 (by decide) (fun _ => ?_) (fun cz => absurd cz (by decide))
  refine lv_aload_n hx hb dJx4a65c_add_72be8_11 rfl (lv_at hl 2 rfl) ?_
  refine lv_iload_n hx hb dJx4a65c_add_72be8_12 rfl (lv_at hl 3 rfl) ?_
  refine lv_aload_n hx hb dJx4a65c_add_72be8_13 rfl (lv_at hl 1 rfl) ?_
  refine vb_astq (E := "java/lang/Object") (C := "java/lang/Integer") hx hb hK hP hD (va_Sre hS) 1 0 rfl rfl (va_Orecv (hX.2.2.1.1.1 128 (by decide)) hS) (vb_asgC (hT.2.1.1 ("java/lang/Integer", "java/lang/Object") (by decide))) (i := 1) (by unfold vp_in; decide) dJx4a65c_add_72be8_14 (fun H1 _ hP hD hS' => ?_)
  have hG : s.heap.size + 0 ≤ H1.size := Nat.le_trans hG hS'.1
  have hS := va_Str hS hS'
  have hP : va_P (dC, dI) xCl [(h0, ce40 h1), (h1, ce68 kc0 (z.2.2.1 128) (z.2.2.1 128))] H1 := hP
  have hD := vd_as hP hD rfl
  refine lv_aload_n hx hb dJx4a65c_add_72be8_15 rfl (lv_at hl 0 rfl) ?_
  refine lv_iload_n hx hb dJx4a65c_add_72be8_16 rfl (lv_at hl 3 rfl) ?_
  refine lv_iconst (v := 1) hx hb dJx4a65c_add_72be8_17 (by decide) ?_
  refine lv_iadd hx hb dJx4a65c_add_72be8_18 ?_
  refine lv_topi (fun y2 ey2 => ?_)
  obtain rfl : y2 = 2 := ey2.trans (by decide)
  refine va_put (D := (dC, dI)) (ci := 0) (v := .int 2) (ty := .int) (C := RJx4a65c) (T := TJx4a65c) (N := 3) hx hb hts in_Jx4a65c tyJx4a65c tyJx4a65c_ok nmJx4a65c hown hK hP hD (va_Sre hS) 0 rfl rfl 2 (by decide) (hts _ q_74) (fun _ h9 => h9) rfl (by decide +kernel) rfl rfl (Nat.le_of_ble_eq_true rfl) dJx4a65c_add_72be8_19 (fun H3 _ hP hD hS' => ?_)
  have hG : s.heap.size + 0 ≤ H3.size := Nat.le_trans hG hS'.1
  have hS := va_Str hS hS'
  have hP : va_P (dC, dI) xCl [(h0, ce69 h1), (h1, ce68 kc0 (z.2.2.1 128) (z.2.2.1 128))] H3 := hP
  have hD := vd_as hP hD rfl
  exact W.vret hx hb hr (fun t9 ht9 hW9 => ⟨⟨(), rfl, trivial, ⟨pq_mk2 hP hD hK [0, 1] [0] rfl rfl rfl ht9 hW9, by rw [ht9]; exact Nat.le_trans (Nat.add_le_add_left (Nat.le_of_ble_eq_true rfl) _) hG⟩⟩, hS.F ht9⟩) hS.2.2 dJx4a65c_add_72be8_22

set_option maxHeartbeats 4000000 in
set_option maxRecDepth 100000 in
theorem k794_add (l : Launch) (hl9 : l.stackTraces = false) (dC : Nat → ClassId) (dI : Nat → Nat → Nat) (z : XZ) (h0 h1 : Nat) (sz : Nat) (kc0 : ClassId) : Met l yJx4a65c_add_9ea2d (.code yJx4a65c_add_9ea2d cJx4a65c_add_9ea2d 2 (some .boolean) :: wsL_law) ({ frames := 1, cells := 0, slots := 0, locals := 23 }) (va_Pc [.ref h0, .ref (z.2.2.1 128)] (PC (dC, dI) [(h0, ce36 h1), (h1, ce35 kc0 (z.2.2.1 128))] [(kc0, .object "java/lang/Object")] sz z)) (va_Qi (fun (r : Int32) (_ : Unit) => r = 1) (fun (_ : Unit) (t : State) => PG (dC, dI) [(h0, ce69 h1), (h1, ce68 kc0 (z.2.2.1 128) (z.2.2.1 128))] [(kc0, .object "java/lang/Object")] (va_A [(h0, ce36 h1), (h1, ce35 kc0 (z.2.2.1 128))] sz) sz 0 t) (va_A [(h0, ce36 h1), (h1, ce35 kc0 (z.2.2.1 128))] sz)) 0 0 (va_A [(h0, ce36 h1), (h1, ce35 kc0 (z.2.2.1 128))] sz) := by
  refine Met.ofW (cc := cJx4a65c_add_9ea2d) (maxL := 2) (ret := (some .boolean)) (by decide) rfl ?_
  intro p e s m args below meth c s₁ B hml hv
  obtain ⟨rfl, hsz, hP, hK, hD0, hX, hT⟩ := hv
  have hx := B.exec
  have hb := B.bytes
  have hr := B.returns
  have hts0 := atoms_spec (ws := .code yJx4a65c_add_9ea2d cJx4a65c_add_9ea2d 2 (some .boolean) :: wsL_law) B.pre
  have hts := xTail hts0
  have hown : s.vm.findClass RJx4a65c = some m.cls := xown B.named rfl
  have hlocks := B.notSynchronized
  subst hsz
  have hD := hD0.self (sz := s.heap.size)
  generalize hAe : va_A [(h0, ce36 h1), (h1, ce35 kc0 (z.2.2.1 128))] s.heap.size = A at hD hX ⊢
  have hA : ∀ q : Nat, s.heap.size ≤ q → A q := fun q h => by rw [← hAe]; exact Or.inr h
  have hS : va_S A s.heap s.heap [] := va_S.rf
  have hG : s.heap.size + 0 ≤ s.heap.size := Nat.le_refl _
  have hl := lv_entry ([.ref h0, .ref (z.2.2.1 128)]) (n := 2) (Nat.le_of_ble_eq_true rfl)
  rw [lg_entry_eq]
  generalize (lg_sl ([.ref h0, .ref (z.2.2.1 128)]) ++ List.replicate (2 - (lg_sl ([.ref h0, .ref (z.2.2.1 128)])).length) Slot.unset).toArray = ls at hl ⊢
  have hl : lv_has ls 2 [(0, .ref h0), (1, .ref (z.2.2.1 128))] := hl
  refine lv_aload_n hx hb dJx4a65c_add_9ea2d_0 rfl (lv_at hl 0 rfl) ?_
  refine lv_dup hx hb dJx4a65c_add_9ea2d_1 rfl ?_
  refine va_get (D := (dC, dI)) (ci := 0) (v := .int 1) (C := RJx4a65c) (T := TJx4a65c) (N := 3) hx hb hts in_Jx4a65c hown hK hP 0 rfl rfl 0 (by decide) (hts _ q_108) (u_same (hts _ q_107)) rfl dJx4a65c_add_9ea2d_2 ?_
  refine lv_iconst (v := 1) hx hb dJx4a65c_add_9ea2d_5 (by decide) ?_
  refine lv_iadd hx hb dJx4a65c_add_9ea2d_6 ?_
  refine lv_topi (fun y1 ey1 => ?_)
  obtain rfl : y1 = 2 := ey1.trans (by decide)
  refine va_put (D := (dC, dI)) (ci := 0) (v := .int 2) (ty := .int) (C := RJx4a65c) (T := TJx4a65c) (N := 3) hx hb hts in_Jx4a65c tyJx4a65c tyJx4a65c_ok nmJx4a65c hown hK hP hD (va_Sre hS) 0 rfl rfl 0 (by decide) (hts _ q_108) (u_same (hts _ q_107)) rfl (by decide +kernel) rfl rfl (Nat.le_of_ble_eq_true rfl) dJx4a65c_add_9ea2d_7 (fun H2 _ hP hD hS' => ?_)
  have hG : s.heap.size + 0 ≤ H2.size := Nat.le_trans hG hS'.1
  have hS := va_Str hS hS'
  have hP : va_P (dC, dI) xCl [(h0, ce40 h1), (h1, ce35 kc0 (z.2.2.1 128))] H2 := hP
  have hD := vd_as hP hD rfl
  refine lv_aload_n hx hb dJx4a65c_add_9ea2d_10 rfl (lv_at hl 0 rfl) ?_
  refine lv_aload_n hx hb dJx4a65c_add_9ea2d_11 rfl (lv_at hl 1 rfl) ?_
  refine lv_aload_n hx hb dJx4a65c_add_9ea2d_12 rfl (lv_at hl 0 rfl) ?_
  refine va_get (D := (dC, dI)) (ci := 0) (v := .ref h1) (C := RJx4a65c) (T := TJx4a65c) (N := 3) hx hb hts in_Jx4a65c hown hK hP 0 rfl rfl 1 (by decide) (hts _ q_24) (fun _ h9 => h9) rfl dJx4a65c_add_9ea2d_13 ?_
  refine lv_aload_n hx hb dJx4a65c_add_9ea2d_16 rfl (lv_at hl 0 rfl) ?_
  refine va_get (D := (dC, dI)) (ci := 0) (v := .int 1) (C := RJx4a65c) (T := TJx4a65c) (N := 3) hx hb hts in_Jx4a65c hown hK hP 0 rfl rfl 2 (by decide) (hts _ q_74) (fun _ h9 => h9) rfl dJx4a65c_add_9ea2d_17 ?_
  have hM5 := k793_add l hl9 dC dI z h0 h1 H2.size kc0
  obtain ⟨hF3, hC6⟩ := pc_M hM5 hP hD hK hS hX hT hA [0, 1] [0] rfl rfl rfl
  refine va_callv (va_runV (As := [.ref (z.2.2.1 128), .ref h1, .int 1]) (rest := []) ⟨hx, hb, hml, hown, hts⟩ hM5 (cwV 3 hts (gV q_123 q_124 q_125 q_12 q_122) rfl rfl rfl hV_Jx4a65c_add_72be8 ⟨Nat.le_of_ble_eq_true rfl, Nat.le_of_ble_eq_true rfl⟩) ⟨pc_blind, va_recv hK hP (ci := 0) (q := (RJx4a65c, TJx4a65c, 3)) (q0 := 0) rfl rfl, fun U hU hW => ⟨rfl, hC6 U hU hW⟩⟩ rfl rfl hl.1 rfl (lv_room (Nat.le_of_ble_eq_true rfl)) dJx4a65c_add_9ea2d_20 ⟨(Nat.le_of_ble_eq_true rfl), (Nat.le_of_ble_eq_true rfl)⟩) hS (fun q9 _ h9 => hF3 q9 h9) hF3 (fun u7 t7 H7 L7 ht7 hvm7 hw7 hB7 hz7 hk7 hS => ?_)
  obtain ⟨hP, hD, hK⟩ := pq_jn (wz := [(h0, ce69 h1), (h1, ce68 kc0 (z.2.2.1 128) (z.2.2.1 128))]) (tz := [(kc0, .object "java/lang/Object")]) hP hD hK [0, 1] [] rfl hk7 hF3 hB7.1 ht7 hvm7 rfl rfl
  have hG : s.heap.size + 0 ≤ H7.size := Nat.le_trans hG hz7
  refine lv_iconst (v := 1) hx hb dJx4a65c_add_9ea2d_23 (by decide) ?_
  exact W.zret (v := 1) (ty := .boolean) hx hb hr rfl (fun t9 ht9 hW9 => ⟨⟨1, (), rfl, rfl, ⟨pq_mk2 hP hD hK [0, 1] [0] rfl rfl rfl ht9 hW9, by rw [ht9]; exact Nat.le_trans (Nat.add_le_add_left (Nat.le_of_ble_eq_true rfl) _) hG⟩⟩, hS.F ht9⟩) hS.2.2 dJx4a65c_add_9ea2d_24
