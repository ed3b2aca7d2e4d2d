set_option maxHeartbeats 4000000 in
set_option maxRecDepth 100000 in
theorem k241_comeNow (l : Launch) (hl9 : l.stackTraces = false) (dC : Nat → ClassId) (dI : Nat → Nat → Nat) (z : XZ) (h0 h1 h2 h3 h4 : Nat) (sz : Nat) (p0 : Int32) : Met l yX9_comeNow (.code yX9_comeNow cX9_comeNow 4 none :: wsL_law) ({ frames := 3, cells := 1, slots := 4, locals := 57 }) (va_Pc [.ref h0] (PC (dC, dI) [(h0, .inr (8, [.int 0, .ref h1, .ref h2, .ref h3, .ref h4, .int p0])), (h1, .inr (0, [.int 0, .ref z.1, .int 0])), (h2, .inr (0, [.int 0, .ref z.1, .int 0])), (h3, .inr (0, [.int 0, .ref z.1, .int 0])), (h4, .inr (0, [.int 0, .ref z.1, .int 0]))] [] sz z)) (va_Qv (fun (_ : Unit) => True) (fun (_ : Unit) (t : State) => PQ (dC, dI) [(h0, .inr (8, [.int 0, .ref h1, .ref h2, .ref h3, .ref h4, .int p0])), (h1, .inr (0, [.int 0, .ref z.1, .int 0])), (h2, .inr (0, [.int 0, .ref z.1, .int 0])), (h3, .inr (0, [.int 0, .ref z.1, .int 0])), (h4, .inr (0, [.int 0, .ref z.1, .int 0]))] [] (va_A [(h0, .inr (8, [.int 0, .ref h1, .ref h2, .ref h3, .ref h4, .int p0])), (h1, .inr (0, [.int 0, .ref z.1, .int 0])), (h2, .inr (0, [.int 0, .ref z.1, .int 0])), (h3, .inr (0, [.int 0, .ref z.1, .int 0])), (h4, .inr (0, [.int 0, .ref z.1, .int 0]))] sz) t) (va_A [(h0, .inr (8, [.int 0, .ref h1, .ref h2, .ref h3, .ref h4, .int p0])), (h1, .inr (0, [.int 0, .ref z.1, .int 0])), (h2, .inr (0, [.int 0, .ref z.1, .int 0])), (h3, .inr (0, [.int 0, .ref z.1, .int 0])), (h4, .inr (0, [.int 0, .ref z.1, .int 0]))] sz)) 1 4 (va_A [(h0, .inr (8, [.int 0, .ref h1, .ref h2, .ref h3, .ref h4, .int p0])), (h1, .inr (0, [.int 0, .ref z.1, .int 0])), (h2, .inr (0, [.int 0, .ref z.1, .int 0])), (h3, .inr (0, [.int 0, .ref z.1, .int 0])), (h4, .inr (0, [.int 0, .ref z.1, .int 0]))] sz) := by
  refine Met.ofW (cc := cX9_comeNow) (maxL := 4) (ret := none) (by decide) rfl ?_
  intro p e s m args below meth c s₁ B hml hv
  obtain ⟨rfl, hsz, hP, hK, hD0, hX, hT⟩ := hv
  have hx := B.exec
  have hb := B.bytes
  have hr := B.returns
  have hts0 := atoms_spec (ws := .code yX9_comeNow cX9_comeNow 4 none :: wsL_law) B.pre
  have hts := xTail hts0
  have hown : s.vm.findClass RX9 = some m.cls := findClass_of_methodNamed B.named
  have hlocks := B.notSynchronized
  subst hsz
  have hD := hD0.self (sz := s.heap.size)
  generalize hAe : va_A [(h0, .inr (8, [.int 0, .ref h1, .ref h2, .ref h3, .ref h4, .int p0])), (h1, .inr (0, [.int 0, .ref z.1, .int 0])), (h2, .inr (0, [.int 0, .ref z.1, .int 0])), (h3, .inr (0, [.int 0, .ref z.1, .int 0])), (h4, .inr (0, [.int 0, .ref z.1, .int 0]))] s.heap.size = A at hD hX ⊢
  have hA : ∀ q : Nat, s.heap.size ≤ q → A q := fun q h => by rw [← hAe]; exact Or.inr h
  have hS : va_S A s.heap s.heap [] := va_S.rf
  have hl := lv_entry ([.ref h0]) (n := 4) (Nat.le_of_ble_eq_true rfl)
  rw [lg_entry_eq]
  generalize (lg_sl ([.ref h0]) ++ List.replicate (4 - (lg_sl ([.ref h0])).length) Slot.unset).toArray = ls at hl ⊢
  have hl : lv_has ls 4 [(0, .ref h0)] := hl
  refine lv_iconst (v := 1) hx hb dX9_comeNow_0 (by decide) ?_
  refine lv_istore_n (lv' := [(1, .int 1), (0, .ref h0)]) hx hb dX9_comeNow_1 rfl hl (by decide) rfl (fun ls hl => ?_)
  refine lv_iload_n hx hb dX9_comeNow_2 rfl (lv_at hl 0 rfl) ?_
  refine lv_if_eq (tgt := 83) hx hb dX9_comeNow_3 (by decide) (fun cz => absurd cz (by decide)) (fun _ => ?_)
  refine lv_iconst (v := 0) hx hb dX9_comeNow_6 (by decide) ?_
  refine lv_istore_n (lv' := [(1, .int 0), (0, .ref h0)]) hx hb dX9_comeNow_7 rfl hl (by decide) rfl (fun ls hl => ?_)
  refine lv_aload_n hx hb dX9_comeNow_8 rfl (lv_at hl 1 rfl) ?_
  refine va_get (D := (dC, dI)) (ci := 8) (v := .ref h2) (C := RX9) (T := TX9) (N := 6) hx hb hts in_X9 hown hK hP 0 rfl rfl 2 (by decide) (hts _ q_56) (fun _ h9 => h9) rfl dX9_comeNow_9 ?_
  have hF1 := va_free (wc := [(h2, .inr (0, [.int 0, .ref z.1, .int 0]))]) hD hS hA [2] rfl
  refine va_callr (va_runV (As := []) (rest := []) ⟨hx, hb, hml, hown, hts⟩ (k51_iterator l hl9 dC dI z h2 s.heap.size) (cwV 0 hts (gV q_243 q_244 q_245 q_9 q_242) rfl rfl rfl (by decide +kernel) ⟨Nat.le_of_ble_eq_true rfl, Nat.le_of_ble_eq_true rfl⟩) ⟨pc_blind, va_recv hK hP (ci := 0) (q0 := 2) rfl rfl, fun U hU hW => ⟨rfl, pc_mk hP hD hK hS hX hT [2] [] rfl rfl rfl rfl hF1 hU hW⟩⟩ rfl rfl hl.1 rfl (lv_room (Nat.le_of_ble_eq_true rfl)) dX9_comeNow_12 ⟨(Nat.le_of_ble_eq_true rfl), (Nat.le_of_ble_eq_true rfl)⟩) hS (fun q9 _ h9 => hF1 q9 h9) hF1 (fun u3 r4 t3 H3 L3 ht3 hvm3 hw3 hB3 hz3 hk3 hS => ?_)
  obtain ⟨a5, hr3, hB3⟩ := hB3
  obtain ⟨hP, hD, hK⟩ := pq_join (wr := [(h0, .inr (8, [.int 0, .ref h1, .ref h2, .ref h3, .ref h4, .int p0])), (h1, .inr (0, [.int 0, .ref z.1, .int 0])), (h3, .inr (0, [.int 0, .ref z.1, .int 0])), (h4, .inr (0, [.int 0, .ref z.1, .int 0]))]) (tr := []) (wz := [(h0, .inr (8, [.int 0, .ref h1, .ref h2, .ref h3, .ref h4, .int p0])), (h1, .inr (0, [.int 0, .ref z.1, .int 0])), (h3, .inr (0, [.int 0, .ref z.1, .int 0])), (h4, .inr (0, [.int 0, .ref z.1, .int 0])), (h2, .inr (0, [.int 0, .ref z.1, .int 0])), (a5, .inr (1, [.int 0, .int (-1), .int 0, .ref h2]))]) (tz := []) hP hD hK [2] [0, 1, 3, 4] [] rfl rfl (by decide) (by decide) rfl hk3 hF1 hB3 ht3 hvm3 rfl rfl
  refine W.eq (g2 := F0 m 15 ls [.ref a5]) (by rw [hr3]) ?_
  refine W.widen (k := 1) (n := 4) (by decide) (by decide) ?_
  refine lv_astore_n (lv' := [(2, .ref a5), (1, .int 0), (0, .ref h0)]) hx hb dX9_comeNow_15 rfl hl (by decide) rfl (fun ls hl => ?_)
  refine lv_aload_n hx hb dX9_comeNow_16 rfl (lv_at hl 0 rfl) ?_
  have hF6 := va_free (wc := [(a5, .inr (1, [.int 0, .int (-1), .int 0, .ref h2])), (h2, .inr (0, [.int 0, .ref z.1, .int 0]))]) hD hS hA [5, 4] rfl
  refine va_callFi (va_runF (As := []) (rest := []) (hK.1 1 _ rfl).2 ⟨hx, hb, hml, hown, hts⟩ (k52_hasNext l hl9 dC dI z a5 h2 H3.size) (va_cwF 0 hts (gF q_248 q_249 q_250 q_233 q_247) rfl rfl rfl hT.2.2.2.2.2.2.1 (by decide +kernel) ⟨Nat.le_of_ble_eq_true rfl, Nat.le_of_ble_eq_true rfl⟩) ⟨pc_blind, va_recv hK hP (ci := 1) (q0 := 5) rfl rfl, fun U hU hW => ⟨rfl, pc_mk hP hD hK hS hX hT [5, 4] [] rfl rfl rfl rfl hF6 hU hW⟩⟩ rfl rfl hl.1 rfl (lv_room (Nat.le_of_ble_eq_true rfl)) dX9_comeNow_17 ⟨(Nat.le_of_ble_eq_true rfl), (Nat.le_of_ble_eq_true rfl)⟩) hS (fun q9 _ h9 => hF6 q9 h9) hF6 (fun r9 u8 t8 H8 L8 ht8 hvm8 hw8 hB8 hz8 hk8 hS => ?_)
  obtain ⟨hP, hD, hK⟩ := pq_join (wr := [(h0, .inr (8, [.int 0, .ref h1, .ref h2, .ref h3, .ref h4, .int p0])), (h1, .inr (0, [.int 0, .ref z.1, .int 0])), (h3, .inr (0, [.int 0, .ref z.1, .int 0])), (h4, .inr (0, [.int 0, .ref z.1, .int 0]))]) (tr := []) (wz := [(h0, .inr (8, [.int 0, .ref h1, .ref h2, .ref h3, .ref h4, .int p0])), (h1, .inr (0, [.int 0, .ref z.1, .int 0])), (h3, .inr (0, [.int 0, .ref z.1, .int 0])), (h4, .inr (0, [.int 0, .ref z.1, .int 0])), (a5, .inr (1, [.int 0, .int (-1), .int 0, .ref h2])), (h2, .inr (0, [.int 0, .ref z.1, .int 0]))]) (tz := []) hP hD hK [5, 4] [0, 1, 2, 3] [] rfl rfl (by decide) (by decide) rfl hk8 hF6 hB8 ht8 hvm8 rfl rfl
  refine W.eq (g2 := F0 m 22 ls [.int 0]) (by rw [hw8]) ?_
  refine lv_if_eq (tgt := 64) hx hb dX9_comeNow_22 (by decide) (fun _ => ?_) (fun cz => absurd (by decide) cz)
  refine lv_iload_n hx hb dX9_comeNow_64 rfl (lv_at hl 1 rfl) ?_
  refine lv_if_eq (tgt := 2) hx hb dX9_comeNow_65 (by decide) (fun _ => ?_) (fun cz => absurd (by decide) cz)
  refine lv_iload_n hx hb dX9_comeNow_2 rfl (lv_at hl 1 rfl) ?_
  refine lv_if_eq (tgt := 83) hx hb dX9_comeNow_3 (by decide) (fun _ => ?_) (fun cz => absurd (by decide) cz)
  exact W.vret hx hb hr (fun t9 ht9 hW9 => ⟨⟨(), rfl, trivial, pq_mk (wc := [(h0, .inr (8, [.int 0, .ref h1, .ref h2, .ref h3, .ref h4, .int p0])), (h1, .inr (0, [.int 0, .ref z.1, .int 0])), (h2, .inr (0, [.int 0, .ref z.1, .int 0])), (h3, .inr (0, [.int 0, .ref z.1, .int 0])), (h4, .inr (0, [.int 0, .ref z.1, .int 0]))]) (tc := []) hP hD hK [0, 1, 5, 2, 3] [] rfl rfl rfl rfl ht9 hW9⟩, hS.F ht9⟩) hS.2.2 dX9_comeNow_83

set_option maxHeartbeats 4000000 in
set_option maxRecDepth 100000 in
theorem k242_pass (l : Launch) (hl9 : l.stackTraces = false) (dC : Nat → ClassId) (dI : Nat → Nat → Nat) (z : XZ) (h0 h1 h2 h3 h4 : Nat) (sz : Nat) (p0 : Int32) (hv0 : xBt p0 1 100 = 1) : Met l yX9_pass (.code yX9_pass cX9_pass 3 (some .int) :: wsL_law) ({ frames := 4, cells := 100, slots := 400, locals := 80 }) (va_Pc [.ref h0, .int p0] (PC (dC, dI) [(h0, .inr (8, [.int 0, .ref h1, .ref h2, .ref h3, .ref h4, .int 0])), (h1, .inr (0, [.int 0, .ref z.1, .int 0])), (h2, .inr (0, [.int 0, .ref z.1, .int 0])), (h3, .inr (0, [.int 0, .ref z.1, .int 0])), (h4, .inr (0, [.int 0, .ref z.1, .int 0]))] [] sz z)) (va_Qi (fun (r : Int32) (_ : Unit) => r = p0) (fun (_ : Unit) (t : State) => PQ (dC, dI) [(h0, .inr (8, [.int 0, .ref h1, .ref h2, .ref h3, .ref h4, .int p0])), (h1, .inr (0, [.int 0, .ref z.1, .int 0])), (h2, .inr (0, [.int 0, .ref z.1, .int 0])), (h3, .inr (0, [.int 0, .ref z.1, .int 0])), (h4, .inr (0, [.int 0, .ref z.1, .int 0]))] [] (va_A [(h0, .inr (8, [.int 0, .ref h1, .ref h2, .ref h3, .ref h4, .int 0])), (h1, .inr (0, [.int 0, .ref z.1, .int 0])), (h2, .inr (0, [.int 0, .ref z.1, .int 0])), (h3, .inr (0, [.int 0, .ref z.1, .int 0])), (h4, .inr (0, [.int 0, .ref z.1, .int 0]))] sz) t) (va_A [(h0, .inr (8, [.int 0, .ref h1, .ref h2, .ref h3, .ref h4, .int 0])), (h1, .inr (0, [.int 0, .ref z.1, .int 0])), (h2, .inr (0, [.int 0, .ref z.1, .int 0])), (h3, .inr (0, [.int 0, .ref z.1, .int 0])), (h4, .inr (0, [.int 0, .ref z.1, .int 0]))] sz)) 100 400 (va_A [(h0, .inr (8, [.int 0, .ref h1, .ref h2, .ref h3, .ref h4, .int 0])), (h1, .inr (0, [.int 0, .ref z.1, .int 0])), (h2, .inr (0, [.int 0, .ref z.1, .int 0])), (h3, .inr (0, [.int 0, .ref z.1, .int 0])), (h4, .inr (0, [.int 0, .ref z.1, .int 0]))] sz) := by
  refine Met.ofW (cc := cX9_pass) (maxL := 3) (ret := (some .int)) (by decide) rfl ?_
  intro p e s m args below meth c s₁ B hml hv
  obtain ⟨rfl, hsz, hP, hK, hD0, hX, hT⟩ := hv
  have hx := B.exec
  have hb := B.bytes
  have hr := B.returns
  have hts0 := atoms_spec (ws := .code yX9_pass cX9_pass 3 (some .int) :: wsL_law) B.pre
  have hts := xTail hts0
  have hown : s.vm.findClass RX9 = some m.cls := findClass_of_methodNamed B.named
  have hlocks := B.notSynchronized
  subst hsz
  have hD := hD0.self (sz := s.heap.size)
  generalize hAe : va_A [(h0, .inr (8, [.int 0, .ref h1, .ref h2, .ref h3, .ref h4, .int 0])), (h1, .inr (0, [.int 0, .ref z.1, .int 0])), (h2, .inr (0, [.int 0, .ref z.1, .int 0])), (h3, .inr (0, [.int 0, .ref z.1, .int 0])), (h4, .inr (0, [.int 0, .ref z.1, .int 0]))] s.heap.size = A at hD hX ⊢
  have hA : ∀ q : Nat, s.heap.size ≤ q → A q := fun q h => by rw [← hAe]; exact Or.inr h
  have hS : va_S A s.heap s.heap [] := va_S.rf
  have hl := lv_entry ([.ref h0, .int p0]) (n := 3) (Nat.le_of_ble_eq_true rfl)
  rw [lg_entry_eq]
  generalize (lg_sl ([.ref h0, .int p0]) ++ List.replicate (3 - (lg_sl ([.ref h0, .int p0])).length) Slot.unset).toArray = ls at hl ⊢
  have hl : lv_has ls 3 [(0, .ref h0), (1, .int p0)] := hl
  refine lv_aload_n hx hb dX9_pass_0 rfl (lv_at hl 0 rfl) ?_
  refine lv_iconst (v := 0) hx hb dX9_pass_1 (by decide) ?_
  refine va_put (D := (dC, dI)) (ci := 8) (v := .int 0) (ty := .int) (C := RX9) (T := TX9) (N := 6) hx hb hts in_X9 tyX9 tyX9_ok nmX9 hown hK hP hD hS 0 rfl rfl 0 (by decide) (hts _ q_230) (fun _ h9 => h9) rfl (by decide +kernel) rfl rfl (Nat.le_of_ble_eq_true rfl) dX9_pass_2 (fun H1 _ hP hD hS => ?_)
  have hP : va_P (dC, dI) xCl [(h0, .inr (8, [.int 0, .ref h1, .ref h2, .ref h3, .ref h4, .int 0])), (h1, .inr (0, [.int 0, .ref z.1, .int 0])), (h2, .inr (0, [.int 0, .ref z.1, .int 0])), (h3, .inr (0, [.int 0, .ref z.1, .int 0])), (h4, .inr (0, [.int 0, .ref z.1, .int 0]))] H1 := hP
  have hD : va_D A [(h0, .inr (8, [.int 0, .ref h1, .ref h2, .ref h3, .ref h4, .int 0])), (h1, .inr (0, [.int 0, .ref z.1, .int 0])), (h2, .inr (0, [.int 0, .ref z.1, .int 0])), (h3, .inr (0, [.int 0, .ref z.1, .int 0])), (h4, .inr (0, [.int 0, .ref z.1, .int 0]))] := hD
  refine lv_aload_n hx hb dX9_pass_5 rfl (lv_at hl 0 rfl) ?_
  refine lv_iload_n hx hb dX9_pass_6 rfl (lv_at hl 1 rfl) ?_
  refine lv_iconst (v := 1) hx hb dX9_pass_7 (by decide) ?_
  refine lv_bipush (v := 100) hx hb dX9_pass_8 (by decide) ?_
  have hF2 := va_free (wc := []) hD hS hA [] rfl
  refine va_calli (va_runS (As := [.int p0, .int 1, .int 100]) (rest := [.ref h0]) ⟨hx, hb, hml, hown, hts⟩ (k233_in l hl9 dC dI z H1.size p0) (va_cwS 3 hts (gS q_359 q_360 q_255 q_358) rfl rfl rfl (by decide +kernel) ⟨Nat.le_of_ble_eq_true rfl, Nat.le_of_ble_eq_true rfl⟩) ⟨pc_blind, fun U hU hW => ⟨rfl, pc_mk hP hD hK hS hX hT [] [] rfl rfl rfl rfl hF2 hU hW⟩⟩ rfl rfl hl.1 rfl (lv_room (Nat.le_of_ble_eq_true rfl)) dX9_pass_10 ⟨(Nat.le_of_ble_eq_true rfl), (Nat.le_of_ble_eq_true rfl)⟩) hS (fun q9 _ h9 => hF2 q9 h9) hF2 (fun r5 u4 t4 H4 L4 ht4 hvm4 hw4 hB4 hz4 hk4 hS => ?_)
  obtain ⟨hP, hD, hK⟩ := pq_join (wr := [(h0, .inr (8, [.int 0, .ref h1, .ref h2, .ref h3, .ref h4, .int 0])), (h1, .inr (0, [.int 0, .ref z.1, .int 0])), (h2, .inr (0, [.int 0, .ref z.1, .int 0])), (h3, .inr (0, [.int 0, .ref z.1, .int 0])), (h4, .inr (0, [.int 0, .ref z.1, .int 0]))]) (tr := []) (wz := [(h0, .inr (8, [.int 0, .ref h1, .ref h2, .ref h3, .ref h4, .int 0])), (h1, .inr (0, [.int 0, .ref z.1, .int 0])), (h2, .inr (0, [.int 0, .ref z.1, .int 0])), (h3, .inr (0, [.int 0, .ref z.1, .int 0])), (h4, .inr (0, [.int 0, .ref z.1, .int 0]))]) (tz := []) hP hD hK [] [0, 1, 2, 3, 4] [] rfl rfl (by decide) (by decide) rfl hk4 hF2 hB4 ht4 hvm4 rfl rfl
  refine W.eq (g2 := F0 m 13 ls [.int 1, .ref h0]) (by rw [hw4, hv0]) ?_
  refine lv_if_ne (tgt := 20) hx hb dX9_pass_13 (by decide) (fun _ => ?_) (fun cz => absurd cz (by decide))
  refine lv_iconst (v := 0) hx hb dX9_pass_20 (by decide) ?_
  refine lv_iconst (v := 1) hx hb dX9_pass_21 (by decide) ?_
  have hF6 := va_free (wc := [(h0, .inr (8, [.int 0, .ref h1, .ref h2, .ref h3, .ref h4, .int 0])), (h1, .inr (0, [.int 0, .ref z.1, .int 0])), (h2, .inr (0, [.int 0, .ref z.1, .int 0])), (h3, .inr (0, [.int 0, .ref z.1, .int 0])), (h4, .inr (0, [.int 0, .ref z.1, .int 0]))]) hD hS hA [0, 1, 2, 3, 4] rfl
  refine va_calli (va_runV (As := [.int 0, .int 1]) (rest := []) ⟨hx, hb, hml, hown, hts⟩ (k54_fails l hl9 dC dI z h0 h1 h2 h3 h4 H4.size) (cwV 2 hts (gV q_257 q_258 q_259 q_255 q_256) rfl rfl rfl (by decide +kernel) ⟨Nat.le_of_ble_eq_true rfl, Nat.le_of_ble_eq_true rfl⟩) ⟨pc_blind, va_recv hK hP (ci := 8) (q0 := 0) rfl rfl, fun U hU hW => ⟨rfl, pc_mk hP hD hK hS hX hT [0, 1, 2, 3, 4] [] rfl rfl rfl rfl hF6 hU hW⟩⟩ rfl rfl hl.1 rfl (lv_room (Nat.le_of_ble_eq_true rfl)) dX9_pass_22 ⟨(Nat.le_of_ble_eq_true rfl), (Nat.le_of_ble_eq_true rfl)⟩) hS (fun q9 _ h9 => hF6 q9 h9) hF6 (fun r9 u8 t8 H8 L8 ht8 hvm8 hw8 hB8 hz8 hk8 hS => ?_)
  obtain ⟨hP, hD, hK⟩ := pq_join (wr := []) (tr := []) (wz := [(h0, .inr (8, [.int 0, .ref h1, .ref h2, .ref h3, .ref h4, .int 0])), (h1, .inr (0, [.int 0, .ref z.1, .int 0])), (h2, .inr (0, [.int 0, .ref z.1, .int 0])), (h3, .inr (0, [.int 0, .ref z.1, .int 0])), (h4, .inr (0, [.int 0, .ref z.1, .int 0]))]) (tz := []) hP hD hK [0, 1, 2, 3, 4] [] [] rfl rfl (by decide) (by decide) rfl hk8 hF6 hB8 ht8 hvm8 rfl rfl
  refine W.eq (g2 := F0 m 25 ls [.int 0]) (by rw [hw8]) ?_
  refine lv_if_ne (tgt := 53) hx hb dX9_pass_25 (by decide) (fun cz => absurd (by decide) cz) (fun _ => ?_)
  refine lv_aload_n hx hb dX9_pass_28 rfl (lv_at hl 0 rfl) ?_
  refine lv_aload_n hx hb dX9_pass_29 rfl (lv_at hl 0 rfl) ?_
  refine va_get (D := (dC, dI)) (ci := 8) (v := .int 0) (C := RX9) (T := TX9) (N := 6) hx hb hts in_X9 hown hK hP 0 rfl rfl 5 (by decide) (hts _ q_277) (fun _ h9 => h9) rfl dX9_pass_30 ?_
  refine lv_iload_n hx hb dX9_pass_33 rfl (lv_at hl 1 rfl) ?_
  refine lv_iadd hx hb dX9_pass_34 ?_
  refine lv_topi (fun y10 ey10 => ?_)
  refine W.eq (g2 := F0 m 35 ls [.int p0, .ref h0]) (by rw [ey10, Int32.zero_add]) ?_
  refine lv_sipush (v := 9999) hx hb dX9_pass_35 (by decide) ?_
  refine lv_icmp_le (tgt := 45) hx hb dX9_pass_38 (by decide) (fun _ => ?_) (fun cz => False.elim (by have hz0 := xBt_1 hv0; simp only [fa_lt, fa_le, fa_eq, tI_0, tI_m1, tI_1, tI_9, tI_100, tI_126, tI_61, tI_38, tI_124, tI_94, tI_9999] at cz  hz0; omega))
  refine lv_iconst (v := 0) hx hb dX9_pass_45 (by decide) ?_
  refine lv_iconst (v := 2) hx hb dX9_pass_46 (by decide) ?_
  have hF11 := va_free (wc := [(h0, .inr (8, [.int 0, .ref h1, .ref h2, .ref h3, .ref h4, .int 0])), (h1, .inr (0, [.int 0, .ref z.1, .int 0])), (h2, .inr (0, [.int 0, .ref z.1, .int 0])), (h3, .inr (0, [.int 0, .ref z.1, .int 0])), (h4, .inr (0, [.int 0, .ref z.1, .int 0]))]) hD hS hA [0, 1, 2, 3, 4] rfl
  refine va_calli (va_runV (As := [.int 0, .int 2]) (rest := []) ⟨hx, hb, hml, hown, hts⟩ (k55_fails l hl9 dC dI z h0 h1 h2 h3 h4 H8.size) (cwV 2 hts (gV q_257 q_258 q_259 q_255 q_256) rfl rfl rfl (by decide +kernel) ⟨Nat.le_of_ble_eq_true rfl, Nat.le_of_ble_eq_true rfl⟩) ⟨pc_blind, va_recv hK hP (ci := 8) (q0 := 0) rfl rfl, fun U hU hW => ⟨rfl, pc_mk hP hD hK hS hX hT [0, 1, 2, 3, 4] [] rfl rfl rfl rfl hF11 hU hW⟩⟩ rfl rfl hl.1 rfl (lv_room (Nat.le_of_ble_eq_true rfl)) dX9_pass_47 ⟨(Nat.le_of_ble_eq_true rfl), (Nat.le_of_ble_eq_true rfl)⟩) hS (fun q9 _ h9 => hF11 q9 h9) hF11 (fun r14 u13 t13 H13 L13 ht13 hvm13 hw13 hB13 hz13 hk13 hS => ?_)
  obtain ⟨hP, hD, hK⟩ := pq_join (wr := []) (tr := []) (wz := [(h0, .inr (8, [.int 0, .ref h1, .ref h2, .ref h3, .ref h4, .int 0])), (h1, .inr (0, [.int 0, .ref z.1, .int 0])), (h2, .inr (0, [.int 0, .ref z.1, .int 0])), (h3, .inr (0, [.int 0, .ref z.1, .int 0])), (h4, .inr (0, [.int 0, .ref z.1, .int 0]))]) (tz := []) hP hD hK [0, 1, 2, 3, 4] [] [] rfl rfl (by decide) (by decide) rfl hk13 hF11 hB13 ht13 hvm13 rfl rfl
  refine W.eq (g2 := F0 m 50 ls [.int 0]) (by rw [hw13]) ?_
  refine lv_if_eq (tgt := 55) hx hb dX9_pass_50 (by decide) (fun _ => ?_) (fun cz => absurd (by decide) cz)
  refine lv_iconst (v := 0) hx hb dX9_pass_55 (by decide) ?_
  refine lv_istore_n (lv' := [(2, .int 0), (0, .ref h0), (1, .int p0)]) hx hb dX9_pass_56 rfl hl (by decide) rfl (fun ls hl => ?_)
  obtain ⟨n9, hn9, rfl⟩ := xBt_n hv0
  refine W_up n9 (fun (i : Nat) (H : Heap) (locs : List Loc) (cells slots : Nat) (g : JFrame) => cells = i * 1 ∧ slots = i * 4 ∧ ∃ ls : Array Slot, g = F0 m 57 ls [] ∧ va_P (dC, dI) xCl [(h0, .inr (8, [.int 0, .ref h1, .ref h2, .ref h3, .ref h4, .int (nI i)])), (h1, .inr (0, [.int 0, .ref z.1, .int 0])), (h2, .inr (0, [.int 0, .ref z.1, .int 0])), (h3, .inr (0, [.int 0, .ref z.1, .int 0])), (h4, .inr (0, [.int 0, .ref z.1, .int 0]))] H ∧ va_D A [(h0, .inr (8, [.int 0, .ref h1, .ref h2, .ref h3, .ref h4, .int (nI i)])), (h1, .inr (0, [.int 0, .ref z.1, .int 0])), (h2, .inr (0, [.int 0, .ref z.1, .int 0])), (h3, .inr (0, [.int 0, .ref z.1, .int 0])), (h4, .inr (0, [.int 0, .ref z.1, .int 0]))] ∧ va_S A s.heap H locs ∧ lv_has ls 3 [(2, .int (nI i)), (0, .ref h0), (1, .int (nI n9))]) ?_ ?_ _ _ _ _ _ ⟨(by omega), (by omega), ls, rfl, hP, hD, hS, hl⟩
  · intro i H8 locs8 cells slots g hlt hi ih
    obtain ⟨rfl, rfl, ls, rfl, hP, hD, hS, hl⟩ := hi
    refine lv_iload_n hx hb dX9_pass_57 rfl (lv_at hl 0 rfl) ?_
    refine lv_iload_n hx hb dX9_pass_58 rfl (lv_at hl 2 rfl) ?_
    refine lv_icmp_ge (tgt := 82) hx hb dX9_pass_59 (by decide) (fun cz => absurd cz (nI_ge hlt (by omega))) (fun _ => ?_)
    refine lv_aload_n hx hb dX9_pass_62 rfl (lv_at hl 1 rfl) ?_
    refine lv_dup hx hb dX9_pass_63 rfl ?_
    refine va_get (D := (dC, dI)) (ci := 8) (v := .int (nI i)) (C := RX9) (T := TX9) (N := 6) hx hb hts in_X9 hown hK hP 0 rfl rfl 5 (by decide) (hts _ q_277) (fun _ h9 => h9) rfl dX9_pass_64 ?_
    refine lv_iconst (v := 1) hx hb dX9_pass_67 (by decide) ?_
    refine lv_iadd hx hb dX9_pass_68 ?_
    refine lv_topi (fun y15 ey15 => ?_)
    obtain rfl : y15 = (nI (i + 1)) := ey15.trans (nI_1 _)
    refine va_put (D := (dC, dI)) (ci := 8) (v := .int (nI (i + 1))) (ty := .int) (C := RX9) (T := TX9) (N := 6) hx hb hts in_X9 tyX9 tyX9_ok nmX9 hown hK hP hD hS 0 rfl rfl 5 (by decide) (hts _ q_277) (fun _ h9 => h9) rfl (by decide +kernel) rfl rfl (Nat.le_of_ble_eq_true rfl) dX9_pass_69 (fun H16 _ hP hD hS => ?_)
    have hP : va_P (dC, dI) xCl [(h0, .inr (8, [.int 0, .ref h1, .ref h2, .ref h3, .ref h4, .int (nI (i + 1))])), (h1, .inr (0, [.int 0, .ref z.1, .int 0])), (h2, .inr (0, [.int 0, .ref z.1, .int 0])), (h3, .inr (0, [.int 0, .ref z.1, .int 0])), (h4, .inr (0, [.int 0, .ref z.1, .int 0]))] H16 := hP
    have hD : va_D A [(h0, .inr (8, [.int 0, .ref h1, .ref h2, .ref h3, .ref h4, .int (nI (i + 1))])), (h1, .inr (0, [.int 0, .ref z.1, .int 0])), (h2, .inr (0, [.int 0, .ref z.1, .int 0])), (h3, .inr (0, [.int 0, .ref z.1, .int 0])), (h4, .inr (0, [.int 0, .ref z.1, .int 0]))] := hD
    refine lv_aload_n hx hb dX9_pass_72 rfl (lv_at hl 1 rfl) ?_
    have hF17 := va_free (wc := [(h0, .inr (8, [.int 0, .ref h1, .ref h2, .ref h3, .ref h4, .int (nI (i + 1))])), (h1, .inr (0, [.int 0, .ref z.1, .int 0])), (h2, .inr (0, [.int 0, .ref z.1, .int 0])), (h3, .inr (0, [.int 0, .ref z.1, .int 0])), (h4, .inr (0, [.int 0, .ref z.1, .int 0]))]) hD hS hA [0, 1, 2, 3, 4] rfl
    refine va_callv (va_runV (As := []) (rest := []) ⟨hx, hb, hml, hown, hts⟩ (k241_comeNow l hl9 dC dI z h0 h1 h2 h3 h4 H16.size (nI (i + 1))) (cwV 0 hts (gV q_477 q_478 q_479 q_255 q_476) rfl rfl rfl (by decide +kernel) ⟨Nat.le_of_ble_eq_true rfl, Nat.le_of_ble_eq_true rfl⟩) ⟨pc_blind, va_recv hK hP (ci := 8) (q0 := 0) rfl rfl, fun U hU hW => ⟨rfl, pc_mk hP hD hK hS hX hT [0, 1, 2, 3, 4] [] rfl rfl rfl rfl hF17 hU hW⟩⟩ rfl rfl hl.1 rfl (lv_room (Nat.le_of_ble_eq_true rfl)) dX9_pass_73 ⟨(Nat.le_trans (m := 100) (by omega) (Nat.le_of_ble_eq_true rfl)), (Nat.le_trans (m := 400) (by omega) (Nat.le_of_ble_eq_true rfl))⟩) hS (fun q9 _ h9 => hF17 q9 h9) hF17 (fun u19 t19 H19 L19 ht19 hvm19 hw19 hB19 hz19 hk19 hS => ?_)
    obtain ⟨hP, hD, hK⟩ := pq_join (wr := []) (tr := []) (wz := [(h0, .inr (8, [.int 0, .ref h1, .ref h2, .ref h3, .ref h4, .int (nI (i + 1))])), (h1, .inr (0, [.int 0, .ref z.1, .int 0])), (h2, .inr (0, [.int 0, .ref z.1, .int 0])), (h3, .inr (0, [.int 0, .ref z.1, .int 0])), (h4, .inr (0, [.int 0, .ref z.1, .int 0]))]) (tz := []) hP hD hK [0, 1, 2, 3, 4] [] [] rfl rfl (by decide) (by decide) rfl hk19 hF17 hB19 ht19 hvm19 rfl rfl
    refine lv_iinc (v := (nI (i + 1))) (lv' := [(2, .int (nI (i + 1))), (0, .ref h0), (1, .int (nI n9))]) hx hb dX9_pass_76 hl (k := 0) rfl (nI_1 _) (by decide) rfl (fun ls hl => ?_)
    refine lv_goto (tgt := 57) hx hb dX9_pass_79 (by decide) ?_
    exact ih _ _ _ _ _ ⟨by omega, by omega, ls, rfl, hP, hD, hS, lv_sub hl [0, 1, 2] rfl⟩
  · intro H8 locs8 cells slots g hi
    obtain ⟨rfl, rfl, ls, rfl, hP, hD, hS, hl⟩ := hi
    refine W.widen (k := 100) (n := 400) (by omega) (by omega) ?_
    refine lv_iload_n hx hb dX9_pass_57 rfl (lv_at hl 0 rfl) ?_
    refine lv_iload_n hx hb dX9_pass_58 rfl (lv_at hl 2 rfl) ?_
    refine lv_icmp_ge (tgt := 82) hx hb dX9_pass_59 (by decide) (fun _ => ?_) (fun cz => absurd (nI_le (Nat.le_refl _) (by omega)) cz)
    refine lv_aload_n hx hb dX9_pass_82 rfl (lv_at hl 1 rfl) ?_
    refine va_get (D := (dC, dI)) (ci := 8) (v := .int (nI n9)) (C := RX9) (T := TX9) (N := 6) hx hb hts in_X9 hown hK hP 0 rfl rfl 5 (by decide) (hts _ q_277) (fun _ h9 => h9) rfl dX9_pass_83 ?_
    exact W.iret (v := (nI n9)) hx hb hr (fun t9 ht9 hW9 => ⟨⟨(nI n9), (), rfl, rfl, pq_mk (wc := [(h0, .inr (8, [.int 0, .ref h1, .ref h2, .ref h3, .ref h4, .int (nI n9)])), (h1, .inr (0, [.int 0, .ref z.1, .int 0])), (h2, .inr (0, [.int 0, .ref z.1, .int 0])), (h3, .inr (0, [.int 0, .ref z.1, .int 0])), (h4, .inr (0, [.int 0, .ref z.1, .int 0]))]) (tc := []) hP hD hK [0, 1, 2, 3, 4] [] rfl rfl rfl rfl ht9 hW9⟩, hS.F ht9⟩) hS.2.2 dX9_pass_86

set_option maxHeartbeats 4000000 in
set_option maxRecDepth 100000 in
theorem k243_value (l : Launch) (hl9 : l.stackTraces = false) (dC : Nat → ClassId) (dI : Nat → Nat → Nat) (z : XZ) (h0 h1 h2 h3 h4 h5 h6 h7 h8 : Nat) (sz : Nat) (p0 : Int32) (kc0 : ClassId) : vx_Met l yX6_value (.code yX6_value cX6_value 2 (some .char) :: wsL_law) ({ frames := 8, cells := 1, slots := 6, locals := 121 }) (va_Pc [.ref h0, .int p0] (PC (dC, dI) [(h0, .inr (6, [.ref h1, .ref h2, .ref h3])), (h1, .inr (2, [.ref h4, .ref h5, .ref h6, .ref h7])), (h2, .inr (5, [.ref h1, .int 0])), (h3, .inr (4, [.ref h1, .ref h8, .int 0])), (h4, .inr (0, [.int 0, .ref z.1, .int 0])), (h5, .inr (0, [.int 0, .ref z.1, .int 0])), (h6, .inr (0, [.int 0, .ref z.1, .int 0])), (h7, .inr (0, [.int 0, .ref z.1, .int 0])), (h8, .inl (kc0, 8, .inl (fun _ => 0)))] [(kc0, .int)] sz z)) (va_Qi (fun (_ : Int32) (_ : Unit) => False) (fun _ _ => True) (va_A [(h0, .inr (6, [.ref h1, .ref h2, .ref h3])), (h1, .inr (2, [.ref h4, .ref h5, .ref h6, .ref h7])), (h2, .inr (5, [.ref h1, .int 0])), (h3, .inr (4, [.ref h1, .ref h8, .int 0])), (h4, .inr (0, [.int 0, .ref z.1, .int 0])), (h5, .inr (0, [.int 0, .ref z.1, .int 0])), (h6, .inr (0, [.int 0, .ref z.1, .int 0])), (h7, .inr (0, [.int 0, .ref z.1, .int 0])), (h8, .inl (kc0, 8, .inl (fun _ => 0)))] sz)) (vx_X (fun (_ : Unit) => True) (fun (E : String) (_ : Unit) (_ : State) => E = "java/lang/IndexOutOfBoundsException") (va_A [(h0, .inr (6, [.ref h1, .ref h2, .ref h3])), (h1, .inr (2, [.ref h4, .ref h5, .ref h6, .ref h7])), (h2, .inr (5, [.ref h1, .int 0])), (h3, .inr (4, [.ref h1, .ref h8, .int 0])), (h4, .inr (0, [.int 0, .ref z.1, .int 0])), (h5, .inr (0, [.int 0, .ref z.1, .int 0])), (h6, .inr (0, [.int 0, .ref z.1, .int 0])), (h7, .inr (0, [.int 0, .ref z.1, .int 0])), (h8, .inl (kc0, 8, .inl (fun _ => 0)))] sz)) 1 6 (va_A [(h0, .inr (6, [.ref h1, .ref h2, .ref h3])), (h1, .inr (2, [.ref h4, .ref h5, .ref h6, .ref h7])), (h2, .inr (5, [.ref h1, .int 0])), (h3, .inr (4, [.ref h1, .ref h8, .int 0])), (h4, .inr (0, [.int 0, .ref z.1, .int 0])), (h5, .inr (0, [.int 0, .ref z.1, .int 0])), (h6, .inr (0, [.int 0, .ref z.1, .int 0])), (h7, .inr (0, [.int 0, .ref z.1, .int 0])), (h8, .inl (kc0, 8, .inl (fun _ => 0)))] sz) := by
  refine vx_ofW (cc := cX6_value) (maxL := 2) (ret := (some .char)) (by decide) rfl ?_
  intro p e s m args below meth c s₁ B hml hnt hv
  obtain ⟨rfl, hsz, hP, hK, hD0, hX, hT⟩ := hv
  have hx := B.exec
  have hb := B.bytes
  have hr := B.returns
  have hts0 := atoms_spec (ws := .code yX6_value cX6_value 2 (some .char) :: wsL_law) B.pre
  have hts := xTail hts0
  have hown : s.vm.findClass RX6 = some m.cls := findClass_of_methodNamed B.named
  have hlocks := B.notSynchronized
  subst hsz
  have hD := hD0.self (sz := s.heap.size)
  generalize hAe : va_A [(h0, .inr (6, [.ref h1, .ref h2, .ref h3])), (h1, .inr (2, [.ref h4, .ref h5, .ref h6, .ref h7])), (h2, .inr (5, [.ref h1, .int 0])), (h3, .inr (4, [.ref h1, .ref h8, .int 0])), (h4, .inr (0, [.int 0, .ref z.1, .int 0])), (h5, .inr (0, [.int 0, .ref z.1, .int 0])), (h6, .inr (0, [.int 0, .ref z.1, .int 0])), (h7, .inr (0, [.int 0, .ref z.1, .int 0])), (h8, .inl (kc0, 8, .inl (fun _ => 0)))] s.heap.size = A at hD hX ⊢
  have hA : ∀ q : Nat, s.heap.size ≤ q → A q := fun q h => by rw [← hAe]; exact Or.inr h
  have hS : va_S A s.heap s.heap [] := va_S.rf
  have hl := lv_entry ([.ref h0, .int p0]) (n := 2) (Nat.le_of_ble_eq_true rfl)
  rw [lg_entry_eq]
  generalize (lg_sl ([.ref h0, .int p0]) ++ List.replicate (2 - (lg_sl ([.ref h0, .int p0])).length) Slot.unset).toArray = ls at hl ⊢
  have hl : lv_has ls 2 [(0, .ref h0), (1, .int p0)] := hl
  refine lv_aload_n hx hb dX6_value_0 rfl (lv_at hl 0 rfl) ?_
  refine lv_iload_n hx hb dX6_value_1 rfl (lv_at hl 1 rfl) ?_
  have hF1 := va_free (wc := [(h0, .inr (6, [.ref h1, .ref h2, .ref h3])), (h1, .inr (2, [.ref h4, .ref h5, .ref h6, .ref h7])), (h2, .inr (5, [.ref h1, .int 0])), (h3, .inr (4, [.ref h1, .ref h8, .int 0])), (h4, .inr (0, [.int 0, .ref z.1, .int 0])), (h5, .inr (0, [.int 0, .ref z.1, .int 0])), (h6, .inr (0, [.int 0, .ref z.1, .int 0])), (h7, .inr (0, [.int 0, .ref z.1, .int 0])), (h8, .inl (kc0, 8, .inl (fun _ => 0)))]) hD hS hA [0, 1, 2, 3, 4, 5, 6, 7, 8] rfl
  refine vx_callq (SX := Unit) (vx_runV (As := [.int p0]) (rest := []) ⟨hx, hb, hml, hown, hts⟩ (k89_netAt l hl9 dC dI z h0 h1 h2 h3 h4 h5 h6 h7 h8 s.heap.size p0 kc0) (cwV 1 hts (gV q_346 q_347 q_348 q_69 q_345) rfl rfl rfl (by decide +kernel) ⟨Nat.le_of_ble_eq_true rfl, Nat.le_of_ble_eq_true rfl⟩) ⟨pc_blind, va_recv hK hP (ci := 6) (q0 := 0) rfl rfl, fun U hU hW => ⟨rfl, pc_mk hP hD hK hS hX hT [0, 1, 2, 3, 4, 5, 6, 7, 8] [0] rfl rfl rfl rfl hF1 hU hW⟩⟩ rfl rfl hl.1 rfl (lv_room (Nat.le_of_ble_eq_true rfl)) dX6_value_2 ⟨(Nat.le_of_ble_eq_true rfl), (Nat.le_of_ble_eq_true rfl)⟩) hS (fun q9 _ h9 => hF1 q9 h9) hF1 (fun q9 _ h9 => hF1 q9 h9) (fun E3 ce3 x3 v3 t3 H3 L3 ht3 hvm3 hw3 hB3 hz3 hk3 hS hc3 hn3 hf3 => ?_) (fun _ _ _ _ _ _ _ hw9 _ _ _ _ => hw9.elim)
  obtain ⟨hP, hD⟩ := pq_rest (wr := []) hP hD [0, 1, 2, 3, 4, 5, 6, 7, 8] [] rfl rfl (by decide) (by decide) hk3 hF1
  exact vx_out (fun x9 hx9 => (hnt x9 hx9).elim) hlocks hc3 hn3 hf3 (fun t9 ht9 hv9 => ⟨(), trivial, hB3, hS.F ht9⟩) hS.2.2 (by decide) (by decide)

set_option maxHeartbeats 4000000 in
set_option maxRecDepth 100000 in
theorem k244_value (l : Launch) (hl9 : l.stackTraces = false) (dC : Nat → ClassId) (dI : Nat → Nat → Nat) (z : XZ) (h0 h1 h2 h3 h4 h5 h6 h7 h8 h9 : Nat) (sz : Nat) (p0 : Int32) (kc0 kc1 : ClassId) : Met l yL_value (.codeWith yL_value cL_value 4 (some .int) [(0, 9, 12, 23)] :: wsL_law) ({ frames := 9, cells := 1, slots := 6, locals := 142 }) (va_Pc [.ref h0, .int p0, .ref h1] (PC (dC, dI) [(h0, .inr (6, [.ref h2, .ref h3, .ref h4])), (h1, .inl (kc0, 1, .inr (.inl (fun _ => 0)))), (h2, .inr (2, [.ref h5, .ref h6, .ref h7, .ref h8])), (h3, .inr (5, [.ref h2, .int 0])), (h4, .inr (4, [.ref h2, .ref h9, .int 0])), (h5, .inr (0, [.int 0, .ref z.1, .int 0])), (h6, .inr (0, [.int 0, .ref z.1, .int 0])), (h7, .inr (0, [.int 0, .ref z.1, .int 0])), (h8, .inr (0, [.int 0, .ref z.1, .int 0])), (h9, .inl (kc1, 8, .inl (fun _ => 0)))] [(kc0, .long), (kc1, .int)] sz z)) (va_Qi (fun (r : Int32) (_ : Unit) => r = 1) (fun (_ : Unit) (t : State) => PQ (dC, dI) [(h1, .inl (kc0, 1, .inr (.inl (fun _ => 0))))] [(kc0, .long)] (va_A [(h0, .inr (6, [.ref h2, .ref h3, .ref h4])), (h1, .inl (kc0, 1, .inr (.inl (fun _ => 0)))), (h2, .inr (2, [.ref h5, .ref h6, .ref h7, .ref h8])), (h3, .inr (5, [.ref h2, .int 0])), (h4, .inr (4, [.ref h2, .ref h9, .int 0])), (h5, .inr (0, [.int 0, .ref z.1, .int 0])), (h6, .inr (0, [.int 0, .ref z.1, .int 0])), (h7, .inr (0, [.int 0, .ref z.1, .int 0])), (h8, .inr (0, [.int 0, .ref z.1, .int 0])), (h9, .inl (kc1, 8, .inl (fun _ => 0)))] sz) t) (va_A [(h0, .inr (6, [.ref h2, .ref h3, .ref h4])), (h1, .inl (kc0, 1, .inr (.inl (fun _ => 0)))), (h2, .inr (2, [.ref h5, .ref h6, .ref h7, .ref h8])), (h3, .inr (5, [.ref h2, .int 0])), (h4, .inr (4, [.ref h2, .ref h9, .int 0])), (h5, .inr (0, [.int 0, .ref z.1, .int 0])), (h6, .inr (0, [.int 0, .ref z.1, .int 0])), (h7, .inr (0, [.int 0, .ref z.1, .int 0])), (h8, .inr (0, [.int 0, .ref z.1, .int 0])), (h9, .inl (kc1, 8, .inl (fun _ => 0)))] sz)) 1 6 (va_A [(h0, .inr (6, [.ref h2, .ref h3, .ref h4])), (h1, .inl (kc0, 1, .inr (.inl (fun _ => 0)))), (h2, .inr (2, [.ref h5, .ref h6, .ref h7, .ref h8])), (h3, .inr (5, [.ref h2, .int 0])), (h4, .inr (4, [.ref h2, .ref h9, .int 0])), (h5, .inr (0, [.int 0, .ref z.1, .int 0])), (h6, .inr (0, [.int 0, .ref z.1, .int 0])), (h7, .inr (0, [.int 0, .ref z.1, .int 0])), (h8, .inr (0, [.int 0, .ref z.1, .int 0])), (h9, .inl (kc1, 8, .inl (fun _ => 0)))] sz) := by
  refine va_MetW (cc := cL_value) (maxL := 4) (ret := (some .int)) (hh := [(0, 9, 12, 23)]) (by decide) rfl ?_
  intro p e s m args below meth c s₁ B hml hv
  obtain ⟨rfl, hsz, hP, hK, hD0, hX, hT⟩ := hv
  have hx := B.exec
  have hb := B.bytes
  have hr := B.returns
  have hts0 := atoms_spec (ws := .codeWith yL_value cL_value 4 (some .int) [(0, 9, 12, 23)] :: wsL_law) B.pre
  have htab := vx_table (x := yL_value) B (hts0 _ List.mem_cons_self)
  have hts := xTail hts0
  have hown : s.vm.findClass RL = some m.cls := findClass_of_methodNamed B.named
  have hlocks := B.notSynchronized
  subst hsz
  have hD := hD0.self (sz := s.heap.size)
  generalize hAe : va_A [(h0, .inr (6, [.ref h2, .ref h3, .ref h4])), (h1, .inl (kc0, 1, .inr (.inl (fun _ => 0)))), (h2, .inr (2, [.ref h5, .ref h6, .ref h7, .ref h8])), (h3, .inr (5, [.ref h2, .int 0])), (h4, .inr (4, [.ref h2, .ref h9, .int 0])), (h5, .inr (0, [.int 0, .ref z.1, .int 0])), (h6, .inr (0, [.int 0, .ref z.1, .int 0])), (h7, .inr (0, [.int 0, .ref z.1, .int 0])), (h8, .inr (0, [.int 0, .ref z.1, .int 0])), (h9, .inl (kc1, 8, .inl (fun _ => 0)))] s.heap.size = A at hD hX ⊢
  have hA : ∀ q : Nat, s.heap.size ≤ q → A q := fun q h => by rw [← hAe]; exact Or.inr h
  have hS : va_S A s.heap s.heap [] := va_S.rf
  have hl := lv_entry ([.ref h0, .int p0, .ref h1]) (n := 4) (Nat.le_of_ble_eq_true rfl)
  rw [lg_entry_eq]
  generalize (lg_sl ([.ref h0, .int p0, .ref h1]) ++ List.replicate (4 - (lg_sl ([.ref h0, .int p0, .ref h1])).length) Slot.unset).toArray = ls at hl ⊢
  have hl : lv_has ls 4 [(0, .ref h0), (1, .int p0), (2, .ref h1)] := hl
  refine lv_aload_n hx hb dL_value_0 rfl (lv_at hl 2 rfl) ?_
  refine lv_iconst (v := 0) hx hb dL_value_1 (by decide) ?_
  refine lv_aload_n hx hb dL_value_2 rfl (lv_at hl 0 rfl) ?_
  refine lv_iload_n hx hb dL_value_3 rfl (lv_at hl 1 rfl) ?_
  have hF1 := va_free (wc := [(h0, .inr (6, [.ref h2, .ref h3, .ref h4])), (h2, .inr (2, [.ref h5, .ref h6, .ref h7, .ref h8])), (h3, .inr (5, [.ref h2, .int 0])), (h4, .inr (4, [.ref h2, .ref h9, .int 0])), (h5, .inr (0, [.int 0, .ref z.1, .int 0])), (h6, .inr (0, [.int 0, .ref z.1, .int 0])), (h7, .inr (0, [.int 0, .ref z.1, .int 0])), (h8, .inr (0, [.int 0, .ref z.1, .int 0])), (h9, .inl (kc1, 8, .inl (fun _ => 0)))]) hD hS hA [0, 2, 3, 4, 5, 6, 7, 8, 9] rfl
  refine vx_calli (SX := Unit) (vx_runV (As := [.int p0]) (rest := [.int 0, .ref h1]) ⟨hx, hb, hml, hown, hts⟩ (k243_value l hl9 dC dI z h0 h2 h3 h4 h5 h6 h7 h8 h9 s.heap.size p0 kc1) (cwV 1 hts (gV q_516 q_517 q_518 q_69 q_515) rfl rfl rfl (by decide +kernel) ⟨Nat.le_of_ble_eq_true rfl, Nat.le_of_ble_eq_true rfl⟩) ⟨pc_blind, va_recv hK hP (ci := 6) (q0 := 0) rfl rfl, fun U hU hW => ⟨rfl, pc_mk hP hD hK hS hX hT [0, 2, 3, 4, 5, 6, 7, 8, 9] [1] rfl rfl rfl rfl hF1 hU hW⟩⟩ rfl rfl hl.1 rfl (lv_room (Nat.le_of_ble_eq_true rfl)) dL_value_4 ⟨(Nat.le_of_ble_eq_true rfl), (Nat.le_of_ble_eq_true rfl)⟩) hS (fun q9 _ h9 => hF1 q9 h9) hF1 (fun q9 _ h9 => hF1 q9 h9) (fun E3 ce3 x3 v3 t3 H3 L3 ht3 hvm3 hw3 hB3 hz3 hk3 hS hc3 hn3 hf3 => ?_) (fun _ _ _ _ _ _ _ hw9 _ _ _ _ => hw9.elim)
  obtain ⟨hP, hD⟩ := pq_rest (wr := [(h1, .inl (kc0, 1, .inr (.inl (fun _ => 0))))]) hP hD [0, 2, 3, 4, 5, 6, 7, 8, 9] [1] rfl rfl (by decide) (by decide) hk3 hF1
  subst hB3
  refine vx_catch (own := RL) (name := "java/lang/IndexOutOfBoundsException") hown [] ⟨0, 9, 12, 23⟩ [] htab (fun z9 hz9 => absurd hz9 List.not_mem_nil) (by decide) (by decide) (hts _ q_354) (va_Nw.use rfl (hT.2.1.1 ("java/lang/IndexOutOfBoundsException", "java/lang/IndexOutOfBoundsException") (by decide))) hc3 hn3 hf3 ?_
  refine lv_astore_n (lv' := [(3, .ref x3), (0, .ref h0), (1, .int p0), (2, .ref h1)]) hx hb dL_value_12 rfl hl (by decide) rfl (fun ls hl => ?_)
  refine lv_iconst (v := 1) hx hb dL_value_13 (by decide) ?_
  exact W.iret (v := 1) hx hb hr (fun t9 ht9 hW9 => ⟨⟨1, (), rfl, rfl, pq_mk (wc := [(h1, .inl (kc0, 1, .inr (.inl (fun _ => 0))))]) (tc := [(kc0, .long)]) hP hD hK [0] [0] rfl rfl rfl rfl ht9 hW9⟩, hS.F ht9⟩) hS.2.2 dL_value_14

set_option maxHeartbeats 4000000 in
set_option maxRecDepth 100000 in
theorem k245_value (l : Launch) (hl9 : l.stackTraces = false) (dC : Nat → ClassId) (dI : Nat → Nat → Nat) (z : XZ) (h0 h1 h2 h3 h4 : Nat) (sz : Nat) (p0 : Int32) : Met l yX9_value (.code yX9_value cX9_value 2 (some .char) :: wsL_law) ({ frames := 2, cells := 0, slots := 0, locals := 43 }) (va_Pc [.ref h0, .int p0] (PC (dC, dI) [(h0, .inr (8, [.int 0, .ref h1, .ref h2, .ref h3, .ref h4, .int 0])), (h1, .inr (0, [.int 0, .ref z.1, .int 0])), (h2, .inr (0, [.int 0, .ref z.1, .int 0])), (h3, .inr (0, [.int 0, .ref z.1, .int 0])), (h4, .inr (0, [.int 0, .ref z.1, .int 0]))] [] sz z)) (va_Qi (fun (r : Int32) (_ : Unit) => r = 0) (fun (_ : Unit) (t : State) => PQ (dC, dI) [(h0, .inr (8, [.int 1, .ref h1, .ref h2, .ref h3, .ref h4, .int 0])), (h1, .inr (0, [.int 0, .ref z.1, .int 0])), (h2, .inr (0, [.int 0, .ref z.1, .int 0])), (h3, .inr (0, [.int 0, .ref z.1, .int 0])), (h4, .inr (0, [.int 0, .ref z.1, .int 0]))] [] (va_A [(h0, .inr (8, [.int 0, .ref h1, .ref h2, .ref h3, .ref h4, .int 0])), (h1, .inr (0, [.int 0, .ref z.1, .int 0])), (h2, .inr (0, [.int 0, .ref z.1, .int 0])), (h3, .inr (0, [.int 0, .ref z.1, .int 0])), (h4, .inr (0, [.int 0, .ref z.1, .int 0]))] sz) t) (va_A [(h0, .inr (8, [.int 0, .ref h1, .ref h2, .ref h3, .ref h4, .int 0])), (h1, .inr (0, [.int 0, .ref z.1, .int 0])), (h2, .inr (0, [.int 0, .ref z.1, .int 0])), (h3, .inr (0, [.int 0, .ref z.1, .int 0])), (h4, .inr (0, [.int 0, .ref z.1, .int 0]))] sz)) 0 0 (va_A [(h0, .inr (8, [.int 0, .ref h1, .ref h2, .ref h3, .ref h4, .int 0])), (h1, .inr (0, [.int 0, .ref z.1, .int 0])), (h2, .inr (0, [.int 0, .ref z.1, .int 0])), (h3, .inr (0, [.int 0, .ref z.1, .int 0])), (h4, .inr (0, [.int 0, .ref z.1, .int 0]))] sz) := by
  refine Met.ofW (cc := cX9_value) (maxL := 2) (ret := (some .char)) (by decide) rfl ?_
  intro p e s m args below meth c s₁ B hml hv
  obtain ⟨rfl, hsz, hP, hK, hD0, hX, hT⟩ := hv
  have hx := B.exec
  have hb := B.bytes
  have hr := B.returns
  have hts0 := atoms_spec (ws := .code yX9_value cX9_value 2 (some .char) :: wsL_law) B.pre
  have hts := xTail hts0
  have hown : s.vm.findClass RX9 = some m.cls := findClass_of_methodNamed B.named
  have hlocks := B.notSynchronized
  subst hsz
  have hD := hD0.self (sz := s.heap.size)
  generalize hAe : va_A [(h0, .inr (8, [.int 0, .ref h1, .ref h2, .ref h3, .ref h4, .int 0])), (h1, .inr (0, [.int 0, .ref z.1, .int 0])), (h2, .inr (0, [.int 0, .ref z.1, .int 0])), (h3, .inr (0, [.int 0, .ref z.1, .int 0])), (h4, .inr (0, [.int 0, .ref z.1, .int 0]))] s.heap.size = A at hD hX ⊢
  have hA : ∀ q : Nat, s.heap.size ≤ q → A q := fun q h => by rw [← hAe]; exact Or.inr h
  have hS : va_S A s.heap s.heap [] := va_S.rf
  have hl := lv_entry ([.ref h0, .int p0]) (n := 2) (Nat.le_of_ble_eq_true rfl)
  rw [lg_entry_eq]
  generalize (lg_sl ([.ref h0, .int p0]) ++ List.replicate (2 - (lg_sl ([.ref h0, .int p0])).length) Slot.unset).toArray = ls at hl ⊢
  have hl : lv_has ls 2 [(0, .ref h0), (1, .int p0)] := hl
  refine lv_aload_n hx hb dX9_value_0 rfl (lv_at hl 0 rfl) ?_
  refine lv_iconst (v := 0) hx hb dX9_value_1 (by decide) ?_
  refine va_put (D := (dC, dI)) (ci := 8) (v := .int 0) (ty := .int) (C := RX9) (T := TX9) (N := 6) hx hb hts in_X9 tyX9 tyX9_ok nmX9 hown hK hP hD hS 0 rfl rfl 0 (by decide) (hts _ q_230) (fun _ h9 => h9) rfl (by decide +kernel) rfl rfl (Nat.le_of_ble_eq_true rfl) dX9_value_2 (fun H1 _ hP hD hS => ?_)
  have hP : va_P (dC, dI) xCl [(h0, .inr (8, [.int 0, .ref h1, .ref h2, .ref h3, .ref h4, .int 0])), (h1, .inr (0, [.int 0, .ref z.1, .int 0])), (h2, .inr (0, [.int 0, .ref z.1, .int 0])), (h3, .inr (0, [.int 0, .ref z.1, .int 0])), (h4, .inr (0, [.int 0, .ref z.1, .int 0]))] H1 := hP
  have hD : va_D A [(h0, .inr (8, [.int 0, .ref h1, .ref h2, .ref h3, .ref h4, .int 0])), (h1, .inr (0, [.int 0, .ref z.1, .int 0])), (h2, .inr (0, [.int 0, .ref z.1, .int 0])), (h3, .inr (0, [.int 0, .ref z.1, .int 0])), (h4, .inr (0, [.int 0, .ref z.1, .int 0]))] := hD
  refine lv_aload_n hx hb dX9_value_5 rfl (lv_at hl 0 rfl) ?_
  refine lv_aload_n hx hb dX9_value_6 rfl (lv_at hl 0 rfl) ?_
  refine lv_iload_n hx hb dX9_value_7 rfl (lv_at hl 1 rfl) ?_
  have hF2 := va_free (wc := [(h0, .inr (8, [.int 0, .ref h1, .ref h2, .ref h3, .ref h4, .int 0])), (h1, .inr (0, [.int 0, .ref z.1, .int 0])), (h2, .inr (0, [.int 0, .ref z.1, .int 0])), (h3, .inr (0, [.int 0, .ref z.1, .int 0])), (h4, .inr (0, [.int 0, .ref z.1, .int 0]))]) hD hS hA [0, 1, 2, 3, 4] rfl
  refine va_calli (va_runV (As := [.int p0]) (rest := [.ref h0]) ⟨hx, hb, hml, hown, hts⟩ (k95_no l hl9 dC dI z h0 h1 h2 h3 h4 H1.size p0) (cwV 1 hts (gV q_362 q_363 q_364 q_255 q_361) rfl rfl rfl (by decide +kernel) ⟨Nat.le_of_ble_eq_true rfl, Nat.le_of_ble_eq_true rfl⟩) ⟨pc_blind, va_recv hK hP (ci := 8) (q0 := 0) rfl rfl, fun U hU hW => ⟨rfl, pc_mk hP hD hK hS hX hT [0, 1, 2, 3, 4] [] rfl rfl rfl rfl hF2 hU hW⟩⟩ rfl rfl hl.1 rfl (lv_room (Nat.le_of_ble_eq_true rfl)) dX9_value_8 ⟨(Nat.le_of_ble_eq_true rfl), (Nat.le_of_ble_eq_true rfl)⟩) hS (fun q9 _ h9 => hF2 q9 h9) hF2 (fun r5 u4 t4 H4 L4 ht4 hvm4 hw4 hB4 hz4 hk4 hS => ?_)
  obtain ⟨hP, hD, hK⟩ := pq_join (wr := []) (tr := []) (wz := [(h0, .inr (8, [.int 0, .ref h1, .ref h2, .ref h3, .ref h4, .int 0])), (h1, .inr (0, [.int 0, .ref z.1, .int 0])), (h2, .inr (0, [.int 0, .ref z.1, .int 0])), (h3, .inr (0, [.int 0, .ref z.1, .int 0])), (h4, .inr (0, [.int 0, .ref z.1, .int 0]))]) (tz := []) hP hD hK [0, 1, 2, 3, 4] [] [] rfl rfl (by decide) (by decide) rfl hk4 hF2 hB4 ht4 hvm4 rfl rfl
  refine W.eq (g2 := F0 m 11 ls [.int 1, .ref h0]) (by rw [hw4]) ?_
  refine lv_iconst (v := 1) hx hb dX9_value_11 (by decide) ?_
  have hF6 := va_free (wc := [(h0, .inr (8, [.int 0, .ref h1, .ref h2, .ref h3, .ref h4, .int 0])), (h1, .inr (0, [.int 0, .ref z.1, .int 0])), (h2, .inr (0, [.int 0, .ref z.1, .int 0])), (h3, .inr (0, [.int 0, .ref z.1, .int 0])), (h4, .inr (0, [.int 0, .ref z.1, .int 0]))]) hD hS hA [0, 1, 2, 3, 4] rfl
  refine va_calli (va_runV (As := [.int 1, .int 1]) (rest := []) ⟨hx, hb, hml, hown, hts⟩ (k93_fails l hl9 dC dI z h0 h1 h2 h3 h4 H4.size) (cwV 2 hts (gV q_257 q_258 q_259 q_255 q_256) rfl rfl rfl (by decide +kernel) ⟨Nat.le_of_ble_eq_true rfl, Nat.le_of_ble_eq_true rfl⟩) ⟨pc_blind, va_recv hK hP (ci := 8) (q0 := 0) rfl rfl, fun U hU hW => ⟨rfl, pc_mk hP hD hK hS hX hT [0, 1, 2, 3, 4] [] rfl rfl rfl rfl hF6 hU hW⟩⟩ rfl rfl hl.1 rfl (lv_room (Nat.le_of_ble_eq_true rfl)) dX9_value_12 ⟨(Nat.le_of_ble_eq_true rfl), (Nat.le_of_ble_eq_true rfl)⟩) hS (fun q9 _ h9 => hF6 q9 h9) hF6 (fun r9 u8 t8 H8 L8 ht8 hvm8 hw8 hB8 hz8 hk8 hS => ?_)
  obtain ⟨hP, hD, hK⟩ := pq_join (wr := []) (tr := []) (wz := [(h0, .inr (8, [.int 1, .ref h1, .ref h2, .ref h3, .ref h4, .int 0])), (h1, .inr (0, [.int 0, .ref z.1, .int 0])), (h2, .inr (0, [.int 0, .ref z.1, .int 0])), (h3, .inr (0, [.int 0, .ref z.1, .int 0])), (h4, .inr (0, [.int 0, .ref z.1, .int 0]))]) (tz := []) hP hD hK [0, 1, 2, 3, 4] [] [] rfl rfl (by decide) (by decide) rfl hk8 hF6 hB8 ht8 hvm8 rfl rfl
  refine W.eq (g2 := F0 m 15 ls [.int 1]) (by rw [hw8]) ?_
  refine lv_if_eq (tgt := 22) hx hb dX9_value_15 (by decide) (fun cz => absurd cz (by decide)) (fun _ => ?_)
  refine lv_iconst (v := 0) hx hb dX9_value_18 (by decide) ?_
  refine lv_goto (tgt := 36) hx hb dX9_value_19 (by decide) ?_
  exact W.zret (v := 0) (ty := .char) hx hb hr rfl (fun t9 ht9 hW9 => ⟨⟨0, (), rfl, rfl, pq_mk (wc := [(h0, .inr (8, [.int 1, .ref h1, .ref h2, .ref h3, .ref h4, .int 0])), (h1, .inr (0, [.int 0, .ref z.1, .int 0])), (h2, .inr (0, [.int 0, .ref z.1, .int 0])), (h3, .inr (0, [.int 0, .ref z.1, .int 0])), (h4, .inr (0, [.int 0, .ref z.1, .int 0]))]) (tc := []) hP hD hK [0, 1, 2, 3, 4] [] rfl rfl rfl rfl ht9 hW9⟩, hS.F ht9⟩) hS.2.2 dX9_value_36

set_option maxHeartbeats 4000000 in
set_option maxRecDepth 100000 in
theorem k246_changes (l : Launch) (hl9 : l.stackTraces = false) (dC : Nat → ClassId) (dI : Nat → Nat → Nat) (z : XZ) (h0 h1 h2 h3 h4 h5 h6 h7 h8 : Nat) (sz : Nat) (p0 : Int32) (kc0 : ClassId) : vx_Met l yX6_changes (.code yX6_changes cX6_changes 2 (some .int) :: wsL_law) ({ frames := 8, cells := 1, slots := 6, locals := 121 }) (va_Pc [.ref h0, .int p0] (PC (dC, dI) [(h0, .inr (6, [.ref h1, .ref h2, .ref h3])), (h1, .inr (2, [.ref h4, .ref h5, .ref h6, .ref h7])), (h2, .inr (5, [.ref h1, .int 0])), (h3, .inr (4, [.ref h1, .ref h8, .int 0])), (h4, .inr (0, [.int 0, .ref z.1, .int 0])), (h5, .inr (0, [.int 0, .ref z.1, .int 0])), (h6, .inr (0, [.int 0, .ref z.1, .int 0])), (h7, .inr (0, [.int 0, .ref z.1, .int 0])), (h8, .inl (kc0, 8, .inl (fun _ => 0)))] [(kc0, .int)] sz z)) (va_Qi (fun (_ : Int32) (_ : Unit) => False) (fun _ _ => True) (va_A [(h0, .inr (6, [.ref h1, .ref h2, .ref h3])), (h1, .inr (2, [.ref h4, .ref h5, .ref h6, .ref h7])), (h2, .inr (5, [.ref h1, .int 0])), (h3, .inr (4, [.ref h1, .ref h8, .int 0])), (h4, .inr (0, [.int 0, .ref z.1, .int 0])), (h5, .inr (0, [.int 0, .ref z.1, .int 0])), (h6, .inr (0, [.int 0, .ref z.1, .int 0])), (h7, .inr (0, [.int 0, .ref z.1, .int 0])), (h8, .inl (kc0, 8, .inl (fun _ => 0)))] sz)) (vx_X (fun (_ : Unit) => True) (fun (E : String) (_ : Unit) (_ : State) => E = "java/lang/IndexOutOfBoundsException") (va_A [(h0, .inr (6, [.ref h1, .ref h2, .ref h3])), (h1, .inr (2, [.ref h4, .ref h5, .ref h6, .ref h7])), (h2, .inr (5, [.ref h1, .int 0])), (h3, .inr (4, [.ref h1, .ref h8, .int 0])), (h4, .inr (0, [.int 0, .ref z.1, .int 0])), (h5, .inr (0, [.int 0, .ref z.1, .int 0])), (h6, .inr (0, [.int 0, .ref z.1, .int 0])), (h7, .inr (0, [.int 0, .ref z.1, .int 0])), (h8, .inl (kc0, 8, .inl (fun _ => 0)))] sz)) 1 6 (va_A [(h0, .inr (6, [.ref h1, .ref h2, .ref h3])), (h1, .inr (2, [.ref h4, .ref h5, .ref h6, .ref h7])), (h2, .inr (5, [.ref h1, .int 0])), (h3, .inr (4, [.ref h1, .ref h8, .int 0])), (h4, .inr (0, [.int 0, .ref z.1, .int 0])), (h5, .inr (0, [.int 0, .ref z.1, .int 0])), (h6, .inr (0, [.int 0, .ref z.1, .int 0])), (h7, .inr (0, [.int 0, .ref z.1, .int 0])), (h8, .inl (kc0, 8, .inl (fun _ => 0)))] sz) := by
  refine vx_ofW (cc := cX6_changes) (maxL := 2) (ret := (some .int)) (by decide) rfl ?_
  intro p e s m args below meth c s₁ B hml hnt hv
  obtain ⟨rfl, hsz, hP, hK, hD0, hX, hT⟩ := hv
  have hx := B.exec
  have hb := B.bytes
  have hr := B.returns
  have hts0 := atoms_spec (ws := .code yX6_changes cX6_changes 2 (some .int) :: wsL_law) B.pre
  have hts := xTail hts0
  have hown : s.vm.findClass RX6 = some m.cls := findClass_of_methodNamed B.named
  have hlocks := B.notSynchronized
  subst hsz
  have hD := hD0.self (sz := s.heap.size)
  generalize hAe : va_A [(h0, .inr (6, [.ref h1, .ref h2, .ref h3])), (h1, .inr (2, [.ref h4, .ref h5, .ref h6, .ref h7])), (h2, .inr (5, [.ref h1, .int 0])), (h3, .inr (4, [.ref h1, .ref h8, .int 0])), (h4, .inr (0, [.int 0, .ref z.1, .int 0])), (h5, .inr (0, [.int 0, .ref z.1, .int 0])), (h6, .inr (0, [.int 0, .ref z.1, .int 0])), (h7, .inr (0, [.int 0, .ref z.1, .int 0])), (h8, .inl (kc0, 8, .inl (fun _ => 0)))] s.heap.size = A at hD hX ⊢
  have hA : ∀ q : Nat, s.heap.size ≤ q → A q := fun q h => by rw [← hAe]; exact Or.inr h
  have hS : va_S A s.heap s.heap [] := va_S.rf
  have hl := lv_entry ([.ref h0, .int p0]) (n := 2) (Nat.le_of_ble_eq_true rfl)
  rw [lg_entry_eq]
  generalize (lg_sl ([.ref h0, .int p0]) ++ List.replicate (2 - (lg_sl ([.ref h0, .int p0])).length) Slot.unset).toArray = ls at hl ⊢
  have hl : lv_has ls 2 [(0, .ref h0), (1, .int p0)] := hl
  refine lv_aload_n hx hb dX6_changes_0 rfl (lv_at hl 0 rfl) ?_
  refine lv_iload_n hx hb dX6_changes_1 rfl (lv_at hl 1 rfl) ?_
  have hF1 := va_free (wc := [(h0, .inr (6, [.ref h1, .ref h2, .ref h3])), (h1, .inr (2, [.ref h4, .ref h5, .ref h6, .ref h7])), (h2, .inr (5, [.ref h1, .int 0])), (h3, .inr (4, [.ref h1, .ref h8, .int 0])), (h4, .inr (0, [.int 0, .ref z.1, .int 0])), (h5, .inr (0, [.int 0, .ref z.1, .int 0])), (h6, .inr (0, [.int 0, .ref z.1, .int 0])), (h7, .inr (0, [.int 0, .ref z.1, .int 0])), (h8, .inl (kc0, 8, .inl (fun _ => 0)))]) hD hS hA [0, 1, 2, 3, 4, 5, 6, 7, 8] rfl
  refine vx_callq (SX := Unit) (vx_runV (As := [.int p0]) (rest := []) ⟨hx, hb, hml, hown, hts⟩ (k89_netAt l hl9 dC dI z h0 h1 h2 h3 h4 h5 h6 h7 h8 s.heap.size p0 kc0) (cwV 1 hts (gV q_346 q_347 q_348 q_69 q_345) rfl rfl rfl (by decide +kernel) ⟨Nat.le_of_ble_eq_true rfl, Nat.le_of_ble_eq_true rfl⟩) ⟨pc_blind, va_recv hK hP (ci := 6) (q0 := 0) rfl rfl, fun U hU hW => ⟨rfl, pc_mk hP hD hK hS hX hT [0, 1, 2, 3, 4, 5, 6, 7, 8] [0] rfl rfl rfl rfl hF1 hU hW⟩⟩ rfl rfl hl.1 rfl (lv_room (Nat.le_of_ble_eq_true rfl)) dX6_changes_2 ⟨(Nat.le_of_ble_eq_true rfl), (Nat.le_of_ble_eq_true rfl)⟩) hS (fun q9 _ h9 => hF1 q9 h9) hF1 (fun q9 _ h9 => hF1 q9 h9) (fun E3 ce3 x3 v3 t3 H3 L3 ht3 hvm3 hw3 hB3 hz3 hk3 hS hc3 hn3 hf3 => ?_) (fun _ _ _ _ _ _ _ hw9 _ _ _ _ => hw9.elim)
  obtain ⟨hP, hD⟩ := pq_rest (wr := []) hP hD [0, 1, 2, 3, 4, 5, 6, 7, 8] [] rfl rfl (by decide) (by decide) hk3 hF1
  exact vx_out (fun x9 hx9 => (hnt x9 hx9).elim) hlocks hc3 hn3 hf3 (fun t9 ht9 hv9 => ⟨(), trivial, hB3, hS.F ht9⟩) hS.2.2 (by decide) (by decide)

set_option maxHeartbeats 4000000 in
set_option maxRecDepth 100000 in
theorem k247_changes (l : Launch) (hl9 : l.stackTraces = false) (dC : Nat → ClassId) (dI : Nat → Nat → Nat) (z : XZ) (h0 h1 h2 h3 h4 h5 h6 h7 h8 h9 : Nat) (sz : Nat) (p0 : Int32) (kc0 kc1 : ClassId) : Met l yL_changes (.codeWith yL_changes cL_changes 4 (some .int) [(0, 9, 12, 23)] :: wsL_law) ({ frames := 9, cells := 1, slots := 6, locals := 142 }) (va_Pc [.ref h0, .int p0, .ref h1] (PC (dC, dI) [(h0, .inr (6, [.ref h2, .ref h3, .ref h4])), (h1, .inl (kc0, 1, .inr (.inl (fun _ => 0)))), (h2, .inr (2, [.ref h5, .ref h6, .ref h7, .ref h8])), (h3, .inr (5, [.ref h2, .int 0])), (h4, .inr (4, [.ref h2, .ref h9, .int 0])), (h5, .inr (0, [.int 0, .ref z.1, .int 0])), (h6, .inr (0, [.int 0, .ref z.1, .int 0])), (h7, .inr (0, [.int 0, .ref z.1, .int 0])), (h8, .inr (0, [.int 0, .ref z.1, .int 0])), (h9, .inl (kc1, 8, .inl (fun _ => 0)))] [(kc0, .long), (kc1, .int)] sz z)) (va_Qi (fun (r : Int32) (_ : Unit) => r = 1) (fun (_ : Unit) (t : State) => PQ (dC, dI) [(h1, .inl (kc0, 1, .inr (.inl (fun _ => 0))))] [(kc0, .long)] (va_A [(h0, .inr (6, [.ref h2, .ref h3, .ref h4])), (h1, .inl (kc0, 1, .inr (.inl (fun _ => 0)))), (h2, .inr (2, [.ref h5, .ref h6, .ref h7, .ref h8])), (h3, .inr (5, [.ref h2, .int 0])), (h4, .inr (4, [.ref h2, .ref h9, .int 0])), (h5, .inr (0, [.int 0, .ref z.1, .int 0])), (h6, .inr (0, [.int 0, .ref z.1, .int 0])), (h7, .inr (0, [.int 0, .ref z.1, .int 0])), (h8, .inr (0, [.int 0, .ref z.1, .int 0])), (h9, .inl (kc1, 8, .inl (fun _ => 0)))] sz) t) (va_A [(h0, .inr (6, [.ref h2, .ref h3, .ref h4])), (h1, .inl (kc0, 1, .inr (.inl (fun _ => 0)))), (h2, .inr (2, [.ref h5, .ref h6, .ref h7, .ref h8])), (h3, .inr (5, [.ref h2, .int 0])), (h4, .inr (4, [.ref h2, .ref h9, .int 0])), (h5, .inr (0, [.int 0, .ref z.1, .int 0])), (h6, .inr (0, [.int 0, .ref z.1, .int 0])), (h7, .inr (0, [.int 0, .ref z.1, .int 0])), (h8, .inr (0, [.int 0, .ref z.1, .int 0])), (h9, .inl (kc1, 8, .inl (fun _ => 0)))] sz)) 1 6 (va_A [(h0, .inr (6, [.ref h2, .ref h3, .ref h4])), (h1, .inl (kc0, 1, .inr (.inl (fun _ => 0)))), (h2, .inr (2, [.ref h5, .ref h6, .ref h7, .ref h8])), (h3, .inr (5, [.ref h2, .int 0])), (h4, .inr (4, [.ref h2, .ref h9, .int 0])), (h5, .inr (0, [.int 0, .ref z.1, .int 0])), (h6, .inr (0, [.int 0, .ref z.1, .int 0])), (h7, .inr (0, [.int 0, .ref z.1, .int 0])), (h8, .inr (0, [.int 0, .ref z.1, .int 0])), (h9, .inl (kc1, 8, .inl (fun _ => 0)))] sz) := by
  refine va_MetW (cc := cL_changes) (maxL := 4) (ret := (some .int)) (hh := [(0, 9, 12, 23)]) (by decide) rfl ?_
  intro p e s m args below meth c s₁ B hml hv
  obtain ⟨rfl, hsz, hP, hK, hD0, hX, hT⟩ := hv
  have hx := B.exec
  have hb := B.bytes
  have hr := B.returns
  have hts0 := atoms_spec (ws := .codeWith yL_changes cL_changes 4 (some .int) [(0, 9, 12, 23)] :: wsL_law) B.pre
  have htab := vx_table (x := yL_changes) B (hts0 _ List.mem_cons_self)
  have hts := xTail hts0
  have hown : s.vm.findClass RL = some m.cls := findClass_of_methodNamed B.named
  have hlocks := B.notSynchronized
  subst hsz
  have hD := hD0.self (sz := s.heap.size)
  generalize hAe : va_A [(h0, .inr (6, [.ref h2, .ref h3, .ref h4])), (h1, .inl (kc0, 1, .inr (.inl (fun _ => 0)))), (h2, .inr (2, [.ref h5, .ref h6, .ref h7, .ref h8])), (h3, .inr (5, [.ref h2, .int 0])), (h4, .inr (4, [.ref h2, .ref h9, .int 0])), (h5, .inr (0, [.int 0, .ref z.1, .int 0])), (h6, .inr (0, [.int 0, .ref z.1, .int 0])), (h7, .inr (0, [.int 0, .ref z.1, .int 0])), (h8, .inr (0, [.int 0, .ref z.1, .int 0])), (h9, .inl (kc1, 8, .inl (fun _ => 0)))] s.heap.size = A at hD hX ⊢
  have hA : ∀ q : Nat, s.heap.size ≤ q → A q := fun q h => by rw [← hAe]; exact Or.inr h
  have hS : va_S A s.heap s.heap [] := va_S.rf
  have hl := lv_entry ([.ref h0, .int p0, .ref h1]) (n := 4) (Nat.le_of_ble_eq_true rfl)
  rw [lg_entry_eq]
  generalize (lg_sl ([.ref h0, .int p0, .ref h1]) ++ List.replicate (4 - (lg_sl ([.ref h0, .int p0, .ref h1])).length) Slot.unset).toArray = ls at hl ⊢
  have hl : lv_has ls 4 [(0, .ref h0), (1, .int p0), (2, .ref h1)] := hl
  refine lv_aload_n hx hb dL_changes_0 rfl (lv_at hl 2 rfl) ?_
  refine lv_iconst (v := 0) hx hb dL_changes_1 (by decide) ?_
  refine lv_aload_n hx hb dL_changes_2 rfl (lv_at hl 0 rfl) ?_
  refine lv_iload_n hx hb dL_changes_3 rfl (lv_at hl 1 rfl) ?_
  have hF1 := va_free (wc := [(h0, .inr (6, [.ref h2, .ref h3, .ref h4])), (h2, .inr (2, [.ref h5, .ref h6, .ref h7, .ref h8])), (h3, .inr (5, [.ref h2, .int 0])), (h4, .inr (4, [.ref h2, .ref h9, .int 0])), (h5, .inr (0, [.int 0, .ref z.1, .int 0])), (h6, .inr (0, [.int 0, .ref z.1, .int 0])), (h7, .inr (0, [.int 0, .ref z.1, .int 0])), (h8, .inr (0, [.int 0, .ref z.1, .int 0])), (h9, .inl (kc1, 8, .inl (fun _ => 0)))]) hD hS hA [0, 2, 3, 4, 5, 6, 7, 8, 9] rfl
  refine vx_calli (SX := Unit) (vx_runV (As := [.int p0]) (rest := [.int 0, .ref h1]) ⟨hx, hb, hml, hown, hts⟩ (k246_changes l hl9 dC dI z h0 h2 h3 h4 h5 h6 h7 h8 h9 s.heap.size p0 kc1) (cwV 1 hts (gV q_527 q_528 q_529 q_69 q_526) rfl rfl rfl (by decide +kernel) ⟨Nat.le_of_ble_eq_true rfl, Nat.le_of_ble_eq_true rfl⟩) ⟨pc_blind, va_recv hK hP (ci := 6) (q0 := 0) rfl rfl, fun U hU hW => ⟨rfl, pc_mk hP hD hK hS hX hT [0, 2, 3, 4, 5, 6, 7, 8, 9] [1] rfl rfl rfl rfl hF1 hU hW⟩⟩ rfl rfl hl.1 rfl (lv_room (Nat.le_of_ble_eq_true rfl)) dL_changes_4 ⟨(Nat.le_of_ble_eq_true rfl), (Nat.le_of_ble_eq_true rfl)⟩) hS (fun q9 _ h9 => hF1 q9 h9) hF1 (fun q9 _ h9 => hF1 q9 h9) (fun E3 ce3 x3 v3 t3 H3 L3 ht3 hvm3 hw3 hB3 hz3 hk3 hS hc3 hn3 hf3 => ?_) (fun _ _ _ _ _ _ _ hw9 _ _ _ _ => hw9.elim)
  obtain ⟨hP, hD⟩ := pq_rest (wr := [(h1, .inl (kc0, 1, .inr (.inl (fun _ => 0))))]) hP hD [0, 2, 3, 4, 5, 6, 7, 8, 9] [1] rfl rfl (by decide) (by decide) hk3 hF1
  subst hB3
  refine vx_catch (own := RL) (name := "java/lang/IndexOutOfBoundsException") hown [] ⟨0, 9, 12, 23⟩ [] htab (fun z9 hz9 => absurd hz9 List.not_mem_nil) (by decide) (by decide) (hts _ q_354) (va_Nw.use rfl (hT.2.1.1 ("java/lang/IndexOutOfBoundsException", "java/lang/IndexOutOfBoundsException") (by decide))) hc3 hn3 hf3 ?_
  refine lv_astore_n (lv' := [(3, .ref x3), (0, .ref h0), (1, .int p0), (2, .ref h1)]) hx hb dL_changes_12 rfl hl (by decide) rfl (fun ls hl => ?_)
  refine lv_iconst (v := 1) hx hb dL_changes_13 (by decide) ?_
  exact W.iret (v := 1) hx hb hr (fun t9 ht9 hW9 => ⟨⟨1, (), rfl, rfl, pq_mk (wc := [(h1, .inl (kc0, 1, .inr (.inl (fun _ => 0))))]) (tc := [(kc0, .long)]) hP hD hK [0] [0] rfl rfl rfl rfl ht9 hW9⟩, hS.F ht9⟩) hS.2.2 dL_changes_14

set_option maxHeartbeats 4000000 in
set_option maxRecDepth 100000 in
theorem k248_changes (l : Launch) (hl9 : l.stackTraces = false) (dC : Nat → ClassId) (dI : Nat → Nat → Nat) (z : XZ) (h0 h1 h2 h3 h4 : Nat) (sz : Nat) (p0 : Int32) : Met l yX9_changes (.code yX9_changes cX9_changes 2 (some .int) :: wsL_law) ({ frames := 2, cells := 0, slots := 0, locals := 43 }) (va_Pc [.ref h0, .int p0] (PC (dC, dI) [(h0, .inr (8, [.int 0, .ref h1, .ref h2, .ref h3, .ref h4, .int 0])), (h1, .inr (0, [.int 0, .ref z.1, .int 0])), (h2, .inr (0, [.int 0, .ref z.1, .int 0])), (h3, .inr (0, [.int 0, .ref z.1, .int 0])), (h4, .inr (0, [.int 0, .ref z.1, .int 0]))] [] sz z)) (va_Qi (fun (r : Int32) (_ : Unit) => r = 0) (fun (_ : Unit) (t : State) => PQ (dC, dI) [(h0, .inr (8, [.int 1, .ref h1, .ref h2, .ref h3, .ref h4, .int 0])), (h1, .inr (0, [.int 0, .ref z.1, .int 0])), (h2, .inr (0, [.int 0, .ref z.1, .int 0])), (h3, .inr (0, [.int 0, .ref z.1, .int 0])), (h4, .inr (0, [.int 0, .ref z.1, .int 0]))] [] (va_A [(h0, .inr (8, [.int 0, .ref h1, .ref h2, .ref h3, .ref h4, .int 0])), (h1, .inr (0, [.int 0, .ref z.1, .int 0])), (h2, .inr (0, [.int 0, .ref z.1, .int 0])), (h3, .inr (0, [.int 0, .ref z.1, .int 0])), (h4, .inr (0, [.int 0, .ref z.1, .int 0]))] sz) t) (va_A [(h0, .inr (8, [.int 0, .ref h1, .ref h2, .ref h3, .ref h4, .int 0])), (h1, .inr (0, [.int 0, .ref z.1, .int 0])), (h2, .inr (0, [.int 0, .ref z.1, .int 0])), (h3, .inr (0, [.int 0, .ref z.1, .int 0])), (h4, .inr (0, [.int 0, .ref z.1, .int 0]))] sz)) 0 0 (va_A [(h0, .inr (8, [.int 0, .ref h1, .ref h2, .ref h3, .ref h4, .int 0])), (h1, .inr (0, [.int 0, .ref z.1, .int 0])), (h2, .inr (0, [.int 0, .ref z.1, .int 0])), (h3, .inr (0, [.int 0, .ref z.1, .int 0])), (h4, .inr (0, [.int 0, .ref z.1, .int 0]))] sz) := by
  refine Met.ofW (cc := cX9_changes) (maxL := 2) (ret := (some .int)) (by decide) rfl ?_
  intro p e s m args below meth c s₁ B hml hv
  obtain ⟨rfl, hsz, hP, hK, hD0, hX, hT⟩ := hv
  have hx := B.exec
  have hb := B.bytes
  have hr := B.returns
  have hts0 := atoms_spec (ws := .code yX9_changes cX9_changes 2 (some .int) :: wsL_law) B.pre
  have hts := xTail hts0
  have hown : s.vm.findClass RX9 = some m.cls := findClass_of_methodNamed B.named
  have hlocks := B.notSynchronized
  subst hsz
  have hD := hD0.self (sz := s.heap.size)
  generalize hAe : va_A [(h0, .inr (8, [.int 0, .ref h1, .ref h2, .ref h3, .ref h4, .int 0])), (h1, .inr (0, [.int 0, .ref z.1, .int 0])), (h2, .inr (0, [.int 0, .ref z.1, .int 0])), (h3, .inr (0, [.int 0, .ref z.1, .int 0])), (h4, .inr (0, [.int 0, .ref z.1, .int 0]))] s.heap.size = A at hD hX ⊢
  have hA : ∀ q : Nat, s.heap.size ≤ q → A q := fun q h => by rw [← hAe]; exact Or.inr h
  have hS : va_S A s.heap s.heap [] := va_S.rf
  have hl := lv_entry ([.ref h0, .int p0]) (n := 2) (Nat.le_of_ble_eq_true rfl)
  rw [lg_entry_eq]
  generalize (lg_sl ([.ref h0, .int p0]) ++ List.replicate (2 - (lg_sl ([.ref h0, .int p0])).length) Slot.unset).toArray = ls at hl ⊢
  have hl : lv_has ls 2 [(0, .ref h0), (1, .int p0)] := hl
  refine lv_aload_n hx hb dX9_changes_0 rfl (lv_at hl 0 rfl) ?_
  refine lv_iconst (v := 0) hx hb dX9_changes_1 (by decide) ?_
  refine va_put (D := (dC, dI)) (ci := 8) (v := .int 0) (ty := .int) (C := RX9) (T := TX9) (N := 6) hx hb hts in_X9 tyX9 tyX9_ok nmX9 hown hK hP hD hS 0 rfl rfl 0 (by decide) (hts _ q_230) (fun _ h9 => h9) rfl (by decide +kernel) rfl rfl (Nat.le_of_ble_eq_true rfl) dX9_changes_2 (fun H1 _ hP hD hS => ?_)
  have hP : va_P (dC, dI) xCl [(h0, .inr (8, [.int 0, .ref h1, .ref h2, .ref h3, .ref h4, .int 0])), (h1, .inr (0, [.int 0, .ref z.1, .int 0])), (h2, .inr (0, [.int 0, .ref z.1, .int 0])), (h3, .inr (0, [.int 0, .ref z.1, .int 0])), (h4, .inr (0, [.int 0, .ref z.1, .int 0]))] H1 := hP
  have hD : va_D A [(h0, .inr (8, [.int 0, .ref h1, .ref h2, .ref h3, .ref h4, .int 0])), (h1, .inr (0, [.int 0, .ref z.1, .int 0])), (h2, .inr (0, [.int 0, .ref z.1, .int 0])), (h3, .inr (0, [.int 0, .ref z.1, .int 0])), (h4, .inr (0, [.int 0, .ref z.1, .int 0]))] := hD
  refine lv_aload_n hx hb dX9_changes_5 rfl (lv_at hl 0 rfl) ?_
  refine lv_aload_n hx hb dX9_changes_6 rfl (lv_at hl 0 rfl) ?_
  refine lv_iload_n hx hb dX9_changes_7 rfl (lv_at hl 1 rfl) ?_
  have hF2 := va_free (wc := [(h0, .inr (8, [.int 0, .ref h1, .ref h2, .ref h3, .ref h4, .int 0])), (h1, .inr (0, [.int 0, .ref z.1, .int 0])), (h2, .inr (0, [.int 0, .ref z.1, .int 0])), (h3, .inr (0, [.int 0, .ref z.1, .int 0])), (h4, .inr (0, [.int 0, .ref z.1, .int 0]))]) hD hS hA [0, 1, 2, 3, 4] rfl
  refine va_calli (va_runV (As := [.int p0]) (rest := [.ref h0]) ⟨hx, hb, hml, hown, hts⟩ (k95_no l hl9 dC dI z h0 h1 h2 h3 h4 H1.size p0) (cwV 1 hts (gV q_362 q_363 q_364 q_255 q_361) rfl rfl rfl (by decide +kernel) ⟨Nat.le_of_ble_eq_true rfl, Nat.le_of_ble_eq_true rfl⟩) ⟨pc_blind, va_recv hK hP (ci := 8) (q0 := 0) rfl rfl, fun U hU hW => ⟨rfl, pc_mk hP hD hK hS hX hT [0, 1, 2, 3, 4] [] rfl rfl rfl rfl hF2 hU hW⟩⟩ rfl rfl hl.1 rfl (lv_room (Nat.le_of_ble_eq_true rfl)) dX9_changes_8 ⟨(Nat.le_of_ble_eq_true rfl), (Nat.le_of_ble_eq_true rfl)⟩) hS (fun q9 _ h9 => hF2 q9 h9) hF2 (fun r5 u4 t4 H4 L4 ht4 hvm4 hw4 hB4 hz4 hk4 hS => ?_)
  obtain ⟨hP, hD, hK⟩ := pq_join (wr := []) (tr := []) (wz := [(h0, .inr (8, [.int 0, .ref h1, .ref h2, .ref h3, .ref h4, .int 0])), (h1, .inr (0, [.int 0, .ref z.1, .int 0])), (h2, .inr (0, [.int 0, .ref z.1, .int 0])), (h3, .inr (0, [.int 0, .ref z.1, .int 0])), (h4, .inr (0, [.int 0, .ref z.1, .int 0]))]) (tz := []) hP hD hK [0, 1, 2, 3, 4] [] [] rfl rfl (by decide) (by decide) rfl hk4 hF2 hB4 ht4 hvm4 rfl rfl
  refine W.eq (g2 := F0 m 11 ls [.int 1, .ref h0]) (by rw [hw4]) ?_
  refine lv_iconst (v := 1) hx hb dX9_changes_11 (by decide) ?_
  have hF6 := va_free (wc := [(h0, .inr (8, [.int 0, .ref h1, .ref h2, .ref h3, .ref h4, .int 0])), (h1, .inr (0, [.int 0, .ref z.1, .int 0])), (h2, .inr (0, [.int 0, .ref z.1, .int 0])), (h3, .inr (0, [.int 0, .ref z.1, .int 0])), (h4, .inr (0, [.int 0, .ref z.1, .int 0]))]) hD hS hA [0, 1, 2, 3, 4] rfl
  refine va_calli (va_runV (As := [.int 1, .int 1]) (rest := []) ⟨hx, hb, hml, hown, hts⟩ (k93_fails l hl9 dC dI z h0 h1 h2 h3 h4 H4.size) (cwV 2 hts (gV q_257 q_258 q_259 q_255 q_256) rfl rfl rfl (by decide +kernel) ⟨Nat.le_of_ble_eq_true rfl, Nat.le_of_ble_eq_true rfl⟩) ⟨pc_blind, va_recv hK hP (ci := 8) (q0 := 0) rfl rfl, fun U hU hW => ⟨rfl, pc_mk hP hD hK hS hX hT [0, 1, 2, 3, 4] [] rfl rfl rfl rfl hF6 hU hW⟩⟩ rfl rfl hl.1 rfl (lv_room (Nat.le_of_ble_eq_true rfl)) dX9_changes_12 ⟨(Nat.le_of_ble_eq_true rfl), (Nat.le_of_ble_eq_true rfl)⟩) hS (fun q9 _ h9 => hF6 q9 h9) hF6 (fun r9 u8 t8 H8 L8 ht8 hvm8 hw8 hB8 hz8 hk8 hS => ?_)
  obtain ⟨hP, hD, hK⟩ := pq_join (wr := []) (tr := []) (wz := [(h0, .inr (8, [.int 1, .ref h1, .ref h2, .ref h3, .ref h4, .int 0])), (h1, .inr (0, [.int 0, .ref z.1, .int 0])), (h2, .inr (0, [.int 0, .ref z.1, .int 0])), (h3, .inr (0, [.int 0, .ref z.1, .int 0])), (h4, .inr (0, [.int 0, .ref z.1, .int 0]))]) (tz := []) hP hD hK [0, 1, 2, 3, 4] [] [] rfl rfl (by decide) (by decide) rfl hk8 hF6 hB8 ht8 hvm8 rfl rfl
  refine W.eq (g2 := F0 m 15 ls [.int 1]) (by rw [hw8]) ?_
  refine lv_if_eq (tgt := 22) hx hb dX9_changes_15 (by decide) (fun cz => absurd cz (by decide)) (fun _ => ?_)
  refine lv_iconst (v := 0) hx hb dX9_changes_18 (by decide) ?_
  refine lv_goto (tgt := 36) hx hb dX9_changes_19 (by decide) ?_
  exact W.iret (v := 0) hx hb hr (fun t9 ht9 hW9 => ⟨⟨0, (), rfl, rfl, pq_mk (wc := [(h0, .inr (8, [.int 1, .ref h1, .ref h2, .ref h3, .ref h4, .int 0])), (h1, .inr (0, [.int 0, .ref z.1, .int 0])), (h2, .inr (0, [.int 0, .ref z.1, .int 0])), (h3, .inr (0, [.int 0, .ref z.1, .int 0])), (h4, .inr (0, [.int 0, .ref z.1, .int 0]))]) (tc := []) hP hD hK [0, 1, 2, 3, 4] [] rfl rfl rfl rfl ht9 hW9⟩, hS.F ht9⟩) hS.2.2 dX9_changes_36

set_option maxHeartbeats 4000000 in
set_option maxRecDepth 100000 in
theorem k249_lastChange (l : Launch) (hl9 : l.stackTraces = false) (dC : Nat → ClassId) (dI : Nat → Nat → Nat) (z : XZ) (h0 h1 h2 h3 h4 h5 h6 h7 h8 : Nat) (sz : Nat) (p0 : Int32) (kc0 : ClassId) : vx_Met l yX6_lastChange (.code yX6_lastChange cX6_lastChange 3 (some .int) :: wsL_law) ({ frames := 8, cells := 1, slots := 6, locals := 121 }) (va_Pc [.ref h0, .int p0] (PC (dC, dI) [(h0, .inr (6, [.ref h1, .ref h2, .ref h3])), (h1, .inr (2, [.ref h4, .ref h5, .ref h6, .ref h7])), (h2, .inr (5, [.ref h1, .int 0])), (h3, .inr (4, [.ref h1, .ref h8, .int 0])), (h4, .inr (0, [.int 0, .ref z.1, .int 0])), (h5, .inr (0, [.int 0, .ref z.1, .int 0])), (h6, .inr (0, [.int 0, .ref z.1, .int 0])), (h7, .inr (0, [.int 0, .ref z.1, .int 0])), (h8, .inl (kc0, 8, .inl (fun _ => 0)))] [(kc0, .int)] sz z)) (va_Qi (fun (_ : Int32) (_ : Unit) => False) (fun _ _ => True) (va_A [(h0, .inr (6, [.ref h1, .ref h2, .ref h3])), (h1, .inr (2, [.ref h4, .ref h5, .ref h6, .ref h7])), (h2, .inr (5, [.ref h1, .int 0])), (h3, .inr (4, [.ref h1, .ref h8, .int 0])), (h4, .inr (0, [.int 0, .ref z.1, .int 0])), (h5, .inr (0, [.int 0, .ref z.1, .int 0])), (h6, .inr (0, [.int 0, .ref z.1, .int 0])), (h7, .inr (0, [.int 0, .ref z.1, .int 0])), (h8, .inl (kc0, 8, .inl (fun _ => 0)))] sz)) (vx_X (fun (_ : Unit) => True) (fun (E : String) (_ : Unit) (_ : State) => E = "java/lang/IndexOutOfBoundsException") (va_A [(h0, .inr (6, [.ref h1, .ref h2, .ref h3])), (h1, .inr (2, [.ref h4, .ref h5, .ref h6, .ref h7])), (h2, .inr (5, [.ref h1, .int 0])), (h3, .inr (4, [.ref h1, .ref h8, .int 0])), (h4, .inr (0, [.int 0, .ref z.1, .int 0])), (h5, .inr (0, [.int 0, .ref z.1, .int 0])), (h6, .inr (0, [.int 0, .ref z.1, .int 0])), (h7, .inr (0, [.int 0, .ref z.1, .int 0])), (h8, .inl (kc0, 8, .inl (fun _ => 0)))] sz)) 1 6 (va_A [(h0, .inr (6, [.ref h1, .ref h2, .ref h3])), (h1, .inr (2, [.ref h4, .ref h5, .ref h6, .ref h7])), (h2, .inr (5, [.ref h1, .int 0])), (h3, .inr (4, [.ref h1, .ref h8, .int 0])), (h4, .inr (0, [.int 0, .ref z.1, .int 0])), (h5, .inr (0, [.int 0, .ref z.1, .int 0])), (h6, .inr (0, [.int 0, .ref z.1, .int 0])), (h7, .inr (0, [.int 0, .ref z.1, .int 0])), (h8, .inl (kc0, 8, .inl (fun _ => 0)))] sz) := by
  refine vx_ofW (cc := cX6_lastChange) (maxL := 3) (ret := (some .int)) (by decide) rfl ?_
  intro p e s m args below meth c s₁ B hml hnt hv
  obtain ⟨rfl, hsz, hP, hK, hD0, hX, hT⟩ := hv
  have hx := B.exec
  have hb := B.bytes
  have hr := B.returns
  have hts0 := atoms_spec (ws := .code yX6_lastChange cX6_lastChange 3 (some .int) :: wsL_law) B.pre
  have hts := xTail hts0
  have hown : s.vm.findClass RX6 = some m.cls := findClass_of_methodNamed B.named
  have hlocks := B.notSynchronized
  subst hsz
  have hD := hD0.self (sz := s.heap.size)
  generalize hAe : va_A [(h0, .inr (6, [.ref h1, .ref h2, .ref h3])), (h1, .inr (2, [.ref h4, .ref h5, .ref h6, .ref h7])), (h2, .inr (5, [.ref h1, .int 0])), (h3, .inr (4, [.ref h1, .ref h8, .int 0])), (h4, .inr (0, [.int 0, .ref z.1, .int 0])), (h5, .inr (0, [.int 0, .ref z.1, .int 0])), (h6, .inr (0, [.int 0, .ref z.1, .int 0])), (h7, .inr (0, [.int 0, .ref z.1, .int 0])), (h8, .inl (kc0, 8, .inl (fun _ => 0)))] s.heap.size = A at hD hX ⊢
  have hA : ∀ q : Nat, s.heap.size ≤ q → A q := fun q h => by rw [← hAe]; exact Or.inr h
  have hS : va_S A s.heap s.heap [] := va_S.rf
  have hl := lv_entry ([.ref h0, .int p0]) (n := 3) (Nat.le_of_ble_eq_true rfl)
  rw [lg_entry_eq]
  generalize (lg_sl ([.ref h0, .int p0]) ++ List.replicate (3 - (lg_sl ([.ref h0, .int p0])).length) Slot.unset).toArray = ls at hl ⊢
  have hl : lv_has ls 3 [(0, .ref h0), (1, .int p0)] := hl
  refine lv_aload_n hx hb dX6_lastChange_0 rfl (lv_at hl 0 rfl) ?_
  refine lv_iload_n hx hb dX6_lastChange_1 rfl (lv_at hl 1 rfl) ?_
  have hF1 := va_free (wc := [(h0, .inr (6, [.ref h1, .ref h2, .ref h3])), (h1, .inr (2, [.ref h4, .ref h5, .ref h6, .ref h7])), (h2, .inr (5, [.ref h1, .int 0])), (h3, .inr (4, [.ref h1, .ref h8, .int 0])), (h4, .inr (0, [.int 0, .ref z.1, .int 0])), (h5, .inr (0, [.int 0, .ref z.1, .int 0])), (h6, .inr (0, [.int 0, .ref z.1, .int 0])), (h7, .inr (0, [.int 0, .ref z.1, .int 0])), (h8, .inl (kc0, 8, .inl (fun _ => 0)))]) hD hS hA [0, 1, 2, 3, 4, 5, 6, 7, 8] rfl
  refine vx_callq (SX := Unit) (vx_runV (As := [.int p0]) (rest := []) ⟨hx, hb, hml, hown, hts⟩ (k89_netAt l hl9 dC dI z h0 h1 h2 h3 h4 h5 h6 h7 h8 s.heap.size p0 kc0) (cwV 1 hts (gV q_346 q_347 q_348 q_69 q_345) rfl rfl rfl (by decide +kernel) ⟨Nat.le_of_ble_eq_true rfl, Nat.le_of_ble_eq_true rfl⟩) ⟨pc_blind, va_recv hK hP (ci := 6) (q0 := 0) rfl rfl, fun U hU hW => ⟨rfl, pc_mk hP hD hK hS hX hT [0, 1, 2, 3, 4, 5, 6, 7, 8] [0] rfl rfl rfl rfl hF1 hU hW⟩⟩ rfl rfl hl.1 rfl (lv_room (Nat.le_of_ble_eq_true rfl)) dX6_lastChange_2 ⟨(Nat.le_of_ble_eq_true rfl), (Nat.le_of_ble_eq_true rfl)⟩) hS (fun q9 _ h9 => hF1 q9 h9) hF1 (fun q9 _ h9 => hF1 q9 h9) (fun E3 ce3 x3 v3 t3 H3 L3 ht3 hvm3 hw3 hB3 hz3 hk3 hS hc3 hn3 hf3 => ?_) (fun _ _ _ _ _ _ _ hw9 _ _ _ _ => hw9.elim)
  obtain ⟨hP, hD⟩ := pq_rest (wr := []) hP hD [0, 1, 2, 3, 4, 5, 6, 7, 8] [] rfl rfl (by decide) (by decide) hk3 hF1
  exact vx_out (fun x9 hx9 => (hnt x9 hx9).elim) hlocks hc3 hn3 hf3 (fun t9 ht9 hv9 => ⟨(), trivial, hB3, hS.F ht9⟩) hS.2.2 (by decide) (by decide)

set_option maxHeartbeats 4000000 in
set_option maxRecDepth 100000 in
theorem k250_lastChange (l : Launch) (hl9 : l.stackTraces = false) (dC : Nat → ClassId) (dI : Nat → Nat → Nat) (z : XZ) (h0 h1 h2 h3 h4 h5 h6 h7 h8 h9 : Nat) (sz : Nat) (p0 : Int32) (kc0 kc1 : ClassId) : Met l yL_lastChange (.codeWith yL_lastChange cL_lastChange 4 (some .int) [(0, 9, 12, 23), (0, 9, 15, 64)] :: wsL_law) ({ frames := 9, cells := 1, slots := 6, locals := 143 }) (va_Pc [.ref h0, .int p0, .ref h1] (PC (dC, dI) [(h0, .inr (6, [.ref h2, .ref h3, .ref h4])), (h1, .inl (kc0, 1, .inr (.inl (fun _ => 0)))), (h2, .inr (2, [.ref h5, .ref h6, .ref h7, .ref h8])), (h3, .inr (5, [.ref h2, .int 0])), (h4, .inr (4, [.ref h2, .ref h9, .int 0])), (h5, .inr (0, [.int 0, .ref z.1, .int 0])), (h6, .inr (0, [.int 0, .ref z.1, .int 0])), (h7, .inr (0, [.int 0, .ref z.1, .int 0])), (h8, .inr (0, [.int 0, .ref z.1, .int 0])), (h9, .inl (kc1, 8, .inl (fun _ => 0)))] [(kc0, .long), (kc1, .int)] sz z)) (va_Qi (fun (r : Int32) (_ : Unit) => r = 1) (fun (_ : Unit) (t : State) => PQ (dC, dI) [(h1, .inl (kc0, 1, .inr (.inl (fun _ => 0))))] [(kc0, .long)] (va_A [(h0, .inr (6, [.ref h2, .ref h3, .ref h4])), (h1, .inl (kc0, 1, .inr (.inl (fun _ => 0)))), (h2, .inr (2, [.ref h5, .ref h6, .ref h7, .ref h8])), (h3, .inr (5, [.ref h2, .int 0])), (h4, .inr (4, [.ref h2, .ref h9, .int 0])), (h5, .inr (0, [.int 0, .ref z.1, .int 0])), (h6, .inr (0, [.int 0, .ref z.1, .int 0])), (h7, .inr (0, [.int 0, .ref z.1, .int 0])), (h8, .inr (0, [.int 0, .ref z.1, .int 0])), (h9, .inl (kc1, 8, .inl (fun _ => 0)))] sz) t) (va_A [(h0, .inr (6, [.ref h2, .ref h3, .ref h4])), (h1, .inl (kc0, 1, .inr (.inl (fun _ => 0)))), (h2, .inr (2, [.ref h5, .ref h6, .ref h7, .ref h8])), (h3, .inr (5, [.ref h2, .int 0])), (h4, .inr (4, [.ref h2, .ref h9, .int 0])), (h5, .inr (0, [.int 0, .ref z.1, .int 0])), (h6, .inr (0, [.int 0, .ref z.1, .int 0])), (h7, .inr (0, [.int 0, .ref z.1, .int 0])), (h8, .inr (0, [.int 0, .ref z.1, .int 0])), (h9, .inl (kc1, 8, .inl (fun _ => 0)))] sz)) 1 6 (va_A [(h0, .inr (6, [.ref h2, .ref h3, .ref h4])), (h1, .inl (kc0, 1, .inr (.inl (fun _ => 0)))), (h2, .inr (2, [.ref h5, .ref h6, .ref h7, .ref h8])), (h3, .inr (5, [.ref h2, .int 0])), (h4, .inr (4, [.ref h2, .ref h9, .int 0])), (h5, .inr (0, [.int 0, .ref z.1, .int 0])), (h6, .inr (0, [.int 0, .ref z.1, .int 0])), (h7, .inr (0, [.int 0, .ref z.1, .int 0])), (h8, .inr (0, [.int 0, .ref z.1, .int 0])), (h9, .inl (kc1, 8, .inl (fun _ => 0)))] sz) := by
  refine va_MetW (cc := cL_lastChange) (maxL := 4) (ret := (some .int)) (hh := [(0, 9, 12, 23), (0, 9, 15, 64)]) (by decide) rfl ?_
  intro p e s m args below meth c s₁ B hml hv
  obtain ⟨rfl, hsz, hP, hK, hD0, hX, hT⟩ := hv
  have hx := B.exec
  have hb := B.bytes
  have hr := B.returns
  have hts0 := atoms_spec (ws := .codeWith yL_lastChange cL_lastChange 4 (some .int) [(0, 9, 12, 23), (0, 9, 15, 64)] :: wsL_law) B.pre
  have htab := vx_table (x := yL_lastChange) B (hts0 _ List.mem_cons_self)
  have hts := xTail hts0
  have hown : s.vm.findClass RL = some m.cls := findClass_of_methodNamed B.named
  have hlocks := B.notSynchronized
  subst hsz
  have hD := hD0.self (sz := s.heap.size)
  generalize hAe : va_A [(h0, .inr (6, [.ref h2, .ref h3, .ref h4])), (h1, .inl (kc0, 1, .inr (.inl (fun _ => 0)))), (h2, .inr (2, [.ref h5, .ref h6, .ref h7, .ref h8])), (h3, .inr (5, [.ref h2, .int 0])), (h4, .inr (4, [.ref h2, .ref h9, .int 0])), (h5, .inr (0, [.int 0, .ref z.1, .int 0])), (h6, .inr (0, [.int 0, .ref z.1, .int 0])), (h7, .inr (0, [.int 0, .ref z.1, .int 0])), (h8, .inr (0, [.int 0, .ref z.1, .int 0])), (h9, .inl (kc1, 8, .inl (fun _ => 0)))] s.heap.size = A at hD hX ⊢
  have hA : ∀ q : Nat, s.heap.size ≤ q → A q := fun q h => by rw [← hAe]; exact Or.inr h
  have hS : va_S A s.heap s.heap [] := va_S.rf
  have hl := lv_entry ([.ref h0, .int p0, .ref h1]) (n := 4) (Nat.le_of_ble_eq_true rfl)
  rw [lg_entry_eq]
  generalize (lg_sl ([.ref h0, .int p0, .ref h1]) ++ List.replicate (4 - (lg_sl ([.ref h0, .int p0, .ref h1])).length) Slot.unset).toArray = ls at hl ⊢
  have hl : lv_has ls 4 [(0, .ref h0), (1, .int p0), (2, .ref h1)] := hl
  refine lv_aload_n hx hb dL_lastChange_0 rfl (lv_at hl 2 rfl) ?_
  refine lv_iconst (v := 0) hx hb dL_lastChange_1 (by decide) ?_
  refine lv_aload_n hx hb dL_lastChange_2 rfl (lv_at hl 0 rfl) ?_
  refine lv_iload_n hx hb dL_lastChange_3 rfl (lv_at hl 1 rfl) ?_
  have hF1 := va_free (wc := [(h0, .inr (6, [.ref h2, .ref h3, .ref h4])), (h2, .inr (2, [.ref h5, .ref h6, .ref h7, .ref h8])), (h3, .inr (5, [.ref h2, .int 0])), (h4, .inr (4, [.ref h2, .ref h9, .int 0])), (h5, .inr (0, [.int 0, .ref z.1, .int 0])), (h6, .inr (0, [.int 0, .ref z.1, .int 0])), (h7, .inr (0, [.int 0, .ref z.1, .int 0])), (h8, .inr (0, [.int 0, .ref z.1, .int 0])), (h9, .inl (kc1, 8, .inl (fun _ => 0)))]) hD hS hA [0, 2, 3, 4, 5, 6, 7, 8, 9] rfl
  refine vx_calli (SX := Unit) (vx_runV (As := [.int p0]) (rest := [.int 0, .ref h1]) ⟨hx, hb, hml, hown, hts⟩ (k249_lastChange l hl9 dC dI z h0 h2 h3 h4 h5 h6 h7 h8 h9 s.heap.size p0 kc1) (cwV 1 hts (gV q_538 q_539 q_540 q_69 q_537) rfl rfl rfl (by decide +kernel) ⟨Nat.le_of_ble_eq_true rfl, Nat.le_of_ble_eq_true rfl⟩) ⟨pc_blind, va_recv hK hP (ci := 6) (q0 := 0) rfl rfl, fun U hU hW => ⟨rfl, pc_mk hP hD hK hS hX hT [0, 2, 3, 4, 5, 6, 7, 8, 9] [1] rfl rfl rfl rfl hF1 hU hW⟩⟩ rfl rfl hl.1 rfl (lv_room (Nat.le_of_ble_eq_true rfl)) dL_lastChange_4 ⟨(Nat.le_of_ble_eq_true rfl), (Nat.le_of_ble_eq_true rfl)⟩) hS (fun q9 _ h9 => hF1 q9 h9) hF1 (fun q9 _ h9 => hF1 q9 h9) (fun E3 ce3 x3 v3 t3 H3 L3 ht3 hvm3 hw3 hB3 hz3 hk3 hS hc3 hn3 hf3 => ?_) (fun _ _ _ _ _ _ _ hw9 _ _ _ _ => hw9.elim)
  obtain ⟨hP, hD⟩ := pq_rest (wr := [(h1, .inl (kc0, 1, .inr (.inl (fun _ => 0))))]) hP hD [0, 2, 3, 4, 5, 6, 7, 8, 9] [1] rfl rfl (by decide) (by decide) hk3 hF1
  subst hB3
  refine vx_catch (own := RL) (name := "java/lang/IndexOutOfBoundsException") hown [] ⟨0, 9, 12, 23⟩ [⟨0, 9, 15, 64⟩] htab (fun z9 hz9 => absurd hz9 List.not_mem_nil) (by decide) (by decide) (hts _ q_354) (va_Nw.use rfl (hT.2.1.1 ("java/lang/IndexOutOfBoundsException", "java/lang/IndexOutOfBoundsException") (by decide))) hc3 hn3 hf3 ?_
  refine lv_astore_n (lv' := [(3, .ref x3), (0, .ref h0), (1, .int p0), (2, .ref h1)]) hx hb dL_lastChange_12 rfl hl (by decide) rfl (fun ls hl => ?_)
  refine lv_iconst (v := 1) hx hb dL_lastChange_13 (by decide) ?_
  exact W.iret (v := 1) hx hb hr (fun t9 ht9 hW9 => ⟨⟨1, (), rfl, rfl, pq_mk (wc := [(h1, .inl (kc0, 1, .inr (.inl (fun _ => 0))))]) (tc := [(kc0, .long)]) hP hD hK [0] [0] rfl rfl rfl rfl ht9 hW9⟩, hS.F ht9⟩) hS.2.2 dL_lastChange_14

set_option maxHeartbeats 4000000 in
set_option maxRecDepth 100000 in
theorem k251_lastChange (l : Launch) (hl9 : l.stackTraces = false) (dC : Nat → ClassId) (dI : Nat → Nat → Nat) (z : XZ) (h0 h1 h2 h3 h4 : Nat) (sz : Nat) (p0 : Int32) : Met l yX9_lastChange (.code yX9_lastChange cX9_lastChange 2 (some .int) :: wsL_law) ({ frames := 2, cells := 0, slots := 0, locals := 43 }) (va_Pc [.ref h0, .int p0] (PC (dC, dI) [(h0, .inr (8, [.int 0, .ref h1, .ref h2, .ref h3, .ref h4, .int 0])), (h1, .inr (0, [.int 0, .ref z.1, .int 0])), (h2, .inr (0, [.int 0, .ref z.1, .int 0])), (h3, .inr (0, [.int 0, .ref z.1, .int 0])), (h4, .inr (0, [.int 0, .ref z.1, .int 0]))] [] sz z)) (va_Qi (fun (r : Int32) (_ : Unit) => r = 0) (fun (_ : Unit) (t : State) => PQ (dC, dI) [(h0, .inr (8, [.int 1, .ref h1, .ref h2, .ref h3, .ref h4, .int 0])), (h1, .inr (0, [.int 0, .ref z.1, .int 0])), (h2, .inr (0, [.int 0, .ref z.1, .int 0])), (h3, .inr (0, [.int 0, .ref z.1, .int 0])), (h4, .inr (0, [.int 0, .ref z.1, .int 0]))] [] (va_A [(h0, .inr (8, [.int 0, .ref h1, .ref h2, .ref h3, .ref h4, .int 0])), (h1, .inr (0, [.int 0, .ref z.1, .int 0])), (h2, .inr (0, [.int 0, .ref z.1, .int 0])), (h3, .inr (0, [.int 0, .ref z.1, .int 0])), (h4, .inr (0, [.int 0, .ref z.1, .int 0]))] sz) t) (va_A [(h0, .inr (8, [.int 0, .ref h1, .ref h2, .ref h3, .ref h4, .int 0])), (h1, .inr (0, [.int 0, .ref z.1, .int 0])), (h2, .inr (0, [.int 0, .ref z.1, .int 0])), (h3, .inr (0, [.int 0, .ref z.1, .int 0])), (h4, .inr (0, [.int 0, .ref z.1, .int 0]))] sz)) 0 0 (va_A [(h0, .inr (8, [.int 0, .ref h1, .ref h2, .ref h3, .ref h4, .int 0])), (h1, .inr (0, [.int 0, .ref z.1, .int 0])), (h2, .inr (0, [.int 0, .ref z.1, .int 0])), (h3, .inr (0, [.int 0, .ref z.1, .int 0])), (h4, .inr (0, [.int 0, .ref z.1, .int 0]))] sz) := by
  refine Met.ofW (cc := cX9_lastChange) (maxL := 2) (ret := (some .int)) (by decide) rfl ?_
  intro p e s m args below meth c s₁ B hml hv
  obtain ⟨rfl, hsz, hP, hK, hD0, hX, hT⟩ := hv
  have hx := B.exec
  have hb := B.bytes
  have hr := B.returns
  have hts0 := atoms_spec (ws := .code yX9_lastChange cX9_lastChange 2 (some .int) :: wsL_law) B.pre
  have hts := xTail hts0
  have hown : s.vm.findClass RX9 = some m.cls := findClass_of_methodNamed B.named
  have hlocks := B.notSynchronized
  subst hsz
  have hD := hD0.self (sz := s.heap.size)
  generalize hAe : va_A [(h0, .inr (8, [.int 0, .ref h1, .ref h2, .ref h3, .ref h4, .int 0])), (h1, .inr (0, [.int 0, .ref z.1, .int 0])), (h2, .inr (0, [.int 0, .ref z.1, .int 0])), (h3, .inr (0, [.int 0, .ref z.1, .int 0])), (h4, .inr (0, [.int 0, .ref z.1, .int 0]))] s.heap.size = A at hD hX ⊢
  have hA : ∀ q : Nat, s.heap.size ≤ q → A q := fun q h => by rw [← hAe]; exact Or.inr h
  have hS : va_S A s.heap s.heap [] := va_S.rf
  have hl := lv_entry ([.ref h0, .int p0]) (n := 2) (Nat.le_of_ble_eq_true rfl)
  rw [lg_entry_eq]
  generalize (lg_sl ([.ref h0, .int p0]) ++ List.replicate (2 - (lg_sl ([.ref h0, .int p0])).length) Slot.unset).toArray = ls at hl ⊢
  have hl : lv_has ls 2 [(0, .ref h0), (1, .int p0)] := hl
  refine lv_aload_n hx hb dX9_lastChange_0 rfl (lv_at hl 0 rfl) ?_
  refine lv_iconst (v := 0) hx hb dX9_lastChange_1 (by decide) ?_
  refine va_put (D := (dC, dI)) (ci := 8) (v := .int 0) (ty := .int) (C := RX9) (T := TX9) (N := 6) hx hb hts in_X9 tyX9 tyX9_ok nmX9 hown hK hP hD hS 0 rfl rfl 0 (by decide) (hts _ q_230) (fun _ h9 => h9) rfl (by decide +kernel) rfl rfl (Nat.le_of_ble_eq_true rfl) dX9_lastChange_2 (fun H1 _ hP hD hS => ?_)
  have hP : va_P (dC, dI) xCl [(h0, .inr (8, [.int 0, .ref h1, .ref h2, .ref h3, .ref h4, .int 0])), (h1, .inr (0, [.int 0, .ref z.1, .int 0])), (h2, .inr (0, [.int 0, .ref z.1, .int 0])), (h3, .inr (0, [.int 0, .ref z.1, .int 0])), (h4, .inr (0, [.int 0, .ref z.1, .int 0]))] H1 := hP
  have hD : va_D A [(h0, .inr (8, [.int 0, .ref h1, .ref h2, .ref h3, .ref h4, .int 0])), (h1, .inr (0, [.int 0, .ref z.1, .int 0])), (h2, .inr (0, [.int 0, .ref z.1, .int 0])), (h3, .inr (0, [.int 0, .ref z.1, .int 0])), (h4, .inr (0, [.int 0, .ref z.1, .int 0]))] := hD
  refine lv_aload_n hx hb dX9_lastChange_5 rfl (lv_at hl 0 rfl) ?_
  refine lv_aload_n hx hb dX9_lastChange_6 rfl (lv_at hl 0 rfl) ?_
  refine lv_iload_n hx hb dX9_lastChange_7 rfl (lv_at hl 1 rfl) ?_
  have hF2 := va_free (wc := [(h0, .inr (8, [.int 0, .ref h1, .ref h2, .ref h3, .ref h4, .int 0])), (h1, .inr (0, [.int 0, .ref z.1, .int 0])), (h2, .inr (0, [.int 0, .ref z.1, .int 0])), (h3, .inr (0, [.int 0, .ref z.1, .int 0])), (h4, .inr (0, [.int 0, .ref z.1, .int 0]))]) hD hS hA [0, 1, 2, 3, 4] rfl
  refine va_calli (va_runV (As := [.int p0]) (rest := [.ref h0]) ⟨hx, hb, hml, hown, hts⟩ (k95_no l hl9 dC dI z h0 h1 h2 h3 h4 H1.size p0) (cwV 1 hts (gV q_362 q_363 q_364 q_255 q_361) rfl rfl rfl (by decide +kernel) ⟨Nat.le_of_ble_eq_true rfl, Nat.le_of_ble_eq_true rfl⟩) ⟨pc_blind, va_recv hK hP (ci := 8) (q0 := 0) rfl rfl, fun U hU hW => ⟨rfl, pc_mk hP hD hK hS hX hT [0, 1, 2, 3, 4] [] rfl rfl rfl rfl hF2 hU hW⟩⟩ rfl rfl hl.1 rfl (lv_room (Nat.le_of_ble_eq_true rfl)) dX9_lastChange_8 ⟨(Nat.le_of_ble_eq_true rfl), (Nat.le_of_ble_eq_true rfl)⟩) hS (fun q9 _ h9 => hF2 q9 h9) hF2 (fun r5 u4 t4 H4 L4 ht4 hvm4 hw4 hB4 hz4 hk4 hS => ?_)
  obtain ⟨hP, hD, hK⟩ := pq_join (wr := []) (tr := []) (wz := [(h0, .inr (8, [.int 0, .ref h1, .ref h2, .ref h3, .ref h4, .int 0])), (h1, .inr (0, [.int 0, .ref z.1, .int 0])), (h2, .inr (0, [.int 0, .ref z.1, .int 0])), (h3, .inr (0, [.int 0, .ref z.1, .int 0])), (h4, .inr (0, [.int 0, .ref z.1, .int 0]))]) (tz := []) hP hD hK [0, 1, 2, 3, 4] [] [] rfl rfl (by decide) (by decide) rfl hk4 hF2 hB4 ht4 hvm4 rfl rfl
  refine W.eq (g2 := F0 m 11 ls [.int 1, .ref h0]) (by rw [hw4]) ?_
  refine lv_iconst (v := 1) hx hb dX9_lastChange_11 (by decide) ?_
  have hF6 := va_free (wc := [(h0, .inr (8, [.int 0, .ref h1, .ref h2, .ref h3, .ref h4, .int 0])), (h1, .inr (0, [.int 0, .ref z.1, .int 0])), (h2, .inr (0, [.int 0, .ref z.1, .int 0])), (h3, .inr (0, [.int 0, .ref z.1, .int 0])), (h4, .inr (0, [.int 0, .ref z.1, .int 0]))]) hD hS hA [0, 1, 2, 3, 4] rfl
  refine va_calli (va_runV (As := [.int 1, .int 1]) (rest := []) ⟨hx, hb, hml, hown, hts⟩ (k93_fails l hl9 dC dI z h0 h1 h2 h3 h4 H4.size) (cwV 2 hts (gV q_257 q_258 q_259 q_255 q_256) rfl rfl rfl (by decide +kernel) ⟨Nat.le_of_ble_eq_true rfl, Nat.le_of_ble_eq_true rfl⟩) ⟨pc_blind, va_recv hK hP (ci := 8) (q0 := 0) rfl rfl, fun U hU hW => ⟨rfl, pc_mk hP hD hK hS hX hT [0, 1, 2, 3, 4] [] rfl rfl rfl rfl hF6 hU hW⟩⟩ rfl rfl hl.1 rfl (lv_room (Nat.le_of_ble_eq_true rfl)) dX9_lastChange_12 ⟨(Nat.le_of_ble_eq_true rfl), (Nat.le_of_ble_eq_true rfl)⟩) hS (fun q9 _ h9 => hF6 q9 h9) hF6 (fun r9 u8 t8 H8 L8 ht8 hvm8 hw8 hB8 hz8 hk8 hS => ?_)
  obtain ⟨hP, hD, hK⟩ := pq_join (wr := []) (tr := []) (wz := [(h0, .inr (8, [.int 1, .ref h1, .ref h2, .ref h3, .ref h4, .int 0])), (h1, .inr (0, [.int 0, .ref z.1, .int 0])), (h2, .inr (0, [.int 0, .ref z.1, .int 0])), (h3, .inr (0, [.int 0, .ref z.1, .int 0])), (h4, .inr (0, [.int 0, .ref z.1, .int 0]))]) (tz := []) hP hD hK [0, 1, 2, 3, 4] [] [] rfl rfl (by decide) (by decide) rfl hk8 hF6 hB8 ht8 hvm8 rfl rfl
  refine W.eq (g2 := F0 m 15 ls [.int 1]) (by rw [hw8]) ?_
  refine lv_if_ne (tgt := 49) hx hb dX9_lastChange_15 (by decide) (fun _ => ?_) (fun cz => absurd cz (by decide))
  refine lv_iconst (v := 0) hx hb dX9_lastChange_49 (by decide) ?_
  refine lv_goto (tgt := 67) hx hb dX9_lastChange_50 (by decide) ?_
  exact W.iret (v := 0) hx hb hr (fun t9 ht9 hW9 => ⟨⟨0, (), rfl, rfl, pq_mk (wc := [(h0, .inr (8, [.int 1, .ref h1, .ref h2, .ref h3, .ref h4, .int 0])), (h1, .inr (0, [.int 0, .ref z.1, .int 0])), (h2, .inr (0, [.int 0, .ref z.1, .int 0])), (h3, .inr (0, [.int 0, .ref z.1, .int 0])), (h4, .inr (0, [.int 0, .ref z.1, .int 0]))]) (tc := []) hP hD hK [0, 1, 2, 3, 4] [] rfl rfl rfl rfl ht9 hW9⟩, hS.F ht9⟩) hS.2.2 dX9_lastChange_67

set_option maxHeartbeats 4000000 in
set_option maxRecDepth 100000 in
theorem k252_countToCome (l : Launch) (hl9 : l.stackTraces = false) (dC : Nat → ClassId) (dI : Nat → Nat → Nat) (z : XZ) (h0 h1 h2 h3 h4 h5 : Nat) (sz : Nat) : Met l yX5_countToCome (.code yX5_countToCome cX5_countToCome 3 (some .int) :: wsL_law) ({ frames := 1, cells := 0, slots := 0, locals := 20 }) (va_Pc [.ref h0] (PC (dC, dI) [(h0, .inr (5, [.ref h1, .int 0])), (h1, .inr (2, [.ref h2, .ref h3, .ref h4, .ref h5])), (h2, .inr (0, [.int 0, .ref z.1, .int 0])), (h3, .inr (0, [.int 0, .ref z.1, .int 0])), (h4, .inr (0, [.int 0, .ref z.1, .int 0])), (h5, .inr (0, [.int 0, .ref z.1, .int 0]))] [] sz z)) (va_Qi (fun (r : Int32) (_ : Unit) => r = 0) (fun (_ : Unit) (t : State) => PQ (dC, dI) [(h0, .inr (5, [.ref h1, .int 0])), (h1, .inr (2, [.ref h2, .ref h3, .ref h4, .ref h5])), (h2, .inr (0, [.int 0, .ref z.1, .int 0])), (h3, .inr (0, [.int 0, .ref z.1, .int 0])), (h4, .inr (0, [.int 0, .ref z.1, .int 0])), (h5, .inr (0, [.int 0, .ref z.1, .int 0]))] [] (va_A [(h0, .inr (5, [.ref h1, .int 0])), (h1, .inr (2, [.ref h2, .ref h3, .ref h4, .ref h5])), (h2, .inr (0, [.int 0, .ref z.1, .int 0])), (h3, .inr (0, [.int 0, .ref z.1, .int 0])), (h4, .inr (0, [.int 0, .ref z.1, .int 0])), (h5, .inr (0, [.int 0, .ref z.1, .int 0]))] sz) t) (va_A [(h0, .inr (5, [.ref h1, .int 0])), (h1, .inr (2, [.ref h2, .ref h3, .ref h4, .ref h5])), (h2, .inr (0, [.int 0, .ref z.1, .int 0])), (h3, .inr (0, [.int 0, .ref z.1, .int 0])), (h4, .inr (0, [.int 0, .ref z.1, .int 0])), (h5, .inr (0, [.int 0, .ref z.1, .int 0]))] sz)) 0 0 (va_A [(h0, .inr (5, [.ref h1, .int 0])), (h1, .inr (2, [.ref h2, .ref h3, .ref h4, .ref h5])), (h2, .inr (0, [.int 0, .ref z.1, .int 0])), (h3, .inr (0, [.int 0, .ref z.1, .int 0])), (h4, .inr (0, [.int 0, .ref z.1, .int 0])), (h5, .inr (0, [.int 0, .ref z.1, .int 0]))] sz) := by
  refine Met.ofW (cc := cX5_countToCome) (maxL := 3) (ret := (some .int)) (by decide) rfl ?_
  intro p e s m args below meth c s₁ B hml hv
  obtain ⟨rfl, hsz, hP, hK, hD0, hX, hT⟩ := hv
  have hx := B.exec
  have hb := B.bytes
  have hr := B.returns
  have hts0 := atoms_spec (ws := .code yX5_countToCome cX5_countToCome 3 (some .int) :: wsL_law) B.pre
  have hts := xTail hts0
  have hown : s.vm.findClass RX5 = some m.cls := findClass_of_methodNamed B.named
  have hlocks := B.notSynchronized
  subst hsz
  have hD := hD0.self (sz := s.heap.size)
  generalize hAe : va_A [(h0, .inr (5, [.ref h1, .int 0])), (h1, .inr (2, [.ref h2, .ref h3, .ref h4, .ref h5])), (h2, .inr (0, [.int 0, .ref z.1, .int 0])), (h3, .inr (0, [.int 0, .ref z.1, .int 0])), (h4, .inr (0, [.int 0, .ref z.1, .int 0])), (h5, .inr (0, [.int 0, .ref z.1, .int 0]))] s.heap.size = A at hD hX ⊢
  have hA : ∀ q : Nat, s.heap.size ≤ q → A q := fun q h => by rw [← hAe]; exact Or.inr h
  have hS : va_S A s.heap s.heap [] := va_S.rf
  have hl := lv_entry ([.ref h0]) (n := 3) (Nat.le_of_ble_eq_true rfl)
  rw [lg_entry_eq]
  generalize (lg_sl ([.ref h0]) ++ List.replicate (3 - (lg_sl ([.ref h0])).length) Slot.unset).toArray = ls at hl ⊢
  have hl : lv_has ls 3 [(0, .ref h0)] := hl
  refine lv_iconst (v := 0) hx hb dX5_countToCome_0 (by decide) ?_
  refine lv_istore_n (lv' := [(1, .int 0), (0, .ref h0)]) hx hb dX5_countToCome_1 rfl hl (by decide) rfl (fun ls hl => ?_)
  refine lv_iconst (v := 0) hx hb dX5_countToCome_2 (by decide) ?_
  refine lv_istore_n (lv' := [(2, .int 0), (1, .int 0), (0, .ref h0)]) hx hb dX5_countToCome_3 rfl hl (by decide) rfl (fun ls hl => ?_)
  refine lv_iload_n hx hb dX5_countToCome_4 rfl (lv_at hl 0 rfl) ?_
  refine lv_aload_n hx hb dX5_countToCome_5 rfl (lv_at hl 2 rfl) ?_
  refine va_get (D := (dC, dI)) (ci := 5) (v := .ref h1) (C := RX5) (T := TX5) (N := 2) hx hb hts in_X5 hown hK hP 0 rfl rfl 0 (by decide) (hts _ q_36) (fun _ h9 => h9) rfl dX5_countToCome_6 ?_
  refine va_get (D := (dC, dI)) (ci := 2) (v := .ref h4) (C := RX0) (T := TX0) (N := 4) hx hb hts in_X0 hown hK hP 1 rfl rfl 2 (by decide) (hts _ q_212) (fun _ h9 => h9) rfl dX5_countToCome_9 ?_
  have hF1 := va_free (wc := [(h4, .inr (0, [.int 0, .ref z.1, .int 0]))]) hD hS hA [4] rfl
  refine va_calli (va_runV (As := []) (rest := [.int 0]) ⟨hx, hb, hml, hown, hts⟩ (k9_size l hl9 dC dI z h4 s.heap.size 0 0) (cwV 0 hts (gV q_196 q_63 q_64 q_9 q_61) rfl rfl rfl (by decide +kernel) ⟨Nat.le_of_ble_eq_true rfl, Nat.le_of_ble_eq_true rfl⟩) ⟨pc_blind, va_recv hK hP (ci := 0) (q0 := 4) rfl rfl, fun U hU hW => ⟨rfl, pc_mk hP hD hK hS hX hT [4] [] rfl rfl rfl rfl hF1 hU hW⟩⟩ rfl rfl hl.1 rfl (lv_room (Nat.le_of_ble_eq_true rfl)) dX5_countToCome_12 ⟨(Nat.le_of_ble_eq_true rfl), (Nat.le_of_ble_eq_true rfl)⟩) hS (fun q9 _ h9 => hF1 q9 h9) hF1 (fun r4 u3 t3 H3 L3 ht3 hvm3 hw3 hB3 hz3 hk3 hS => ?_)
  obtain ⟨hP, hD, hK⟩ := pq_join (wr := [(h0, .inr (5, [.ref h1, .int 0])), (h1, .inr (2, [.ref h2, .ref h3, .ref h4, .ref h5])), (h2, .inr (0, [.int 0, .ref z.1, .int 0])), (h3, .inr (0, [.int 0, .ref z.1, .int 0])), (h5, .inr (0, [.int 0, .ref z.1, .int 0]))]) (tr := []) (wz := [(h0, .inr (5, [.ref h1, .int 0])), (h1, .inr (2, [.ref h2, .ref h3, .ref h4, .ref h5])), (h2, .inr (0, [.int 0, .ref z.1, .int 0])), (h3, .inr (0, [.int 0, .ref z.1, .int 0])), (h5, .inr (0, [.int 0, .ref z.1, .int 0])), (h4, .inr (0, [.int 0, .ref z.1, .int 0]))]) (tz := []) hP hD hK [4] [0, 1, 2, 3, 5] [] rfl rfl (by decide) (by decide) rfl hk3 hF1 hB3 ht3 hvm3 rfl rfl
  refine W.eq (g2 := F0 m 15 ls [.int 0, .int 0]) (by rw [hw3]) ?_
  refine lv_icmp_ge (tgt := 47) hx hb dX5_countToCome_15 (by decide) (fun _ => ?_) (fun cz => absurd (by decide) cz)
  refine lv_iload_n hx hb dX5_countToCome_47 rfl (lv_at hl 1 rfl) ?_
  exact W.iret (v := 0) hx hb hr (fun t9 ht9 hW9 => ⟨⟨0, (), rfl, rfl, pq_mk (wc := [(h0, .inr (5, [.ref h1, .int 0])), (h1, .inr (2, [.ref h2, .ref h3, .ref h4, .ref h5])), (h2, .inr (0, [.int 0, .ref z.1, .int 0])), (h3, .inr (0, [.int 0, .ref z.1, .int 0])), (h4, .inr (0, [.int 0, .ref z.1, .int 0])), (h5, .inr (0, [.int 0, .ref z.1, .int 0]))]) (tc := []) hP hD hK [0, 1, 2, 3, 5, 4] [] rfl rfl rfl rfl ht9 hW9⟩, hS.F ht9⟩) hS.2.2 dX5_countToCome_48

set_option maxHeartbeats 4000000 in
set_option maxRecDepth 100000 in
theorem k253_pending (l : Launch) (hl9 : l.stackTraces = false) (dC : Nat → ClassId) (dI : Nat → Nat → Nat) (z : XZ) (h0 h1 h2 h3 h4 h5 h6 h7 h8 : Nat) (sz : Nat) (kc0 : ClassId) : Met l yX6_pending (.code yX6_pending cX6_pending 1 (some .int) :: wsL_law) ({ frames := 2, cells := 0, slots := 0, locals := 42 }) (va_Pc [.ref h0] (PC (dC, dI) [(h0, .inr (6, [.ref h1, .ref h2, .ref h3])), (h1, .inr (2, [.ref h4, .ref h5, .ref h6, .ref h7])), (h2, .inr (5, [.ref h1, .int 0])), (h3, .inr (4, [.ref h1, .ref h8, .int 0])), (h4, .inr (0, [.int 0, .ref z.1, .int 0])), (h5, .inr (0, [.int 0, .ref z.1, .int 0])), (h6, .inr (0, [.int 0, .ref z.1, .int 0])), (h7, .inr (0, [.int 0, .ref z.1, .int 0])), (h8, .inl (kc0, 8, .inl (fun _ => 0)))] [(kc0, .int)] sz z)) (va_Qi (fun (r : Int32) (_ : Unit) => r = 0) (fun (_ : Unit) (t : State) => PQ (dC, dI) [(h0, .inr (6, [.ref h1, .ref h2, .ref h3])), (h1, .inr (2, [.ref h4, .ref h5, .ref h6, .ref h7])), (h2, .inr (5, [.ref h1, .int 0])), (h3, .inr (4, [.ref h1, .ref h8, .int 0])), (h4, .inr (0, [.int 0, .ref z.1, .int 0])), (h5, .inr (0, [.int 0, .ref z.1, .int 0])), (h6, .inr (0, [.int 0, .ref z.1, .int 0])), (h7, .inr (0, [.int 0, .ref z.1, .int 0])), (h8, .inl (kc0, 8, .inl (fun _ => 0)))] [(kc0, .int)] (va_A [(h0, .inr (6, [.ref h1, .ref h2, .ref h3])), (h1, .inr (2, [.ref h4, .ref h5, .ref h6, .ref h7])), (h2, .inr (5, [.ref h1, .int 0])), (h3, .inr (4, [.ref h1, .ref h8, .int 0])), (h4, .inr (0, [.int 0, .ref z.1, .int 0])), (h5, .inr (0, [.int 0, .ref z.1, .int 0])), (h6, .inr (0, [.int 0, .ref z.1, .int 0])), (h7, .inr (0, [.int 0, .ref z.1, .int 0])), (h8, .inl (kc0, 8, .inl (fun _ => 0)))] sz) t) (va_A [(h0, .inr (6, [.ref h1, .ref h2, .ref h3])), (h1, .inr (2, [.ref h4, .ref h5, .ref h6, .ref h7])), (h2, .inr (5, [.ref h1, .int 0])), (h3, .inr (4, [.ref h1, .ref h8, .int 0])), (h4, .inr (0, [.int 0, .ref z.1, .int 0])), (h5, .inr (0, [.int 0, .ref z.1, .int 0])), (h6, .inr (0, [.int 0, .ref z.1, .int 0])), (h7, .inr (0, [.int 0, .ref z.1, .int 0])), (h8, .inl (kc0, 8, .inl (fun _ => 0)))] sz)) 0 0 (va_A [(h0, .inr (6, [.ref h1, .ref h2, .ref h3])), (h1, .inr (2, [.ref h4, .ref h5, .ref h6, .ref h7])), (h2, .inr (5, [.ref h1, .int 0])), (h3, .inr (4, [.ref h1, .ref h8, .int 0])), (h4, .inr (0, [.int 0, .ref z.1, .int 0])), (h5, .inr (0, [.int 0, .ref z.1, .int 0])), (h6, .inr (0, [.int 0, .ref z.1, .int 0])), (h7, .inr (0, [.int 0, .ref z.1, .int 0])), (h8, .inl (kc0, 8, .inl (fun _ => 0)))] sz) := by
  refine Met.ofW (cc := cX6_pending) (maxL := 1) (ret := (some .int)) (by decide) rfl ?_
  intro p e s m args below meth c s₁ B hml hv
  obtain ⟨rfl, hsz, hP, hK, hD0, hX, hT⟩ := hv
  have hx := B.exec
  have hb := B.bytes
  have hr := B.returns
  have hts0 := atoms_spec (ws := .code yX6_pending cX6_pending 1 (some .int) :: wsL_law) B.pre
  have hts := xTail hts0
  have hown : s.vm.findClass RX6 = some m.cls := findClass_of_methodNamed B.named
  have hlocks := B.notSynchronized
  subst hsz
  have hD := hD0.self (sz := s.heap.size)
  generalize hAe : va_A [(h0, .inr (6, [.ref h1, .ref h2, .ref h3])), (h1, .inr (2, [.ref h4, .ref h5, .ref h6, .ref h7])), (h2, .inr (5, [.ref h1, .int 0])), (h3, .inr (4, [.ref h1, .ref h8, .int 0])), (h4, .inr (0, [.int 0, .ref z.1, .int 0])), (h5, .inr (0, [.int 0, .ref z.1, .int 0])), (h6, .inr (0, [.int 0, .ref z.1, .int 0])), (h7, .inr (0, [.int 0, .ref z.1, .int 0])), (h8, .inl (kc0, 8, .inl (fun _ => 0)))] s.heap.size = A at hD hX ⊢
  have hA : ∀ q : Nat, s.heap.size ≤ q → A q := fun q h => by rw [← hAe]; exact Or.inr h
  have hS : va_S A s.heap s.heap [] := va_S.rf
  have hl := lv_entry ([.ref h0]) (n := 1) (Nat.le_of_ble_eq_true rfl)
  rw [lg_entry_eq]
  generalize (lg_sl ([.ref h0]) ++ List.replicate (1 - (lg_sl ([.ref h0])).length) Slot.unset).toArray = ls at hl ⊢
  have hl : lv_has ls 1 [(0, .ref h0)] := hl
  refine lv_aload_n hx hb dX6_pending_0 rfl (lv_at hl 0 rfl) ?_
  refine va_get (D := (dC, dI)) (ci := 6) (v := .ref h2) (C := RX6) (T := TX6) (N := 3) hx hb hts in_X6 hown hK hP 0 rfl rfl 1 (by decide) (hts _ q_40) (fun _ h9 => h9) rfl dX6_pending_1 ?_
  have hF1 := va_free (wc := [(h2, .inr (5, [.ref h1, .int 0])), (h1, .inr (2, [.ref h4, .ref h5, .ref h6, .ref h7])), (h4, .inr (0, [.int 0, .ref z.1, .int 0])), (h5, .inr (0, [.int 0, .ref z.1, .int 0])), (h6, .inr (0, [.int 0, .ref z.1, .int 0])), (h7, .inr (0, [.int 0, .ref z.1, .int 0]))]) hD hS hA [2, 1, 4, 5, 6, 7] rfl
  refine va_calli (va_runV (As := []) (rest := []) ⟨hx, hb, hml, hown, hts⟩ (k252_countToCome l hl9 dC dI z h2 h1 h4 h5 h6 h7 s.heap.size) (cwV 0 hts (gV q_549 q_550 q_551 q_34 q_548) rfl rfl rfl (by decide +kernel) ⟨Nat.le_of_ble_eq_true rfl, Nat.le_of_ble_eq_true rfl⟩) ⟨pc_blind, va_recv hK hP (ci := 5) (q0 := 2) rfl rfl, fun U hU hW => ⟨rfl, pc_mk hP hD hK hS hX hT [2, 1, 4, 5, 6, 7] [] rfl rfl rfl rfl hF1 hU hW⟩⟩ rfl rfl hl.1 rfl (lv_room (Nat.le_of_ble_eq_true rfl)) dX6_pending_4 ⟨(Nat.le_of_ble_eq_true rfl), (Nat.le_of_ble_eq_true rfl)⟩) hS (fun q9 _ h9 => hF1 q9 h9) hF1 (fun r4 u3 t3 H3 L3 ht3 hvm3 hw3 hB3 hz3 hk3 hS => ?_)
  obtain ⟨hP, hD, hK⟩ := pq_join (wr := [(h0, .inr (6, [.ref h1, .ref h2, .ref h3])), (h3, .inr (4, [.ref h1, .ref h8, .int 0])), (h8, .inl (kc0, 8, .inl (fun _ => 0)))]) (tr := [(kc0, .int)]) (wz := [(h0, .inr (6, [.ref h1, .ref h2, .ref h3])), (h3, .inr (4, [.ref h1, .ref h8, .int 0])), (h8, .inl (kc0, 8, .inl (fun _ => 0))), (h2, .inr (5, [.ref h1, .int 0])), (h1, .inr (2, [.ref h4, .ref h5, .ref h6, .ref h7])), (h4, .inr (0, [.int 0, .ref z.1, .int 0])), (h5, .inr (0, [.int 0, .ref z.1, .int 0])), (h6, .inr (0, [.int 0, .ref z.1, .int 0])), (h7, .inr (0, [.int 0, .ref z.1, .int 0]))]) (tz := [(kc0, .int)]) hP hD hK [2, 1, 4, 5, 6, 7] [0, 3, 8] [0] rfl rfl (by decide) (by decide) rfl hk3 hF1 hB3 ht3 hvm3 rfl rfl
  refine W.eq (g2 := F0 m 7 ls [.int 0]) (by rw [hw3]) ?_
  exact W.iret (v := 0) hx hb hr (fun t9 ht9 hW9 => ⟨⟨0, (), rfl, rfl, pq_mk (wc := [(h0, .inr (6, [.ref h1, .ref h2, .ref h3])), (h1, .inr (2, [.ref h4, .ref h5, .ref h6, .ref h7])), (h2, .inr (5, [.ref h1, .int 0])), (h3, .inr (4, [.ref h1, .ref h8, .int 0])), (h4, .inr (0, [.int 0, .ref z.1, .int 0])), (h5, .inr (0, [.int 0, .ref z.1, .int 0])), (h6, .inr (0, [.int 0, .ref z.1, .int 0])), (h7, .inr (0, [.int 0, .ref z.1, .int 0])), (h8, .inl (kc0, 8, .inl (fun _ => 0)))]) (tc := [(kc0, .int)]) hP hD hK [0, 4, 3, 1, 5, 6, 7, 8, 2] [0] rfl rfl rfl rfl ht9 hW9⟩, hS.F ht9⟩) hS.2.2 dX6_pending_7

set_option maxHeartbeats 4000000 in
set_option maxRecDepth 100000 in
theorem k254_pending (l : Launch) (hl9 : l.stackTraces = false) (dC : Nat → ClassId) (dI : Nat → Nat → Nat) (z : XZ) (h0 h1 h2 h3 h4 : Nat) (sz : Nat) : Met l yX9_pending (.code yX9_pending cX9_pending 4 (some .int) :: wsL_law) ({ frames := 3, cells := 1, slots := 4, locals := 57 }) (va_Pc [.ref h0] (PC (dC, dI) [(h0, .inr (8, [.int 0, .ref h1, .ref h2, .ref h3, .ref h4, .int 0])), (h1, .inr (0, [.int 0, .ref z.1, .int 0])), (h2, .inr (0, [.int 0, .ref z.1, .int 0])), (h3, .inr (0, [.int 0, .ref z.1, .int 0])), (h4, .inr (0, [.int 0, .ref z.1, .int 0]))] [] sz z)) (va_Qi (fun (r : Int32) (_ : Unit) => r = 0) (fun (_ : Unit) (t : State) => PQ (dC, dI) [(h0, .inr (8, [.int 0, .ref h1, .ref h2, .ref h3, .ref h4, .int 0])), (h1, .inr (0, [.int 0, .ref z.1, .int 0])), (h2, .inr (0, [.int 0, .ref z.1, .int 0])), (h3, .inr (0, [.int 0, .ref z.1, .int 0])), (h4, .inr (0, [.int 0, .ref z.1, .int 0]))] [] (va_A [(h0, .inr (8, [.int 0, .ref h1, .ref h2, .ref h3, .ref h4, .int 0])), (h1, .inr (0, [.int 0, .ref z.1, .int 0])), (h2, .inr (0, [.int 0, .ref z.1, .int 0])), (h3, .inr (0, [.int 0, .ref z.1, .int 0])), (h4, .inr (0, [.int 0, .ref z.1, .int 0]))] sz) t) (va_A [(h0, .inr (8, [.int 0, .ref h1, .ref h2, .ref h3, .ref h4, .int 0])), (h1, .inr (0, [.int 0, .ref z.1, .int 0])), (h2, .inr (0, [.int 0, .ref z.1, .int 0])), (h3, .inr (0, [.int 0, .ref z.1, .int 0])), (h4, .inr (0, [.int 0, .ref z.1, .int 0]))] sz)) 1 4 (va_A [(h0, .inr (8, [.int 0, .ref h1, .ref h2, .ref h3, .ref h4, .int 0])), (h1, .inr (0, [.int 0, .ref z.1, .int 0])), (h2, .inr (0, [.int 0, .ref z.1, .int 0])), (h3, .inr (0, [.int 0, .ref z.1, .int 0])), (h4, .inr (0, [.int 0, .ref z.1, .int 0]))] sz) := by
  refine Met.ofW (cc := cX9_pending) (maxL := 4) (ret := (some .int)) (by decide) rfl ?_
  intro p e s m args below meth c s₁ B hml hv
  obtain ⟨rfl, hsz, hP, hK, hD0, hX, hT⟩ := hv
  have hx := B.exec
  have hb := B.bytes
  have hr := B.returns
  have hts0 := atoms_spec (ws := .code yX9_pending cX9_pending 4 (some .int) :: wsL_law) B.pre
  have hts := xTail hts0
  have hown : s.vm.findClass RX9 = some m.cls := findClass_of_methodNamed B.named
  have hlocks := B.notSynchronized
  subst hsz
  have hD := hD0.self (sz := s.heap.size)
  generalize hAe : va_A [(h0, .inr (8, [.int 0, .ref h1, .ref h2, .ref h3, .ref h4, .int 0])), (h1, .inr (0, [.int 0, .ref z.1, .int 0])), (h2, .inr (0, [.int 0, .ref z.1, .int 0])), (h3, .inr (0, [.int 0, .ref z.1, .int 0])), (h4, .inr (0, [.int 0, .ref z.1, .int 0]))] s.heap.size = A at hD hX ⊢
  have hA : ∀ q : Nat, s.heap.size ≤ q → A q := fun q h => by rw [← hAe]; exact Or.inr h
  have hS : va_S A s.heap s.heap [] := va_S.rf
  have hl := lv_entry ([.ref h0]) (n := 4) (Nat.le_of_ble_eq_true rfl)
  rw [lg_entry_eq]
  generalize (lg_sl ([.ref h0]) ++ List.replicate (4 - (lg_sl ([.ref h0])).length) Slot.unset).toArray = ls at hl ⊢
  have hl : lv_has ls 4 [(0, .ref h0)] := hl
  refine lv_aload_n hx hb dX9_pending_0 rfl (lv_at hl 0 rfl) ?_
  refine lv_iconst (v := 0) hx hb dX9_pending_1 (by decide) ?_
  refine va_put (D := (dC, dI)) (ci := 8) (v := .int 0) (ty := .int) (C := RX9) (T := TX9) (N := 6) hx hb hts in_X9 tyX9 tyX9_ok nmX9 hown hK hP hD hS 0 rfl rfl 0 (by decide) (hts _ q_230) (fun _ h9 => h9) rfl (by decide +kernel) rfl rfl (Nat.le_of_ble_eq_true rfl) dX9_pending_2 (fun H1 _ hP hD hS => ?_)
  have hP : va_P (dC, dI) xCl [(h0, .inr (8, [.int 0, .ref h1, .ref h2, .ref h3, .ref h4, .int 0])), (h1, .inr (0, [.int 0, .ref z.1, .int 0])), (h2, .inr (0, [.int 0, .ref z.1, .int 0])), (h3, .inr (0, [.int 0, .ref z.1, .int 0])), (h4, .inr (0, [.int 0, .ref z.1, .int 0]))] H1 := hP
  have hD : va_D A [(h0, .inr (8, [.int 0, .ref h1, .ref h2, .ref h3, .ref h4, .int 0])), (h1, .inr (0, [.int 0, .ref z.1, .int 0])), (h2, .inr (0, [.int 0, .ref z.1, .int 0])), (h3, .inr (0, [.int 0, .ref z.1, .int 0])), (h4, .inr (0, [.int 0, .ref z.1, .int 0]))] := hD
  refine lv_iconst (v := 0) hx hb dX9_pending_5 (by decide) ?_
  refine lv_istore_n (lv' := [(1, .int 0), (0, .ref h0)]) hx hb dX9_pending_6 rfl hl (by decide) rfl (fun ls hl => ?_)
  refine lv_aload_n hx hb dX9_pending_7 rfl (lv_at hl 1 rfl) ?_
  refine va_get (D := (dC, dI)) (ci := 8) (v := .ref h2) (C := RX9) (T := TX9) (N := 6) hx hb hts in_X9 hown hK hP 0 rfl rfl 2 (by decide) (hts _ q_56) (fun _ h9 => h9) rfl dX9_pending_8 ?_
  have hF2 := va_free (wc := [(h2, .inr (0, [.int 0, .ref z.1, .int 0]))]) hD hS hA [2] rfl
  refine va_callr (va_runV (As := []) (rest := []) ⟨hx, hb, hml, hown, hts⟩ (k51_iterator l hl9 dC dI z h2 H1.size) (cwV 0 hts (gV q_243 q_244 q_245 q_9 q_242) rfl rfl rfl (by decide +kernel) ⟨Nat.le_of_ble_eq_true rfl, Nat.le_of_ble_eq_true rfl⟩) ⟨pc_blind, va_recv hK hP (ci := 0) (q0 := 2) rfl rfl, fun U hU hW => ⟨rfl, pc_mk hP hD hK hS hX hT [2] [] rfl rfl rfl rfl hF2 hU hW⟩⟩ rfl rfl hl.1 rfl (lv_room (Nat.le_of_ble_eq_true rfl)) dX9_pending_11 ⟨(Nat.le_of_ble_eq_true rfl), (Nat.le_of_ble_eq_true rfl)⟩) hS (fun q9 _ h9 => hF2 q9 h9) hF2 (fun u4 r5 t4 H4 L4 ht4 hvm4 hw4 hB4 hz4 hk4 hS => ?_)
  obtain ⟨a6, hr4, hB4⟩ := hB4
  obtain ⟨hP, hD, hK⟩ := pq_join (wr := [(h0, .inr (8, [.int 0, .ref h1, .ref h2, .ref h3, .ref h4, .int 0])), (h1, .inr (0, [.int 0, .ref z.1, .int 0])), (h3, .inr (0, [.int 0, .ref z.1, .int 0])), (h4, .inr (0, [.int 0, .ref z.1, .int 0]))]) (tr := []) (wz := [(h0, .inr (8, [.int 0, .ref h1, .ref h2, .ref h3, .ref h4, .int 0])), (h1, .inr (0, [.int 0, .ref z.1, .int 0])), (h3, .inr (0, [.int 0, .ref z.1, .int 0])), (h4, .inr (0, [.int 0, .ref z.1, .int 0])), (h2, .inr (0, [.int 0, .ref z.1, .int 0])), (a6, .inr (1, [.int 0, .int (-1), .int 0, .ref h2]))]) (tz := []) hP hD hK [2] [0, 1, 3, 4] [] rfl rfl (by decide) (by decide) rfl hk4 hF2 hB4 ht4 hvm4 rfl rfl
  refine W.eq (g2 := F0 m 14 ls [.ref a6]) (by rw [hr4]) ?_
  refine W.widen (k := 1) (n := 4) (by decide) (by decide) ?_
  refine lv_astore_n (lv' := [(2, .ref a6), (1, .int 0), (0, .ref h0)]) hx hb dX9_pending_14 rfl hl (by decide) rfl (fun ls hl => ?_)
  refine lv_aload_n hx hb dX9_pending_15 rfl (lv_at hl 0 rfl) ?_
  have hF7 := va_free (wc := [(a6, .inr (1, [.int 0, .int (-1), .int 0, .ref h2])), (h2, .inr (0, [.int 0, .ref z.1, .int 0]))]) hD hS hA [5, 4] rfl
  refine va_callFi (va_runF (As := []) (rest := []) (hK.1 1 _ rfl).2 ⟨hx, hb, hml, hown, hts⟩ (k52_hasNext l hl9 dC dI z a6 h2 H4.size) (va_cwF 0 hts (gF q_248 q_249 q_250 q_233 q_247) rfl rfl rfl hT.2.2.2.2.2.2.1 (by decide +kernel) ⟨Nat.le_of_ble_eq_true rfl, Nat.le_of_ble_eq_true rfl⟩) ⟨pc_blind, va_recv hK hP (ci := 1) (q0 := 5) rfl rfl, fun U hU hW => ⟨rfl, pc_mk hP hD hK hS hX hT [5, 4] [] rfl rfl rfl rfl hF7 hU hW⟩⟩ rfl rfl hl.1 rfl (lv_room (Nat.le_of_ble_eq_true rfl)) dX9_pending_16 ⟨(Nat.le_of_ble_eq_true rfl), (Nat.le_of_ble_eq_true rfl)⟩) hS (fun q9 _ h9 => hF7 q9 h9) hF7 (fun r10 u9 t9 H9 L9 ht9 hvm9 hw9 hB9 hz9 hk9 hS => ?_)
  obtain ⟨hP, hD, hK⟩ := pq_join (wr := [(h0, .inr (8, [.int 0, .ref h1, .ref h2, .ref h3, .ref h4, .int 0])), (h1, .inr (0, [.int 0, .ref z.1, .int 0])), (h3, .inr (0, [.int 0, .ref z.1, .int 0])), (h4, .inr (0, [.int 0, .ref z.1, .int 0]))]) (tr := []) (wz := [(h0, .inr (8, [.int 0, .ref h1, .ref h2, .ref h3, .ref h4, .int 0])), (h1, .inr (0, [.int 0, .ref z.1, .int 0])), (h3, .inr (0, [.int 0, .ref z.1, .int 0])), (h4, .inr (0, [.int 0, .ref z.1, .int 0])), (a6, .inr (1, [.int 0, .int (-1), .int 0, .ref h2])), (h2, .inr (0, [.int 0, .ref z.1, .int 0]))]) (tz := []) hP hD hK [5, 4] [0, 1, 2, 3] [] rfl rfl (by decide) (by decide) rfl hk9 hF7 hB9 ht9 hvm9 rfl rfl
  refine W.eq (g2 := F0 m 21 ls [.int 0]) (by rw [hw9]) ?_
  refine lv_if_eq (tgt := 53) hx hb dX9_pending_21 (by decide) (fun _ => ?_) (fun cz => absurd (by decide) cz)
  refine lv_iload_n hx hb dX9_pending_53 rfl (lv_at hl 1 rfl) ?_
  exact W.iret (v := 0) hx hb hr (fun t9 ht9 hW9 => ⟨⟨0, (), rfl, rfl, pq_mk (wc := [(h0, .inr (8, [.int 0, .ref h1, .ref h2, .ref h3, .ref h4, .int 0])), (h1, .inr (0, [.int 0, .ref z.1, .int 0])), (h2, .inr (0, [.int 0, .ref z.1, .int 0])), (h3, .inr (0, [.int 0, .ref z.1, .int 0])), (h4, .inr (0, [.int 0, .ref z.1, .int 0]))]) (tc := []) hP hD hK [0, 1, 5, 2, 3] [] rfl rfl rfl rfl ht9 hW9⟩, hS.F ht9⟩) hS.2.2 dX9_pending_54

set_option maxHeartbeats 4000000 in
set_option maxRecDepth 100000 in
theorem k255_settled (l : Launch) (hl9 : l.stackTraces = false) (dC : Nat → ClassId) (dI : Nat → Nat → Nat) (z : XZ) (h0 h1 h2 h3 h4 h5 h6 h7 h8 : Nat) (sz : Nat) (p0 : Int32) (kc0 : ClassId) : vx_Met l yX6_settled (.code yX6_settled cX6_settled 3 (some .char) :: wsL_law) ({ frames := 8, cells := 1, slots := 6, locals := 121 }) (va_Pc [.ref h0, .int p0] (PC (dC, dI) [(h0, .inr (6, [.ref h1, .ref h2, .ref h3])), (h1, .inr (2, [.ref h4, .ref h5, .ref h6, .ref h7])), (h2, .inr (5, [.ref h1, .int 0])), (h3, .inr (4, [.ref h1, .ref h8, .int 0])), (h4, .inr (0, [.int 0, .ref z.1, .int 0])), (h5, .inr (0, [.int 0, .ref z.1, .int 0])), (h6, .inr (0, [.int 0, .ref z.1, .int 0])), (h7, .inr (0, [.int 0, .ref z.1, .int 0])), (h8, .inl (kc0, 8, .inl (fun _ => 0)))] [(kc0, .int)] sz z)) (va_Qi (fun (_ : Int32) (_ : Unit) => False) (fun _ _ => True) (va_A [(h0, .inr (6, [.ref h1, .ref h2, .ref h3])), (h1, .inr (2, [.ref h4, .ref h5, .ref h6, .ref h7])), (h2, .inr (5, [.ref h1, .int 0])), (h3, .inr (4, [.ref h1, .ref h8, .int 0])), (h4, .inr (0, [.int 0, .ref z.1, .int 0])), (h5, .inr (0, [.int 0, .ref z.1, .int 0])), (h6, .inr (0, [.int 0, .ref z.1, .int 0])), (h7, .inr (0, [.int 0, .ref z.1, .int 0])), (h8, .inl (kc0, 8, .inl (fun _ => 0)))] sz)) (vx_X (fun (_ : Unit) => True) (fun (E : String) (_ : Unit) (_ : State) => E = "java/lang/IndexOutOfBoundsException") (va_A [(h0, .inr (6, [.ref h1, .ref h2, .ref h3])), (h1, .inr (2, [.ref h4, .ref h5, .ref h6, .ref h7])), (h2, .inr (5, [.ref h1, .int 0])), (h3, .inr (4, [.ref h1, .ref h8, .int 0])), (h4, .inr (0, [.int 0, .ref z.1, .int 0])), (h5, .inr (0, [.int 0, .ref z.1, .int 0])), (h6, .inr (0, [.int 0, .ref z.1, .int 0])), (h7, .inr (0, [.int 0, .ref z.1, .int 0])), (h8, .inl (kc0, 8, .inl (fun _ => 0)))] sz)) 1 6 (va_A [(h0, .inr (6, [.ref h1, .ref h2, .ref h3])), (h1, .inr (2, [.ref h4, .ref h5, .ref h6, .ref h7])), (h2, .inr (5, [.ref h1, .int 0])), (h3, .inr (4, [.ref h1, .ref h8, .int 0])), (h4, .inr (0, [.int 0, .ref z.1, .int 0])), (h5, .inr (0, [.int 0, .ref z.1, .int 0])), (h6, .inr (0, [.int 0, .ref z.1, .int 0])), (h7, .inr (0, [.int 0, .ref z.1, .int 0])), (h8, .inl (kc0, 8, .inl (fun _ => 0)))] sz) := by
  refine vx_ofW (cc := cX6_settled) (maxL := 3) (ret := (some .char)) (by decide) rfl ?_
  intro p e s m args below meth c s₁ B hml hnt hv
  obtain ⟨rfl, hsz, hP, hK, hD0, hX, hT⟩ := hv
  have hx := B.exec
  have hb := B.bytes
  have hr := B.returns
  have hts0 := atoms_spec (ws := .code yX6_settled cX6_settled 3 (some .char) :: wsL_law) B.pre
  have hts := xTail hts0
  have hown : s.vm.findClass RX6 = some m.cls := findClass_of_methodNamed B.named
  have hlocks := B.notSynchronized
  subst hsz
  have hD := hD0.self (sz := s.heap.size)
  generalize hAe : va_A [(h0, .inr (6, [.ref h1, .ref h2, .ref h3])), (h1, .inr (2, [.ref h4, .ref h5, .ref h6, .ref h7])), (h2, .inr (5, [.ref h1, .int 0])), (h3, .inr (4, [.ref h1, .ref h8, .int 0])), (h4, .inr (0, [.int 0, .ref z.1, .int 0])), (h5, .inr (0, [.int 0, .ref z.1, .int 0])), (h6, .inr (0, [.int 0, .ref z.1, .int 0])), (h7, .inr (0, [.int 0, .ref z.1, .int 0])), (h8, .inl (kc0, 8, .inl (fun _ => 0)))] s.heap.size = A at hD hX ⊢
  have hA : ∀ q : Nat, s.heap.size ≤ q → A q := fun q h => by rw [← hAe]; exact Or.inr h
  have hS : va_S A s.heap s.heap [] := va_S.rf
  have hl := lv_entry ([.ref h0, .int p0]) (n := 3) (Nat.le_of_ble_eq_true rfl)
  rw [lg_entry_eq]
  generalize (lg_sl ([.ref h0, .int p0]) ++ List.replicate (3 - (lg_sl ([.ref h0, .int p0])).length) Slot.unset).toArray = ls at hl ⊢
  have hl : lv_has ls 3 [(0, .ref h0), (1, .int p0)] := hl
  refine lv_aload_n hx hb dX6_settled_0 rfl (lv_at hl 0 rfl) ?_
  refine lv_iload_n hx hb dX6_settled_1 rfl (lv_at hl 1 rfl) ?_
  have hF1 := va_free (wc := [(h0, .inr (6, [.ref h1, .ref h2, .ref h3])), (h1, .inr (2, [.ref h4, .ref h5, .ref h6, .ref h7])), (h2, .inr (5, [.ref h1, .int 0])), (h3, .inr (4, [.ref h1, .ref h8, .int 0])), (h4, .inr (0, [.int 0, .ref z.1, .int 0])), (h5, .inr (0, [.int 0, .ref z.1, .int 0])), (h6, .inr (0, [.int 0, .ref z.1, .int 0])), (h7, .inr (0, [.int 0, .ref z.1, .int 0])), (h8, .inl (kc0, 8, .inl (fun _ => 0)))]) hD hS hA [0, 1, 2, 3, 4, 5, 6, 7, 8] rfl
  refine vx_callq (SX := Unit) (vx_runV (As := [.int p0]) (rest := []) ⟨hx, hb, hml, hown, hts⟩ (k89_netAt l hl9 dC dI z h0 h1 h2 h3 h4 h5 h6 h7 h8 s.heap.size p0 kc0) (cwV 1 hts (gV q_346 q_347 q_348 q_69 q_345) rfl rfl rfl (by decide +kernel) ⟨Nat.le_of_ble_eq_true rfl, Nat.le_of_ble_eq_true rfl⟩) ⟨pc_blind, va_recv hK hP (ci := 6) (q0 := 0) rfl rfl, fun U hU hW => ⟨rfl, pc_mk hP hD hK hS hX hT [0, 1, 2, 3, 4, 5, 6, 7, 8] [0] rfl rfl rfl rfl hF1 hU hW⟩⟩ rfl rfl hl.1 rfl (lv_room (Nat.le_of_ble_eq_true rfl)) dX6_settled_2 ⟨(Nat.le_of_ble_eq_true rfl), (Nat.le_of_ble_eq_true rfl)⟩) hS (fun q9 _ h9 => hF1 q9 h9) hF1 (fun q9 _ h9 => hF1 q9 h9) (fun E3 ce3 x3 v3 t3 H3 L3 ht3 hvm3 hw3 hB3 hz3 hk3 hS hc3 hn3 hf3 => ?_) (fun _ _ _ _ _ _ _ hw9 _ _ _ _ => hw9.elim)
  obtain ⟨hP, hD⟩ := pq_rest (wr := []) hP hD [0, 1, 2, 3, 4, 5, 6, 7, 8] [] rfl rfl (by decide) (by decide) hk3 hF1
  exact vx_out (fun x9 hx9 => (hnt x9 hx9).elim) hlocks hc3 hn3 hf3 (fun t9 ht9 hv9 => ⟨(), trivial, hB3, hS.F ht9⟩) hS.2.2 (by decide) (by decide)

set_option maxHeartbeats 4000000 in
set_option maxRecDepth 100000 in
theorem k256_settled (l : Launch) (hl9 : l.stackTraces = false) (dC : Nat → ClassId) (dI : Nat → Nat → Nat) (z : XZ) (h0 h1 h2 h3 h4 h5 h6 h7 h8 h9 : Nat) (sz : Nat) (p0 : Int32) (kc0 kc1 : ClassId) : Met l yL_settled (.codeWith yL_settled cL_settled 4 (some .int) [(0, 9, 12, 23)] :: wsL_law) ({ frames := 9, cells := 1, slots := 6, locals := 143 }) (va_Pc [.ref h0, .int p0, .ref h1] (PC (dC, dI) [(h0, .inr (6, [.ref h2, .ref h3, .ref h4])), (h1, .inl (kc0, 1, .inr (.inl (fun _ => 0)))), (h2, .inr (2, [.ref h5, .ref h6, .ref h7, .ref h8])), (h3, .inr (5, [.ref h2, .int 0])), (h4, .inr (4, [.ref h2, .ref h9, .int 0])), (h5, .inr (0, [.int 0, .ref z.1, .int 0])), (h6, .inr (0, [.int 0, .ref z.1, .int 0])), (h7, .inr (0, [.int 0, .ref z.1, .int 0])), (h8, .inr (0, [.int 0, .ref z.1, .int 0])), (h9, .inl (kc1, 8, .inl (fun _ => 0)))] [(kc0, .long), (kc1, .int)] sz z)) (va_Qi (fun (r : Int32) (_ : Unit) => r = 1) (fun (_ : Unit) (t : State) => PQ (dC, dI) [(h1, .inl (kc0, 1, .inr (.inl (fun _ => 0))))] [(kc0, .long)] (va_A [(h0, .inr (6, [.ref h2, .ref h3, .ref h4])), (h1, .inl (kc0, 1, .inr (.inl (fun _ => 0)))), (h2, .inr (2, [.ref h5, .ref h6, .ref h7, .ref h8])), (h3, .inr (5, [.ref h2, .int 0])), (h4, .inr (4, [.ref h2, .ref h9, .int 0])), (h5, .inr (0, [.int 0, .ref z.1, .int 0])), (h6, .inr (0, [.int 0, .ref z.1, .int 0])), (h7, .inr (0, [.int 0, .ref z.1, .int 0])), (h8, .inr (0, [.int 0, .ref z.1, .int 0])), (h9, .inl (kc1, 8, .inl (fun _ => 0)))] sz) t) (va_A [(h0, .inr (6, [.ref h2, .ref h3, .ref h4])), (h1, .inl (kc0, 1, .inr (.inl (fun _ => 0)))), (h2, .inr (2, [.ref h5, .ref h6, .ref h7, .ref h8])), (h3, .inr (5, [.ref h2, .int 0])), (h4, .inr (4, [.ref h2, .ref h9, .int 0])), (h5, .inr (0, [.int 0, .ref z.1, .int 0])), (h6, .inr (0, [.int 0, .ref z.1, .int 0])), (h7, .inr (0, [.int 0, .ref z.1, .int 0])), (h8, .inr (0, [.int 0, .ref z.1, .int 0])), (h9, .inl (kc1, 8, .inl (fun _ => 0)))] sz)) 1 6 (va_A [(h0, .inr (6, [.ref h2, .ref h3, .ref h4])), (h1, .inl (kc0, 1, .inr (.inl (fun _ => 0)))), (h2, .inr (2, [.ref h5, .ref h6, .ref h7, .ref h8])), (h3, .inr (5, [.ref h2, .int 0])), (h4, .inr (4, [.ref h2, .ref h9, .int 0])), (h5, .inr (0, [.int 0, .ref z.1, .int 0])), (h6, .inr (0, [.int 0, .ref z.1, .int 0])), (h7, .inr (0, [.int 0, .ref z.1, .int 0])), (h8, .inr (0, [.int 0, .ref z.1, .int 0])), (h9, .inl (kc1, 8, .inl (fun _ => 0)))] sz) := by
  refine va_MetW (cc := cL_settled) (maxL := 4) (ret := (some .int)) (hh := [(0, 9, 12, 23)]) (by decide) rfl ?_
  intro p e s m args below meth c s₁ B hml hv
  obtain ⟨rfl, hsz, hP, hK, hD0, hX, hT⟩ := hv
  have hx := B.exec
  have hb := B.bytes
  have hr := B.returns
  have hts0 := atoms_spec (ws := .codeWith yL_settled cL_settled 4 (some .int) [(0, 9, 12, 23)] :: wsL_law) B.pre
  have htab := vx_table (x := yL_settled) B (hts0 _ List.mem_cons_self)
  have hts := xTail hts0
  have hown : s.vm.findClass RL = some m.cls := findClass_of_methodNamed B.named
  have hlocks := B.notSynchronized
  subst hsz
  have hD := hD0.self (sz := s.heap.size)
  generalize hAe : va_A [(h0, .inr (6, [.ref h2, .ref h3, .ref h4])), (h1, .inl (kc0, 1, .inr (.inl (fun _ => 0)))), (h2, .inr (2, [.ref h5, .ref h6, .ref h7, .ref h8])), (h3, .inr (5, [.ref h2, .int 0])), (h4, .inr (4, [.ref h2, .ref h9, .int 0])), (h5, .inr (0, [.int 0, .ref z.1, .int 0])), (h6, .inr (0, [.int 0, .ref z.1, .int 0])), (h7, .inr (0, [.int 0, .ref z.1, .int 0])), (h8, .inr (0, [.int 0, .ref z.1, .int 0])), (h9, .inl (kc1, 8, .inl (fun _ => 0)))] s.heap.size = A at hD hX ⊢
  have hA : ∀ q : Nat, s.heap.size ≤ q → A q := fun q h => by rw [← hAe]; exact Or.inr h
  have hS : va_S A s.heap s.heap [] := va_S.rf
  have hl := lv_entry ([.ref h0, .int p0, .ref h1]) (n := 4) (Nat.le_of_ble_eq_true rfl)
  rw [lg_entry_eq]
  generalize (lg_sl ([.ref h0, .int p0, .ref h1]) ++ List.replicate (4 - (lg_sl ([.ref h0, .int p0, .ref h1])).length) Slot.unset).toArray = ls at hl ⊢
  have hl : lv_has ls 4 [(0, .ref h0), (1, .int p0), (2, .ref h1)] := hl
  refine lv_aload_n hx hb dL_settled_0 rfl (lv_at hl 2 rfl) ?_
  refine lv_iconst (v := 0) hx hb dL_settled_1 (by decide) ?_
  refine lv_aload_n hx hb dL_settled_2 rfl (lv_at hl 0 rfl) ?_
  refine lv_iload_n hx hb dL_settled_3 rfl (lv_at hl 1 rfl) ?_
  have hF1 := va_free (wc := [(h0, .inr (6, [.ref h2, .ref h3, .ref h4])), (h2, .inr (2, [.ref h5, .ref h6, .ref h7, .ref h8])), (h3, .inr (5, [.ref h2, .int 0])), (h4, .inr (4, [.ref h2, .ref h9, .int 0])), (h5, .inr (0, [.int 0, .ref z.1, .int 0])), (h6, .inr (0, [.int 0, .ref z.1, .int 0])), (h7, .inr (0, [.int 0, .ref z.1, .int 0])), (h8, .inr (0, [.int 0, .ref z.1, .int 0])), (h9, .inl (kc1, 8, .inl (fun _ => 0)))]) hD hS hA [0, 2, 3, 4, 5, 6, 7, 8, 9] rfl
  refine vx_calli (SX := Unit) (vx_runV (As := [.int p0]) (rest := [.int 0, .ref h1]) ⟨hx, hb, hml, hown, hts⟩ (k255_settled l hl9 dC dI z h0 h2 h3 h4 h5 h6 h7 h8 h9 s.heap.size p0 kc1) (cwV 1 hts (gV q_561 q_562 q_563 q_69 q_560) rfl rfl rfl (by decide +kernel) ⟨Nat.le_of_ble_eq_true rfl, Nat.le_of_ble_eq_true rfl⟩) ⟨pc_blind, va_recv hK hP (ci := 6) (q0 := 0) rfl rfl, fun U hU hW => ⟨rfl, pc_mk hP hD hK hS hX hT [0, 2, 3, 4, 5, 6, 7, 8, 9] [1] rfl rfl rfl rfl hF1 hU hW⟩⟩ rfl rfl hl.1 rfl (lv_room (Nat.le_of_ble_eq_true rfl)) dL_settled_4 ⟨(Nat.le_of_ble_eq_true rfl), (Nat.le_of_ble_eq_true rfl)⟩) hS (fun q9 _ h9 => hF1 q9 h9) hF1 (fun q9 _ h9 => hF1 q9 h9) (fun E3 ce3 x3 v3 t3 H3 L3 ht3 hvm3 hw3 hB3 hz3 hk3 hS hc3 hn3 hf3 => ?_) (fun _ _ _ _ _ _ _ hw9 _ _ _ _ => hw9.elim)
  obtain ⟨hP, hD⟩ := pq_rest (wr := [(h1, .inl (kc0, 1, .inr (.inl (fun _ => 0))))]) hP hD [0, 2, 3, 4, 5, 6, 7, 8, 9] [1] rfl rfl (by decide) (by decide) hk3 hF1
  subst hB3
  refine vx_catch (own := RL) (name := "java/lang/IndexOutOfBoundsException") hown [] ⟨0, 9, 12, 23⟩ [] htab (fun z9 hz9 => absurd hz9 List.not_mem_nil) (by decide) (by decide) (hts _ q_354) (va_Nw.use rfl (hT.2.1.1 ("java/lang/IndexOutOfBoundsException", "java/lang/IndexOutOfBoundsException") (by decide))) hc3 hn3 hf3 ?_
  refine lv_astore_n (lv' := [(3, .ref x3), (0, .ref h0), (1, .int p0), (2, .ref h1)]) hx hb dL_settled_12 rfl hl (by decide) rfl (fun ls hl => ?_)
  refine lv_iconst (v := 1) hx hb dL_settled_13 (by decide) ?_
  exact W.iret (v := 1) hx hb hr (fun t9 ht9 hW9 => ⟨⟨1, (), rfl, rfl, pq_mk (wc := [(h1, .inl (kc0, 1, .inr (.inl (fun _ => 0))))]) (tc := [(kc0, .long)]) hP hD hK [0] [0] rfl rfl rfl rfl ht9 hW9⟩, hS.F ht9⟩) hS.2.2 dL_settled_14

set_option maxHeartbeats 4000000 in
set_option maxRecDepth 100000 in
theorem k257_settled (l : Launch) (hl9 : l.stackTraces = false) (dC : Nat → ClassId) (dI : Nat → Nat → Nat) (z : XZ) (h0 h1 h2 h3 h4 : Nat) (sz : Nat) (p0 : Int32) : Met l yX9_settled (.code yX9_settled cX9_settled 2 (some .char) :: wsL_law) ({ frames := 2, cells := 0, slots := 0, locals := 43 }) (va_Pc [.ref h0, .int p0] (PC (dC, dI) [(h0, .inr (8, [.int 0, .ref h1, .ref h2, .ref h3, .ref h4, .int 0])), (h1, .inr (0, [.int 0, .ref z.1, .int 0])), (h2, .inr (0, [.int 0, .ref z.1, .int 0])), (h3, .inr (0, [.int 0, .ref z.1, .int 0])), (h4, .inr (0, [.int 0, .ref z.1, .int 0]))] [] sz z)) (va_Qi (fun (r : Int32) (_ : Unit) => r = 0) (fun (_ : Unit) (t : State) => PQ (dC, dI) [(h0, .inr (8, [.int 1, .ref h1, .ref h2, .ref h3, .ref h4, .int 0])), (h1, .inr (0, [.int 0, .ref z.1, .int 0])), (h2, .inr (0, [.int 0, .ref z.1, .int 0])), (h3, .inr (0, [.int 0, .ref z.1, .int 0])), (h4, .inr (0, [.int 0, .ref z.1, .int 0]))] [] (va_A [(h0, .inr (8, [.int 0, .ref h1, .ref h2, .ref h3, .ref h4, .int 0])), (h1, .inr (0, [.int 0, .ref z.1, .int 0])), (h2, .inr (0, [.int 0, .ref z.1, .int 0])), (h3, .inr (0, [.int 0, .ref z.1, .int 0])), (h4, .inr (0, [.int 0, .ref z.1, .int 0]))] sz) t) (va_A [(h0, .inr (8, [.int 0, .ref h1, .ref h2, .ref h3, .ref h4, .int 0])), (h1, .inr (0, [.int 0, .ref z.1, .int 0])), (h2, .inr (0, [.int 0, .ref z.1, .int 0])), (h3, .inr (0, [.int 0, .ref z.1, .int 0])), (h4, .inr (0, [.int 0, .ref z.1, .int 0]))] sz)) 0 0 (va_A [(h0, .inr (8, [.int 0, .ref h1, .ref h2, .ref h3, .ref h4, .int 0])), (h1, .inr (0, [.int 0, .ref z.1, .int 0])), (h2, .inr (0, [.int 0, .ref z.1, .int 0])), (h3, .inr (0, [.int 0, .ref z.1, .int 0])), (h4, .inr (0, [.int 0, .ref z.1, .int 0]))] sz) := by
  refine Met.ofW (cc := cX9_settled) (maxL := 2) (ret := (some .char)) (by decide) rfl ?_
  intro p e s m args below meth c s₁ B hml hv
  obtain ⟨rfl, hsz, hP, hK, hD0, hX, hT⟩ := hv
  have hx := B.exec
  have hb := B.bytes
  have hr := B.returns
  have hts0 := atoms_spec (ws := .code yX9_settled cX9_settled 2 (some .char) :: wsL_law) B.pre
  have hts := xTail hts0
  have hown : s.vm.findClass RX9 = some m.cls := findClass_of_methodNamed B.named
  have hlocks := B.notSynchronized
  subst hsz
  have hD := hD0.self (sz := s.heap.size)
  generalize hAe : va_A [(h0, .inr (8, [.int 0, .ref h1, .ref h2, .ref h3, .ref h4, .int 0])), (h1, .inr (0, [.int 0, .ref z.1, .int 0])), (h2, .inr (0, [.int 0, .ref z.1, .int 0])), (h3, .inr (0, [.int 0, .ref z.1, .int 0])), (h4, .inr (0, [.int 0, .ref z.1, .int 0]))] s.heap.size = A at hD hX ⊢
  have hA : ∀ q : Nat, s.heap.size ≤ q → A q := fun q h => by rw [← hAe]; exact Or.inr h
  have hS : va_S A s.heap s.heap [] := va_S.rf
  have hl := lv_entry ([.ref h0, .int p0]) (n := 2) (Nat.le_of_ble_eq_true rfl)
  rw [lg_entry_eq]
  generalize (lg_sl ([.ref h0, .int p0]) ++ List.replicate (2 - (lg_sl ([.ref h0, .int p0])).length) Slot.unset).toArray = ls at hl ⊢
  have hl : lv_has ls 2 [(0, .ref h0), (1, .int p0)] := hl
  refine lv_aload_n hx hb dX9_settled_0 rfl (lv_at hl 0 rfl) ?_
  refine lv_iconst (v := 0) hx hb dX9_settled_1 (by decide) ?_
  refine va_put (D := (dC, dI)) (ci := 8) (v := .int 0) (ty := .int) (C := RX9) (T := TX9) (N := 6) hx hb hts in_X9 tyX9 tyX9_ok nmX9 hown hK hP hD hS 0 rfl rfl 0 (by decide) (hts _ q_230) (fun _ h9 => h9) rfl (by decide +kernel) rfl rfl (Nat.le_of_ble_eq_true rfl) dX9_settled_2 (fun H1 _ hP hD hS => ?_)
  have hP : va_P (dC, dI) xCl [(h0, .inr (8, [.int 0, .ref h1, .ref h2, .ref h3, .ref h4, .int 0])), (h1, .inr (0, [.int 0, .ref z.1, .int 0])), (h2, .inr (0, [.int 0, .ref z.1, .int 0])), (h3, .inr (0, [.int 0, .ref z.1, .int 0])), (h4, .inr (0, [.int 0, .ref z.1, .int 0]))] H1 := hP
  have hD : va_D A [(h0, .inr (8, [.int 0, .ref h1, .ref h2, .ref h3, .ref h4, .int 0])), (h1, .inr (0, [.int 0, .ref z.1, .int 0])), (h2, .inr (0, [.int 0, .ref z.1, .int 0])), (h3, .inr (0, [.int 0, .ref z.1, .int 0])), (h4, .inr (0, [.int 0, .ref z.1, .int 0]))] := hD
  refine lv_aload_n hx hb dX9_settled_5 rfl (lv_at hl 0 rfl) ?_
  refine lv_aload_n hx hb dX9_settled_6 rfl (lv_at hl 0 rfl) ?_
  refine lv_iload_n hx hb dX9_settled_7 rfl (lv_at hl 1 rfl) ?_
  have hF2 := va_free (wc := [(h0, .inr (8, [.int 0, .ref h1, .ref h2, .ref h3, .ref h4, .int 0])), (h1, .inr (0, [.int 0, .ref z.1, .int 0])), (h2, .inr (0, [.int 0, .ref z.1, .int 0])), (h3, .inr (0, [.int 0, .ref z.1, .int 0])), (h4, .inr (0, [.int 0, .ref z.1, .int 0]))]) hD hS hA [0, 1, 2, 3, 4] rfl
  refine va_calli (va_runV (As := [.int p0]) (rest := [.ref h0]) ⟨hx, hb, hml, hown, hts⟩ (k95_no l hl9 dC dI z h0 h1 h2 h3 h4 H1.size p0) (cwV 1 hts (gV q_362 q_363 q_364 q_255 q_361) rfl rfl rfl (by decide +kernel) ⟨Nat.le_of_ble_eq_true rfl, Nat.le_of_ble_eq_true rfl⟩) ⟨pc_blind, va_recv hK hP (ci := 8) (q0 := 0) rfl rfl, fun U hU hW => ⟨rfl, pc_mk hP hD hK hS hX hT [0, 1, 2, 3, 4] [] rfl rfl rfl rfl hF2 hU hW⟩⟩ rfl rfl hl.1 rfl (lv_room (Nat.le_of_ble_eq_true rfl)) dX9_settled_8 ⟨(Nat.le_of_ble_eq_true rfl), (Nat.le_of_ble_eq_true rfl)⟩) hS (fun q9 _ h9 => hF2 q9 h9) hF2 (fun r5 u4 t4 H4 L4 ht4 hvm4 hw4 hB4 hz4 hk4 hS => ?_)
  obtain ⟨hP, hD, hK⟩ := pq_join (wr := []) (tr := []) (wz := [(h0, .inr (8, [.int 0, .ref h1, .ref h2, .ref h3, .ref h4, .int 0])), (h1, .inr (0, [.int 0, .ref z.1, .int 0])), (h2, .inr (0, [.int 0, .ref z.1, .int 0])), (h3, .inr (0, [.int 0, .ref z.1, .int 0])), (h4, .inr (0, [.int 0, .ref z.1, .int 0]))]) (tz := []) hP hD hK [0, 1, 2, 3, 4] [] [] rfl rfl (by decide) (by decide) rfl hk4 hF2 hB4 ht4 hvm4 rfl rfl
  refine W.eq (g2 := F0 m 11 ls [.int 1, .ref h0]) (by rw [hw4]) ?_
  refine lv_iconst (v := 1) hx hb dX9_settled_11 (by decide) ?_
  have hF6 := va_free (wc := [(h0, .inr (8, [.int 0, .ref h1, .ref h2, .ref h3, .ref h4, .int 0])), (h1, .inr (0, [.int 0, .ref z.1, .int 0])), (h2, .inr (0, [.int 0, .ref z.1, .int 0])), (h3, .inr (0, [.int 0, .ref z.1, .int 0])), (h4, .inr (0, [.int 0, .ref z.1, .int 0]))]) hD hS hA [0, 1, 2, 3, 4] rfl
  refine va_calli (va_runV (As := [.int 1, .int 1]) (rest := []) ⟨hx, hb, hml, hown, hts⟩ (k93_fails l hl9 dC dI z h0 h1 h2 h3 h4 H4.size) (cwV 2 hts (gV q_257 q_258 q_259 q_255 q_256) rfl rfl rfl (by decide +kernel) ⟨Nat.le_of_ble_eq_true rfl, Nat.le_of_ble_eq_true rfl⟩) ⟨pc_blind, va_recv hK hP (ci := 8) (q0 := 0) rfl rfl, fun U hU hW => ⟨rfl, pc_mk hP hD hK hS hX hT [0, 1, 2, 3, 4] [] rfl rfl rfl rfl hF6 hU hW⟩⟩ rfl rfl hl.1 rfl (lv_room (Nat.le_of_ble_eq_true rfl)) dX9_settled_12 ⟨(Nat.le_of_ble_eq_true rfl), (Nat.le_of_ble_eq_true rfl)⟩) hS (fun q9 _ h9 => hF6 q9 h9) hF6 (fun r9 u8 t8 H8 L8 ht8 hvm8 hw8 hB8 hz8 hk8 hS => ?_)
  obtain ⟨hP, hD, hK⟩ := pq_join (wr := []) (tr := []) (wz := [(h0, .inr (8, [.int 1, .ref h1, .ref h2, .ref h3, .ref h4, .int 0])), (h1, .inr (0, [.int 0, .ref z.1, .int 0])), (h2, .inr (0, [.int 0, .ref z.1, .int 0])), (h3, .inr (0, [.int 0, .ref z.1, .int 0])), (h4, .inr (0, [.int 0, .ref z.1, .int 0]))]) (tz := []) hP hD hK [0, 1, 2, 3, 4] [] [] rfl rfl (by decide) (by decide) rfl hk8 hF6 hB8 ht8 hvm8 rfl rfl
  refine W.eq (g2 := F0 m 15 ls [.int 1]) (by rw [hw8]) ?_
  refine lv_if_eq (tgt := 22) hx hb dX9_settled_15 (by decide) (fun cz => absurd cz (by decide)) (fun _ => ?_)
  refine lv_iconst (v := 0) hx hb dX9_settled_18 (by decide) ?_
  refine lv_goto (tgt := 35) hx hb dX9_settled_19 (by decide) ?_
  exact W.zret (v := 0) (ty := .char) hx hb hr rfl (fun t9 ht9 hW9 => ⟨⟨0, (), rfl, rfl, pq_mk (wc := [(h0, .inr (8, [.int 1, .ref h1, .ref h2, .ref h3, .ref h4, .int 0])), (h1, .inr (0, [.int 0, .ref z.1, .int 0])), (h2, .inr (0, [.int 0, .ref z.1, .int 0])), (h3, .inr (0, [.int 0, .ref z.1, .int 0])), (h4, .inr (0, [.int 0, .ref z.1, .int 0]))]) (tc := []) hP hD hK [0, 1, 2, 3, 4] [] rfl rfl rfl rfl ht9 hW9⟩, hS.F ht9⟩) hS.2.2 dX9_settled_35

set_option maxHeartbeats 4000000 in
set_option maxRecDepth 100000 in
theorem k258_arrival (l : Launch) (hl9 : l.stackTraces = false) (dC : Nat → ClassId) (dI : Nat → Nat → Nat) (z : XZ) (h0 h1 h2 h3 h4 h5 h6 h7 h8 : Nat) (sz : Nat) (p0 : Int32) (kc0 : ClassId) : vx_Met l yX6_arrival (.code yX6_arrival cX6_arrival 2 (some .int) :: wsL_law) ({ frames := 8, cells := 1, slots := 6, locals := 121 }) (va_Pc [.ref h0, .int p0] (PC (dC, dI) [(h0, .inr (6, [.ref h1, .ref h2, .ref h3])), (h1, .inr (2, [.ref h4, .ref h5, .ref h6, .ref h7])), (h2, .inr (5, [.ref h1, .int 0])), (h3, .inr (4, [.ref h1, .ref h8, .int 0])), (h4, .inr (0, [.int 0, .ref z.1, .int 0])), (h5, .inr (0, [.int 0, .ref z.1, .int 0])), (h6, .inr (0, [.int 0, .ref z.1, .int 0])), (h7, .inr (0, [.int 0, .ref z.1, .int 0])), (h8, .inl (kc0, 8, .inl (fun _ => 0)))] [(kc0, .int)] sz z)) (va_Qi (fun (_ : Int32) (_ : Unit) => False) (fun _ _ => True) (va_A [(h0, .inr (6, [.ref h1, .ref h2, .ref h3])), (h1, .inr (2, [.ref h4, .ref h5, .ref h6, .ref h7])), (h2, .inr (5, [.ref h1, .int 0])), (h3, .inr (4, [.ref h1, .ref h8, .int 0])), (h4, .inr (0, [.int 0, .ref z.1, .int 0])), (h5, .inr (0, [.int 0, .ref z.1, .int 0])), (h6, .inr (0, [.int 0, .ref z.1, .int 0])), (h7, .inr (0, [.int 0, .ref z.1, .int 0])), (h8, .inl (kc0, 8, .inl (fun _ => 0)))] sz)) (vx_X (fun (_ : Unit) => True) (fun (E : String) (_ : Unit) (_ : State) => E = "java/lang/IndexOutOfBoundsException") (va_A [(h0, .inr (6, [.ref h1, .ref h2, .ref h3])), (h1, .inr (2, [.ref h4, .ref h5, .ref h6, .ref h7])), (h2, .inr (5, [.ref h1, .int 0])), (h3, .inr (4, [.ref h1, .ref h8, .int 0])), (h4, .inr (0, [.int 0, .ref z.1, .int 0])), (h5, .inr (0, [.int 0, .ref z.1, .int 0])), (h6, .inr (0, [.int 0, .ref z.1, .int 0])), (h7, .inr (0, [.int 0, .ref z.1, .int 0])), (h8, .inl (kc0, 8, .inl (fun _ => 0)))] sz)) 1 6 (va_A [(h0, .inr (6, [.ref h1, .ref h2, .ref h3])), (h1, .inr (2, [.ref h4, .ref h5, .ref h6, .ref h7])), (h2, .inr (5, [.ref h1, .int 0])), (h3, .inr (4, [.ref h1, .ref h8, .int 0])), (h4, .inr (0, [.int 0, .ref z.1, .int 0])), (h5, .inr (0, [.int 0, .ref z.1, .int 0])), (h6, .inr (0, [.int 0, .ref z.1, .int 0])), (h7, .inr (0, [.int 0, .ref z.1, .int 0])), (h8, .inl (kc0, 8, .inl (fun _ => 0)))] sz) := by
  refine vx_ofW (cc := cX6_arrival) (maxL := 2) (ret := (some .int)) (by decide) rfl ?_
  intro p e s m args below meth c s₁ B hml hnt hv
  obtain ⟨rfl, hsz, hP, hK, hD0, hX, hT⟩ := hv
  have hx := B.exec
  have hb := B.bytes
  have hr := B.returns
  have hts0 := atoms_spec (ws := .code yX6_arrival cX6_arrival 2 (some .int) :: wsL_law) B.pre
  have hts := xTail hts0
  have hown : s.vm.findClass RX6 = some m.cls := findClass_of_methodNamed B.named
  have hlocks := B.notSynchronized
  subst hsz
  have hD := hD0.self (sz := s.heap.size)
  generalize hAe : va_A [(h0, .inr (6, [.ref h1, .ref h2, .ref h3])), (h1, .inr (2, [.ref h4, .ref h5, .ref h6, .ref h7])), (h2, .inr (5, [.ref h1, .int 0])), (h3, .inr (4, [.ref h1, .ref h8, .int 0])), (h4, .inr (0, [.int 0, .ref z.1, .int 0])), (h5, .inr (0, [.int 0, .ref z.1, .int 0])), (h6, .inr (0, [.int 0, .ref z.1, .int 0])), (h7, .inr (0, [.int 0, .ref z.1, .int 0])), (h8, .inl (kc0, 8, .inl (fun _ => 0)))] s.heap.size = A at hD hX ⊢
  have hA : ∀ q : Nat, s.heap.size ≤ q → A q := fun q h => by rw [← hAe]; exact Or.inr h
  have hS : va_S A s.heap s.heap [] := va_S.rf
  have hl := lv_entry ([.ref h0, .int p0]) (n := 2) (Nat.le_of_ble_eq_true rfl)
  rw [lg_entry_eq]
  generalize (lg_sl ([.ref h0, .int p0]) ++ List.replicate (2 - (lg_sl ([.ref h0, .int p0])).length) Slot.unset).toArray = ls at hl ⊢
  have hl : lv_has ls 2 [(0, .ref h0), (1, .int p0)] := hl
  refine lv_aload_n hx hb dX6_arrival_0 rfl (lv_at hl 0 rfl) ?_
  refine lv_iload_n hx hb dX6_arrival_1 rfl (lv_at hl 1 rfl) ?_
  have hF1 := va_free (wc := [(h0, .inr (6, [.ref h1, .ref h2, .ref h3])), (h1, .inr (2, [.ref h4, .ref h5, .ref h6, .ref h7])), (h2, .inr (5, [.ref h1, .int 0])), (h3, .inr (4, [.ref h1, .ref h8, .int 0])), (h4, .inr (0, [.int 0, .ref z.1, .int 0])), (h5, .inr (0, [.int 0, .ref z.1, .int 0])), (h6, .inr (0, [.int 0, .ref z.1, .int 0])), (h7, .inr (0, [.int 0, .ref z.1, .int 0])), (h8, .inl (kc0, 8, .inl (fun _ => 0)))]) hD hS hA [0, 1, 2, 3, 4, 5, 6, 7, 8] rfl
  refine vx_callq (SX := Unit) (vx_runV (As := [.int p0]) (rest := []) ⟨hx, hb, hml, hown, hts⟩ (k89_netAt l hl9 dC dI z h0 h1 h2 h3 h4 h5 h6 h7 h8 s.heap.size p0 kc0) (cwV 1 hts (gV q_346 q_347 q_348 q_69 q_345) rfl rfl rfl (by decide +kernel) ⟨Nat.le_of_ble_eq_true rfl, Nat.le_of_ble_eq_true rfl⟩) ⟨pc_blind, va_recv hK hP (ci := 6) (q0 := 0) rfl rfl, fun U hU hW => ⟨rfl, pc_mk hP hD hK hS hX hT [0, 1, 2, 3, 4, 5, 6, 7, 8] [0] rfl rfl rfl rfl hF1 hU hW⟩⟩ rfl rfl hl.1 rfl (lv_room (Nat.le_of_ble_eq_true rfl)) dX6_arrival_2 ⟨(Nat.le_of_ble_eq_true rfl), (Nat.le_of_ble_eq_true rfl)⟩) hS (fun q9 _ h9 => hF1 q9 h9) hF1 (fun q9 _ h9 => hF1 q9 h9) (fun E3 ce3 x3 v3 t3 H3 L3 ht3 hvm3 hw3 hB3 hz3 hk3 hS hc3 hn3 hf3 => ?_) (fun _ _ _ _ _ _ _ hw9 _ _ _ _ => hw9.elim)
  obtain ⟨hP, hD⟩ := pq_rest (wr := []) hP hD [0, 1, 2, 3, 4, 5, 6, 7, 8] [] rfl rfl (by decide) (by decide) hk3 hF1
  exact vx_out (fun x9 hx9 => (hnt x9 hx9).elim) hlocks hc3 hn3 hf3 (fun t9 ht9 hv9 => ⟨(), trivial, hB3, hS.F ht9⟩) hS.2.2 (by decide) (by decide)

set_option maxHeartbeats 4000000 in
set_option maxRecDepth 100000 in
theorem k259_arrival (l : Launch) (hl9 : l.stackTraces = false) (dC : Nat → ClassId) (dI : Nat → Nat → Nat) (z : XZ) (h0 h1 h2 h3 h4 h5 h6 h7 h8 h9 : Nat) (sz : Nat) (p0 : Int32) (kc0 kc1 : ClassId) : Met l yL_arrival (.codeWith yL_arrival cL_arrival 4 (some .int) [(0, 9, 12, 23)] :: wsL_law) ({ frames := 9, cells := 1, slots := 6, locals := 142 }) (va_Pc [.ref h0, .int p0, .ref h1] (PC (dC, dI) [(h0, .inr (6, [.ref h2, .ref h3, .ref h4])), (h1, .inl (kc0, 1, .inr (.inl (fun _ => 0)))), (h2, .inr (2, [.ref h5, .ref h6, .ref h7, .ref h8])), (h3, .inr (5, [.ref h2, .int 0])), (h4, .inr (4, [.ref h2, .ref h9, .int 0])), (h5, .inr (0, [.int 0, .ref z.1, .int 0])), (h6, .inr (0, [.int 0, .ref z.1, .int 0])), (h7, .inr (0, [.int 0, .ref z.1, .int 0])), (h8, .inr (0, [.int 0, .ref z.1, .int 0])), (h9, .inl (kc1, 8, .inl (fun _ => 0)))] [(kc0, .long), (kc1, .int)] sz z)) (va_Qi (fun (r : Int32) (_ : Unit) => r = 1) (fun (_ : Unit) (t : State) => PQ (dC, dI) [(h1, .inl (kc0, 1, .inr (.inl (fun _ => 0))))] [(kc0, .long)] (va_A [(h0, .inr (6, [.ref h2, .ref h3, .ref h4])), (h1, .inl (kc0, 1, .inr (.inl (fun _ => 0)))), (h2, .inr (2, [.ref h5, .ref h6, .ref h7, .ref h8])), (h3, .inr (5, [.ref h2, .int 0])), (h4, .inr (4, [.ref h2, .ref h9, .int 0])), (h5, .inr (0, [.int 0, .ref z.1, .int 0])), (h6, .inr (0, [.int 0, .ref z.1, .int 0])), (h7, .inr (0, [.int 0, .ref z.1, .int 0])), (h8, .inr (0, [.int 0, .ref z.1, .int 0])), (h9, .inl (kc1, 8, .inl (fun _ => 0)))] sz) t) (va_A [(h0, .inr (6, [.ref h2, .ref h3, .ref h4])), (h1, .inl (kc0, 1, .inr (.inl (fun _ => 0)))), (h2, .inr (2, [.ref h5, .ref h6, .ref h7, .ref h8])), (h3, .inr (5, [.ref h2, .int 0])), (h4, .inr (4, [.ref h2, .ref h9, .int 0])), (h5, .inr (0, [.int 0, .ref z.1, .int 0])), (h6, .inr (0, [.int 0, .ref z.1, .int 0])), (h7, .inr (0, [.int 0, .ref z.1, .int 0])), (h8, .inr (0, [.int 0, .ref z.1, .int 0])), (h9, .inl (kc1, 8, .inl (fun _ => 0)))] sz)) 1 6 (va_A [(h0, .inr (6, [.ref h2, .ref h3, .ref h4])), (h1, .inl (kc0, 1, .inr (.inl (fun _ => 0)))), (h2, .inr (2, [.ref h5, .ref h6, .ref h7, .ref h8])), (h3, .inr (5, [.ref h2, .int 0])), (h4, .inr (4, [.ref h2, .ref h9, .int 0])), (h5, .inr (0, [.int 0, .ref z.1, .int 0])), (h6, .inr (0, [.int 0, .ref z.1, .int 0])), (h7, .inr (0, [.int 0, .ref z.1, .int 0])), (h8, .inr (0, [.int 0, .ref z.1, .int 0])), (h9, .inl (kc1, 8, .inl (fun _ => 0)))] sz) := by
  refine va_MetW (cc := cL_arrival) (maxL := 4) (ret := (some .int)) (hh := [(0, 9, 12, 23)]) (by decide) rfl ?_
  intro p e s m args below meth c s₁ B hml hv
  obtain ⟨rfl, hsz, hP, hK, hD0, hX, hT⟩ := hv
  have hx := B.exec
  have hb := B.bytes
  have hr := B.returns
  have hts0 := atoms_spec (ws := .codeWith yL_arrival cL_arrival 4 (some .int) [(0, 9, 12, 23)] :: wsL_law) B.pre
  have htab := vx_table (x := yL_arrival) B (hts0 _ List.mem_cons_self)
  have hts := xTail hts0
  have hown : s.vm.findClass RL = some m.cls := findClass_of_methodNamed B.named
  have hlocks := B.notSynchronized
  subst hsz
  have hD := hD0.self (sz := s.heap.size)
  generalize hAe : va_A [(h0, .inr (6, [.ref h2, .ref h3, .ref h4])), (h1, .inl (kc0, 1, .inr (.inl (fun _ => 0)))), (h2, .inr (2, [.ref h5, .ref h6, .ref h7, .ref h8])), (h3, .inr (5, [.ref h2, .int 0])), (h4, .inr (4, [.ref h2, .ref h9, .int 0])), (h5, .inr (0, [.int 0, .ref z.1, .int 0])), (h6, .inr (0, [.int 0, .ref z.1, .int 0])), (h7, .inr (0, [.int 0, .ref z.1, .int 0])), (h8, .inr (0, [.int 0, .ref z.1, .int 0])), (h9, .inl (kc1, 8, .inl (fun _ => 0)))] s.heap.size = A at hD hX ⊢
  have hA : ∀ q : Nat, s.heap.size ≤ q → A q := fun q h => by rw [← hAe]; exact Or.inr h
  have hS : va_S A s.heap s.heap [] := va_S.rf
  have hl := lv_entry ([.ref h0, .int p0, .ref h1]) (n := 4) (Nat.le_of_ble_eq_true rfl)
  rw [lg_entry_eq]
  generalize (lg_sl ([.ref h0, .int p0, .ref h1]) ++ List.replicate (4 - (lg_sl ([.ref h0, .int p0, .ref h1])).length) Slot.unset).toArray = ls at hl ⊢
  have hl : lv_has ls 4 [(0, .ref h0), (1, .int p0), (2, .ref h1)] := hl
  refine lv_aload_n hx hb dL_arrival_0 rfl (lv_at hl 2 rfl) ?_
  refine lv_iconst (v := 0) hx hb dL_arrival_1 (by decide) ?_
  refine lv_aload_n hx hb dL_arrival_2 rfl (lv_at hl 0 rfl) ?_
  refine lv_iload_n hx hb dL_arrival_3 rfl (lv_at hl 1 rfl) ?_
  have hF1 := va_free (wc := [(h0, .inr (6, [.ref h2, .ref h3, .ref h4])), (h2, .inr (2, [.ref h5, .ref h6, .ref h7, .ref h8])), (h3, .inr (5, [.ref h2, .int 0])), (h4, .inr (4, [.ref h2, .ref h9, .int 0])), (h5, .inr (0, [.int 0, .ref z.1, .int 0])), (h6, .inr (0, [.int 0, .ref z.1, .int 0])), (h7, .inr (0, [.int 0, .ref z.1, .int 0])), (h8, .inr (0, [.int 0, .ref z.1, .int 0])), (h9, .inl (kc1, 8, .inl (fun _ => 0)))]) hD hS hA [0, 2, 3, 4, 5, 6, 7, 8, 9] rfl
  refine vx_calli (SX := Unit) (vx_runV (As := [.int p0]) (rest := [.int 0, .ref h1]) ⟨hx, hb, hml, hown, hts⟩ (k258_arrival l hl9 dC dI z h0 h2 h3 h4 h5 h6 h7 h8 h9 s.heap.size p0 kc1) (cwV 1 hts (gV q_572 q_573 q_574 q_69 q_571) rfl rfl rfl (by decide +kernel) ⟨Nat.le_of_ble_eq_true rfl, Nat.le_of_ble_eq_true rfl⟩) ⟨pc_blind, va_recv hK hP (ci := 6) (q0 := 0) rfl rfl, fun U hU hW => ⟨rfl, pc_mk hP hD hK hS hX hT [0, 2, 3, 4, 5, 6, 7, 8, 9] [1] rfl rfl rfl rfl hF1 hU hW⟩⟩ rfl rfl hl.1 rfl (lv_room (Nat.le_of_ble_eq_true rfl)) dL_arrival_4 ⟨(Nat.le_of_ble_eq_true rfl), (Nat.le_of_ble_eq_true rfl)⟩) hS (fun q9 _ h9 => hF1 q9 h9) hF1 (fun q9 _ h9 => hF1 q9 h9) (fun E3 ce3 x3 v3 t3 H3 L3 ht3 hvm3 hw3 hB3 hz3 hk3 hS hc3 hn3 hf3 => ?_) (fun _ _ _ _ _ _ _ hw9 _ _ _ _ => hw9.elim)
  obtain ⟨hP, hD⟩ := pq_rest (wr := [(h1, .inl (kc0, 1, .inr (.inl (fun _ => 0))))]) hP hD [0, 2, 3, 4, 5, 6, 7, 8, 9] [1] rfl rfl (by decide) (by decide) hk3 hF1
  subst hB3
  refine vx_catch (own := RL) (name := "java/lang/IndexOutOfBoundsException") hown [] ⟨0, 9, 12, 23⟩ [] htab (fun z9 hz9 => absurd hz9 List.not_mem_nil) (by decide) (by decide) (hts _ q_354) (va_Nw.use rfl (hT.2.1.1 ("java/lang/IndexOutOfBoundsException", "java/lang/IndexOutOfBoundsException") (by decide))) hc3 hn3 hf3 ?_
  refine lv_astore_n (lv' := [(3, .ref x3), (0, .ref h0), (1, .int p0), (2, .ref h1)]) hx hb dL_arrival_12 rfl hl (by decide) rfl (fun ls hl => ?_)
  refine lv_iconst (v := 1) hx hb dL_arrival_13 (by decide) ?_
  exact W.iret (v := 1) hx hb hr (fun t9 ht9 hW9 => ⟨⟨1, (), rfl, rfl, pq_mk (wc := [(h1, .inl (kc0, 1, .inr (.inl (fun _ => 0))))]) (tc := [(kc0, .long)]) hP hD hK [0] [0] rfl rfl rfl rfl ht9 hW9⟩, hS.F ht9⟩) hS.2.2 dL_arrival_14

set_option maxHeartbeats 4000000 in
set_option maxRecDepth 100000 in
theorem k260_arrival (l : Launch) (hl9 : l.stackTraces = false) (dC : Nat → ClassId) (dI : Nat → Nat → Nat) (z : XZ) (h0 h1 h2 h3 h4 : Nat) (sz : Nat) (p0 : Int32) : Met l yX9_arrival (.code yX9_arrival cX9_arrival 2 (some .int) :: wsL_law) ({ frames := 2, cells := 0, slots := 0, locals := 43 }) (va_Pc [.ref h0, .int p0] (PC (dC, dI) [(h0, .inr (8, [.int 0, .ref h1, .ref h2, .ref h3, .ref h4, .int 0])), (h1, .inr (0, [.int 0, .ref z.1, .int 0])), (h2, .inr (0, [.int 0, .ref z.1, .int 0])), (h3, .inr (0, [.int 0, .ref z.1, .int 0])), (h4, .inr (0, [.int 0, .ref z.1, .int 0]))] [] sz z)) (va_Qi (fun (r : Int32) (_ : Unit) => r = 0) (fun (_ : Unit) (t : State) => PQ (dC, dI) [(h0, .inr (8, [.int 1, .ref h1, .ref h2, .ref h3, .ref h4, .int 0])), (h1, .inr (0, [.int 0, .ref z.1, .int 0])), (h2, .inr (0, [.int 0, .ref z.1, .int 0])), (h3, .inr (0, [.int 0, .ref z.1, .int 0])), (h4, .inr (0, [.int 0, .ref z.1, .int 0]))] [] (va_A [(h0, .inr (8, [.int 0, .ref h1, .ref h2, .ref h3, .ref h4, .int 0])), (h1, .inr (0, [.int 0, .ref z.1, .int 0])), (h2, .inr (0, [.int 0, .ref z.1, .int 0])), (h3, .inr (0, [.int 0, .ref z.1, .int 0])), (h4, .inr (0, [.int 0, .ref z.1, .int 0]))] sz) t) (va_A [(h0, .inr (8, [.int 0, .ref h1, .ref h2, .ref h3, .ref h4, .int 0])), (h1, .inr (0, [.int 0, .ref z.1, .int 0])), (h2, .inr (0, [.int 0, .ref z.1, .int 0])), (h3, .inr (0, [.int 0, .ref z.1, .int 0])), (h4, .inr (0, [.int 0, .ref z.1, .int 0]))] sz)) 0 0 (va_A [(h0, .inr (8, [.int 0, .ref h1, .ref h2, .ref h3, .ref h4, .int 0])), (h1, .inr (0, [.int 0, .ref z.1, .int 0])), (h2, .inr (0, [.int 0, .ref z.1, .int 0])), (h3, .inr (0, [.int 0, .ref z.1, .int 0])), (h4, .inr (0, [.int 0, .ref z.1, .int 0]))] sz) := by
  refine Met.ofW (cc := cX9_arrival) (maxL := 2) (ret := (some .int)) (by decide) rfl ?_
  intro p e s m args below meth c s₁ B hml hv
  obtain ⟨rfl, hsz, hP, hK, hD0, hX, hT⟩ := hv
  have hx := B.exec
  have hb := B.bytes
  have hr := B.returns
  have hts0 := atoms_spec (ws := .code yX9_arrival cX9_arrival 2 (some .int) :: wsL_law) B.pre
  have hts := xTail hts0
  have hown : s.vm.findClass RX9 = some m.cls := findClass_of_methodNamed B.named
  have hlocks := B.notSynchronized
  subst hsz
  have hD := hD0.self (sz := s.heap.size)
  generalize hAe : va_A [(h0, .inr (8, [.int 0, .ref h1, .ref h2, .ref h3, .ref h4, .int 0])), (h1, .inr (0, [.int 0, .ref z.1, .int 0])), (h2, .inr (0, [.int 0, .ref z.1, .int 0])), (h3, .inr (0, [.int 0, .ref z.1, .int 0])), (h4, .inr (0, [.int 0, .ref z.1, .int 0]))] s.heap.size = A at hD hX ⊢
  have hA : ∀ q : Nat, s.heap.size ≤ q → A q := fun q h => by rw [← hAe]; exact Or.inr h
  have hS : va_S A s.heap s.heap [] := va_S.rf
  have hl := lv_entry ([.ref h0, .int p0]) (n := 2) (Nat.le_of_ble_eq_true rfl)
  rw [lg_entry_eq]
  generalize (lg_sl ([.ref h0, .int p0]) ++ List.replicate (2 - (lg_sl ([.ref h0, .int p0])).length) Slot.unset).toArray = ls at hl ⊢
  have hl : lv_has ls 2 [(0, .ref h0), (1, .int p0)] := hl
  refine lv_aload_n hx hb dX9_arrival_0 rfl (lv_at hl 0 rfl) ?_
  refine lv_iconst (v := 0) hx hb dX9_arrival_1 (by decide) ?_
  refine va_put (D := (dC, dI)) (ci := 8) (v := .int 0) (ty := .int) (C := RX9) (T := TX9) (N := 6) hx hb hts in_X9 tyX9 tyX9_ok nmX9 hown hK hP hD hS 0 rfl rfl 0 (by decide) (hts _ q_230) (fun _ h9 => h9) rfl (by decide +kernel) rfl rfl (Nat.le_of_ble_eq_true rfl) dX9_arrival_2 (fun H1 _ hP hD hS => ?_)
  have hP : va_P (dC, dI) xCl [(h0, .inr (8, [.int 0, .ref h1, .ref h2, .ref h3, .ref h4, .int 0])), (h1, .inr (0, [.int 0, .ref z.1, .int 0])), (h2, .inr (0, [.int 0, .ref z.1, .int 0])), (h3, .inr (0, [.int 0, .ref z.1, .int 0])), (h4, .inr (0, [.int 0, .ref z.1, .int 0]))] H1 := hP
  have hD : va_D A [(h0, .inr (8, [.int 0, .ref h1, .ref h2, .ref h3, .ref h4, .int 0])), (h1, .inr (0, [.int 0, .ref z.1, .int 0])), (h2, .inr (0, [.int 0, .ref z.1, .int 0])), (h3, .inr (0, [.int 0, .ref z.1, .int 0])), (h4, .inr (0, [.int 0, .ref z.1, .int 0]))] := hD
  refine lv_aload_n hx hb dX9_arrival_5 rfl (lv_at hl 0 rfl) ?_
  refine lv_aload_n hx hb dX9_arrival_6 rfl (lv_at hl 0 rfl) ?_
  refine lv_iload_n hx hb dX9_arrival_7 rfl (lv_at hl 1 rfl) ?_
  have hF2 := va_free (wc := [(h0, .inr (8, [.int 0, .ref h1, .ref h2, .ref h3, .ref h4, .int 0])), (h1, .inr (0, [.int 0, .ref z.1, .int 0])), (h2, .inr (0, [.int 0, .ref z.1, .int 0])), (h3, .inr (0, [.int 0, .ref z.1, .int 0])), (h4, .inr (0, [.int 0, .ref z.1, .int 0]))]) hD hS hA [0, 1, 2, 3, 4] rfl
  refine va_calli (va_runV (As := [.int p0]) (rest := [.ref h0]) ⟨hx, hb, hml, hown, hts⟩ (k95_no l hl9 dC dI z h0 h1 h2 h3 h4 H1.size p0) (cwV 1 hts (gV q_362 q_363 q_364 q_255 q_361) rfl rfl rfl (by decide +kernel) ⟨Nat.le_of_ble_eq_true rfl, Nat.le_of_ble_eq_true rfl⟩) ⟨pc_blind, va_recv hK hP (ci := 8) (q0 := 0) rfl rfl, fun U hU hW => ⟨rfl, pc_mk hP hD hK hS hX hT [0, 1, 2, 3, 4] [] rfl rfl rfl rfl hF2 hU hW⟩⟩ rfl rfl hl.1 rfl (lv_room (Nat.le_of_ble_eq_true rfl)) dX9_arrival_8 ⟨(Nat.le_of_ble_eq_true rfl), (Nat.le_of_ble_eq_true rfl)⟩) hS (fun q9 _ h9 => hF2 q9 h9) hF2 (fun r5 u4 t4 H4 L4 ht4 hvm4 hw4 hB4 hz4 hk4 hS => ?_)
  obtain ⟨hP, hD, hK⟩ := pq_join (wr := []) (tr := []) (wz := [(h0, .inr (8, [.int 0, .ref h1, .ref h2, .ref h3, .ref h4, .int 0])), (h1, .inr (0, [.int 0, .ref z.1, .int 0])), (h2, .inr (0, [.int 0, .ref z.1, .int 0])), (h3, .inr (0, [.int 0, .ref z.1, .int 0])), (h4, .inr (0, [.int 0, .ref z.1, .int 0]))]) (tz := []) hP hD hK [0, 1, 2, 3, 4] [] [] rfl rfl (by decide) (by decide) rfl hk4 hF2 hB4 ht4 hvm4 rfl rfl
  refine W.eq (g2 := F0 m 11 ls [.int 1, .ref h0]) (by rw [hw4]) ?_
  refine lv_iconst (v := 1) hx hb dX9_arrival_11 (by decide) ?_
  have hF6 := va_free (wc := [(h0, .inr (8, [.int 0, .ref h1, .ref h2, .ref h3, .ref h4, .int 0])), (h1, .inr (0, [.int 0, .ref z.1, .int 0])), (h2, .inr (0, [.int 0, .ref z.1, .int 0])), (h3, .inr (0, [.int 0, .ref z.1, .int 0])), (h4, .inr (0, [.int 0, .ref z.1, .int 0]))]) hD hS hA [0, 1, 2, 3, 4] rfl
  refine va_calli (va_runV (As := [.int 1, .int 1]) (rest := []) ⟨hx, hb, hml, hown, hts⟩ (k93_fails l hl9 dC dI z h0 h1 h2 h3 h4 H4.size) (cwV 2 hts (gV q_257 q_258 q_259 q_255 q_256) rfl rfl rfl (by decide +kernel) ⟨Nat.le_of_ble_eq_true rfl, Nat.le_of_ble_eq_true rfl⟩) ⟨pc_blind, va_recv hK hP (ci := 8) (q0 := 0) rfl rfl, fun U hU hW => ⟨rfl, pc_mk hP hD hK hS hX hT [0, 1, 2, 3, 4] [] rfl rfl rfl rfl hF6 hU hW⟩⟩ rfl rfl hl.1 rfl (lv_room (Nat.le_of_ble_eq_true rfl)) dX9_arrival_12 ⟨(Nat.le_of_ble_eq_true rfl), (Nat.le_of_ble_eq_true rfl)⟩) hS (fun q9 _ h9 => hF6 q9 h9) hF6 (fun r9 u8 t8 H8 L8 ht8 hvm8 hw8 hB8 hz8 hk8 hS => ?_)
  obtain ⟨hP, hD, hK⟩ := pq_join (wr := []) (tr := []) (wz := [(h0, .inr (8, [.int 1, .ref h1, .ref h2, .ref h3, .ref h4, .int 0])), (h1, .inr (0, [.int 0, .ref z.1, .int 0])), (h2, .inr (0, [.int 0, .ref z.1, .int 0])), (h3, .inr (0, [.int 0, .ref z.1, .int 0])), (h4, .inr (0, [.int 0, .ref z.1, .int 0]))]) (tz := []) hP hD hK [0, 1, 2, 3, 4] [] [] rfl rfl (by decide) (by decide) rfl hk8 hF6 hB8 ht8 hvm8 rfl rfl
  refine W.eq (g2 := F0 m 15 ls [.int 1]) (by rw [hw8]) ?_
  refine lv_if_eq (tgt := 22) hx hb dX9_arrival_15 (by decide) (fun cz => absurd cz (by decide)) (fun _ => ?_)
  refine lv_iconst (v := 0) hx hb dX9_arrival_18 (by decide) ?_
  refine lv_goto (tgt := 28) hx hb dX9_arrival_19 (by decide) ?_
  exact W.iret (v := 0) hx hb hr (fun t9 ht9 hW9 => ⟨⟨0, (), rfl, rfl, pq_mk (wc := [(h0, .inr (8, [.int 1, .ref h1, .ref h2, .ref h3, .ref h4, .int 0])), (h1, .inr (0, [.int 0, .ref z.1, .int 0])), (h2, .inr (0, [.int 0, .ref z.1, .int 0])), (h3, .inr (0, [.int 0, .ref z.1, .int 0])), (h4, .inr (0, [.int 0, .ref z.1, .int 0]))]) (tc := []) hP hD hK [0, 1, 2, 3, 4] [] rfl rfl rfl rfl ht9 hW9⟩, hS.F ht9⟩) hS.2.2 dX9_arrival_28
