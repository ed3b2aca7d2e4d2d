set_option maxHeartbeats 4000000 in
set_option maxRecDepth 100000 in
theorem k420_addInput (l : Launch) (hl9 : l.stackTraces = false) (dC : Nat → ClassId) (dI : Nat → Nat → Nat) (z : XZ) (h0 h1 h2 h3 h4 h5 h6 h7 h8 h9 h10 h11 h12 h13 h14 h15 h16 h17 : Nat) (o0 : Nat) (sz : Nat) (kc0 kc1 kc2 : ClassId) : Met l yX6_addInput (.code yX6_addInput cX6_addInput 2 (some .int) :: wsL_law) ({ frames := 7, cells := 2, slots := 22, locals := 147 }) (va_Pc [.ref h0] (PC (dC, dI) [(h0, ce16 h1 h2 o0), (h1, ce7 h3 h4 h5 h6), (h2, ce10 h1), (h3, ce147 h7), (h4, ce147 h8), (h5, ce3 z.1), (h6, ce167 h9), (h7, ce146 kc0 h10 h11 h12 h13), (h8, ce146 kc1 h10 h11 h12 h13), (h9, ce146 kc2 h10 h11 h12 h13), (h10, ce38 (z.2.1 0) h14 h10), (h11, ce77 (z.2.1 0) h15 h11), (h12, ce115 (z.2.1 0) h16 h12), (h13, ce165 (z.2.1 0) h17 h13), (h14, ce3 z.1), (h15, ce3 z.1), (h16, ce3 z.1), (h17, ce3 z.1)] [(kc0, .object "java/lang/Object"), (kc1, .object "java/lang/Object"), (kc2, .object "java/lang/Object")] sz z)) (va_Qi (fun (r : Int32) (_ : Unit) => r = 4) (fun (_ : Unit) (t : State) => ∃ (n0 n1 : Nat), PG (dC, dI) [(h0, ce16 h1 h2 o0), (h1, ce7 h3 h4 h5 h6), (h2, ce10 h1), (h3, ce201 h7), (h4, ce201 h8), (h5, ce3 z.1), (h6, ce226 h9), (h7, ce200 kc0 h10 h11 h12 h13 n0), (h8, ce200 kc1 h10 h11 h12 h13 n0), (h9, ce200 kc2 h10 h11 h12 h13 n0), (h10, ce38 (z.2.1 0) h14 h10), (h11, ce77 (z.2.1 0) h15 h11), (h12, ce115 (z.2.1 0) h16 h12), (h13, ce165 (z.2.1 0) h17 h13), (h14, ce3 z.1), (h15, ce3 z.1), (h16, ce3 z.1), (h17, ce3 z.1), (n0, ce224 (z.2.1 0) n1 n0), (n1, ce3 z.1)] [(kc0, .object "java/lang/Object"), (kc1, .object "java/lang/Object"), (kc2, .object "java/lang/Object")] (va_A [(h0, ce16 h1 h2 o0), (h1, ce7 h3 h4 h5 h6), (h2, ce10 h1), (h3, ce147 h7), (h4, ce147 h8), (h5, ce3 z.1), (h6, ce167 h9), (h7, ce146 kc0 h10 h11 h12 h13), (h8, ce146 kc1 h10 h11 h12 h13), (h9, ce146 kc2 h10 h11 h12 h13), (h10, ce38 (z.2.1 0) h14 h10), (h11, ce77 (z.2.1 0) h15 h11), (h12, ce115 (z.2.1 0) h16 h12), (h13, ce165 (z.2.1 0) h17 h13), (h14, ce3 z.1), (h15, ce3 z.1), (h16, ce3 z.1), (h17, ce3 z.1)] sz) sz 2 t) (va_A [(h0, ce16 h1 h2 o0), (h1, ce7 h3 h4 h5 h6), (h2, ce10 h1), (h3, ce147 h7), (h4, ce147 h8), (h5, ce3 z.1), (h6, ce167 h9), (h7, ce146 kc0 h10 h11 h12 h13), (h8, ce146 kc1 h10 h11 h12 h13), (h9, ce146 kc2 h10 h11 h12 h13), (h10, ce38 (z.2.1 0) h14 h10), (h11, ce77 (z.2.1 0) h15 h11), (h12, ce115 (z.2.1 0) h16 h12), (h13, ce165 (z.2.1 0) h17 h13), (h14, ce3 z.1), (h15, ce3 z.1), (h16, ce3 z.1), (h17, ce3 z.1)] sz)) 2 22 (va_A [(h0, ce16 h1 h2 o0), (h1, ce7 h3 h4 h5 h6), (h2, ce10 h1), (h3, ce147 h7), (h4, ce147 h8), (h5, ce3 z.1), (h6, ce167 h9), (h7, ce146 kc0 h10 h11 h12 h13), (h8, ce146 kc1 h10 h11 h12 h13), (h9, ce146 kc2 h10 h11 h12 h13), (h10, ce38 (z.2.1 0) h14 h10), (h11, ce77 (z.2.1 0) h15 h11), (h12, ce115 (z.2.1 0) h16 h12), (h13, ce165 (z.2.1 0) h17 h13), (h14, ce3 z.1), (h15, ce3 z.1), (h16, ce3 z.1), (h17, ce3 z.1)] sz) := by
  refine Met.ofW (cc := cX6_addInput) (maxL := 2) (ret := (some .int)) (by decide) rfl ?_
  intro p e s m args below meth c s₁ B hml hv
  obtain ⟨rfl, hsz, hP, hK, hD0, hX, hT⟩ := hv
  have hx := B.exec
  have hb := B.bytes
  have hr := B.returns
  have hts0 := atoms_spec (ws := .code yX6_addInput cX6_addInput 2 (some .int) :: wsL_law) B.pre
  have hts := xTail hts0
  have hown : s.vm.findClass RX6 = some m.cls := xown B.named rfl
  have hlocks := B.notSynchronized
  subst hsz
  have hD := hD0.self (sz := s.heap.size)
  generalize hAe : va_A [(h0, ce16 h1 h2 o0), (h1, ce7 h3 h4 h5 h6), (h2, ce10 h1), (h3, ce147 h7), (h4, ce147 h8), (h5, ce3 z.1), (h6, ce167 h9), (h7, ce146 kc0 h10 h11 h12 h13), (h8, ce146 kc1 h10 h11 h12 h13), (h9, ce146 kc2 h10 h11 h12 h13), (h10, ce38 (z.2.1 0) h14 h10), (h11, ce77 (z.2.1 0) h15 h11), (h12, ce115 (z.2.1 0) h16 h12), (h13, ce165 (z.2.1 0) h17 h13), (h14, ce3 z.1), (h15, ce3 z.1), (h16, ce3 z.1), (h17, ce3 z.1)] s.heap.size = A at hD hX ⊢
  have hA : ∀ q : Nat, s.heap.size ≤ q → A q := fun q h => by rw [← hAe]; exact Or.inr h
  have hS : va_S A s.heap s.heap [] := va_S.rf
  have hG : s.heap.size + 0 ≤ s.heap.size := Nat.le_refl _
  have hl := lv_entry ([.ref h0]) (n := 2) (Nat.le_of_ble_eq_true rfl)
  rw [lg_entry_eq]
  generalize (lg_sl ([.ref h0]) ++ List.replicate (2 - (lg_sl ([.ref h0])).length) Slot.unset).toArray = ls at hl ⊢
  have hl : lv_has ls 2 [(0, .ref h0)] := hl
  refine lv_aload_n hx hb dX6_addInput_0 rfl (lv_at hl 0 rfl) ?_
  have hM3 := k357_requireRoomForSource l hl9 dC dI z h0 h1 h4 h2 o0 h3 h5 h6 h8 s.heap.size
  obtain ⟨hF1, hC4⟩ := pc_M hM3 hP hD hK hS hX hT hA [0, 1, 4] [] rfl rfl rfl
  refine va_callv (va_runV (As := []) (rest := []) ⟨hx, hb, hml, hown, hts⟩ hM3 (cwV 0 hts (gV q_80 q_81 q_82 q_2 q_79) rfl rfl rfl hV_X6_requireRoomForSource ⟨Nat.le_of_ble_eq_true rfl, Nat.le_of_ble_eq_true rfl⟩) ⟨pc_blind, va_recv hK hP (ci := 6) (q := (RX6, TX6, 3)) (q0 := 0) rfl rfl, fun U hU hW => ⟨rfl, hC4 U hU hW⟩⟩ rfl rfl hl.1 rfl (lv_room (Nat.le_of_ble_eq_true rfl)) dX6_addInput_1 ⟨(Nat.le_of_ble_eq_true rfl), (Nat.le_of_ble_eq_true rfl)⟩) hS (fun q9 _ h9 => hF1 q9 h9) hF1 (fun u5 t5 H5 L5 ht5 hvm5 hw5 hB5 hz5 hk5 hS => ?_)
  have hP := pq_keep hP hD [0, 1, 4] rfl hk5 hB5.1 ht5
  have hG : s.heap.size + 0 ≤ H5.size := Nat.le_trans hG hz5
  refine lv_aload_n hx hb dX6_addInput_4 rfl (lv_at hl 0 rfl) ?_
  have hM9 := k358_requireRoomForNet l hl9 dC dI z h0 h1 h3 h2 o0 h4 h5 h6 h7 H5.size
  obtain ⟨hF7, hC10⟩ := pc_M hM9 hP hD hK hS hX hT hA [0, 1, 3] [] rfl rfl rfl
  refine va_callv (va_runV (As := []) (rest := []) ⟨hx, hb, hml, hown, hts⟩ hM9 (cwV 0 hts (gV q_85 q_86 q_87 q_2 q_84) rfl rfl rfl hV_X6_requireRoomForNet ⟨Nat.le_of_ble_eq_true rfl, Nat.le_of_ble_eq_true rfl⟩) ⟨pc_blind, va_recv hK hP (ci := 6) (q := (RX6, TX6, 3)) (q0 := 0) rfl rfl, fun U hU hW => ⟨rfl, hC10 U hU hW⟩⟩ rfl rfl hl.1 rfl (lv_room (Nat.le_of_ble_eq_true rfl)) dX6_addInput_5 ⟨(Nat.le_of_ble_eq_true rfl), (Nat.le_of_ble_eq_true rfl)⟩) hS (fun q9 _ h9 => hF7 q9 h9) hF7 (fun u11 t11 H11 L11 ht11 hvm11 hw11 hB11 hz11 hk11 hS => ?_)
  have hP := pq_keep hP hD [0, 1, 3] rfl hk11 hB11.1 ht11
  have hG : s.heap.size + 0 ≤ H11.size := Nat.le_trans hG hz11
  refine lv_aload_n hx hb dX6_addInput_8 rfl (lv_at hl 0 rfl) ?_
  refine va_get (D := (dC, dI)) (ci := 6) (v := .ref h1) (C := RX6) (T := TX6) (N := 3) hx hb hts in_X6 hown hK hP 0 rfl rfl 0 (by decide) (hts _ q_34) (fun _ h9 => h9) rfl dX6_addInput_9 ?_
  refine va_gets (own := RX6) (ref := "Deltacycle$NetKind") hx hb (hX.2.1.1 0 (by decide)).1 hS hown (hts _ q_88) (fun _ h9 => h9) dX6_addInput_12 ?_
  have hM15 := k363_makeNet l hl9 dC dI z h1 h3 h4 h7 h8 h5 h6 h10 h11 h12 h13 H11.size kc0 kc1
  obtain ⟨hF13, hC16⟩ := pc_M hM15 hP hD hK hS hX hT hA [1, 3, 4, 7, 8] [0, 1] rfl rfl rfl
  refine va_callr (va_runV (As := [.ref (z.2.1 0)]) (rest := []) ⟨hx, hb, hml, hown, hts⟩ hM15 (cwV 1 hts (gV q_136 q_137 q_138 q_8 q_135) rfl rfl rfl hV_X0_makeNet ⟨Nat.le_of_ble_eq_true rfl, Nat.le_of_ble_eq_true rfl⟩) ⟨pc_blind, va_recv hK hP (ci := 2) (q := (RX0, TX0, 4)) (q0 := 1) rfl rfl, fun U hU hW => ⟨rfl, hC16 U hU hW⟩⟩ rfl rfl hl.1 rfl (lv_room (Nat.le_of_ble_eq_true rfl)) dX6_addInput_15 ⟨(Nat.le_of_ble_eq_true rfl), (Nat.le_of_ble_eq_true rfl)⟩) hS (fun q9 _ h9 => hF13 q9 h9) hF13 (fun u17 r18 t17 H17 L17 ht17 hvm17 hw17 hB17 hz17 hk17 hS => ?_)
  obtain ⟨a19, a20, hr17, hB17⟩ := hB17
  obtain ⟨hP, hD, hK⟩ := pq_jn (wz := [(h0, ce16 h1 h2 o0), (h2, ce10 h1), (h5, ce3 z.1), (h6, ce167 h9), (h9, ce146 kc2 h10 h11 h12 h13), (h10, ce38 (z.2.1 0) h14 h10), (h11, ce77 (z.2.1 0) h15 h11), (h12, ce115 (z.2.1 0) h16 h12), (h13, ce165 (z.2.1 0) h17 h13), (h14, ce3 z.1), (h15, ce3 z.1), (h16, ce3 z.1), (h17, ce3 z.1), (h1, ce7 h3 h4 h5 h6), (h3, ce201 h7), (h4, ce201 h8), (h7, ce200 kc0 h10 h11 h12 h13 a19), (h8, ce200 kc1 h10 h11 h12 h13 a19), (a19, ce198 (z.2.1 0) a20 a19), (a20, ce3 z.1)]) (tz := [(kc2, .object "java/lang/Object"), (kc0, .object "java/lang/Object"), (kc1, .object "java/lang/Object")]) hP hD hK [1, 3, 4, 7, 8] [2] rfl hk17 hF13 hB17.1 ht17 hvm17 rfl rfl
  have hG : s.heap.size + 2 ≤ H17.size := va_gr (g := 0) (g1 := 2) hG (by rw [← ht17]; exact hB17.2)
  refine W.eq (g2 := F0 m 18 ls [.ref a19]) (by rw [hr17]) ?_
  refine W.widen (k := 2) (n := 22) (by decide) (by decide) ?_
  refine lv_astore_n (lv' := [(1, .ref a19), (0, .ref h0)]) hx hb dX6_addInput_18 rfl hl (by decide) rfl (fun ls hl => ?_)
  refine lv_aload_n hx hb dX6_addInput_19 rfl (lv_at hl 1 rfl) ?_
  have hM23 := k419_startAnew l hl9 dC dI z h0 h1 h2 h3 h4 h5 h6 h7 h8 h9 h10 h11 h12 h13 a19 h14 h15 h16 h17 a20 o0 H17.size kc0 kc1 kc2
  obtain ⟨hF21, hC24⟩ := pc_M hM23 hP hD hK hS hX hT hA [0, 13, 1, 14, 15, 2, 3, 16, 17, 4, 5, 6, 7, 8, 18, 9, 10, 11, 12, 19] [1, 2, 0] rfl rfl rfl
  refine va_callv (va_runV (As := []) (rest := []) ⟨hx, hb, hml, hown, hts⟩ hM23 (cwV 0 hts (gV q_231 q_232 q_233 q_2 q_230) rfl rfl rfl hV_X6_startAnew ⟨Nat.le_of_ble_eq_true rfl, Nat.le_of_ble_eq_true rfl⟩) ⟨pc_blind, va_recv hK hP (ci := 6) (q := (RX6, TX6, 3)) (q0 := 0) rfl rfl, fun U hU hW => ⟨rfl, hC24 U hU hW⟩⟩ rfl rfl hl.1 rfl (lv_room (Nat.le_of_ble_eq_true rfl)) dX6_addInput_20 ⟨(Nat.le_of_ble_eq_true rfl), (Nat.le_of_ble_eq_true rfl)⟩) hS (fun q9 _ h9 => hF21 q9 h9) hF21 (fun u25 t25 H25 L25 ht25 hvm25 hw25 hB25 hz25 hk25 hS => ?_)
  obtain ⟨hP, hD, hK⟩ := pq_jn (wz := [(h0, ce16 h1 h2 o0), (h1, ce7 h3 h4 h5 h6), (h2, ce10 h1), (h3, ce201 h7), (h4, ce201 h8), (h5, ce3 z.1), (h6, ce226 h9), (h7, ce200 kc0 h10 h11 h12 h13 a19), (h8, ce200 kc1 h10 h11 h12 h13 a19), (h9, ce200 kc2 h10 h11 h12 h13 a19), (h10, ce38 (z.2.1 0) h14 h10), (h11, ce77 (z.2.1 0) h15 h11), (h12, ce115 (z.2.1 0) h16 h12), (h13, ce165 (z.2.1 0) h17 h13), (a19, ce224 (z.2.1 0) a20 a19), (h14, ce3 z.1), (h15, ce3 z.1), (h16, ce3 z.1), (h17, ce3 z.1), (a20, ce3 z.1)]) (tz := [(kc0, .object "java/lang/Object"), (kc1, .object "java/lang/Object"), (kc2, .object "java/lang/Object")]) hP hD hK [0, 13, 1, 14, 15, 2, 3, 16, 17, 4, 5, 6, 7, 8, 18, 9, 10, 11, 12, 19] [] rfl hk25 hF21 hB25.1 ht25 hvm25 rfl rfl
  have hG : s.heap.size + 2 ≤ H25.size := Nat.le_trans hG hz25
  refine lv_aload_n hx hb dX6_addInput_23 rfl (lv_at hl 0 rfl) ?_
  refine va_get (D := (dC, dI)) (ci := 3) (v := .int 4) (C := RX2) (T := TX2) (N := 19) hx hb hts in_X2 hown hK hP 14 rfl rfl 0 (by decide) (hts _ q_234) (fun _ h9 => h9) rfl dX6_addInput_24 ?_
  exact W.iret (v := 4) hx hb hr (fun t9 ht9 hW9 => ⟨⟨4, (), rfl, rfl, ⟨a19, a20, ⟨pq_mk2 hP hD hK [0, 1, 2, 3, 4, 5, 6, 7, 8, 9, 10, 11, 12, 13, 15, 16, 17, 18, 14, 19] [0, 1, 2] rfl rfl rfl ht9 hW9, by rw [ht9]; exact Nat.le_trans (Nat.add_le_add_left (Nat.le_of_ble_eq_true rfl) _) hG⟩⟩⟩, hS.F ht9⟩) hS.2.2 dX6_addInput_27

set_option maxHeartbeats 4000000 in
set_option maxRecDepth 100000 in
theorem k421_addInput (l : Launch) (hl9 : l.stackTraces = false) (dC : Nat → ClassId) (dI : Nat → Nat → Nat) (z : XZ) (h0 h1 h2 h3 h4 h5 h6 h7 h8 h9 h10 h11 h12 h13 h14 h15 h16 h17 h18 : Nat) (o0 : Nat) (sz : Nat) (kc0 kc1 kc2 kc3 : ClassId) : Met l yL_addInput (.codeWith yL_addInput cL_addInput 3 (some .int) [(0, 8, 11, 13), (0, 8, 14, 15)] :: wsL_law) ({ frames := 8, cells := 2, slots := 22, locals := 168 }) (va_Pc [.ref h0, .ref h1] (PC (dC, dI) [(h0, ce16 h2 h3 o0), (h1, ce169 kc0), (h2, ce7 h4 h5 h6 h7), (h3, ce10 h2), (h4, ce147 h8), (h5, ce147 h9), (h6, ce3 z.1), (h7, ce167 h10), (h8, ce146 kc1 h11 h12 h13 h14), (h9, ce146 kc2 h11 h12 h13 h14), (h10, ce146 kc3 h11 h12 h13 h14), (h11, ce38 (z.2.1 0) h15 h11), (h12, ce77 (z.2.1 0) h16 h12), (h13, ce115 (z.2.1 0) h17 h13), (h14, ce165 (z.2.1 0) h18 h14), (h15, ce3 z.1), (h16, ce3 z.1), (h17, ce3 z.1), (h18, ce3 z.1)] [(kc0, .long), (kc1, .object "java/lang/Object"), (kc2, .object "java/lang/Object"), (kc3, .object "java/lang/Object")] sz z)) (va_Qi (fun (r : Int32) (_ : Unit) => r = 0) (fun (_ : Unit) (t : State) => ∃ (n0 n1 : Nat), PG (dC, dI) [(h0, ce16 h2 h3 o0), (h1, ce228 kc0), (h2, ce7 h4 h5 h6 h7), (h3, ce10 h2), (h4, ce201 h8), (h5, ce201 h9), (h6, ce3 z.1), (h7, ce226 h10), (h8, ce200 kc1 h11 h12 h13 h14 n0), (h9, ce200 kc2 h11 h12 h13 h14 n0), (h10, ce200 kc3 h11 h12 h13 h14 n0), (h11, ce38 (z.2.1 0) h15 h11), (h12, ce77 (z.2.1 0) h16 h12), (h13, ce115 (z.2.1 0) h17 h13), (h14, ce165 (z.2.1 0) h18 h14), (h15, ce3 z.1), (h16, ce3 z.1), (h17, ce3 z.1), (h18, ce3 z.1), (n0, ce224 (z.2.1 0) n1 n0), (n1, ce3 z.1)] [(kc0, .long), (kc1, .object "java/lang/Object"), (kc2, .object "java/lang/Object"), (kc3, .object "java/lang/Object")] (va_A [(h0, ce16 h2 h3 o0), (h1, ce169 kc0), (h2, ce7 h4 h5 h6 h7), (h3, ce10 h2), (h4, ce147 h8), (h5, ce147 h9), (h6, ce3 z.1), (h7, ce167 h10), (h8, ce146 kc1 h11 h12 h13 h14), (h9, ce146 kc2 h11 h12 h13 h14), (h10, ce146 kc3 h11 h12 h13 h14), (h11, ce38 (z.2.1 0) h15 h11), (h12, ce77 (z.2.1 0) h16 h12), (h13, ce115 (z.2.1 0) h17 h13), (h14, ce165 (z.2.1 0) h18 h14), (h15, ce3 z.1), (h16, ce3 z.1), (h17, ce3 z.1), (h18, ce3 z.1)] sz) sz 2 t) (va_A [(h0, ce16 h2 h3 o0), (h1, ce169 kc0), (h2, ce7 h4 h5 h6 h7), (h3, ce10 h2), (h4, ce147 h8), (h5, ce147 h9), (h6, ce3 z.1), (h7, ce167 h10), (h8, ce146 kc1 h11 h12 h13 h14), (h9, ce146 kc2 h11 h12 h13 h14), (h10, ce146 kc3 h11 h12 h13 h14), (h11, ce38 (z.2.1 0) h15 h11), (h12, ce77 (z.2.1 0) h16 h12), (h13, ce115 (z.2.1 0) h17 h13), (h14, ce165 (z.2.1 0) h18 h14), (h15, ce3 z.1), (h16, ce3 z.1), (h17, ce3 z.1), (h18, ce3 z.1)] sz)) 2 22 (va_A [(h0, ce16 h2 h3 o0), (h1, ce169 kc0), (h2, ce7 h4 h5 h6 h7), (h3, ce10 h2), (h4, ce147 h8), (h5, ce147 h9), (h6, ce3 z.1), (h7, ce167 h10), (h8, ce146 kc1 h11 h12 h13 h14), (h9, ce146 kc2 h11 h12 h13 h14), (h10, ce146 kc3 h11 h12 h13 h14), (h11, ce38 (z.2.1 0) h15 h11), (h12, ce77 (z.2.1 0) h16 h12), (h13, ce115 (z.2.1 0) h17 h13), (h14, ce165 (z.2.1 0) h18 h14), (h15, ce3 z.1), (h16, ce3 z.1), (h17, ce3 z.1), (h18, ce3 z.1)] sz) := by
  refine va_MetW (cc := cL_addInput) (maxL := 3) (ret := (some .int)) (hh := [(0, 8, 11, 13), (0, 8, 14, 15)]) (by decide) rfl ?_
  intro p e s m args below meth c s₁ B hml hv
  obtain ⟨rfl, hsz, hP, hK, hD0, hX, hT⟩ := hv
  have hx := B.exec
  have hb := B.bytes
  have hr := B.returns
  have hts0 := atoms_spec (ws := .codeWith yL_addInput cL_addInput 3 (some .int) [(0, 8, 11, 13), (0, 8, 14, 15)] :: wsL_law) B.pre
  have htab := vx_table (x := yL_addInput) B (hts0 _ List.mem_cons_self)
  have hts := xTail hts0
  have hown : s.vm.findClass RL = some m.cls := xown B.named rfl
  have hlocks := B.notSynchronized
  subst hsz
  have hD := hD0.self (sz := s.heap.size)
  generalize hAe : va_A [(h0, ce16 h2 h3 o0), (h1, ce169 kc0), (h2, ce7 h4 h5 h6 h7), (h3, ce10 h2), (h4, ce147 h8), (h5, ce147 h9), (h6, ce3 z.1), (h7, ce167 h10), (h8, ce146 kc1 h11 h12 h13 h14), (h9, ce146 kc2 h11 h12 h13 h14), (h10, ce146 kc3 h11 h12 h13 h14), (h11, ce38 (z.2.1 0) h15 h11), (h12, ce77 (z.2.1 0) h16 h12), (h13, ce115 (z.2.1 0) h17 h13), (h14, ce165 (z.2.1 0) h18 h14), (h15, ce3 z.1), (h16, ce3 z.1), (h17, ce3 z.1), (h18, ce3 z.1)] s.heap.size = A at hD hX ⊢
  have hA : ∀ q : Nat, s.heap.size ≤ q → A q := fun q h => by rw [← hAe]; exact Or.inr h
  have hS : va_S A s.heap s.heap [] := va_S.rf
  have hG : s.heap.size + 0 ≤ s.heap.size := Nat.le_refl _
  have hl := lv_entry ([.ref h0, .ref h1]) (n := 3) (Nat.le_of_ble_eq_true rfl)
  rw [lg_entry_eq]
  generalize (lg_sl ([.ref h0, .ref h1]) ++ List.replicate (3 - (lg_sl ([.ref h0, .ref h1])).length) Slot.unset).toArray = ls at hl ⊢
  have hl : lv_has ls 3 [(0, .ref h0), (1, .ref h1)] := hl
  refine lv_aload_n hx hb dL_addInput_0 rfl (lv_at hl 1 rfl) ?_
  refine lv_iconst (v := 0) hx hb dL_addInput_1 (by decide) ?_
  refine lv_aload_n hx hb dL_addInput_2 rfl (lv_at hl 0 rfl) ?_
  have hM3 := k420_addInput l hl9 dC dI z h0 h2 h3 h4 h5 h6 h7 h8 h9 h10 h11 h12 h13 h14 h15 h16 h17 h18 o0 s.heap.size kc1 kc2 kc3
  obtain ⟨hF1, hC4⟩ := pc_M hM3 hP hD hK hS hX hT hA [0, 2, 3, 4, 5, 6, 7, 8, 9, 10, 11, 12, 13, 14, 15, 16, 17, 18] [1, 2, 3] rfl rfl rfl
  refine va_calli (va_runV (As := []) (rest := [.int 0, .ref h1]) ⟨hx, hb, hml, hown, hts⟩ hM3 (cwV 0 hts (gV q_236 q_237 q_238 q_2 q_235) rfl rfl rfl hV_X6_addInput ⟨Nat.le_of_ble_eq_true rfl, Nat.le_of_ble_eq_true rfl⟩) ⟨pc_blind, va_recv hK hP (ci := 6) (q := (RX6, TX6, 3)) (q0 := 0) rfl rfl, fun U hU hW => ⟨rfl, hC4 U hU hW⟩⟩ rfl rfl hl.1 rfl (lv_room (Nat.le_of_ble_eq_true rfl)) dL_addInput_3 ⟨(Nat.le_of_ble_eq_true rfl), (Nat.le_of_ble_eq_true rfl)⟩) hS (fun q9 _ h9 => hF1 q9 h9) hF1 (fun r6 u5 t5 H5 L5 ht5 hvm5 hw5 hB5 hz5 hk5 hS => ?_)
  obtain ⟨a7, a8, hB5⟩ := hB5
  obtain ⟨hP, hD, hK⟩ := pq_jn (wz := [(h1, ce169 kc0), (h0, ce16 h2 h3 o0), (h2, ce7 h4 h5 h6 h7), (h3, ce10 h2), (h4, ce201 h8), (h5, ce201 h9), (h6, ce3 z.1), (h7, ce226 h10), (h8, ce200 kc1 h11 h12 h13 h14 a7), (h9, ce200 kc2 h11 h12 h13 h14 a7), (h10, ce200 kc3 h11 h12 h13 h14 a7), (h11, ce38 (z.2.1 0) h15 h11), (h12, ce77 (z.2.1 0) h16 h12), (h13, ce115 (z.2.1 0) h17 h13), (h14, ce165 (z.2.1 0) h18 h14), (h15, ce3 z.1), (h16, ce3 z.1), (h17, ce3 z.1), (h18, ce3 z.1), (a7, ce224 (z.2.1 0) a8 a7), (a8, ce3 z.1)]) (tz := [(kc0, .long), (kc1, .object "java/lang/Object"), (kc2, .object "java/lang/Object"), (kc3, .object "java/lang/Object")]) hP hD hK [0, 2, 3, 4, 5, 6, 7, 8, 9, 10, 11, 12, 13, 14, 15, 16, 17, 18] [0] rfl hk5 hF1 hB5.1 ht5 hvm5 rfl rfl
  have hG : s.heap.size + 2 ≤ H5.size := va_gr (g := 0) (g1 := 2) hG (by rw [← ht5]; exact hB5.2)
  refine W.eq (g2 := F0 m 6 ls [.int 4, .int 0, .ref h1]) (by rw [hw5]) ?_
  refine W.widen (k := 2) (n := 22) (by decide) (by decide) ?_
  refine lv_i2l (v := 4) hx hb dL_addInput_6 (by decide) ?_
  refine va_last hx hb hK hP hD (va_Sre hS) 0 0 rfl rfl (i := 0) (by unfold vp_in; decide) dL_addInput_7 (fun H9 _ hP hD hS' => ?_)
  have hG : s.heap.size + 2 ≤ H9.size := Nat.le_trans hG hS'.1
  have hS := va_Str hS hS'
  have hP : va_P (dC, dI) xCl [(h1, ce227 kc0), (h0, ce16 h2 h3 o0), (h2, ce7 h4 h5 h6 h7), (h3, ce10 h2), (h4, ce201 h8), (h5, ce201 h9), (h6, ce3 z.1), (h7, ce226 h10), (h8, ce200 kc1 h11 h12 h13 h14 a7), (h9, ce200 kc2 h11 h12 h13 h14 a7), (h10, ce200 kc3 h11 h12 h13 h14 a7), (h11, ce38 (z.2.1 0) h15 h11), (h12, ce77 (z.2.1 0) h16 h12), (h13, ce115 (z.2.1 0) h17 h13), (h14, ce165 (z.2.1 0) h18 h14), (h15, ce3 z.1), (h16, ce3 z.1), (h17, ce3 z.1), (h18, ce3 z.1), (a7, ce224 (z.2.1 0) a8 a7), (a8, ce3 z.1)] H9 := hP
  have hD := vd_as hP hD rfl
  refine lv_goto (tgt := 17) hx hb dL_addInput_8 (by decide) ?_
  refine lv_iconst (v := 0) hx hb dL_addInput_17 (by decide) ?_
  have ehu10 : (vp_updL (vp_updL (fun _ => 0) 0 3) 0 4) = (vp_updL (fun _ => 0) 0 4) := by funext j; by_cases g0 : j = 0; (subst g0; rfl); simp only [vp_updL, g0, if_false]
  have hu10 : (ce227 kc0 : va_E) = ce228 kc0 := (show (.inl (kc0, 1, .inr (.inl (vp_updL (vp_updL (fun _ => 0) 0 3) 0 4))) : va_E) = .inl (kc0, 1, .inr (.inl (vp_updL (fun _ => 0) 0 4))) by rw [ehu10])
  rw [hu10] at hP hD
  have hP : va_P (dC, dI) xCl [(h1, ce228 kc0), (h0, ce16 h2 h3 o0), (h2, ce7 h4 h5 h6 h7), (h3, ce10 h2), (h4, ce201 h8), (h5, ce201 h9), (h6, ce3 z.1), (h7, ce226 h10), (h8, ce200 kc1 h11 h12 h13 h14 a7), (h9, ce200 kc2 h11 h12 h13 h14 a7), (h10, ce200 kc3 h11 h12 h13 h14 a7), (h11, ce38 (z.2.1 0) h15 h11), (h12, ce77 (z.2.1 0) h16 h12), (h13, ce115 (z.2.1 0) h17 h13), (h14, ce165 (z.2.1 0) h18 h14), (h15, ce3 z.1), (h16, ce3 z.1), (h17, ce3 z.1), (h18, ce3 z.1), (a7, ce224 (z.2.1 0) a8 a7), (a8, ce3 z.1)] H9 := hP
  have hD := vd_as hP hD rfl
  exact W.iret (v := 0) hx hb hr (fun t9 ht9 hW9 => ⟨⟨0, (), rfl, rfl, ⟨a7, a8, ⟨pq_mk2 hP hD hK [1, 0, 2, 3, 4, 5, 6, 7, 8, 9, 10, 11, 12, 13, 14, 15, 16, 17, 18, 19, 20] [0, 1, 2, 3] rfl rfl rfl ht9 hW9, by rw [ht9]; exact Nat.le_trans (Nat.add_le_add_left (Nat.le_of_ble_eq_true rfl) _) hG⟩⟩⟩, hS.F ht9⟩) hS.2.2 dL_addInput_18

set_option maxHeartbeats 4000000 in
set_option maxRecDepth 100000 in
theorem k422_sources (l : Launch) (hl9 : l.stackTraces = false) (dC : Nat → ClassId) (dI : Nat → Nat → Nat) (z : XZ) (h0 h1 h2 h3 h4 h5 h6 : Nat) (o0 o1 o2 : Nat) (sz : Nat) (kc0 : ClassId) : Met l yX9_sources (.code yX9_sources cX9_sources 4 (some .int) :: wsL_law) ({ frames := 3, cells := 1, slots := 4, locals := 57 }) (va_Pc [.ref h0] (PC (dC, dI) [(h0, ce21 h1 o0 o1 o2), (h1, ce147 h2), (h2, ce146 kc0 h3 h4 h5 h6), (h3, ce49), (h4, ce49), (h5, ce49), (h6, ce49)] [(kc0, .object "java/lang/Object")] sz z)) (va_Qi (fun (r : Int32) (_ : Unit) => r = 4) (fun (_ : Unit) (t : State) => PG (dC, dI) [(h0, ce21 h1 o0 o1 o2), (h1, ce147 h2), (h2, ce146 kc0 h3 h4 h5 h6), (h3, ce49), (h4, ce49), (h5, ce49), (h6, ce49)] [(kc0, .object "java/lang/Object")] (va_A [(h0, ce21 h1 o0 o1 o2), (h1, ce147 h2), (h2, ce146 kc0 h3 h4 h5 h6), (h3, ce49), (h4, ce49), (h5, ce49), (h6, ce49)] sz) sz 1 t) (va_A [(h0, ce21 h1 o0 o1 o2), (h1, ce147 h2), (h2, ce146 kc0 h3 h4 h5 h6), (h3, ce49), (h4, ce49), (h5, ce49), (h6, ce49)] sz)) 1 4 (va_A [(h0, ce21 h1 o0 o1 o2), (h1, ce147 h2), (h2, ce146 kc0 h3 h4 h5 h6), (h3, ce49), (h4, ce49), (h5, ce49), (h6, ce49)] sz) := by
  refine Met.ofW (cc := cX9_sources) (maxL := 4) (ret := (some .int)) (by decide) rfl ?_
  intro p e s m args below meth c s₁ B hml hv
  obtain ⟨rfl, hsz, hP, hK, hD0, hX, hT⟩ := hv
  have hx := B.exec
  have hb := B.bytes
  have hr := B.returns
  have hts0 := atoms_spec (ws := .code yX9_sources cX9_sources 4 (some .int) :: wsL_law) B.pre
  have hts := xTail hts0
  have hown : s.vm.findClass RX9 = some m.cls := xown B.named rfl
  have hlocks := B.notSynchronized
  subst hsz
  have hD := hD0.self (sz := s.heap.size)
  generalize hAe : va_A [(h0, ce21 h1 o0 o1 o2), (h1, ce147 h2), (h2, ce146 kc0 h3 h4 h5 h6), (h3, ce49), (h4, ce49), (h5, ce49), (h6, ce49)] s.heap.size = A at hD hX ⊢
  have hA : ∀ q : Nat, s.heap.size ≤ q → A q := fun q h => by rw [← hAe]; exact Or.inr h
  have hS : va_S A s.heap s.heap [] := va_S.rf
  have hG : s.heap.size + 0 ≤ s.heap.size := Nat.le_refl _
  have hl := lv_entry ([.ref h0]) (n := 4) (Nat.le_of_ble_eq_true rfl)
  rw [lg_entry_eq]
  generalize (lg_sl ([.ref h0]) ++ List.replicate (4 - (lg_sl ([.ref h0])).length) Slot.unset).toArray = ls at hl ⊢
  have hl : lv_has ls 4 [(0, .ref h0)] := hl
  refine lv_iconst (v := 0) hx hb dX9_sources_0 (by decide) ?_
  refine lv_istore_n (lv' := [(1, .int 0), (0, .ref h0)]) hx hb dX9_sources_1 rfl hl (by decide) rfl (fun ls hl => ?_)
  refine lv_aload_n hx hb dX9_sources_2 rfl (lv_at hl 1 rfl) ?_
  refine va_get (D := (dC, dI)) (ci := 8) (v := .ref h1) (C := RX9) (T := TX9) (N := 6) hx hb hts in_X9 hown hK hP 0 rfl rfl 1 (by decide) (hts _ q_64) (fun _ h9 => h9) rfl dX9_sources_3 ?_
  have hM3 := k322_iterator l hl9 dC dI z h1 h2 s.heap.size
  obtain ⟨hF1, hC4⟩ := pc_M hM3 hP hD hK hS hX hT hA [1] [] rfl rfl rfl
  refine va_callr (va_runV (As := []) (rest := []) ⟨hx, hb, hml, hown, hts⟩ hM3 (cwV 0 hts (gV q_256 q_257 q_258 q_12 q_255) rfl rfl rfl hV_Jx4a65c_iterator_32c93 ⟨Nat.le_of_ble_eq_true rfl, Nat.le_of_ble_eq_true rfl⟩) ⟨pc_blind, va_recv hK hP (ci := 0) (q := (RJx4a65c, TJx4a65c, 3)) (q0 := 1) rfl rfl, fun U hU hW => ⟨rfl, hC4 U hU hW⟩⟩ rfl rfl hl.1 rfl (lv_room (Nat.le_of_ble_eq_true rfl)) dX9_sources_6 ⟨(Nat.le_of_ble_eq_true rfl), (Nat.le_of_ble_eq_true rfl)⟩) hS (fun q9 _ h9 => hF1 q9 h9) hF1 (fun u5 r6 t5 H5 L5 ht5 hvm5 hw5 hB5 hz5 hk5 hS => ?_)
  obtain ⟨a7, hr5, hB5⟩ := hB5
  obtain ⟨hP, hD, hK⟩ := pq_jn (wz := [(h0, ce21 h1 o0 o1 o2), (h2, ce146 kc0 h3 h4 h5 h6), (h3, ce49), (h4, ce49), (h5, ce49), (h6, ce49), (h1, ce147 h2), (a7, ce171 h1)]) (tz := [(kc0, .object "java/lang/Object")]) hP hD hK [1] [0] rfl hk5 hF1 hB5.1 ht5 hvm5 rfl rfl
  have hG : s.heap.size + 1 ≤ H5.size := va_gr (g := 0) (g1 := 1) hG (by rw [← ht5]; exact hB5.2)
  refine W.eq (g2 := F0 m 9 ls [.ref a7]) (by rw [hr5]) ?_
  refine W.widen (k := 1) (n := 4) (by decide) (by decide) ?_
  refine lv_astore_n (lv' := [(2, .ref a7), (1, .int 0), (0, .ref h0)]) hx hb dX9_sources_9 rfl hl (by decide) rfl (fun ls hl => ?_)
  refine lv_aload_n hx hb dX9_sources_10 rfl (lv_at hl 0 rfl) ?_
  have hM10 := k323_hasNext l hl9 dC dI z a7 h1 h2 H5.size
  obtain ⟨hF8, hC11⟩ := pc_M hM10 hP hD hK hS hX hT hA [7, 6] [] rfl rfl rfl
  refine va_callFi (va_runF (As := []) (rest := []) (hK.1 1 (RJx35411, TJx35411, 4) rfl).2 ⟨hx, hb, hml, hown, hts⟩ hM10 (va_cwF 0 hts (gF q_261 q_262 q_263 q_246 q_260) rfl rfl rfl hT.2.2.2.2.2.2.1 hF_xIh ⟨Nat.le_of_ble_eq_true rfl, Nat.le_of_ble_eq_true rfl⟩) ⟨pc_blind, va_recv hK hP (ci := 1) (q := (RJx35411, TJx35411, 4)) (q0 := 7) rfl rfl, fun U hU hW => ⟨rfl, hC11 U hU hW⟩⟩ rfl rfl hl.1 rfl (lv_room (Nat.le_of_ble_eq_true rfl)) dX9_sources_11 ⟨(Nat.le_of_ble_eq_true rfl), (Nat.le_of_ble_eq_true rfl)⟩) hS (fun q9 _ h9 => hF8 q9 h9) hF8 (fun r13 u12 t12 H12 L12 ht12 hvm12 hw12 hB12 hz12 hk12 hS => ?_)
  have hP := pq_keep hP hD [7, 6] rfl hk12 hB12.1 ht12
  have hG : s.heap.size + 1 ≤ H12.size := Nat.le_trans hG hz12
  refine W.eq (g2 := F0 m 16 ls [.int 1]) (by rw [hw12]) ?_
  refine lv_if_eq (tgt := 47) hx hb dX9_sources_16 (by decide) (fun cz => absurd cz (by decide)) (fun _ => ?_)
  refine lv_aload_n hx hb dX9_sources_19 rfl (lv_at hl 0 rfl) ?_
  have hM16 := k325_next l hl9 dC dI z a7 h1 h2 h3 h4 h5 h6 H12.size kc0
  obtain ⟨hF14, hC17⟩ := pc_M hM16 hP hD hK hS hX hT hA [7, 6, 1] [0] rfl rfl rfl
  refine va_callFr (va_runF (As := []) (rest := []) (hK.1 1 (RJx35411, TJx35411, 4) rfl).2 ⟨hx, hb, hml, hown, hts⟩ hM16 (va_cwF 0 hts (gF q_308 q_309 q_310 q_246 q_307) rfl rfl rfl hT.2.2.2.2.2.2.2.1 hF_xIn ⟨Nat.le_of_ble_eq_true rfl, Nat.le_of_ble_eq_true rfl⟩) ⟨pc_blind, va_recv hK hP (ci := 1) (q := (RJx35411, TJx35411, 4)) (q0 := 7) rfl rfl, fun U hU hW => ⟨rfl, hC17 U hU hW⟩⟩ rfl rfl hl.1 rfl (lv_room (Nat.le_of_ble_eq_true rfl)) dX9_sources_20 ⟨(Nat.le_of_ble_eq_true rfl), (Nat.le_of_ble_eq_true rfl)⟩) hS (fun q9 _ h9 => hF14 q9 h9) hF14 (fun u18 r19 t18 H18 L18 ht18 hvm18 hw18 hB18 hz18 hk18 hS => ?_)
  obtain ⟨hr18, hB18⟩ := hB18
  obtain ⟨hP, hD, hK⟩ := pq_jn (wz := [(h0, ce21 h1 o0 o1 o2), (h3, ce49), (h4, ce49), (h5, ce49), (h6, ce49), (a7, ce173 h1), (h1, ce147 h2), (h2, ce146 kc0 h3 h4 h5 h6)]) (tz := [(kc0, .object "java/lang/Object")]) hP hD hK [7, 6, 1] [] rfl hk18 hF14 hB18.1 ht18 hvm18 rfl rfl
  have hG : s.heap.size + 1 ≤ H18.size := Nat.le_trans hG hz18
  refine W.eq (g2 := F0 m 25 ls [.ref h3]) (by rw [hr18]) ?_
  refine va_castE (nm := RX8) hx hb hown (hts _ q_273) (va_recv hK hP (ci := 7) (q := (RX8, TX8, 6)) (q0 := 1) rfl rfl) dX9_sources_25 ?_
  refine lv_astore_n (lv' := [(3, .ref h3), (2, .ref a7), (1, .int 0), (0, .ref h0)]) hx hb dX9_sources_28 rfl hl (by decide) rfl (fun ls hl => ?_)
  refine lv_iload_n hx hb dX9_sources_29 rfl (lv_at hl 2 rfl) ?_
  refine lv_aload_n hx hb dX9_sources_30 rfl (lv_at hl 0 rfl) ?_
  have hM22 := k121_isSource l hl9 dC dI z h3 H18.size
  obtain ⟨hF20, hC23⟩ := pc_M hM22 hP hD hK hS hX hT hA [1] [] rfl rfl rfl
  refine va_calli (va_runV (As := []) (rest := [.int 0]) ⟨hx, hb, hml, hown, hts⟩ hM22 (cwV 0 hts (gV q_344 q_345 q_346 q_275 q_343) rfl rfl rfl hV_X8_isSource ⟨Nat.le_of_ble_eq_true rfl, Nat.le_of_ble_eq_true rfl⟩) ⟨pc_blind, va_recv hK hP (ci := 7) (q := (RX8, TX8, 6)) (q0 := 1) rfl rfl, fun U hU hW => ⟨rfl, hC23 U hU hW⟩⟩ rfl rfl hl.1 rfl (lv_room (Nat.le_of_ble_eq_true rfl)) dX9_sources_31 ⟨(Nat.le_of_ble_eq_true rfl), (Nat.le_of_ble_eq_true rfl)⟩) hS (fun q9 _ h9 => hF20 q9 h9) hF20 (fun r25 u24 t24 H24 L24 ht24 hvm24 hw24 hB24 hz24 hk24 hS => ?_)
  have hP := pq_keep hP hD [1] rfl hk24 hB24.1 ht24
  have hG : s.heap.size + 1 ≤ H24.size := Nat.le_trans hG hz24
  refine W.eq (g2 := F0 m 34 ls [.int 1, .int 0]) (by rw [hw24]) ?_
  refine lv_if_eq (tgt := 41) hx hb dX9_sources_34 (by decide) (fun cz => absurd cz (by decide)) (fun _ => ?_)
  refine lv_iconst (v := 1) hx hb dX9_sources_37 (by decide) ?_
  refine lv_goto (tgt := 42) hx hb dX9_sources_38 (by decide) ?_
  refine lv_iadd hx hb dX9_sources_42 ?_
  refine lv_topi (fun y26 ey26 => ?_)
  obtain rfl : y26 = 1 := ey26.trans (by decide)
  refine lv_istore_n (lv' := [(1, .int 1), (3, .ref h3), (2, .ref a7), (0, .ref h0)]) hx hb dX9_sources_43 rfl hl (by decide) rfl (fun ls hl => ?_)
  refine lv_goto (tgt := 10) hx hb dX9_sources_44 (by decide) ?_
  refine lv_aload_n hx hb dX9_sources_10 rfl (lv_at hl 2 rfl) ?_
  have hM29 := k326_hasNext l hl9 dC dI z a7 h1 h2 H24.size
  obtain ⟨hF27, hC30⟩ := pc_M hM29 hP hD hK hS hX hT hA [5, 6] [] rfl rfl rfl
  refine va_callFi (va_runF (As := []) (rest := []) (hK.1 1 (RJx35411, TJx35411, 4) rfl).2 ⟨hx, hb, hml, hown, hts⟩ hM29 (va_cwF 0 hts (gF q_261 q_262 q_263 q_246 q_260) rfl rfl rfl hT.2.2.2.2.2.2.1 hF_xIh ⟨Nat.le_of_ble_eq_true rfl, Nat.le_of_ble_eq_true rfl⟩) ⟨pc_blind, va_recv hK hP (ci := 1) (q := (RJx35411, TJx35411, 4)) (q0 := 5) rfl rfl, fun U hU hW => ⟨rfl, hC30 U hU hW⟩⟩ rfl rfl hl.1 rfl (lv_room (Nat.le_of_ble_eq_true rfl)) dX9_sources_11 ⟨(Nat.le_of_ble_eq_true rfl), (Nat.le_of_ble_eq_true rfl)⟩) hS (fun q9 _ h9 => hF27 q9 h9) hF27 (fun r32 u31 t31 H31 L31 ht31 hvm31 hw31 hB31 hz31 hk31 hS => ?_)
  have hP := pq_keep hP hD [5, 6] rfl hk31 hB31.1 ht31
  have hG : s.heap.size + 1 ≤ H31.size := Nat.le_trans hG hz31
  refine W.eq (g2 := F0 m 16 ls [.int 1]) (by rw [hw31]) ?_
  refine lv_if_eq (tgt := 47) hx hb dX9_sources_16 (by decide) (fun cz => absurd cz (by decide)) (fun _ => ?_)
  refine lv_aload_n hx hb dX9_sources_19 rfl (lv_at hl 2 rfl) ?_
  have hM35 := k328_next l hl9 dC dI z a7 h1 h2 h3 h4 h5 h6 H31.size kc0
  obtain ⟨hF33, hC36⟩ := pc_M hM35 hP hD hK hS hX hT hA [5, 6, 7] [0] rfl rfl rfl
  refine va_callFr (va_runF (As := []) (rest := []) (hK.1 1 (RJx35411, TJx35411, 4) rfl).2 ⟨hx, hb, hml, hown, hts⟩ hM35 (va_cwF 0 hts (gF q_308 q_309 q_310 q_246 q_307) rfl rfl rfl hT.2.2.2.2.2.2.2.1 hF_xIn ⟨Nat.le_of_ble_eq_true rfl, Nat.le_of_ble_eq_true rfl⟩) ⟨pc_blind, va_recv hK hP (ci := 1) (q := (RJx35411, TJx35411, 4)) (q0 := 5) rfl rfl, fun U hU hW => ⟨rfl, hC36 U hU hW⟩⟩ rfl rfl hl.1 rfl (lv_room (Nat.le_of_ble_eq_true rfl)) dX9_sources_20 ⟨(Nat.le_of_ble_eq_true rfl), (Nat.le_of_ble_eq_true rfl)⟩) hS (fun q9 _ h9 => hF33 q9 h9) hF33 (fun u37 r38 t37 H37 L37 ht37 hvm37 hw37 hB37 hz37 hk37 hS => ?_)
  obtain ⟨hr37, hB37⟩ := hB37
  obtain ⟨hP, hD, hK⟩ := pq_jn (wz := [(h0, ce21 h1 o0 o1 o2), (h3, ce49), (h4, ce49), (h5, ce49), (h6, ce49), (a7, ce175 h1), (h1, ce147 h2), (h2, ce146 kc0 h3 h4 h5 h6)]) (tz := [(kc0, .object "java/lang/Object")]) hP hD hK [5, 6, 7] [] rfl hk37 hF33 hB37.1 ht37 hvm37 rfl rfl
  have hG : s.heap.size + 1 ≤ H37.size := Nat.le_trans hG hz37
  refine W.eq (g2 := F0 m 25 ls [.ref h4]) (by rw [hr37]) ?_
  refine va_castE (nm := RX8) hx hb hown (hts _ q_273) (va_recv hK hP (ci := 7) (q := (RX8, TX8, 6)) (q0 := 2) rfl rfl) dX9_sources_25 ?_
  refine lv_astore_n (lv' := [(3, .ref h4), (1, .int 1), (2, .ref a7), (0, .ref h0)]) hx hb dX9_sources_28 rfl hl (by decide) rfl (fun ls hl => ?_)
  refine lv_iload_n hx hb dX9_sources_29 rfl (lv_at hl 1 rfl) ?_
  refine lv_aload_n hx hb dX9_sources_30 rfl (lv_at hl 0 rfl) ?_
  have hM41 := k121_isSource l hl9 dC dI z h4 H37.size
  obtain ⟨hF39, hC42⟩ := pc_M hM41 hP hD hK hS hX hT hA [2] [] rfl rfl rfl
  refine va_calli (va_runV (As := []) (rest := [.int 1]) ⟨hx, hb, hml, hown, hts⟩ hM41 (cwV 0 hts (gV q_344 q_345 q_346 q_275 q_343) rfl rfl rfl hV_X8_isSource ⟨Nat.le_of_ble_eq_true rfl, Nat.le_of_ble_eq_true rfl⟩) ⟨pc_blind, va_recv hK hP (ci := 7) (q := (RX8, TX8, 6)) (q0 := 2) rfl rfl, fun U hU hW => ⟨rfl, hC42 U hU hW⟩⟩ rfl rfl hl.1 rfl (lv_room (Nat.le_of_ble_eq_true rfl)) dX9_sources_31 ⟨(Nat.le_of_ble_eq_true rfl), (Nat.le_of_ble_eq_true rfl)⟩) hS (fun q9 _ h9 => hF39 q9 h9) hF39 (fun r44 u43 t43 H43 L43 ht43 hvm43 hw43 hB43 hz43 hk43 hS => ?_)
  have hP := pq_keep hP hD [2] rfl hk43 hB43.1 ht43
  have hG : s.heap.size + 1 ≤ H43.size := Nat.le_trans hG hz43
  refine W.eq (g2 := F0 m 34 ls [.int 1, .int 1]) (by rw [hw43]) ?_
  refine lv_if_eq (tgt := 41) hx hb dX9_sources_34 (by decide) (fun cz => absurd cz (by decide)) (fun _ => ?_)
  refine lv_iconst (v := 1) hx hb dX9_sources_37 (by decide) ?_
  refine lv_goto (tgt := 42) hx hb dX9_sources_38 (by decide) ?_
  refine lv_iadd hx hb dX9_sources_42 ?_
  refine lv_topi (fun y45 ey45 => ?_)
  obtain rfl : y45 = 2 := ey45.trans (by decide)
  refine lv_istore_n (lv' := [(1, .int 2), (3, .ref h4), (2, .ref a7), (0, .ref h0)]) hx hb dX9_sources_43 rfl hl (by decide) rfl (fun ls hl => ?_)
  refine lv_goto (tgt := 10) hx hb dX9_sources_44 (by decide) ?_
  refine lv_aload_n hx hb dX9_sources_10 rfl (lv_at hl 2 rfl) ?_
  have hM48 := k329_hasNext l hl9 dC dI z a7 h1 h2 H43.size
  obtain ⟨hF46, hC49⟩ := pc_M hM48 hP hD hK hS hX hT hA [5, 6] [] rfl rfl rfl
  refine va_callFi (va_runF (As := []) (rest := []) (hK.1 1 (RJx35411, TJx35411, 4) rfl).2 ⟨hx, hb, hml, hown, hts⟩ hM48 (va_cwF 0 hts (gF q_261 q_262 q_263 q_246 q_260) rfl rfl rfl hT.2.2.2.2.2.2.1 hF_xIh ⟨Nat.le_of_ble_eq_true rfl, Nat.le_of_ble_eq_true rfl⟩) ⟨pc_blind, va_recv hK hP (ci := 1) (q := (RJx35411, TJx35411, 4)) (q0 := 5) rfl rfl, fun U hU hW => ⟨rfl, hC49 U hU hW⟩⟩ rfl rfl hl.1 rfl (lv_room (Nat.le_of_ble_eq_true rfl)) dX9_sources_11 ⟨(Nat.le_of_ble_eq_true rfl), (Nat.le_of_ble_eq_true rfl)⟩) hS (fun q9 _ h9 => hF46 q9 h9) hF46 (fun r51 u50 t50 H50 L50 ht50 hvm50 hw50 hB50 hz50 hk50 hS => ?_)
  have hP := pq_keep hP hD [5, 6] rfl hk50 hB50.1 ht50
  have hG : s.heap.size + 1 ≤ H50.size := Nat.le_trans hG hz50
  refine W.eq (g2 := F0 m 16 ls [.int 1]) (by rw [hw50]) ?_
  refine lv_if_eq (tgt := 47) hx hb dX9_sources_16 (by decide) (fun cz => absurd cz (by decide)) (fun _ => ?_)
  refine lv_aload_n hx hb dX9_sources_19 rfl (lv_at hl 2 rfl) ?_
  have hM54 := k331_next l hl9 dC dI z a7 h1 h2 h3 h4 h5 h6 H50.size kc0
  obtain ⟨hF52, hC55⟩ := pc_M hM54 hP hD hK hS hX hT hA [5, 6, 7] [0] rfl rfl rfl
  refine va_callFr (va_runF (As := []) (rest := []) (hK.1 1 (RJx35411, TJx35411, 4) rfl).2 ⟨hx, hb, hml, hown, hts⟩ hM54 (va_cwF 0 hts (gF q_308 q_309 q_310 q_246 q_307) rfl rfl rfl hT.2.2.2.2.2.2.2.1 hF_xIn ⟨Nat.le_of_ble_eq_true rfl, Nat.le_of_ble_eq_true rfl⟩) ⟨pc_blind, va_recv hK hP (ci := 1) (q := (RJx35411, TJx35411, 4)) (q0 := 5) rfl rfl, fun U hU hW => ⟨rfl, hC55 U hU hW⟩⟩ rfl rfl hl.1 rfl (lv_room (Nat.le_of_ble_eq_true rfl)) dX9_sources_20 ⟨(Nat.le_of_ble_eq_true rfl), (Nat.le_of_ble_eq_true rfl)⟩) hS (fun q9 _ h9 => hF52 q9 h9) hF52 (fun u56 r57 t56 H56 L56 ht56 hvm56 hw56 hB56 hz56 hk56 hS => ?_)
  obtain ⟨hr56, hB56⟩ := hB56
  obtain ⟨hP, hD, hK⟩ := pq_jn (wz := [(h0, ce21 h1 o0 o1 o2), (h3, ce49), (h4, ce49), (h5, ce49), (h6, ce49), (a7, ce177 h1), (h1, ce147 h2), (h2, ce146 kc0 h3 h4 h5 h6)]) (tz := [(kc0, .object "java/lang/Object")]) hP hD hK [5, 6, 7] [] rfl hk56 hF52 hB56.1 ht56 hvm56 rfl rfl
  have hG : s.heap.size + 1 ≤ H56.size := Nat.le_trans hG hz56
  refine W.eq (g2 := F0 m 25 ls [.ref h5]) (by rw [hr56]) ?_
  refine va_castE (nm := RX8) hx hb hown (hts _ q_273) (va_recv hK hP (ci := 7) (q := (RX8, TX8, 6)) (q0 := 3) rfl rfl) dX9_sources_25 ?_
  refine lv_astore_n (lv' := [(3, .ref h5), (1, .int 2), (2, .ref a7), (0, .ref h0)]) hx hb dX9_sources_28 rfl hl (by decide) rfl (fun ls hl => ?_)
  refine lv_iload_n hx hb dX9_sources_29 rfl (lv_at hl 1 rfl) ?_
  refine lv_aload_n hx hb dX9_sources_30 rfl (lv_at hl 0 rfl) ?_
  have hM60 := k121_isSource l hl9 dC dI z h5 H56.size
  obtain ⟨hF58, hC61⟩ := pc_M hM60 hP hD hK hS hX hT hA [3] [] rfl rfl rfl
  refine va_calli (va_runV (As := []) (rest := [.int 2]) ⟨hx, hb, hml, hown, hts⟩ hM60 (cwV 0 hts (gV q_344 q_345 q_346 q_275 q_343) rfl rfl rfl hV_X8_isSource ⟨Nat.le_of_ble_eq_true rfl, Nat.le_of_ble_eq_true rfl⟩) ⟨pc_blind, va_recv hK hP (ci := 7) (q := (RX8, TX8, 6)) (q0 := 3) rfl rfl, fun U hU hW => ⟨rfl, hC61 U hU hW⟩⟩ rfl rfl hl.1 rfl (lv_room (Nat.le_of_ble_eq_true rfl)) dX9_sources_31 ⟨(Nat.le_of_ble_eq_true rfl), (Nat.le_of_ble_eq_true rfl)⟩) hS (fun q9 _ h9 => hF58 q9 h9) hF58 (fun r63 u62 t62 H62 L62 ht62 hvm62 hw62 hB62 hz62 hk62 hS => ?_)
  have hP := pq_keep hP hD [3] rfl hk62 hB62.1 ht62
  have hG : s.heap.size + 1 ≤ H62.size := Nat.le_trans hG hz62
  refine W.eq (g2 := F0 m 34 ls [.int 1, .int 2]) (by rw [hw62]) ?_
  refine lv_if_eq (tgt := 41) hx hb dX9_sources_34 (by decide) (fun cz => absurd cz (by decide)) (fun _ => ?_)
  refine lv_iconst (v := 1) hx hb dX9_sources_37 (by decide) ?_
  refine lv_goto (tgt := 42) hx hb dX9_sources_38 (by decide) ?_
  refine lv_iadd hx hb dX9_sources_42 ?_
  refine lv_topi (fun y64 ey64 => ?_)
  obtain rfl : y64 = 3 := ey64.trans (by decide)
  refine lv_istore_n (lv' := [(1, .int 3), (3, .ref h5), (2, .ref a7), (0, .ref h0)]) hx hb dX9_sources_43 rfl hl (by decide) rfl (fun ls hl => ?_)
  refine lv_goto (tgt := 10) hx hb dX9_sources_44 (by decide) ?_
  refine lv_aload_n hx hb dX9_sources_10 rfl (lv_at hl 2 rfl) ?_
  have hM67 := k332_hasNext l hl9 dC dI z a7 h1 h2 H62.size
  obtain ⟨hF65, hC68⟩ := pc_M hM67 hP hD hK hS hX hT hA [5, 6] [] rfl rfl rfl
  refine va_callFi (va_runF (As := []) (rest := []) (hK.1 1 (RJx35411, TJx35411, 4) rfl).2 ⟨hx, hb, hml, hown, hts⟩ hM67 (va_cwF 0 hts (gF q_261 q_262 q_263 q_246 q_260) rfl rfl rfl hT.2.2.2.2.2.2.1 hF_xIh ⟨Nat.le_of_ble_eq_true rfl, Nat.le_of_ble_eq_true rfl⟩) ⟨pc_blind, va_recv hK hP (ci := 1) (q := (RJx35411, TJx35411, 4)) (q0 := 5) rfl rfl, fun U hU hW => ⟨rfl, hC68 U hU hW⟩⟩ rfl rfl hl.1 rfl (lv_room (Nat.le_of_ble_eq_true rfl)) dX9_sources_11 ⟨(Nat.le_of_ble_eq_true rfl), (Nat.le_of_ble_eq_true rfl)⟩) hS (fun q9 _ h9 => hF65 q9 h9) hF65 (fun r70 u69 t69 H69 L69 ht69 hvm69 hw69 hB69 hz69 hk69 hS => ?_)
  have hP := pq_keep hP hD [5, 6] rfl hk69 hB69.1 ht69
  have hG : s.heap.size + 1 ≤ H69.size := Nat.le_trans hG hz69
  refine W.eq (g2 := F0 m 16 ls [.int 1]) (by rw [hw69]) ?_
  refine lv_if_eq (tgt := 47) hx hb dX9_sources_16 (by decide) (fun cz => absurd cz (by decide)) (fun _ => ?_)
  refine lv_aload_n hx hb dX9_sources_19 rfl (lv_at hl 2 rfl) ?_
  have hM73 := k334_next l hl9 dC dI z a7 h1 h2 h3 h4 h5 h6 H69.size kc0
  obtain ⟨hF71, hC74⟩ := pc_M hM73 hP hD hK hS hX hT hA [5, 6, 7] [0] rfl rfl rfl
  refine va_callFr (va_runF (As := []) (rest := []) (hK.1 1 (RJx35411, TJx35411, 4) rfl).2 ⟨hx, hb, hml, hown, hts⟩ hM73 (va_cwF 0 hts (gF q_308 q_309 q_310 q_246 q_307) rfl rfl rfl hT.2.2.2.2.2.2.2.1 hF_xIn ⟨Nat.le_of_ble_eq_true rfl, Nat.le_of_ble_eq_true rfl⟩) ⟨pc_blind, va_recv hK hP (ci := 1) (q := (RJx35411, TJx35411, 4)) (q0 := 5) rfl rfl, fun U hU hW => ⟨rfl, hC74 U hU hW⟩⟩ rfl rfl hl.1 rfl (lv_room (Nat.le_of_ble_eq_true rfl)) dX9_sources_20 ⟨(Nat.le_of_ble_eq_true rfl), (Nat.le_of_ble_eq_true rfl)⟩) hS (fun q9 _ h9 => hF71 q9 h9) hF71 (fun u75 r76 t75 H75 L75 ht75 hvm75 hw75 hB75 hz75 hk75 hS => ?_)
  obtain ⟨hr75, hB75⟩ := hB75
  obtain ⟨hP, hD, hK⟩ := pq_jn (wz := [(h0, ce21 h1 o0 o1 o2), (h3, ce49), (h4, ce49), (h5, ce49), (h6, ce49), (a7, ce179 h1), (h1, ce147 h2), (h2, ce146 kc0 h3 h4 h5 h6)]) (tz := [(kc0, .object "java/lang/Object")]) hP hD hK [5, 6, 7] [] rfl hk75 hF71 hB75.1 ht75 hvm75 rfl rfl
  have hG : s.heap.size + 1 ≤ H75.size := Nat.le_trans hG hz75
  refine W.eq (g2 := F0 m 25 ls [.ref h6]) (by rw [hr75]) ?_
  refine va_castE (nm := RX8) hx hb hown (hts _ q_273) (va_recv hK hP (ci := 7) (q := (RX8, TX8, 6)) (q0 := 4) rfl rfl) dX9_sources_25 ?_
  refine lv_astore_n (lv' := [(3, .ref h6), (1, .int 3), (2, .ref a7), (0, .ref h0)]) hx hb dX9_sources_28 rfl hl (by decide) rfl (fun ls hl => ?_)
  refine lv_iload_n hx hb dX9_sources_29 rfl (lv_at hl 1 rfl) ?_
  refine lv_aload_n hx hb dX9_sources_30 rfl (lv_at hl 0 rfl) ?_
  have hM79 := k121_isSource l hl9 dC dI z h6 H75.size
  obtain ⟨hF77, hC80⟩ := pc_M hM79 hP hD hK hS hX hT hA [4] [] rfl rfl rfl
  refine va_calli (va_runV (As := []) (rest := [.int 3]) ⟨hx, hb, hml, hown, hts⟩ hM79 (cwV 0 hts (gV q_344 q_345 q_346 q_275 q_343) rfl rfl rfl hV_X8_isSource ⟨Nat.le_of_ble_eq_true rfl, Nat.le_of_ble_eq_true rfl⟩) ⟨pc_blind, va_recv hK hP (ci := 7) (q := (RX8, TX8, 6)) (q0 := 4) rfl rfl, fun U hU hW => ⟨rfl, hC80 U hU hW⟩⟩ rfl rfl hl.1 rfl (lv_room (Nat.le_of_ble_eq_true rfl)) dX9_sources_31 ⟨(Nat.le_of_ble_eq_true rfl), (Nat.le_of_ble_eq_true rfl)⟩) hS (fun q9 _ h9 => hF77 q9 h9) hF77 (fun r82 u81 t81 H81 L81 ht81 hvm81 hw81 hB81 hz81 hk81 hS => ?_)
  have hP := pq_keep hP hD [4] rfl hk81 hB81.1 ht81
  have hG : s.heap.size + 1 ≤ H81.size := Nat.le_trans hG hz81
  refine W.eq (g2 := F0 m 34 ls [.int 1, .int 3]) (by rw [hw81]) ?_
  refine lv_if_eq (tgt := 41) hx hb dX9_sources_34 (by decide) (fun cz => absurd cz (by decide)) (fun _ => ?_)
  refine lv_iconst (v := 1) hx hb dX9_sources_37 (by decide) ?_
  refine lv_goto (tgt := 42) hx hb dX9_sources_38 (by decide) ?_
  refine lv_iadd hx hb dX9_sources_42 ?_
  refine lv_topi (fun y83 ey83 => ?_)
  obtain rfl : y83 = 4 := ey83.trans (by decide)
  refine lv_istore_n (lv' := [(1, .int 4), (3, .ref h6), (2, .ref a7), (0, .ref h0)]) hx hb dX9_sources_43 rfl hl (by decide) rfl (fun ls hl => ?_)
  refine lv_goto (tgt := 10) hx hb dX9_sources_44 (by decide) ?_
  refine lv_aload_n hx hb dX9_sources_10 rfl (lv_at hl 2 rfl) ?_
  have hM86 := k335_hasNext l hl9 dC dI z a7 h1 h2 H81.size
  obtain ⟨hF84, hC87⟩ := pc_M hM86 hP hD hK hS hX hT hA [5, 6] [] rfl rfl rfl
  refine va_callFi (va_runF (As := []) (rest := []) (hK.1 1 (RJx35411, TJx35411, 4) rfl).2 ⟨hx, hb, hml, hown, hts⟩ hM86 (va_cwF 0 hts (gF q_261 q_262 q_263 q_246 q_260) rfl rfl rfl hT.2.2.2.2.2.2.1 hF_xIh ⟨Nat.le_of_ble_eq_true rfl, Nat.le_of_ble_eq_true rfl⟩) ⟨pc_blind, va_recv hK hP (ci := 1) (q := (RJx35411, TJx35411, 4)) (q0 := 5) rfl rfl, fun U hU hW => ⟨rfl, hC87 U hU hW⟩⟩ rfl rfl hl.1 rfl (lv_room (Nat.le_of_ble_eq_true rfl)) dX9_sources_11 ⟨(Nat.le_of_ble_eq_true rfl), (Nat.le_of_ble_eq_true rfl)⟩) hS (fun q9 _ h9 => hF84 q9 h9) hF84 (fun r89 u88 t88 H88 L88 ht88 hvm88 hw88 hB88 hz88 hk88 hS => ?_)
  have hP := pq_keep hP hD [5, 6] rfl hk88 hB88.1 ht88
  have hG : s.heap.size + 1 ≤ H88.size := Nat.le_trans hG hz88
  refine W.eq (g2 := F0 m 16 ls [.int 0]) (by rw [hw88]) ?_
  refine lv_if_eq (tgt := 47) hx hb dX9_sources_16 (by decide) (fun _ => ?_) (fun cz => absurd (by decide) cz)
  refine lv_iload_n hx hb dX9_sources_47 rfl (lv_at hl 0 rfl) ?_
  exact W.iret (v := 4) hx hb hr (fun t9 ht9 hW9 => ⟨⟨4, (), rfl, rfl, ⟨pq_mk2 hP hD hK [0, 6, 7, 1, 2, 3, 4] [0] rfl rfl rfl ht9 hW9, by rw [ht9]; exact Nat.le_trans (Nat.add_le_add_left (Nat.le_of_ble_eq_true rfl) _) hG⟩⟩, hS.F ht9⟩) hS.2.2 dX9_sources_48

set_option maxHeartbeats 4000000 in
set_option maxRecDepth 100000 in
theorem k423_add (l : Launch) (hl9 : l.stackTraces = false) (dC : Nat → ClassId) (dI : Nat → Nat → Nat) (z : XZ) (h0 h1 h2 : Nat) (o0 o1 o2 o3 : Nat) (sz : Nat) (kc0 : ClassId) : Met l yJx4a65c_add_72be8 (.code yJx4a65c_add_72be8 cJx4a65c_add_72be8 4 none :: wsL_law) ({ frames := 0, cells := 0, slots := 0, locals := 0 }) (va_Pc [.ref h0, .ref h1, .ref h2, .int 4] (PC (dC, dI) [(h0, ce199 h2), (h1, ce49), (h2, ce146 kc0 o0 o1 o2 o3)] [(kc0, .object "java/lang/Object")] sz z)) (va_Qv (fun (_ : Unit) => True) (fun (_ : Unit) (t : State) => PG (dC, dI) [(h0, ce201 h2), (h1, ce49), (h2, ce200 kc0 o0 o1 o2 o3 h1)] [(kc0, .object "java/lang/Object")] (va_A [(h0, ce199 h2), (h1, ce49), (h2, ce146 kc0 o0 o1 o2 o3)] sz) sz 0 t) (va_A [(h0, ce199 h2), (h1, ce49), (h2, ce146 kc0 o0 o1 o2 o3)] sz)) 0 0 (va_A [(h0, ce199 h2), (h1, ce49), (h2, ce146 kc0 o0 o1 o2 o3)] sz) := by
  refine Met.ofW (cc := cJx4a65c_add_72be8) (maxL := 4) (ret := none) (by decide) rfl ?_
  intro p e s m args below meth c s₁ B hml hv
  obtain ⟨rfl, hsz, hP, hK, hD0, hX, hT⟩ := hv
  have hx := B.exec
  have hb := B.bytes
  have hr := B.returns
  have hts0 := atoms_spec (ws := .code yJx4a65c_add_72be8 cJx4a65c_add_72be8 4 none :: wsL_law) B.pre
  have hts := xTail hts0
  have hown : s.vm.findClass RJx4a65c = some m.cls := xown B.named rfl
  have hlocks := B.notSynchronized
  subst hsz
  have hD := hD0.self (sz := s.heap.size)
  generalize hAe : va_A [(h0, ce199 h2), (h1, ce49), (h2, ce146 kc0 o0 o1 o2 o3)] s.heap.size = A at hD hX ⊢
  have hA : ∀ q : Nat, s.heap.size ≤ q → A q := fun q h => by rw [← hAe]; exact Or.inr h
  have hS : va_S A s.heap s.heap [] := va_S.rf
  have hG : s.heap.size + 0 ≤ s.heap.size := Nat.le_refl _
  have hl := lv_entry ([.ref h0, .ref h1, .ref h2, .int 4]) (n := 4) (Nat.le_of_ble_eq_true rfl)
  rw [lg_entry_eq]
  generalize (lg_sl ([.ref h0, .ref h1, .ref h2, .int 4]) ++ List.replicate (4 - (lg_sl ([.ref h0, .ref h1, .ref h2, .int 4])).length) Slot.unset).toArray = ls at hl ⊢
  have hl : lv_has ls 4 [(0, .ref h0), (1, .ref h1), (2, .ref h2), (3, .int 4)] := hl
  refine lv_iload_n hx hb dJx4a65c_add_72be8_0 rfl (lv_at hl 3 rfl) ?_
  refine lv_aload_n hx hb dJx4a65c_add_72be8_1 rfl (lv_at hl 2 rfl) ?_
  refine va_alen hx hb hK hP 2 0 rfl rfl (v := 10) rfl dJx4a65c_add_72be8_2 ?_
  refine lv_icmp_ne (tgt := 11) hx hb dJx4a65c_add_72be8_3 (by decide) (fun _ => ?_) (fun cz => absurd cz (by decide))
  refine lv_aload_n hx hb dJx4a65c_add_72be8_11 rfl (lv_at hl 2 rfl) ?_
  refine lv_iload_n hx hb dJx4a65c_add_72be8_12 rfl (lv_at hl 3 rfl) ?_
  refine lv_aload_n hx hb dJx4a65c_add_72be8_13 rfl (lv_at hl 1 rfl) ?_
  refine vb_astq (E := "java/lang/Object") (C := RX8) hx hb hK hP hD (va_Sre hS) 2 0 rfl rfl (va_recv hK hP (ci := 7) (q := (RX8, TX8, 6)) (q0 := 1) rfl rfl) (vb_asgC (hT.2.1.1 (RX8, "java/lang/Object") (by decide))) (i := 4) (by unfold vp_in; decide) dJx4a65c_add_72be8_14 (fun H1 _ hP hD hS' => ?_)
  have hG : s.heap.size + 0 ≤ H1.size := Nat.le_trans hG hS'.1
  have hS := va_Str hS hS'
  have hP : va_P (dC, dI) xCl [(h0, ce199 h2), (h1, ce49), (h2, ce200 kc0 o0 o1 o2 o3 h1)] H1 := hP
  have hD := vd_as hP hD rfl
  refine lv_aload_n hx hb dJx4a65c_add_72be8_15 rfl (lv_at hl 0 rfl) ?_
  refine lv_iload_n hx hb dJx4a65c_add_72be8_16 rfl (lv_at hl 3 rfl) ?_
  refine lv_iconst (v := 1) hx hb dJx4a65c_add_72be8_17 (by decide) ?_
  refine lv_iadd hx hb dJx4a65c_add_72be8_18 ?_
  refine lv_topi (fun y2 ey2 => ?_)
  obtain rfl : y2 = 5 := ey2.trans (by decide)
  refine va_put (D := (dC, dI)) (ci := 0) (v := .int 5) (ty := .int) (C := RJx4a65c) (T := TJx4a65c) (N := 3) hx hb hts in_Jx4a65c tyJx4a65c tyJx4a65c_ok nmJx4a65c hown hK hP hD (va_Sre hS) 0 rfl rfl 2 (by decide) (hts _ q_74) (fun _ h9 => h9) rfl (by decide +kernel) rfl rfl (Nat.le_of_ble_eq_true rfl) dJx4a65c_add_72be8_19 (fun H3 _ hP hD hS' => ?_)
  have hG : s.heap.size + 0 ≤ H3.size := Nat.le_trans hG hS'.1
  have hS := va_Str hS hS'
  have hP : va_P (dC, dI) xCl [(h0, ce201 h2), (h1, ce49), (h2, ce200 kc0 o0 o1 o2 o3 h1)] H3 := hP
  have hD := vd_as hP hD rfl
  exact W.vret hx hb hr (fun t9 ht9 hW9 => ⟨⟨(), rfl, trivial, ⟨pq_mk2 hP hD hK [0, 1, 2] [0] rfl rfl rfl ht9 hW9, by rw [ht9]; exact Nat.le_trans (Nat.add_le_add_left (Nat.le_of_ble_eq_true rfl) _) hG⟩⟩, hS.F ht9⟩) hS.2.2 dJx4a65c_add_72be8_22

set_option maxHeartbeats 4000000 in
set_option maxRecDepth 100000 in
theorem k424_add (l : Launch) (hl9 : l.stackTraces = false) (dC : Nat → ClassId) (dI : Nat → Nat → Nat) (z : XZ) (h0 h1 h2 : Nat) (o0 o1 o2 o3 : Nat) (sz : Nat) (kc0 : ClassId) : Met l yJx4a65c_add_9ea2d (.code yJx4a65c_add_9ea2d cJx4a65c_add_9ea2d 2 (some .boolean) :: wsL_law) ({ frames := 1, cells := 0, slots := 0, locals := 23 }) (va_Pc [.ref h0, .ref h1] (PC (dC, dI) [(h0, ce147 h2), (h1, ce49), (h2, ce146 kc0 o0 o1 o2 o3)] [(kc0, .object "java/lang/Object")] sz z)) (va_Qi (fun (r : Int32) (_ : Unit) => r = 1) (fun (_ : Unit) (t : State) => PG (dC, dI) [(h0, ce201 h2), (h1, ce49), (h2, ce200 kc0 o0 o1 o2 o3 h1)] [(kc0, .object "java/lang/Object")] (va_A [(h0, ce147 h2), (h1, ce49), (h2, ce146 kc0 o0 o1 o2 o3)] sz) sz 0 t) (va_A [(h0, ce147 h2), (h1, ce49), (h2, ce146 kc0 o0 o1 o2 o3)] sz)) 0 0 (va_A [(h0, ce147 h2), (h1, ce49), (h2, ce146 kc0 o0 o1 o2 o3)] sz) := by
  refine Met.ofW (cc := cJx4a65c_add_9ea2d) (maxL := 2) (ret := (some .boolean)) (by decide) rfl ?_
  intro p e s m args below meth c s₁ B hml hv
  obtain ⟨rfl, hsz, hP, hK, hD0, hX, hT⟩ := hv
  have hx := B.exec
  have hb := B.bytes
  have hr := B.returns
  have hts0 := atoms_spec (ws := .code yJx4a65c_add_9ea2d cJx4a65c_add_9ea2d 2 (some .boolean) :: wsL_law) B.pre
  have hts := xTail hts0
  have hown : s.vm.findClass RJx4a65c = some m.cls := xown B.named rfl
  have hlocks := B.notSynchronized
  subst hsz
  have hD := hD0.self (sz := s.heap.size)
  generalize hAe : va_A [(h0, ce147 h2), (h1, ce49), (h2, ce146 kc0 o0 o1 o2 o3)] s.heap.size = A at hD hX ⊢
  have hA : ∀ q : Nat, s.heap.size ≤ q → A q := fun q h => by rw [← hAe]; exact Or.inr h
  have hS : va_S A s.heap s.heap [] := va_S.rf
  have hG : s.heap.size + 0 ≤ s.heap.size := Nat.le_refl _
  have hl := lv_entry ([.ref h0, .ref h1]) (n := 2) (Nat.le_of_ble_eq_true rfl)
  rw [lg_entry_eq]
  generalize (lg_sl ([.ref h0, .ref h1]) ++ List.replicate (2 - (lg_sl ([.ref h0, .ref h1])).length) Slot.unset).toArray = ls at hl ⊢
  have hl : lv_has ls 2 [(0, .ref h0), (1, .ref h1)] := hl
  refine lv_aload_n hx hb dJx4a65c_add_9ea2d_0 rfl (lv_at hl 0 rfl) ?_
  refine lv_dup hx hb dJx4a65c_add_9ea2d_1 rfl ?_
  refine va_get (D := (dC, dI)) (ci := 0) (v := .int 4) (C := RJx4a65c) (T := TJx4a65c) (N := 3) hx hb hts in_Jx4a65c hown hK hP 0 rfl rfl 0 (by decide) (hts _ q_108) (u_same (hts _ q_107)) rfl dJx4a65c_add_9ea2d_2 ?_
  refine lv_iconst (v := 1) hx hb dJx4a65c_add_9ea2d_5 (by decide) ?_
  refine lv_iadd hx hb dJx4a65c_add_9ea2d_6 ?_
  refine lv_topi (fun y1 ey1 => ?_)
  obtain rfl : y1 = 5 := ey1.trans (by decide)
  refine va_put (D := (dC, dI)) (ci := 0) (v := .int 5) (ty := .int) (C := RJx4a65c) (T := TJx4a65c) (N := 3) hx hb hts in_Jx4a65c tyJx4a65c tyJx4a65c_ok nmJx4a65c hown hK hP hD (va_Sre hS) 0 rfl rfl 0 (by decide) (hts _ q_108) (u_same (hts _ q_107)) rfl (by decide +kernel) rfl rfl (Nat.le_of_ble_eq_true rfl) dJx4a65c_add_9ea2d_7 (fun H2 _ hP hD hS' => ?_)
  have hG : s.heap.size + 0 ≤ H2.size := Nat.le_trans hG hS'.1
  have hS := va_Str hS hS'
  have hP : va_P (dC, dI) xCl [(h0, ce199 h2), (h1, ce49), (h2, ce146 kc0 o0 o1 o2 o3)] H2 := hP
  have hD := vd_as hP hD rfl
  refine lv_aload_n hx hb dJx4a65c_add_9ea2d_10 rfl (lv_at hl 0 rfl) ?_
  refine lv_aload_n hx hb dJx4a65c_add_9ea2d_11 rfl (lv_at hl 1 rfl) ?_
  refine lv_aload_n hx hb dJx4a65c_add_9ea2d_12 rfl (lv_at hl 0 rfl) ?_
  refine va_get (D := (dC, dI)) (ci := 0) (v := .ref h2) (C := RJx4a65c) (T := TJx4a65c) (N := 3) hx hb hts in_Jx4a65c hown hK hP 0 rfl rfl 1 (by decide) (hts _ q_24) (fun _ h9 => h9) rfl dJx4a65c_add_9ea2d_13 ?_
  refine lv_aload_n hx hb dJx4a65c_add_9ea2d_16 rfl (lv_at hl 0 rfl) ?_
  refine va_get (D := (dC, dI)) (ci := 0) (v := .int 4) (C := RJx4a65c) (T := TJx4a65c) (N := 3) hx hb hts in_Jx4a65c hown hK hP 0 rfl rfl 2 (by decide) (hts _ q_74) (fun _ h9 => h9) rfl dJx4a65c_add_9ea2d_17 ?_
  have hM5 := k423_add l hl9 dC dI z h0 h1 h2 o0 o1 o2 o3 H2.size kc0
  obtain ⟨hF3, hC6⟩ := pc_M hM5 hP hD hK hS hX hT hA [0, 1, 2] [0] rfl rfl rfl
  refine va_callv (va_runV (As := [.ref h1, .ref h2, .int 4]) (rest := []) ⟨hx, hb, hml, hown, hts⟩ hM5 (cwV 3 hts (gV q_123 q_124 q_125 q_12 q_122) rfl rfl rfl hV_Jx4a65c_add_72be8 ⟨Nat.le_of_ble_eq_true rfl, Nat.le_of_ble_eq_true rfl⟩) ⟨pc_blind, va_recv hK hP (ci := 0) (q := (RJx4a65c, TJx4a65c, 3)) (q0 := 0) rfl rfl, fun U hU hW => ⟨rfl, hC6 U hU hW⟩⟩ rfl rfl hl.1 rfl (lv_room (Nat.le_of_ble_eq_true rfl)) dJx4a65c_add_9ea2d_20 ⟨(Nat.le_of_ble_eq_true rfl), (Nat.le_of_ble_eq_true rfl)⟩) hS (fun q9 _ h9 => hF3 q9 h9) hF3 (fun u7 t7 H7 L7 ht7 hvm7 hw7 hB7 hz7 hk7 hS => ?_)
  obtain ⟨hP, hD, hK⟩ := pq_jn (wz := [(h0, ce201 h2), (h1, ce49), (h2, ce200 kc0 o0 o1 o2 o3 h1)]) (tz := [(kc0, .object "java/lang/Object")]) hP hD hK [0, 1, 2] [] rfl hk7 hF3 hB7.1 ht7 hvm7 rfl rfl
  have hG : s.heap.size + 0 ≤ H7.size := Nat.le_trans hG hz7
  refine lv_iconst (v := 1) hx hb dJx4a65c_add_9ea2d_23 (by decide) ?_
  exact W.zret (v := 1) (ty := .boolean) hx hb hr rfl (fun t9 ht9 hW9 => ⟨⟨1, (), rfl, rfl, ⟨pq_mk2 hP hD hK [0, 1, 2] [0] rfl rfl rfl ht9 hW9, by rw [ht9]; exact Nat.le_trans (Nat.add_le_add_left (Nat.le_of_ble_eq_true rfl) _) hG⟩⟩, hS.F ht9⟩) hS.2.2 dJx4a65c_add_9ea2d_24

set_option maxHeartbeats 4000000 in
set_option maxRecDepth 100000 in
theorem k425_add (l : Launch) (hl9 : l.stackTraces = false) (dC : Nat → ClassId) (dI : Nat → Nat → Nat) (z : XZ) (h0 h1 h2 : Nat) (o0 o1 o2 o3 o4 o5 o6 : Nat) (sz : Nat) (kc0 : ClassId) : Met l yX9_add (.code yX9_add cX9_add 2 (some .int) :: wsL_law) ({ frames := 2, cells := 1, slots := 6, locals := 44 }) (va_Pc [.ref h0, .int 105] (PC (dC, dI) [(h0, ce21 h1 o0 o1 o2), (h1, ce147 h2), (h2, ce146 kc0 o3 o4 o5 o6)] [(kc0, .object "java/lang/Object")] sz z)) (va_Qi (fun (r : Int32) (_ : Unit) => r = 4) (fun (_ : Unit) (t : State) => ∃ (n0 : Nat), PG (dC, dI) [(h0, ce21 h1 o0 o1 o2), (h1, ce201 h2), (h2, ce200 kc0 o3 o4 o5 o6 n0), (n0, ce49)] [(kc0, .object "java/lang/Object")] (va_A [(h0, ce21 h1 o0 o1 o2), (h1, ce147 h2), (h2, ce146 kc0 o3 o4 o5 o6)] sz) sz 1 t) (va_A [(h0, ce21 h1 o0 o1 o2), (h1, ce147 h2), (h2, ce146 kc0 o3 o4 o5 o6)] sz)) 1 6 (va_A [(h0, ce21 h1 o0 o1 o2), (h1, ce147 h2), (h2, ce146 kc0 o3 o4 o5 o6)] sz) := by
  refine Met.ofW (cc := cX9_add) (maxL := 2) (ret := (some .int)) (by decide) rfl ?_
  intro p e s m args below meth c s₁ B hml hv
  obtain ⟨rfl, hsz, hP, hK, hD0, hX, hT⟩ := hv
  have hx := B.exec
  have hb := B.bytes
  have hr := B.returns
  have hts0 := atoms_spec (ws := .code yX9_add cX9_add 2 (some .int) :: wsL_law) B.pre
  have hts := xTail hts0
  have hown : s.vm.findClass RX9 = some m.cls := xown B.named rfl
  have hlocks := B.notSynchronized
  subst hsz
  have hD := hD0.self (sz := s.heap.size)
  generalize hAe : va_A [(h0, ce21 h1 o0 o1 o2), (h1, ce147 h2), (h2, ce146 kc0 o3 o4 o5 o6)] s.heap.size = A at hD hX ⊢
  have hA : ∀ q : Nat, s.heap.size ≤ q → A q := fun q h => by rw [← hAe]; exact Or.inr h
  have hS : va_S A s.heap s.heap [] := va_S.rf
  have hG : s.heap.size + 0 ≤ s.heap.size := Nat.le_refl _
  have hl := lv_entry ([.ref h0, .int 105]) (n := 2) (Nat.le_of_ble_eq_true rfl)
  rw [lg_entry_eq]
  generalize (lg_sl ([.ref h0, .int 105]) ++ List.replicate (2 - (lg_sl ([.ref h0, .int 105])).length) Slot.unset).toArray = ls at hl ⊢
  have hl : lv_has ls 2 [(0, .ref h0), (1, .int 105)] := hl
  refine lv_aload_n hx hb dX9_add_0 rfl (lv_at hl 0 rfl) ?_
  refine va_get (D := (dC, dI)) (ci := 8) (v := .ref h1) (C := RX9) (T := TX9) (N := 6) hx hb hts in_X9 hown hK hP 0 rfl rfl 1 (by decide) (hts _ q_64) (fun _ h9 => h9) rfl dX9_add_1 ?_
  refine xa_new (ci := 7) (fs := [.int 0, .int 0, .int 0, .int 0, .int 0, .int 0]) (C := RX8) (T := TX8) (N := 6) hx hb hts in_X8 tyX8 tyX8_ok hown (hts _ q_273) (hts _ q_274) (hts _ q_275) hK hP hD hS hA rfl nf_X8 (Nat.le_of_ble_eq_true rfl) (Nat.le_of_ble_eq_true rfl) dX9_add_4 (fun a1 H2 hg8 hP hD hS => ?_)
  have hG : s.heap.size + 1 ≤ H2.size := by rw [hg8]; exact Nat.succ_le_succ hG
  have hP : va_P (dC, dI) xCl [(h0, ce21 h1 o0 o1 o2), (h1, ce147 h2), (h2, ce146 kc0 o3 o4 o5 o6), (a1, ce45)] H2 := hP
  have hD := vd_as hP hD rfl
  refine W.widen (k := 1) (n := 6) (by decide) (by decide) ?_
  refine lv_dup hx hb dX9_add_7 rfl ?_
  refine lv_iload_n hx hb dX9_add_8 rfl (lv_at hl 1 rfl) ?_
  have hM5 := k54_init l hl9 dC dI z a1 H2.size
  obtain ⟨hF3, hC6⟩ := pc_M hM5 hP hD hK hS hX hT hA [3] [] rfl rfl rfl
  refine va_callv (va_runI (As := [.int 105]) (rest := [.ref a1, .ref h1]) ⟨hx, hb, hml, hown, hts⟩ hM5 (cwI 1 hts (gIL q_281) rfl rfl rfl (hts _ q_275) (hts _ q_282) (hts _ q_283) rfl hS_X8_init ⟨Nat.le_of_ble_eq_true rfl, Nat.le_of_ble_eq_true rfl⟩) ⟨pc_blind, fun U hU hW => ⟨rfl, hC6 U hU hW⟩⟩ rfl rfl hl.1 rfl (lv_room (Nat.le_of_ble_eq_true rfl)) dX9_add_9 ⟨(Nat.le_of_ble_eq_true rfl), (Nat.le_of_ble_eq_true rfl)⟩) hS (fun q9 _ h9 => hF3 q9 h9) hF3 (fun u7 t7 H7 L7 ht7 hvm7 hw7 hB7 hz7 hk7 hS => ?_)
  obtain ⟨hP, hD, hK⟩ := pq_jn (wz := [(h0, ce21 h1 o0 o1 o2), (h1, ce147 h2), (h2, ce146 kc0 o3 o4 o5 o6), (a1, ce49)]) (tz := [(kc0, .object "java/lang/Object")]) hP hD hK [3] [0] rfl hk7 hF3 hB7.1 ht7 hvm7 rfl rfl
  have hG : s.heap.size + 1 ≤ H7.size := Nat.le_trans hG hz7
  have hM11 := k424_add l hl9 dC dI z h1 a1 h2 o3 o4 o5 o6 H7.size kc0
  obtain ⟨hF9, hC12⟩ := pc_M hM11 hP hD hK hS hX hT hA [1, 3, 2] [0] rfl rfl rfl
  refine va_calli (va_runV (As := [.ref a1]) (rest := []) ⟨hx, hb, hml, hown, hts⟩ hM11 (cwV 1 hts (gV q_284 q_128 q_129 q_12 q_126) rfl rfl rfl hV_Jx4a65c_add_9ea2d ⟨Nat.le_of_ble_eq_true rfl, Nat.le_of_ble_eq_true rfl⟩) ⟨pc_blind, va_recv hK hP (ci := 0) (q := (RJx4a65c, TJx4a65c, 3)) (q0 := 1) rfl rfl, fun U hU hW => ⟨rfl, hC12 U hU hW⟩⟩ rfl rfl hl.1 rfl (lv_room (Nat.le_of_ble_eq_true rfl)) dX9_add_12 ⟨(Nat.le_of_ble_eq_true rfl), (Nat.le_of_ble_eq_true rfl)⟩) hS (fun q9 _ h9 => hF9 q9 h9) hF9 (fun r14 u13 t13 H13 L13 ht13 hvm13 hw13 hB13 hz13 hk13 hS => ?_)
  obtain ⟨hP, hD, hK⟩ := pq_jn (wz := [(h0, ce21 h1 o0 o1 o2), (h1, ce201 h2), (a1, ce49), (h2, ce200 kc0 o3 o4 o5 o6 a1)]) (tz := [(kc0, .object "java/lang/Object")]) hP hD hK [1, 3, 2] [] rfl hk13 hF9 hB13.1 ht13 hvm13 rfl rfl
  have hG : s.heap.size + 1 ≤ H13.size := Nat.le_trans hG hz13
  refine W.eq (g2 := F0 m 15 ls [.int 1]) (by rw [hw13]) ?_
  refine lv_pop hx hb dX9_add_15 rfl ?_
  refine lv_aload_n hx hb dX9_add_16 rfl (lv_at hl 0 rfl) ?_
  refine va_get (D := (dC, dI)) (ci := 8) (v := .ref h1) (C := RX9) (T := TX9) (N := 6) hx hb hts in_X9 hown hK hP 0 rfl rfl 1 (by decide) (hts _ q_64) (fun _ h9 => h9) rfl dX9_add_17 ?_
  have hM17 := k20_size l hl9 dC dI z h1 h2 H13.size 5 5
  obtain ⟨hF15, hC18⟩ := pc_M hM17 hP hD hK hS hX hT hA [1] [] rfl rfl rfl
  refine va_calli (va_runV (As := []) (rest := []) ⟨hx, hb, hml, hown, hts⟩ hM17 (cwV 0 hts (gV q_272 q_77 q_78 q_12 q_75) rfl rfl rfl hV_Jx4a65c_size_8abf5 ⟨Nat.le_of_ble_eq_true rfl, Nat.le_of_ble_eq_true rfl⟩) ⟨pc_blind, va_recv hK hP (ci := 0) (q := (RJx4a65c, TJx4a65c, 3)) (q0 := 1) rfl rfl, fun U hU hW => ⟨rfl, hC18 U hU hW⟩⟩ rfl rfl hl.1 rfl (lv_room (Nat.le_of_ble_eq_true rfl)) dX9_add_20 ⟨(Nat.le_of_ble_eq_true rfl), (Nat.le_of_ble_eq_true rfl)⟩) hS (fun q9 _ h9 => hF15 q9 h9) hF15 (fun r20 u19 t19 H19 L19 ht19 hvm19 hw19 hB19 hz19 hk19 hS => ?_)
  have hP := pq_keep hP hD [1] rfl hk19 hB19.1 ht19
  have hG : s.heap.size + 1 ≤ H19.size := Nat.le_trans hG hz19
  refine W.eq (g2 := F0 m 23 ls [.int 5]) (by rw [hw19]) ?_
  refine lv_iconst (v := 1) hx hb dX9_add_23 (by decide) ?_
  refine lv_isub hx hb dX9_add_24 ?_
  refine lv_topi (fun y21 ey21 => ?_)
  obtain rfl : y21 = 4 := ey21.trans (by decide)
  exact W.iret (v := 4) hx hb hr (fun t9 ht9 hW9 => ⟨⟨4, (), rfl, rfl, ⟨a1, ⟨pq_mk2 hP hD hK [0, 1, 3, 2] [0] rfl rfl rfl ht9 hW9, by rw [ht9]; exact Nat.le_trans (Nat.add_le_add_left (Nat.le_of_ble_eq_true rfl) _) hG⟩⟩⟩, hS.F ht9⟩) hS.2.2 dX9_add_25

set_option maxHeartbeats 4000000 in
set_option maxRecDepth 100000 in
theorem k426_clear (l : Launch) (hl9 : l.stackTraces = false) (dC : Nat → ClassId) (dI : Nat → Nat → Nat) (z : XZ) (h0 h1 : Nat) (sz : Nat) (kc0 : ClassId) : Met l yJx4a65c_clear_da8c8 (.code yJx4a65c_clear_da8c8 cJx4a65c_clear_da8c8 4 none :: wsL_law) ({ frames := 0, cells := 0, slots := 0, locals := 0 }) (va_Pc [.ref h0] (PC (dC, dI) [(h0, ce167 h1), (h1, ce146 kc0 (z.2.2.1 128) (z.2.2.1 129) (z.2.2.1 130) (z.2.2.1 131))] [(kc0, .object "java/lang/Object")] sz z)) (va_Qv (fun (_ : Unit) => True) (fun (_ : Unit) (t : State) => PG (dC, dI) [(h0, ce203 h1), (h1, ce208 kc0)] [(kc0, .object "java/lang/Object")] (va_A [(h0, ce167 h1), (h1, ce146 kc0 (z.2.2.1 128) (z.2.2.1 129) (z.2.2.1 130) (z.2.2.1 131))] sz) sz 0 t) (va_A [(h0, ce167 h1), (h1, ce146 kc0 (z.2.2.1 128) (z.2.2.1 129) (z.2.2.1 130) (z.2.2.1 131))] sz)) 0 0 (va_A [(h0, ce167 h1), (h1, ce146 kc0 (z.2.2.1 128) (z.2.2.1 129) (z.2.2.1 130) (z.2.2.1 131))] sz) := by
  refine Met.ofW (cc := cJx4a65c_clear_da8c8) (maxL := 4) (ret := none) (by decide) rfl ?_
  intro p e s m args below meth c s₁ B hml hv
  obtain ⟨rfl, hsz, hP, hK, hD0, hX, hT⟩ := hv
  have hx := B.exec
  have hb := B.bytes
  have hr := B.returns
  have hts0 := atoms_spec (ws := .code yJx4a65c_clear_da8c8 cJx4a65c_clear_da8c8 4 none :: wsL_law) B.pre
  have hts := xTail hts0
  have hown : s.vm.findClass RJx4a65c = some m.cls := xown B.named rfl
  have hlocks := B.notSynchronized
  subst hsz
  have hD := hD0.self (sz := s.heap.size)
  generalize hAe : va_A [(h0, ce167 h1), (h1, ce146 kc0 (z.2.2.1 128) (z.2.2.1 129) (z.2.2.1 130) (z.2.2.1 131))] s.heap.size = A at hD hX ⊢
  have hA : ∀ q : Nat, s.heap.size ≤ q → A q := fun q h => by rw [← hAe]; exact Or.inr h
  have hS : va_S A s.heap s.heap [] := va_S.rf
  have hG : s.heap.size + 0 ≤ s.heap.size := Nat.le_refl _
  have hl := lv_entry ([.ref h0]) (n := 4) (Nat.le_of_ble_eq_true rfl)
  rw [lg_entry_eq]
  generalize (lg_sl ([.ref h0]) ++ List.replicate (4 - (lg_sl ([.ref h0])).length) Slot.unset).toArray = ls at hl ⊢
  have hl : lv_has ls 4 [(0, .ref h0)] := hl
  refine lv_aload_n hx hb dJx4a65c_clear_da8c8_0 rfl (lv_at hl 0 rfl) ?_
  refine lv_dup hx hb dJx4a65c_clear_da8c8_1 rfl ?_
  refine va_get (D := (dC, dI)) (ci := 0) (v := .int 14) (C := RJx4a65c) (T := TJx4a65c) (N := 3) hx hb hts in_Jx4a65c hown hK hP 0 rfl rfl 0 (by decide) (hts _ q_108) (u_same (hts _ q_107)) rfl dJx4a65c_clear_da8c8_2 ?_
  refine lv_iconst (v := 1) hx hb dJx4a65c_clear_da8c8_5 (by decide) ?_
  refine lv_iadd hx hb dJx4a65c_clear_da8c8_6 ?_
  refine lv_topi (fun y1 ey1 => ?_)
  obtain rfl : y1 = 15 := ey1.trans (by decide)
  refine va_put (D := (dC, dI)) (ci := 0) (v := .int 15) (ty := .int) (C := RJx4a65c) (T := TJx4a65c) (N := 3) hx hb hts in_Jx4a65c tyJx4a65c tyJx4a65c_ok nmJx4a65c hown hK hP hD (va_Sre hS) 0 rfl rfl 0 (by decide) (hts _ q_108) (u_same (hts _ q_107)) rfl (by decide +kernel) rfl rfl (Nat.le_of_ble_eq_true rfl) dJx4a65c_clear_da8c8_7 (fun H2 _ hP hD hS' => ?_)
  have hG : s.heap.size + 0 ≤ H2.size := Nat.le_trans hG hS'.1
  have hS := va_Str hS hS'
  have hP : va_P (dC, dI) xCl [(h0, ce202 h1), (h1, ce146 kc0 (z.2.2.1 128) (z.2.2.1 129) (z.2.2.1 130) (z.2.2.1 131))] H2 := hP
  have hD := vd_as hP hD rfl
  refine lv_aload_n hx hb dJx4a65c_clear_da8c8_10 rfl (lv_at hl 0 rfl) ?_
  refine va_get (D := (dC, dI)) (ci := 0) (v := .ref h1) (C := RJx4a65c) (T := TJx4a65c) (N := 3) hx hb hts in_Jx4a65c hown hK hP 0 rfl rfl 1 (by decide) (hts _ q_24) (fun _ h9 => h9) rfl dJx4a65c_clear_da8c8_11 ?_
  refine lv_astore_n (lv' := [(1, .ref h1), (0, .ref h0)]) hx hb dJx4a65c_clear_da8c8_14 rfl hl (by decide) rfl (fun ls hl => ?_)
  refine lv_aload_n hx hb dJx4a65c_clear_da8c8_15 rfl (lv_at hl 1 rfl) ?_
  refine va_get (D := (dC, dI)) (ci := 0) (v := .int 4) (C := RJx4a65c) (T := TJx4a65c) (N := 3) hx hb hts in_Jx4a65c hown hK hP 0 rfl rfl 2 (by decide) (hts _ q_74) (fun _ h9 => h9) rfl dJx4a65c_clear_da8c8_16 ?_
  refine lv_istore_n (lv' := [(2, .int 4), (1, .ref h1), (0, .ref h0)]) hx hb dJx4a65c_clear_da8c8_19 rfl hl (by decide) rfl (fun ls hl => ?_)
  refine lv_aload_n hx hb dJx4a65c_clear_da8c8_20 rfl (lv_at hl 2 rfl) ?_
  refine lv_iconst (v := 0) hx hb dJx4a65c_clear_da8c8_21 (by decide) ?_
  refine lv_dup_x1 hx hb dJx4a65c_clear_da8c8_22 rfl rfl ?_
  refine va_put (D := (dC, dI)) (ci := 0) (v := .int 0) (ty := .int) (C := RJx4a65c) (T := TJx4a65c) (N := 3) hx hb hts in_Jx4a65c tyJx4a65c tyJx4a65c_ok nmJx4a65c hown hK hP hD (va_Sre hS) 0 rfl rfl 2 (by decide) (hts _ q_74) (fun _ h9 => h9) rfl (by decide +kernel) rfl rfl (Nat.le_of_ble_eq_true rfl) dJx4a65c_clear_da8c8_23 (fun H3 _ hP hD hS' => ?_)
  have hG : s.heap.size + 0 ≤ H3.size := Nat.le_trans hG hS'.1
  have hS := va_Str hS hS'
  have hP : va_P (dC, dI) xCl [(h0, ce203 h1), (h1, ce146 kc0 (z.2.2.1 128) (z.2.2.1 129) (z.2.2.1 130) (z.2.2.1 131))] H3 := hP
  have hD := vd_as hP hD rfl
  refine lv_istore_n (lv' := [(3, .int 0), (2, .int 4), (1, .ref h1), (0, .ref h0)]) hx hb dJx4a65c_clear_da8c8_26 rfl hl (by decide) rfl (fun ls hl => ?_)
  refine lv_iload_n hx hb dJx4a65c_clear_da8c8_27 rfl (lv_at hl 0 rfl) ?_
  refine lv_iload_n hx hb dJx4a65c_clear_da8c8_28 rfl (lv_at hl 1 rfl) ?_
  refine lv_icmp_ge (tgt := 42) hx hb dJx4a65c_clear_da8c8_29 (by decide) (fun cz => absurd cz (by decide)) (fun _ => ?_)
  refine lv_aload_n hx hb dJx4a65c_clear_da8c8_32 rfl (lv_at hl 2 rfl) ?_
  refine lv_iload_n hx hb dJx4a65c_clear_da8c8_33 rfl (lv_at hl 0 rfl) ?_
  refine lv_null hx hb dJx4a65c_clear_da8c8_34 ?_
  refine va_astqN hx hb hK hP hD (va_Sre hS) 1 0 rfl rfl (i := 0) (by unfold vp_in; decide) dJx4a65c_clear_da8c8_35 (fun H4 _ hP hD hS' => ?_)
  have hG : s.heap.size + 0 ≤ H4.size := Nat.le_trans hG hS'.1
  have hS := va_Str hS hS'
  have hP : va_P (dC, dI) xCl [(h0, ce203 h1), (h1, ce204 kc0 (z.2.2.1 128) (z.2.2.1 129) (z.2.2.1 130) (z.2.2.1 131))] H4 := hP
  have hD := vd_as hP hD rfl
  refine lv_iinc (v := 1) (lv' := [(3, .int 1), (2, .int 4), (1, .ref h1), (0, .ref h0)]) hx hb dJx4a65c_clear_da8c8_36 hl (k := 0) rfl (by decide) (by decide) rfl (fun ls hl => ?_)
  refine lv_goto (tgt := 27) hx hb dJx4a65c_clear_da8c8_39 (by decide) ?_
  refine lv_iload_n hx hb dJx4a65c_clear_da8c8_27 rfl (lv_at hl 0 rfl) ?_
  refine lv_iload_n hx hb dJx4a65c_clear_da8c8_28 rfl (lv_at hl 1 rfl) ?_
  refine lv_icmp_ge (tgt := 42) hx hb dJx4a65c_clear_da8c8_29 (by decide) (fun cz => absurd cz (by decide)) (fun _ => ?_)
  refine lv_aload_n hx hb dJx4a65c_clear_da8c8_32 rfl (lv_at hl 2 rfl) ?_
  refine lv_iload_n hx hb dJx4a65c_clear_da8c8_33 rfl (lv_at hl 0 rfl) ?_
  refine lv_null hx hb dJx4a65c_clear_da8c8_34 ?_
  refine va_astqN hx hb hK hP hD (va_Sre hS) 1 0 rfl rfl (i := 1) (by unfold vp_in; decide) dJx4a65c_clear_da8c8_35 (fun H5 _ hP hD hS' => ?_)
  have hG : s.heap.size + 0 ≤ H5.size := Nat.le_trans hG hS'.1
  have hS := va_Str hS hS'
  have hP : va_P (dC, dI) xCl [(h0, ce203 h1), (h1, ce205 kc0 (z.2.2.1 128) (z.2.2.1 129) (z.2.2.1 130) (z.2.2.1 131))] H5 := hP
  have hD := vd_as hP hD rfl
  refine lv_iinc (v := 2) (lv' := [(3, .int 2), (2, .int 4), (1, .ref h1), (0, .ref h0)]) hx hb dJx4a65c_clear_da8c8_36 hl (k := 0) rfl (by decide) (by decide) rfl (fun ls hl => ?_)
  refine lv_goto (tgt := 27) hx hb dJx4a65c_clear_da8c8_39 (by decide) ?_
  refine lv_iload_n hx hb dJx4a65c_clear_da8c8_27 rfl (lv_at hl 0 rfl) ?_
  refine lv_iload_n hx hb dJx4a65c_clear_da8c8_28 rfl (lv_at hl 1 rfl) ?_
  refine lv_icmp_ge (tgt := 42) hx hb dJx4a65c_clear_da8c8_29 (by decide) (fun cz => absurd cz (by decide)) (fun _ => ?_)
  refine lv_aload_n hx hb dJx4a65c_clear_da8c8_32 rfl (lv_at hl 2 rfl) ?_
  refine lv_iload_n hx hb dJx4a65c_clear_da8c8_33 rfl (lv_at hl 0 rfl) ?_
  refine lv_null hx hb dJx4a65c_clear_da8c8_34 ?_
  refine va_astqN hx hb hK hP hD (va_Sre hS) 1 0 rfl rfl (i := 2) (by unfold vp_in; decide) dJx4a65c_clear_da8c8_35 (fun H6 _ hP hD hS' => ?_)
  have hG : s.heap.size + 0 ≤ H6.size := Nat.le_trans hG hS'.1
  have hS := va_Str hS hS'
  have hP : va_P (dC, dI) xCl [(h0, ce203 h1), (h1, ce206 kc0 (z.2.2.1 128) (z.2.2.1 129) (z.2.2.1 130) (z.2.2.1 131))] H6 := hP
  have hD := vd_as hP hD rfl
  refine lv_iinc (v := 3) (lv' := [(3, .int 3), (2, .int 4), (1, .ref h1), (0, .ref h0)]) hx hb dJx4a65c_clear_da8c8_36 hl (k := 0) rfl (by decide) (by decide) rfl (fun ls hl => ?_)
  refine lv_goto (tgt := 27) hx hb dJx4a65c_clear_da8c8_39 (by decide) ?_
  refine lv_iload_n hx hb dJx4a65c_clear_da8c8_27 rfl (lv_at hl 0 rfl) ?_
  refine lv_iload_n hx hb dJx4a65c_clear_da8c8_28 rfl (lv_at hl 1 rfl) ?_
  refine lv_icmp_ge (tgt := 42) hx hb dJx4a65c_clear_da8c8_29 (by decide) (fun cz => absurd cz (by decide)) (fun _ => ?_)
  refine lv_aload_n hx hb dJx4a65c_clear_da8c8_32 rfl (lv_at hl 2 rfl) ?_
  refine lv_iload_n hx hb dJx4a65c_clear_da8c8_33 rfl (lv_at hl 0 rfl) ?_
  refine lv_null hx hb dJx4a65c_clear_da8c8_34 ?_
  refine va_astqN hx hb hK hP hD (va_Sre hS) 1 0 rfl rfl (i := 3) (by unfold vp_in; decide) dJx4a65c_clear_da8c8_35 (fun H7 _ hP hD hS' => ?_)
  have hG : s.heap.size + 0 ≤ H7.size := Nat.le_trans hG hS'.1
  have hS := va_Str hS hS'
  have hP : va_P (dC, dI) xCl [(h0, ce203 h1), (h1, ce207 kc0 (z.2.2.1 128) (z.2.2.1 129) (z.2.2.1 130) (z.2.2.1 131))] H7 := hP
  have hD := vd_as hP hD rfl
  refine lv_iinc (v := 4) (lv' := [(3, .int 4), (2, .int 4), (1, .ref h1), (0, .ref h0)]) hx hb dJx4a65c_clear_da8c8_36 hl (k := 0) rfl (by decide) (by decide) rfl (fun ls hl => ?_)
  refine lv_goto (tgt := 27) hx hb dJx4a65c_clear_da8c8_39 (by decide) ?_
  refine lv_iload_n hx hb dJx4a65c_clear_da8c8_27 rfl (lv_at hl 0 rfl) ?_
  refine lv_iload_n hx hb dJx4a65c_clear_da8c8_28 rfl (lv_at hl 1 rfl) ?_
  refine lv_icmp_ge (tgt := 42) hx hb dJx4a65c_clear_da8c8_29 (by decide) (fun _ => ?_) (fun cz => absurd (by decide) cz)
  have ehu8 : (va_up (va_up (va_up (va_up (va_up (va_up (va_up (va_up (fun _ => none) 0 (some (z.2.2.1 128))) 1 (some (z.2.2.1 129))) 2 (some (z.2.2.1 130))) 3 (some (z.2.2.1 131))) 0 none) 1 none) 2 none) 3 none) = (va_up (va_up (va_up (va_up (fun _ => none) 0 none) 1 none) 2 none) 3 none) := by funext j; by_cases g0 : j = 0; (subst g0; rfl); by_cases g1 : j = 1; (subst g1; rfl); by_cases g2 : j = 2; (subst g2; rfl); by_cases g3 : j = 3; (subst g3; rfl); simp only [va_up, g0, g1, g2, g3, if_false]
  have hu8 : (ce207 kc0 (z.2.2.1 128) (z.2.2.1 129) (z.2.2.1 130) (z.2.2.1 131) : va_E) = ce208 kc0 := (show (.inl (kc0, 10, .inr (.inr (.inr (.inr (va_up (va_up (va_up (va_up (va_up (va_up (va_up (va_up (fun _ => none) 0 (some (z.2.2.1 128))) 1 (some (z.2.2.1 129))) 2 (some (z.2.2.1 130))) 3 (some (z.2.2.1 131))) 0 none) 1 none) 2 none) 3 none))))) : va_E) = .inl (kc0, 10, .inr (.inr (.inr (.inr (va_up (va_up (va_up (va_up (fun _ => none) 0 none) 1 none) 2 none) 3 none))))) by rw [ehu8])
  rw [hu8] at hP hD
  have hP : va_P (dC, dI) xCl [(h0, ce203 h1), (h1, ce208 kc0)] H7 := hP
  have hD := vd_as hP hD rfl
  exact W.vret hx hb hr (fun t9 ht9 hW9 => ⟨⟨(), rfl, trivial, ⟨pq_mk2 hP hD hK [0, 1] [0] rfl rfl rfl ht9 hW9, by rw [ht9]; exact Nat.le_trans (Nat.add_le_add_left (Nat.le_of_ble_eq_true rfl) _) hG⟩⟩, hS.F ht9⟩) hS.2.2 dJx4a65c_clear_da8c8_42

set_option maxHeartbeats 4000000 in
set_option maxRecDepth 100000 in
theorem k427_add (l : Launch) (hl9 : l.stackTraces = false) (dC : Nat → ClassId) (dI : Nat → Nat → Nat) (z : XZ) (h0 h1 : Nat) (sz : Nat) (kc0 : ClassId) : Met l yJx4a65c_add_72be8 (.code yJx4a65c_add_72be8 cJx4a65c_add_72be8 4 none :: wsL_law) ({ frames := 0, cells := 0, slots := 0, locals := 0 }) (va_Pc [.ref h0, .ref (z.2.2.1 128), .ref h1, .int 0] (PC (dC, dI) [(h0, ce209 h1), (h1, ce208 kc0)] [(kc0, .object "java/lang/Object")] sz z)) (va_Qv (fun (_ : Unit) => True) (fun (_ : Unit) (t : State) => PG (dC, dI) [(h0, ce211 h1), (h1, ce212 kc0 (z.2.2.1 128))] [(kc0, .object "java/lang/Object")] (va_A [(h0, ce209 h1), (h1, ce208 kc0)] sz) sz 0 t) (va_A [(h0, ce209 h1), (h1, ce208 kc0)] sz)) 0 0 (va_A [(h0, ce209 h1), (h1, ce208 kc0)] sz) := by
  refine Met.ofW (cc := cJx4a65c_add_72be8) (maxL := 4) (ret := none) (by decide) rfl ?_
  intro p e s m args below meth c s₁ B hml hv
  obtain ⟨rfl, hsz, hP, hK, hD0, hX, hT⟩ := hv
  have hx := B.exec
  have hb := B.bytes
  have hr := B.returns
  have hts0 := atoms_spec (ws := .code yJx4a65c_add_72be8 cJx4a65c_add_72be8 4 none :: wsL_law) B.pre
  have hts := xTail hts0
  have hown : s.vm.findClass RJx4a65c = some m.cls := xown B.named rfl
  have hlocks := B.notSynchronized
  subst hsz
  have hD := hD0.self (sz := s.heap.size)
  generalize hAe : va_A [(h0, ce209 h1), (h1, ce208 kc0)] s.heap.size = A at hD hX ⊢
  have hA : ∀ q : Nat, s.heap.size ≤ q → A q := fun q h => by rw [← hAe]; exact Or.inr h
  have hS : va_S A s.heap s.heap [] := va_S.rf
  have hG : s.heap.size + 0 ≤ s.heap.size := Nat.le_refl _
  have hl := lv_entry ([.ref h0, .ref (z.2.2.1 128), .ref h1, .int 0]) (n := 4) (Nat.le_of_ble_eq_true rfl)
  rw [lg_entry_eq]
  generalize (lg_sl ([.ref h0, .ref (z.2.2.1 128), .ref h1, .int 0]) ++ List.replicate (4 - (lg_sl ([.ref h0, .ref (z.2.2.1 128), .ref h1, .int 0])).length) Slot.unset).toArray = ls at hl ⊢
  have hl : lv_has ls 4 [(0, .ref h0), (1, .ref (z.2.2.1 128)), (2, .ref h1), (3, .int 0)] := hl
  refine lv_iload_n hx hb dJx4a65c_add_72be8_0 rfl (lv_at hl 3 rfl) ?_
  refine lv_aload_n hx hb dJx4a65c_add_72be8_1 rfl (lv_at hl 2 rfl) ?_
  refine va_alen hx hb hK hP 1 0 rfl rfl (v := 10) rfl dJx4a65c_add_72be8_2 ?_
  refine lv_icmp_ne (tgt := 11) hx hb dJx4a65c_add_72be8_3 (by decide) (fun _ => ?_) (fun cz => absurd cz (by decide))
  refine lv_aload_n hx hb dJx4a65c_add_72be8_11 rfl (lv_at hl 2 rfl) ?_
  refine lv_iload_n hx hb dJx4a65c_add_72be8_12 rfl (lv_at hl 3 rfl) ?_
  refine lv_aload_n hx hb dJx4a65c_add_72be8_13 rfl (lv_at hl 1 rfl) ?_
  refine vb_astq (E := "java/lang/Object") (C := "java/lang/Integer") hx hb hK hP hD (va_Sre hS) 1 0 rfl rfl (va_Orecv (hX.2.2.1.1.1 128 (by decide)) hS) (vb_asgC (hT.2.1.1 ("java/lang/Integer", "java/lang/Object") (by decide))) (i := 0) (by unfold vp_in; decide) dJx4a65c_add_72be8_14 (fun H1 _ hP hD hS' => ?_)
  have hG : s.heap.size + 0 ≤ H1.size := Nat.le_trans hG hS'.1
  have hS := va_Str hS hS'
  have hP : va_P (dC, dI) xCl [(h0, ce209 h1), (h1, ce210 kc0 (z.2.2.1 128))] H1 := hP
  have hD := vd_as hP hD rfl
  refine lv_aload_n hx hb dJx4a65c_add_72be8_15 rfl (lv_at hl 0 rfl) ?_
  refine lv_iload_n hx hb dJx4a65c_add_72be8_16 rfl (lv_at hl 3 rfl) ?_
  refine lv_iconst (v := 1) hx hb dJx4a65c_add_72be8_17 (by decide) ?_
  refine lv_iadd hx hb dJx4a65c_add_72be8_18 ?_
  refine lv_topi (fun y2 ey2 => ?_)
  obtain rfl : y2 = 1 := ey2.trans (by decide)
  refine va_put (D := (dC, dI)) (ci := 0) (v := .int 1) (ty := .int) (C := RJx4a65c) (T := TJx4a65c) (N := 3) hx hb hts in_Jx4a65c tyJx4a65c tyJx4a65c_ok nmJx4a65c hown hK hP hD (va_Sre hS) 0 rfl rfl 2 (by decide) (hts _ q_74) (fun _ h9 => h9) rfl (by decide +kernel) rfl rfl (Nat.le_of_ble_eq_true rfl) dJx4a65c_add_72be8_19 (fun H3 _ hP hD hS' => ?_)
  have hG : s.heap.size + 0 ≤ H3.size := Nat.le_trans hG hS'.1
  have hS := va_Str hS hS'
  have hP : va_P (dC, dI) xCl [(h0, ce211 h1), (h1, ce210 kc0 (z.2.2.1 128))] H3 := hP
  have hD := vd_as hP hD rfl
  have ehu4 : (va_up (va_up (va_up (va_up (va_up (fun _ => none) 0 none) 1 none) 2 none) 3 none) 0 (some (z.2.2.1 128))) = (va_up (va_up (va_up (va_up (fun _ => none) 0 (some (z.2.2.1 128))) 1 none) 2 none) 3 none) := by funext j; by_cases g0 : j = 0; (subst g0; rfl); by_cases g1 : j = 1; (subst g1; rfl); by_cases g2 : j = 2; (subst g2; rfl); by_cases g3 : j = 3; (subst g3; rfl); simp only [va_up, g0, g1, g2, g3, if_false]
  have hu4 : (ce210 kc0 (z.2.2.1 128) : va_E) = ce212 kc0 (z.2.2.1 128) := (show (.inl (kc0, 10, .inr (.inr (.inr (.inr (va_up (va_up (va_up (va_up (va_up (fun _ => none) 0 none) 1 none) 2 none) 3 none) 0 (some (z.2.2.1 128))))))) : va_E) = .inl (kc0, 10, .inr (.inr (.inr (.inr (va_up (va_up (va_up (va_up (fun _ => none) 0 (some (z.2.2.1 128))) 1 none) 2 none) 3 none))))) by rw [ehu4])
  rw [hu4] at hP hD
  have hP : va_P (dC, dI) xCl [(h0, ce211 h1), (h1, ce212 kc0 (z.2.2.1 128))] H3 := hP
  have hD := vd_as hP hD rfl
  exact W.vret hx hb hr (fun t9 ht9 hW9 => ⟨⟨(), rfl, trivial, ⟨pq_mk2 hP hD hK [0, 1] [0] rfl rfl rfl ht9 hW9, by rw [ht9]; exact Nat.le_trans (Nat.add_le_add_left (Nat.le_of_ble_eq_true rfl) _) hG⟩⟩, hS.F ht9⟩) hS.2.2 dJx4a65c_add_72be8_22

set_option maxHeartbeats 4000000 in
set_option maxRecDepth 100000 in
theorem k428_add (l : Launch) (hl9 : l.stackTraces = false) (dC : Nat → ClassId) (dI : Nat → Nat → Nat) (z : XZ) (h0 h1 : Nat) (sz : Nat) (kc0 : ClassId) : Met l yJx4a65c_add_9ea2d (.code yJx4a65c_add_9ea2d cJx4a65c_add_9ea2d 2 (some .boolean) :: wsL_law) ({ frames := 1, cells := 0, slots := 0, locals := 23 }) (va_Pc [.ref h0, .ref (z.2.2.1 128)] (PC (dC, dI) [(h0, ce203 h1), (h1, ce208 kc0)] [(kc0, .object "java/lang/Object")] sz z)) (va_Qi (fun (r : Int32) (_ : Unit) => r = 1) (fun (_ : Unit) (t : State) => PG (dC, dI) [(h0, ce211 h1), (h1, ce212 kc0 (z.2.2.1 128))] [(kc0, .object "java/lang/Object")] (va_A [(h0, ce203 h1), (h1, ce208 kc0)] sz) sz 0 t) (va_A [(h0, ce203 h1), (h1, ce208 kc0)] sz)) 0 0 (va_A [(h0, ce203 h1), (h1, ce208 kc0)] sz) := by
  refine Met.ofW (cc := cJx4a65c_add_9ea2d) (maxL := 2) (ret := (some .boolean)) (by decide) rfl ?_
  intro p e s m args below meth c s₁ B hml hv
  obtain ⟨rfl, hsz, hP, hK, hD0, hX, hT⟩ := hv
  have hx := B.exec
  have hb := B.bytes
  have hr := B.returns
  have hts0 := atoms_spec (ws := .code yJx4a65c_add_9ea2d cJx4a65c_add_9ea2d 2 (some .boolean) :: wsL_law) B.pre
  have hts := xTail hts0
  have hown : s.vm.findClass RJx4a65c = some m.cls := xown B.named rfl
  have hlocks := B.notSynchronized
  subst hsz
  have hD := hD0.self (sz := s.heap.size)
  generalize hAe : va_A [(h0, ce203 h1), (h1, ce208 kc0)] s.heap.size = A at hD hX ⊢
  have hA : ∀ q : Nat, s.heap.size ≤ q → A q := fun q h => by rw [← hAe]; exact Or.inr h
  have hS : va_S A s.heap s.heap [] := va_S.rf
  have hG : s.heap.size + 0 ≤ s.heap.size := Nat.le_refl _
  have hl := lv_entry ([.ref h0, .ref (z.2.2.1 128)]) (n := 2) (Nat.le_of_ble_eq_true rfl)
  rw [lg_entry_eq]
  generalize (lg_sl ([.ref h0, .ref (z.2.2.1 128)]) ++ List.replicate (2 - (lg_sl ([.ref h0, .ref (z.2.2.1 128)])).length) Slot.unset).toArray = ls at hl ⊢
  have hl : lv_has ls 2 [(0, .ref h0), (1, .ref (z.2.2.1 128))] := hl
  refine lv_aload_n hx hb dJx4a65c_add_9ea2d_0 rfl (lv_at hl 0 rfl) ?_
  refine lv_dup hx hb dJx4a65c_add_9ea2d_1 rfl ?_
  refine va_get (D := (dC, dI)) (ci := 0) (v := .int 15) (C := RJx4a65c) (T := TJx4a65c) (N := 3) hx hb hts in_Jx4a65c hown hK hP 0 rfl rfl 0 (by decide) (hts _ q_108) (u_same (hts _ q_107)) rfl dJx4a65c_add_9ea2d_2 ?_
  refine lv_iconst (v := 1) hx hb dJx4a65c_add_9ea2d_5 (by decide) ?_
  refine lv_iadd hx hb dJx4a65c_add_9ea2d_6 ?_
  refine lv_topi (fun y1 ey1 => ?_)
  obtain rfl : y1 = 16 := ey1.trans (by decide)
  refine va_put (D := (dC, dI)) (ci := 0) (v := .int 16) (ty := .int) (C := RJx4a65c) (T := TJx4a65c) (N := 3) hx hb hts in_Jx4a65c tyJx4a65c tyJx4a65c_ok nmJx4a65c hown hK hP hD (va_Sre hS) 0 rfl rfl 0 (by decide) (hts _ q_108) (u_same (hts _ q_107)) rfl (by decide +kernel) rfl rfl (Nat.le_of_ble_eq_true rfl) dJx4a65c_add_9ea2d_7 (fun H2 _ hP hD hS' => ?_)
  have hG : s.heap.size + 0 ≤ H2.size := Nat.le_trans hG hS'.1
  have hS := va_Str hS hS'
  have hP : va_P (dC, dI) xCl [(h0, ce209 h1), (h1, ce208 kc0)] H2 := hP
  have hD := vd_as hP hD rfl
  refine lv_aload_n hx hb dJx4a65c_add_9ea2d_10 rfl (lv_at hl 0 rfl) ?_
  refine lv_aload_n hx hb dJx4a65c_add_9ea2d_11 rfl (lv_at hl 1 rfl) ?_
  refine lv_aload_n hx hb dJx4a65c_add_9ea2d_12 rfl (lv_at hl 0 rfl) ?_
  refine va_get (D := (dC, dI)) (ci := 0) (v := .ref h1) (C := RJx4a65c) (T := TJx4a65c) (N := 3) hx hb hts in_Jx4a65c hown hK hP 0 rfl rfl 1 (by decide) (hts _ q_24) (fun _ h9 => h9) rfl dJx4a65c_add_9ea2d_13 ?_
  refine lv_aload_n hx hb dJx4a65c_add_9ea2d_16 rfl (lv_at hl 0 rfl) ?_
  refine va_get (D := (dC, dI)) (ci := 0) (v := .int 0) (C := RJx4a65c) (T := TJx4a65c) (N := 3) hx hb hts in_Jx4a65c hown hK hP 0 rfl rfl 2 (by decide) (hts _ q_74) (fun _ h9 => h9) rfl dJx4a65c_add_9ea2d_17 ?_
  have hM5 := k427_add l hl9 dC dI z h0 h1 H2.size kc0
  obtain ⟨hF3, hC6⟩ := pc_M hM5 hP hD hK hS hX hT hA [0, 1] [0] rfl rfl rfl
  refine va_callv (va_runV (As := [.ref (z.2.2.1 128), .ref h1, .int 0]) (rest := []) ⟨hx, hb, hml, hown, hts⟩ hM5 (cwV 3 hts (gV q_123 q_124 q_125 q_12 q_122) rfl rfl rfl hV_Jx4a65c_add_72be8 ⟨Nat.le_of_ble_eq_true rfl, Nat.le_of_ble_eq_true rfl⟩) ⟨pc_blind, va_recv hK hP (ci := 0) (q := (RJx4a65c, TJx4a65c, 3)) (q0 := 0) rfl rfl, fun U hU hW => ⟨rfl, hC6 U hU hW⟩⟩ rfl rfl hl.1 rfl (lv_room (Nat.le_of_ble_eq_true rfl)) dJx4a65c_add_9ea2d_20 ⟨(Nat.le_of_ble_eq_true rfl), (Nat.le_of_ble_eq_true rfl)⟩) hS (fun q9 _ h9 => hF3 q9 h9) hF3 (fun u7 t7 H7 L7 ht7 hvm7 hw7 hB7 hz7 hk7 hS => ?_)
  obtain ⟨hP, hD, hK⟩ := pq_jn (wz := [(h0, ce211 h1), (h1, ce212 kc0 (z.2.2.1 128))]) (tz := [(kc0, .object "java/lang/Object")]) hP hD hK [0, 1] [] rfl hk7 hF3 hB7.1 ht7 hvm7 rfl rfl
  have hG : s.heap.size + 0 ≤ H7.size := Nat.le_trans hG hz7
  refine lv_iconst (v := 1) hx hb dJx4a65c_add_9ea2d_23 (by decide) ?_
  exact W.zret (v := 1) (ty := .boolean) hx hb hr rfl (fun t9 ht9 hW9 => ⟨⟨1, (), rfl, rfl, ⟨pq_mk2 hP hD hK [0, 1] [0] rfl rfl rfl ht9 hW9, by rw [ht9]; exact Nat.le_trans (Nat.add_le_add_left (Nat.le_of_ble_eq_true rfl) _) hG⟩⟩, hS.F ht9⟩) hS.2.2 dJx4a65c_add_9ea2d_24

set_option maxHeartbeats 4000000 in
set_option maxRecDepth 100000 in
theorem k429_add (l : Launch) (hl9 : l.stackTraces = false) (dC : Nat → ClassId) (dI : Nat → Nat → Nat) (z : XZ) (h0 h1 : Nat) (sz : Nat) (kc0 : ClassId) : Met l yJx4a65c_add_72be8 (.code yJx4a65c_add_72be8 cJx4a65c_add_72be8 4 none :: wsL_law) ({ frames := 0, cells := 0, slots := 0, locals := 0 }) (va_Pc [.ref h0, .ref (z.2.2.1 129), .ref h1, .int 1] (PC (dC, dI) [(h0, ce213 h1), (h1, ce212 kc0 (z.2.2.1 128))] [(kc0, .object "java/lang/Object")] sz z)) (va_Qv (fun (_ : Unit) => True) (fun (_ : Unit) (t : State) => PG (dC, dI) [(h0, ce215 h1), (h1, ce216 kc0 (z.2.2.1 128) (z.2.2.1 129))] [(kc0, .object "java/lang/Object")] (va_A [(h0, ce213 h1), (h1, ce212 kc0 (z.2.2.1 128))] sz) sz 0 t) (va_A [(h0, ce213 h1), (h1, ce212 kc0 (z.2.2.1 128))] sz)) 0 0 (va_A [(h0, ce213 h1), (h1, ce212 kc0 (z.2.2.1 128))] sz) := by
  refine Met.ofW (cc := cJx4a65c_add_72be8) (maxL := 4) (ret := none) (by decide) rfl ?_
  intro p e s m args below meth c s₁ B hml hv
  obtain ⟨rfl, hsz, hP, hK, hD0, hX, hT⟩ := hv
  have hx := B.exec
  have hb := B.bytes
  have hr := B.returns
  have hts0 := atoms_spec (ws := .code yJx4a65c_add_72be8 cJx4a65c_add_72be8 4 none :: wsL_law) B.pre
  have hts := xTail hts0
  have hown : s.vm.findClass RJx4a65c = some m.cls := xown B.named rfl
  have hlocks := B.notSynchronized
  subst hsz
  have hD := hD0.self (sz := s.heap.size)
  generalize hAe : va_A [(h0, ce213 h1), (h1, ce212 kc0 (z.2.2.1 128))] s.heap.size = A at hD hX ⊢
  have hA : ∀ q : Nat, s.heap.size ≤ q → A q := fun q h => by rw [← hAe]; exact Or.inr h
  have hS : va_S A s.heap s.heap [] := va_S.rf
  have hG : s.heap.size + 0 ≤ s.heap.size := Nat.le_refl _
  have hl := lv_entry ([.ref h0, .ref (z.2.2.1 129), .ref h1, .int 1]) (n := 4) (Nat.le_of_ble_eq_true rfl)
  rw [lg_entry_eq]
  generalize (lg_sl ([.ref h0, .ref (z.2.2.1 129), .ref h1, .int 1]) ++ List.replicate (4 - (lg_sl ([.ref h0, .ref (z.2.2.1 129), .ref h1, .int 1])).length) Slot.unset).toArray = ls at hl ⊢
  have hl : lv_has ls 4 [(0, .ref h0), (1, .ref (z.2.2.1 129)), (2, .ref h1), (3, .int 1)] := hl
  refine lv_iload_n hx hb dJx4a65c_add_72be8_0 rfl (lv_at hl 3 rfl) ?_
  refine lv_aload_n hx hb dJx4a65c_add_72be8_1 rfl (lv_at hl 2 rfl) ?_
  refine va_alen hx hb hK hP 1 0 rfl rfl (v := 10) rfl dJx4a65c_add_72be8_2 ?_
  refine lv_icmp_ne (tgt := 11) hx hb dJx4a65c_add_72be8_3 (by decide) (fun _ => ?_) (fun cz => absurd cz (by decide))
  refine lv_aload_n hx hb dJx4a65c_add_72be8_11 rfl (lv_at hl 2 rfl) ?_
  refine lv_iload_n hx hb dJx4a65c_add_72be8_12 rfl (lv_at hl 3 rfl) ?_
  refine lv_aload_n hx hb dJx4a65c_add_72be8_13 rfl (lv_at hl 1 rfl) ?_
  refine vb_astq (E := "java/lang/Object") (C := "java/lang/Integer") hx hb hK hP hD (va_Sre hS) 1 0 rfl rfl (va_Orecv (hX.2.2.1.1.1 129 (by decide)) hS) (vb_asgC (hT.2.1.1 ("java/lang/Integer", "java/lang/Object") (by decide))) (i := 1) (by unfold vp_in; decide) dJx4a65c_add_72be8_14 (fun H1 _ hP hD hS' => ?_)
  have hG : s.heap.size + 0 ≤ H1.size := Nat.le_trans hG hS'.1
  have hS := va_Str hS hS'
  have hP : va_P (dC, dI) xCl [(h0, ce213 h1), (h1, ce214 kc0 (z.2.2.1 128) (z.2.2.1 129))] H1 := hP
  have hD := vd_as hP hD rfl
  refine lv_aload_n hx hb dJx4a65c_add_72be8_15 rfl (lv_at hl 0 rfl) ?_
  refine lv_iload_n hx hb dJx4a65c_add_72be8_16 rfl (lv_at hl 3 rfl) ?_
  refine lv_iconst (v := 1) hx hb dJx4a65c_add_72be8_17 (by decide) ?_
  refine lv_iadd hx hb dJx4a65c_add_72be8_18 ?_
  refine lv_topi (fun y2 ey2 => ?_)
  obtain rfl : y2 = 2 := ey2.trans (by decide)
  refine va_put (D := (dC, dI)) (ci := 0) (v := .int 2) (ty := .int) (C := RJx4a65c) (T := TJx4a65c) (N := 3) hx hb hts in_Jx4a65c tyJx4a65c tyJx4a65c_ok nmJx4a65c hown hK hP hD (va_Sre hS) 0 rfl rfl 2 (by decide) (hts _ q_74) (fun _ h9 => h9) rfl (by decide +kernel) rfl rfl (Nat.le_of_ble_eq_true rfl) dJx4a65c_add_72be8_19 (fun H3 _ hP hD hS' => ?_)
  have hG : s.heap.size + 0 ≤ H3.size := Nat.le_trans hG hS'.1
  have hS := va_Str hS hS'
  have hP : va_P (dC, dI) xCl [(h0, ce215 h1), (h1, ce214 kc0 (z.2.2.1 128) (z.2.2.1 129))] H3 := hP
  have hD := vd_as hP hD rfl
  have ehu4 : (va_up (va_up (va_up (va_up (va_up (fun _ => none) 0 (some (z.2.2.1 128))) 1 none) 2 none) 3 none) 1 (some (z.2.2.1 129))) = (va_up (va_up (va_up (va_up (fun _ => none) 0 (some (z.2.2.1 128))) 1 (some (z.2.2.1 129))) 2 none) 3 none) := by funext j; by_cases g0 : j = 0; (subst g0; rfl); by_cases g1 : j = 1; (subst g1; rfl); by_cases g2 : j = 2; (subst g2; rfl); by_cases g3 : j = 3; (subst g3; rfl); simp only [va_up, g0, g1, g2, g3, if_false]
  have hu4 : (ce214 kc0 (z.2.2.1 128) (z.2.2.1 129) : va_E) = ce216 kc0 (z.2.2.1 128) (z.2.2.1 129) := (show (.inl (kc0, 10, .inr (.inr (.inr (.inr (va_up (va_up (va_up (va_up (va_up (fun _ => none) 0 (some (z.2.2.1 128))) 1 none) 2 none) 3 none) 1 (some (z.2.2.1 129))))))) : va_E) = .inl (kc0, 10, .inr (.inr (.inr (.inr (va_up (va_up (va_up (va_up (fun _ => none) 0 (some (z.2.2.1 128))) 1 (some (z.2.2.1 129))) 2 none) 3 none))))) by rw [ehu4])
  rw [hu4] at hP hD
  have hP : va_P (dC, dI) xCl [(h0, ce215 h1), (h1, ce216 kc0 (z.2.2.1 128) (z.2.2.1 129))] H3 := hP
  have hD := vd_as hP hD rfl
  exact W.vret hx hb hr (fun t9 ht9 hW9 => ⟨⟨(), rfl, trivial, ⟨pq_mk2 hP hD hK [0, 1] [0] rfl rfl rfl ht9 hW9, by rw [ht9]; exact Nat.le_trans (Nat.add_le_add_left (Nat.le_of_ble_eq_true rfl) _) hG⟩⟩, hS.F ht9⟩) hS.2.2 dJx4a65c_add_72be8_22

set_option maxHeartbeats 4000000 in
set_option maxRecDepth 100000 in
theorem k430_add (l : Launch) (hl9 : l.stackTraces = false) (dC : Nat → ClassId) (dI : Nat → Nat → Nat) (z : XZ) (h0 h1 : Nat) (sz : Nat) (kc0 : ClassId) : Met l yJx4a65c_add_9ea2d (.code yJx4a65c_add_9ea2d cJx4a65c_add_9ea2d 2 (some .boolean) :: wsL_law) ({ frames := 1, cells := 0, slots := 0, locals := 23 }) (va_Pc [.ref h0, .ref (z.2.2.1 129)] (PC (dC, dI) [(h0, ce211 h1), (h1, ce212 kc0 (z.2.2.1 128))] [(kc0, .object "java/lang/Object")] sz z)) (va_Qi (fun (r : Int32) (_ : Unit) => r = 1) (fun (_ : Unit) (t : State) => PG (dC, dI) [(h0, ce215 h1), (h1, ce216 kc0 (z.2.2.1 128) (z.2.2.1 129))] [(kc0, .object "java/lang/Object")] (va_A [(h0, ce211 h1), (h1, ce212 kc0 (z.2.2.1 128))] sz) sz 0 t) (va_A [(h0, ce211 h1), (h1, ce212 kc0 (z.2.2.1 128))] sz)) 0 0 (va_A [(h0, ce211 h1), (h1, ce212 kc0 (z.2.2.1 128))] sz) := by
  refine Met.ofW (cc := cJx4a65c_add_9ea2d) (maxL := 2) (ret := (some .boolean)) (by decide) rfl ?_
  intro p e s m args below meth c s₁ B hml hv
  obtain ⟨rfl, hsz, hP, hK, hD0, hX, hT⟩ := hv
  have hx := B.exec
  have hb := B.bytes
  have hr := B.returns
  have hts0 := atoms_spec (ws := .code yJx4a65c_add_9ea2d cJx4a65c_add_9ea2d 2 (some .boolean) :: wsL_law) B.pre
  have hts := xTail hts0
  have hown : s.vm.findClass RJx4a65c = some m.cls := xown B.named rfl
  have hlocks := B.notSynchronized
  subst hsz
  have hD := hD0.self (sz := s.heap.size)
  generalize hAe : va_A [(h0, ce211 h1), (h1, ce212 kc0 (z.2.2.1 128))] s.heap.size = A at hD hX ⊢
  have hA : ∀ q : Nat, s.heap.size ≤ q → A q := fun q h => by rw [← hAe]; exact Or.inr h
  have hS : va_S A s.heap s.heap [] := va_S.rf
  have hG : s.heap.size + 0 ≤ s.heap.size := Nat.le_refl _
  have hl := lv_entry ([.ref h0, .ref (z.2.2.1 129)]) (n := 2) (Nat.le_of_ble_eq_true rfl)
  rw [lg_entry_eq]
  generalize (lg_sl ([.ref h0, .ref (z.2.2.1 129)]) ++ List.replicate (2 - (lg_sl ([.ref h0, .ref (z.2.2.1 129)])).length) Slot.unset).toArray = ls at hl ⊢
  have hl : lv_has ls 2 [(0, .ref h0), (1, .ref (z.2.2.1 129))] := hl
  refine lv_aload_n hx hb dJx4a65c_add_9ea2d_0 rfl (lv_at hl 0 rfl) ?_
  refine lv_dup hx hb dJx4a65c_add_9ea2d_1 rfl ?_
  refine va_get (D := (dC, dI)) (ci := 0) (v := .int 16) (C := RJx4a65c) (T := TJx4a65c) (N := 3) hx hb hts in_Jx4a65c hown hK hP 0 rfl rfl 0 (by decide) (hts _ q_108) (u_same (hts _ q_107)) rfl dJx4a65c_add_9ea2d_2 ?_
  refine lv_iconst (v := 1) hx hb dJx4a65c_add_9ea2d_5 (by decide) ?_
  refine lv_iadd hx hb dJx4a65c_add_9ea2d_6 ?_
  refine lv_topi (fun y1 ey1 => ?_)
  obtain rfl : y1 = 17 := ey1.trans (by decide)
  refine va_put (D := (dC, dI)) (ci := 0) (v := .int 17) (ty := .int) (C := RJx4a65c) (T := TJx4a65c) (N := 3) hx hb hts in_Jx4a65c tyJx4a65c tyJx4a65c_ok nmJx4a65c hown hK hP hD (va_Sre hS) 0 rfl rfl 0 (by decide) (hts _ q_108) (u_same (hts _ q_107)) rfl (by decide +kernel) rfl rfl (Nat.le_of_ble_eq_true rfl) dJx4a65c_add_9ea2d_7 (fun H2 _ hP hD hS' => ?_)
  have hG : s.heap.size + 0 ≤ H2.size := Nat.le_trans hG hS'.1
  have hS := va_Str hS hS'
  have hP : va_P (dC, dI) xCl [(h0, ce213 h1), (h1, ce212 kc0 (z.2.2.1 128))] H2 := hP
  have hD := vd_as hP hD rfl
  refine lv_aload_n hx hb dJx4a65c_add_9ea2d_10 rfl (lv_at hl 0 rfl) ?_
  refine lv_aload_n hx hb dJx4a65c_add_9ea2d_11 rfl (lv_at hl 1 rfl) ?_
  refine lv_aload_n hx hb dJx4a65c_add_9ea2d_12 rfl (lv_at hl 0 rfl) ?_
  refine va_get (D := (dC, dI)) (ci := 0) (v := .ref h1) (C := RJx4a65c) (T := TJx4a65c) (N := 3) hx hb hts in_Jx4a65c hown hK hP 0 rfl rfl 1 (by decide) (hts _ q_24) (fun _ h9 => h9) rfl dJx4a65c_add_9ea2d_13 ?_
  refine lv_aload_n hx hb dJx4a65c_add_9ea2d_16 rfl (lv_at hl 0 rfl) ?_
  refine va_get (D := (dC, dI)) (ci := 0) (v := .int 1) (C := RJx4a65c) (T := TJx4a65c) (N := 3) hx hb hts in_Jx4a65c hown hK hP 0 rfl rfl 2 (by decide) (hts _ q_74) (fun _ h9 => h9) rfl dJx4a65c_add_9ea2d_17 ?_
  have hM5 := k429_add l hl9 dC dI z h0 h1 H2.size kc0
  obtain ⟨hF3, hC6⟩ := pc_M hM5 hP hD hK hS hX hT hA [0, 1] [0] rfl rfl rfl
  refine va_callv (va_runV (As := [.ref (z.2.2.1 129), .ref h1, .int 1]) (rest := []) ⟨hx, hb, hml, hown, hts⟩ hM5 (cwV 3 hts (gV q_123 q_124 q_125 q_12 q_122) rfl rfl rfl hV_Jx4a65c_add_72be8 ⟨Nat.le_of_ble_eq_true rfl, Nat.le_of_ble_eq_true rfl⟩) ⟨pc_blind, va_recv hK hP (ci := 0) (q := (RJx4a65c, TJx4a65c, 3)) (q0 := 0) rfl rfl, fun U hU hW => ⟨rfl, hC6 U hU hW⟩⟩ rfl rfl hl.1 rfl (lv_room (Nat.le_of_ble_eq_true rfl)) dJx4a65c_add_9ea2d_20 ⟨(Nat.le_of_ble_eq_true rfl), (Nat.le_of_ble_eq_true rfl)⟩) hS (fun q9 _ h9 => hF3 q9 h9) hF3 (fun u7 t7 H7 L7 ht7 hvm7 hw7 hB7 hz7 hk7 hS => ?_)
  obtain ⟨hP, hD, hK⟩ := pq_jn (wz := [(h0, ce215 h1), (h1, ce216 kc0 (z.2.2.1 128) (z.2.2.1 129))]) (tz := [(kc0, .object "java/lang/Object")]) hP hD hK [0, 1] [] rfl hk7 hF3 hB7.1 ht7 hvm7 rfl rfl
  have hG : s.heap.size + 0 ≤ H7.size := Nat.le_trans hG hz7
  refine lv_iconst (v := 1) hx hb dJx4a65c_add_9ea2d_23 (by decide) ?_
  exact W.zret (v := 1) (ty := .boolean) hx hb hr rfl (fun t9 ht9 hW9 => ⟨⟨1, (), rfl, rfl, ⟨pq_mk2 hP hD hK [0, 1] [0] rfl rfl rfl ht9 hW9, by rw [ht9]; exact Nat.le_trans (Nat.add_le_add_left (Nat.le_of_ble_eq_true rfl) _) hG⟩⟩, hS.F ht9⟩) hS.2.2 dJx4a65c_add_9ea2d_24

set_option maxHeartbeats 4000000 in
set_option maxRecDepth 100000 in
theorem k431_add (l : Launch) (hl9 : l.stackTraces = false) (dC : Nat → ClassId) (dI : Nat → Nat → Nat) (z : XZ) (h0 h1 : Nat) (sz : Nat) (kc0 : ClassId) : Met l yJx4a65c_add_72be8 (.code yJx4a65c_add_72be8 cJx4a65c_add_72be8 4 none :: wsL_law) ({ frames := 0, cells := 0, slots := 0, locals := 0 }) (va_Pc [.ref h0, .ref (z.2.2.1 130), .ref h1, .int 2] (PC (dC, dI) [(h0, ce217 h1), (h1, ce216 kc0 (z.2.2.1 128) (z.2.2.1 129))] [(kc0, .object "java/lang/Object")] sz z)) (va_Qv (fun (_ : Unit) => True) (fun (_ : Unit) (t : State) => PG (dC, dI) [(h0, ce219 h1), (h1, ce220 kc0 (z.2.2.1 128) (z.2.2.1 129) (z.2.2.1 130))] [(kc0, .object "java/lang/Object")] (va_A [(h0, ce217 h1), (h1, ce216 kc0 (z.2.2.1 128) (z.2.2.1 129))] sz) sz 0 t) (va_A [(h0, ce217 h1), (h1, ce216 kc0 (z.2.2.1 128) (z.2.2.1 129))] sz)) 0 0 (va_A [(h0, ce217 h1), (h1, ce216 kc0 (z.2.2.1 128) (z.2.2.1 129))] sz) := by
  refine Met.ofW (cc := cJx4a65c_add_72be8) (maxL := 4) (ret := none) (by decide) rfl ?_
  intro p e s m args below meth c s₁ B hml hv
  obtain ⟨rfl, hsz, hP, hK, hD0, hX, hT⟩ := hv
  have hx := B.exec
  have hb := B.bytes
  have hr := B.returns
  have hts0 := atoms_spec (ws := .code yJx4a65c_add_72be8 cJx4a65c_add_72be8 4 none :: wsL_law) B.pre
  have hts := xTail hts0
  have hown : s.vm.findClass RJx4a65c = some m.cls := xown B.named rfl
  have hlocks := B.notSynchronized
  subst hsz
  have hD := hD0.self (sz := s.heap.size)
  generalize hAe : va_A [(h0, ce217 h1), (h1, ce216 kc0 (z.2.2.1 128) (z.2.2.1 129))] s.heap.size = A at hD hX ⊢
  have hA : ∀ q : Nat, s.heap.size ≤ q → A q := fun q h => by rw [← hAe]; exact Or.inr h
  have hS : va_S A s.heap s.heap [] := va_S.rf
  have hG : s.heap.size + 0 ≤ s.heap.size := Nat.le_refl _
  have hl := lv_entry ([.ref h0, .ref (z.2.2.1 130), .ref h1, .int 2]) (n := 4) (Nat.le_of_ble_eq_true rfl)
  rw [lg_entry_eq]
  generalize (lg_sl ([.ref h0, .ref (z.2.2.1 130), .ref h1, .int 2]) ++ List.replicate (4 - (lg_sl ([.ref h0, .ref (z.2.2.1 130), .ref h1, .int 2])).length) Slot.unset).toArray = ls at hl ⊢
  have hl : lv_has ls 4 [(0, .ref h0), (1, .ref (z.2.2.1 130)), (2, .ref h1), (3, .int 2)] := hl
  refine lv_iload_n hx hb dJx4a65c_add_72be8_0 rfl (lv_at hl 3 rfl) ?_
  refine lv_aload_n hx hb dJx4a65c_add_72be8_1 rfl (lv_at hl 2 rfl) ?_
  refine va_alen hx hb hK hP 1 0 rfl rfl (v := 10) rfl dJx4a65c_add_72be8_2 ?_
  refine lv_icmp_ne (tgt := 11) hx hb dJx4a65c_add_72be8_3 (by decide) (fun _ => ?_) (fun cz => absurd cz (by decide))
  refine lv_aload_n hx hb dJx4a65c_add_72be8_11 rfl (lv_at hl 2 rfl) ?_
  refine lv_iload_n hx hb dJx4a65c_add_72be8_12 rfl (lv_at hl 3 rfl) ?_
  refine lv_aload_n hx hb dJx4a65c_add_72be8_13 rfl (lv_at hl 1 rfl) ?_
  refine vb_astq (E := "java/lang/Object") (C := "java/lang/Integer") hx hb hK hP hD (va_Sre hS) 1 0 rfl rfl (va_Orecv (hX.2.2.1.1.1 130 (by decide)) hS) (vb_asgC (hT.2.1.1 ("java/lang/Integer", "java/lang/Object") (by decide))) (i := 2) (by unfold vp_in; decide) dJx4a65c_add_72be8_14 (fun H1 _ hP hD hS' => ?_)
  have hG : s.heap.size + 0 ≤ H1.size := Nat.le_trans hG hS'.1
  have hS := va_Str hS hS'
  have hP : va_P (dC, dI) xCl [(h0, ce217 h1), (h1, ce218 kc0 (z.2.2.1 128) (z.2.2.1 129) (z.2.2.1 130))] H1 := hP
  have hD := vd_as hP hD rfl
  refine lv_aload_n hx hb dJx4a65c_add_72be8_15 rfl (lv_at hl 0 rfl) ?_
  refine lv_iload_n hx hb dJx4a65c_add_72be8_16 rfl (lv_at hl 3 rfl) ?_
  refine lv_iconst (v := 1) hx hb dJx4a65c_add_72be8_17 (by decide) ?_
  refine lv_iadd hx hb dJx4a65c_add_72be8_18 ?_
  refine lv_topi (fun y2 ey2 => ?_)
  obtain rfl : y2 = 3 := ey2.trans (by decide)
  refine va_put (D := (dC, dI)) (ci := 0) (v := .int 3) (ty := .int) (C := RJx4a65c) (T := TJx4a65c) (N := 3) hx hb hts in_Jx4a65c tyJx4a65c tyJx4a65c_ok nmJx4a65c hown hK hP hD (va_Sre hS) 0 rfl rfl 2 (by decide) (hts _ q_74) (fun _ h9 => h9) rfl (by decide +kernel) rfl rfl (Nat.le_of_ble_eq_true rfl) dJx4a65c_add_72be8_19 (fun H3 _ hP hD hS' => ?_)
  have hG : s.heap.size + 0 ≤ H3.size := Nat.le_trans hG hS'.1
  have hS := va_Str hS hS'
  have hP : va_P (dC, dI) xCl [(h0, ce219 h1), (h1, ce218 kc0 (z.2.2.1 128) (z.2.2.1 129) (z.2.2.1 130))] H3 := hP
  have hD := vd_as hP hD rfl
  have ehu4 : (va_up (va_up (va_up (va_up (va_up (fun _ => none) 0 (some (z.2.2.1 128))) 1 (some (z.2.2.1 129))) 2 none) 3 none) 2 (some (z.2.2.1 130))) = (va_up (va_up (va_up (va_up (fun _ => none) 0 (some (z.2.2.1 128))) 1 (some (z.2.2.1 129))) 2 (some (z.2.2.1 130))) 3 none) := by funext j; by_cases g0 : j = 0; (subst g0; rfl); by_cases g1 : j = 1; (subst g1; rfl); by_cases g2 : j = 2; (subst g2; rfl); by_cases g3 : j = 3; (subst g3; rfl); simp only [va_up, g0, g1, g2, g3, if_false]
  have hu4 : (ce218 kc0 (z.2.2.1 128) (z.2.2.1 129) (z.2.2.1 130) : va_E) = ce220 kc0 (z.2.2.1 128) (z.2.2.1 129) (z.2.2.1 130) := (show (.inl (kc0, 10, .inr (.inr (.inr (.inr (va_up (va_up (va_up (va_up (va_up (fun _ => none) 0 (some (z.2.2.1 128))) 1 (some (z.2.2.1 129))) 2 none) 3 none) 2 (some (z.2.2.1 130))))))) : va_E) = .inl (kc0, 10, .inr (.inr (.inr (.inr (va_up (va_up (va_up (va_up (fun _ => none) 0 (some (z.2.2.1 128))) 1 (some (z.2.2.1 129))) 2 (some (z.2.2.1 130))) 3 none))))) by rw [ehu4])
  rw [hu4] at hP hD
  have hP : va_P (dC, dI) xCl [(h0, ce219 h1), (h1, ce220 kc0 (z.2.2.1 128) (z.2.2.1 129) (z.2.2.1 130))] H3 := hP
  have hD := vd_as hP hD rfl
  exact W.vret hx hb hr (fun t9 ht9 hW9 => ⟨⟨(), rfl, trivial, ⟨pq_mk2 hP hD hK [0, 1] [0] rfl rfl rfl ht9 hW9, by rw [ht9]; exact Nat.le_trans (Nat.add_le_add_left (Nat.le_of_ble_eq_true rfl) _) hG⟩⟩, hS.F ht9⟩) hS.2.2 dJx4a65c_add_72be8_22

set_option maxHeartbeats 4000000 in
set_option maxRecDepth 100000 in
theorem k432_add (l : Launch) (hl9 : l.stackTraces = false) (dC : Nat → ClassId) (dI : Nat → Nat → Nat) (z : XZ) (h0 h1 : Nat) (sz : Nat) (kc0 : ClassId) : Met l yJx4a65c_add_9ea2d (.code yJx4a65c_add_9ea2d cJx4a65c_add_9ea2d 2 (some .boolean) :: wsL_law) ({ frames := 1, cells := 0, slots := 0, locals := 23 }) (va_Pc [.ref h0, .ref (z.2.2.1 130)] (PC (dC, dI) [(h0, ce215 h1), (h1, ce216 kc0 (z.2.2.1 128) (z.2.2.1 129))] [(kc0, .object "java/lang/Object")] sz z)) (va_Qi (fun (r : Int32) (_ : Unit) => r = 1) (fun (_ : Unit) (t : State) => PG (dC, dI) [(h0, ce219 h1), (h1, ce220 kc0 (z.2.2.1 128) (z.2.2.1 129) (z.2.2.1 130))] [(kc0, .object "java/lang/Object")] (va_A [(h0, ce215 h1), (h1, ce216 kc0 (z.2.2.1 128) (z.2.2.1 129))] sz) sz 0 t) (va_A [(h0, ce215 h1), (h1, ce216 kc0 (z.2.2.1 128) (z.2.2.1 129))] sz)) 0 0 (va_A [(h0, ce215 h1), (h1, ce216 kc0 (z.2.2.1 128) (z.2.2.1 129))] sz) := by
  refine Met.ofW (cc := cJx4a65c_add_9ea2d) (maxL := 2) (ret := (some .boolean)) (by decide) rfl ?_
  intro p e s m args below meth c s₁ B hml hv
  obtain ⟨rfl, hsz, hP, hK, hD0, hX, hT⟩ := hv
  have hx := B.exec
  have hb := B.bytes
  have hr := B.returns
  have hts0 := atoms_spec (ws := .code yJx4a65c_add_9ea2d cJx4a65c_add_9ea2d 2 (some .boolean) :: wsL_law) B.pre
  have hts := xTail hts0
  have hown : s.vm.findClass RJx4a65c = some m.cls := xown B.named rfl
  have hlocks := B.notSynchronized
  subst hsz
  have hD := hD0.self (sz := s.heap.size)
  generalize hAe : va_A [(h0, ce215 h1), (h1, ce216 kc0 (z.2.2.1 128) (z.2.2.1 129))] s.heap.size = A at hD hX ⊢
  have hA : ∀ q : Nat, s.heap.size ≤ q → A q := fun q h => by rw [← hAe]; exact Or.inr h
  have hS : va_S A s.heap s.heap [] := va_S.rf
  have hG : s.heap.size + 0 ≤ s.heap.size := Nat.le_refl _
  have hl := lv_entry ([.ref h0, .ref (z.2.2.1 130)]) (n := 2) (Nat.le_of_ble_eq_true rfl)
  rw [lg_entry_eq]
  generalize (lg_sl ([.ref h0, .ref (z.2.2.1 130)]) ++ List.replicate (2 - (lg_sl ([.ref h0, .ref (z.2.2.1 130)])).length) Slot.unset).toArray = ls at hl ⊢
  have hl : lv_has ls 2 [(0, .ref h0), (1, .ref (z.2.2.1 130))] := hl
  refine lv_aload_n hx hb dJx4a65c_add_9ea2d_0 rfl (lv_at hl 0 rfl) ?_
  refine lv_dup hx hb dJx4a65c_add_9ea2d_1 rfl ?_
  refine va_get (D := (dC, dI)) (ci := 0) (v := .int 17) (C := RJx4a65c) (T := TJx4a65c) (N := 3) hx hb hts in_Jx4a65c hown hK hP 0 rfl rfl 0 (by decide) (hts _ q_108) (u_same (hts _ q_107)) rfl dJx4a65c_add_9ea2d_2 ?_
  refine lv_iconst (v := 1) hx hb dJx4a65c_add_9ea2d_5 (by decide) ?_
  refine lv_iadd hx hb dJx4a65c_add_9ea2d_6 ?_
  refine lv_topi (fun y1 ey1 => ?_)
  obtain rfl : y1 = 18 := ey1.trans (by decide)
  refine va_put (D := (dC, dI)) (ci := 0) (v := .int 18) (ty := .int) (C := RJx4a65c) (T := TJx4a65c) (N := 3) hx hb hts in_Jx4a65c tyJx4a65c tyJx4a65c_ok nmJx4a65c hown hK hP hD (va_Sre hS) 0 rfl rfl 0 (by decide) (hts _ q_108) (u_same (hts _ q_107)) rfl (by decide +kernel) rfl rfl (Nat.le_of_ble_eq_true rfl) dJx4a65c_add_9ea2d_7 (fun H2 _ hP hD hS' => ?_)
  have hG : s.heap.size + 0 ≤ H2.size := Nat.le_trans hG hS'.1
  have hS := va_Str hS hS'
  have hP : va_P (dC, dI) xCl [(h0, ce217 h1), (h1, ce216 kc0 (z.2.2.1 128) (z.2.2.1 129))] H2 := hP
  have hD := vd_as hP hD rfl
  refine lv_aload_n hx hb dJx4a65c_add_9ea2d_10 rfl (lv_at hl 0 rfl) ?_
  refine lv_aload_n hx hb dJx4a65c_add_9ea2d_11 rfl (lv_at hl 1 rfl) ?_
  refine lv_aload_n hx hb dJx4a65c_add_9ea2d_12 rfl (lv_at hl 0 rfl) ?_
  refine va_get (D := (dC, dI)) (ci := 0) (v := .ref h1) (C := RJx4a65c) (T := TJx4a65c) (N := 3) hx hb hts in_Jx4a65c hown hK hP 0 rfl rfl 1 (by decide) (hts _ q_24) (fun _ h9 => h9) rfl dJx4a65c_add_9ea2d_13 ?_
  refine lv_aload_n hx hb dJx4a65c_add_9ea2d_16 rfl (lv_at hl 0 rfl) ?_
  refine va_get (D := (dC, dI)) (ci := 0) (v := .int 2) (C := RJx4a65c) (T := TJx4a65c) (N := 3) hx hb hts in_Jx4a65c hown hK hP 0 rfl rfl 2 (by decide) (hts _ q_74) (fun _ h9 => h9) rfl dJx4a65c_add_9ea2d_17 ?_
  have hM5 := k431_add l hl9 dC dI z h0 h1 H2.size kc0
  obtain ⟨hF3, hC6⟩ := pc_M hM5 hP hD hK hS hX hT hA [0, 1] [0] rfl rfl rfl
  refine va_callv (va_runV (As := [.ref (z.2.2.1 130), .ref h1, .int 2]) (rest := []) ⟨hx, hb, hml, hown, hts⟩ hM5 (cwV 3 hts (gV q_123 q_124 q_125 q_12 q_122) rfl rfl rfl hV_Jx4a65c_add_72be8 ⟨Nat.le_of_ble_eq_true rfl, Nat.le_of_ble_eq_true rfl⟩) ⟨pc_blind, va_recv hK hP (ci := 0) (q := (RJx4a65c, TJx4a65c, 3)) (q0 := 0) rfl rfl, fun U hU hW => ⟨rfl, hC6 U hU hW⟩⟩ rfl rfl hl.1 rfl (lv_room (Nat.le_of_ble_eq_true rfl)) dJx4a65c_add_9ea2d_20 ⟨(Nat.le_of_ble_eq_true rfl), (Nat.le_of_ble_eq_true rfl)⟩) hS (fun q9 _ h9 => hF3 q9 h9) hF3 (fun u7 t7 H7 L7 ht7 hvm7 hw7 hB7 hz7 hk7 hS => ?_)
  obtain ⟨hP, hD, hK⟩ := pq_jn (wz := [(h0, ce219 h1), (h1, ce220 kc0 (z.2.2.1 128) (z.2.2.1 129) (z.2.2.1 130))]) (tz := [(kc0, .object "java/lang/Object")]) hP hD hK [0, 1] [] rfl hk7 hF3 hB7.1 ht7 hvm7 rfl rfl
  have hG : s.heap.size + 0 ≤ H7.size := Nat.le_trans hG hz7
  refine lv_iconst (v := 1) hx hb dJx4a65c_add_9ea2d_23 (by decide) ?_
  exact W.zret (v := 1) (ty := .boolean) hx hb hr rfl (fun t9 ht9 hW9 => ⟨⟨1, (), rfl, rfl, ⟨pq_mk2 hP hD hK [0, 1] [0] rfl rfl rfl ht9 hW9, by rw [ht9]; exact Nat.le_trans (Nat.add_le_add_left (Nat.le_of_ble_eq_true rfl) _) hG⟩⟩, hS.F ht9⟩) hS.2.2 dJx4a65c_add_9ea2d_24

set_option maxHeartbeats 4000000 in
set_option maxRecDepth 100000 in
theorem k433_add (l : Launch) (hl9 : l.stackTraces = false) (dC : Nat → ClassId) (dI : Nat → Nat → Nat) (z : XZ) (h0 h1 : Nat) (sz : Nat) (kc0 : ClassId) : Met l yJx4a65c_add_72be8 (.code yJx4a65c_add_72be8 cJx4a65c_add_72be8 4 none :: wsL_law) ({ frames := 0, cells := 0, slots := 0, locals := 0 }) (va_Pc [.ref h0, .ref (z.2.2.1 131), .ref h1, .int 3] (PC (dC, dI) [(h0, ce221 h1), (h1, ce220 kc0 (z.2.2.1 128) (z.2.2.1 129) (z.2.2.1 130))] [(kc0, .object "java/lang/Object")] sz z)) (va_Qv (fun (_ : Unit) => True) (fun (_ : Unit) (t : State) => PG (dC, dI) [(h0, ce223 h1), (h1, ce146 kc0 (z.2.2.1 128) (z.2.2.1 129) (z.2.2.1 130) (z.2.2.1 131))] [(kc0, .object "java/lang/Object")] (va_A [(h0, ce221 h1), (h1, ce220 kc0 (z.2.2.1 128) (z.2.2.1 129) (z.2.2.1 130))] sz) sz 0 t) (va_A [(h0, ce221 h1), (h1, ce220 kc0 (z.2.2.1 128) (z.2.2.1 129) (z.2.2.1 130))] sz)) 0 0 (va_A [(h0, ce221 h1), (h1, ce220 kc0 (z.2.2.1 128) (z.2.2.1 129) (z.2.2.1 130))] sz) := by
  refine Met.ofW (cc := cJx4a65c_add_72be8) (maxL := 4) (ret := none) (by decide) rfl ?_
  intro p e s m args below meth c s₁ B hml hv
  obtain ⟨rfl, hsz, hP, hK, hD0, hX, hT⟩ := hv
  have hx := B.exec
  have hb := B.bytes
  have hr := B.returns
  have hts0 := atoms_spec (ws := .code yJx4a65c_add_72be8 cJx4a65c_add_72be8 4 none :: wsL_law) B.pre
  have hts := xTail hts0
  have hown : s.vm.findClass RJx4a65c = some m.cls := xown B.named rfl
  have hlocks := B.notSynchronized
  subst hsz
  have hD := hD0.self (sz := s.heap.size)
  generalize hAe : va_A [(h0, ce221 h1), (h1, ce220 kc0 (z.2.2.1 128) (z.2.2.1 129) (z.2.2.1 130))] s.heap.size = A at hD hX ⊢
  have hA : ∀ q : Nat, s.heap.size ≤ q → A q := fun q h => by rw [← hAe]; exact Or.inr h
  have hS : va_S A s.heap s.heap [] := va_S.rf
  have hG : s.heap.size + 0 ≤ s.heap.size := Nat.le_refl _
  have hl := lv_entry ([.ref h0, .ref (z.2.2.1 131), .ref h1, .int 3]) (n := 4) (Nat.le_of_ble_eq_true rfl)
  rw [lg_entry_eq]
  generalize (lg_sl ([.ref h0, .ref (z.2.2.1 131), .ref h1, .int 3]) ++ List.replicate (4 - (lg_sl ([.ref h0, .ref (z.2.2.1 131), .ref h1, .int 3])).length) Slot.unset).toArray = ls at hl ⊢
  have hl : lv_has ls 4 [(0, .ref h0), (1, .ref (z.2.2.1 131)), (2, .ref h1), (3, .int 3)] := hl
  refine lv_iload_n hx hb dJx4a65c_add_72be8_0 rfl (lv_at hl 3 rfl) ?_
  refine lv_aload_n hx hb dJx4a65c_add_72be8_1 rfl (lv_at hl 2 rfl) ?_
  refine va_alen hx hb hK hP 1 0 rfl rfl (v := 10) rfl dJx4a65c_add_72be8_2 ?_
  refine lv_icmp_ne (tgt := 11) hx hb dJx4a65c_add_72be8_3 (by decide) (fun _ => ?_) (fun cz => absurd cz (by decide))
  refine lv_aload_n hx hb dJx4a65c_add_72be8_11 rfl (lv_at hl 2 rfl) ?_
  refine lv_iload_n hx hb dJx4a65c_add_72be8_12 rfl (lv_at hl 3 rfl) ?_
  refine lv_aload_n hx hb dJx4a65c_add_72be8_13 rfl (lv_at hl 1 rfl) ?_
  refine vb_astq (E := "java/lang/Object") (C := "java/lang/Integer") hx hb hK hP hD (va_Sre hS) 1 0 rfl rfl (va_Orecv (hX.2.2.1.1.1 131 (by decide)) hS) (vb_asgC (hT.2.1.1 ("java/lang/Integer", "java/lang/Object") (by decide))) (i := 3) (by unfold vp_in; decide) dJx4a65c_add_72be8_14 (fun H1 _ hP hD hS' => ?_)
  have hG : s.heap.size + 0 ≤ H1.size := Nat.le_trans hG hS'.1
  have hS := va_Str hS hS'
  have hP : va_P (dC, dI) xCl [(h0, ce221 h1), (h1, ce222 kc0 (z.2.2.1 128) (z.2.2.1 129) (z.2.2.1 130) (z.2.2.1 131))] H1 := hP
  have hD := vd_as hP hD rfl
  refine lv_aload_n hx hb dJx4a65c_add_72be8_15 rfl (lv_at hl 0 rfl) ?_
  refine lv_iload_n hx hb dJx4a65c_add_72be8_16 rfl (lv_at hl 3 rfl) ?_
  refine lv_iconst (v := 1) hx hb dJx4a65c_add_72be8_17 (by decide) ?_
  refine lv_iadd hx hb dJx4a65c_add_72be8_18 ?_
  refine lv_topi (fun y2 ey2 => ?_)
  obtain rfl : y2 = 4 := ey2.trans (by decide)
  refine va_put (D := (dC, dI)) (ci := 0) (v := .int 4) (ty := .int) (C := RJx4a65c) (T := TJx4a65c) (N := 3) hx hb hts in_Jx4a65c tyJx4a65c tyJx4a65c_ok nmJx4a65c hown hK hP hD (va_Sre hS) 0 rfl rfl 2 (by decide) (hts _ q_74) (fun _ h9 => h9) rfl (by decide +kernel) rfl rfl (Nat.le_of_ble_eq_true rfl) dJx4a65c_add_72be8_19 (fun H3 _ hP hD hS' => ?_)
  have hG : s.heap.size + 0 ≤ H3.size := Nat.le_trans hG hS'.1
  have hS := va_Str hS hS'
  have hP : va_P (dC, dI) xCl [(h0, ce223 h1), (h1, ce222 kc0 (z.2.2.1 128) (z.2.2.1 129) (z.2.2.1 130) (z.2.2.1 131))] H3 := hP
  have hD := vd_as hP hD rfl
  have ehu4 : (va_up (va_up (va_up (va_up (va_up (fun _ => none) 0 (some (z.2.2.1 128))) 1 (some (z.2.2.1 129))) 2 (some (z.2.2.1 130))) 3 none) 3 (some (z.2.2.1 131))) = (va_up (va_up (va_up (va_up (fun _ => none) 0 (some (z.2.2.1 128))) 1 (some (z.2.2.1 129))) 2 (some (z.2.2.1 130))) 3 (some (z.2.2.1 131))) := by funext j; by_cases g0 : j = 0; (subst g0; rfl); by_cases g1 : j = 1; (subst g1; rfl); by_cases g2 : j = 2; (subst g2; rfl); by_cases g3 : j = 3; (subst g3; rfl); simp only [va_up, g0, g1, g2, g3, if_false]
  have hu4 : (ce222 kc0 (z.2.2.1 128) (z.2.2.1 129) (z.2.2.1 130) (z.2.2.1 131) : va_E) = ce146 kc0 (z.2.2.1 128) (z.2.2.1 129) (z.2.2.1 130) (z.2.2.1 131) := (show (.inl (kc0, 10, .inr (.inr (.inr (.inr (va_up (va_up (va_up (va_up (va_up (fun _ => none) 0 (some (z.2.2.1 128))) 1 (some (z.2.2.1 129))) 2 (some (z.2.2.1 130))) 3 none) 3 (some (z.2.2.1 131))))))) : va_E) = .inl (kc0, 10, .inr (.inr (.inr (.inr (va_up (va_up (va_up (va_up (fun _ => none) 0 (some (z.2.2.1 128))) 1 (some (z.2.2.1 129))) 2 (some (z.2.2.1 130))) 3 (some (z.2.2.1 131))))))) by rw [ehu4])
  rw [hu4] at hP hD
  have hP : va_P (dC, dI) xCl [(h0, ce223 h1), (h1, ce146 kc0 (z.2.2.1 128) (z.2.2.1 129) (z.2.2.1 130) (z.2.2.1 131))] H3 := hP
  have hD := vd_as hP hD rfl
  exact W.vret hx hb hr (fun t9 ht9 hW9 => ⟨⟨(), rfl, trivial, ⟨pq_mk2 hP hD hK [0, 1] [0] rfl rfl rfl ht9 hW9, by rw [ht9]; exact Nat.le_trans (Nat.add_le_add_left (Nat.le_of_ble_eq_true rfl) _) hG⟩⟩, hS.F ht9⟩) hS.2.2 dJx4a65c_add_72be8_22

set_option maxHeartbeats 4000000 in
set_option maxRecDepth 100000 in
theorem k434_add (l : Launch) (hl9 : l.stackTraces = false) (dC : Nat → ClassId) (dI : Nat → Nat → Nat) (z : XZ) (h0 h1 : Nat) (sz : Nat) (kc0 : ClassId) : Met l yJx4a65c_add_9ea2d (.code yJx4a65c_add_9ea2d cJx4a65c_add_9ea2d 2 (some .boolean) :: wsL_law) ({ frames := 1, cells := 0, slots := 0, locals := 23 }) (va_Pc [.ref h0, .ref (z.2.2.1 131)] (PC (dC, dI) [(h0, ce219 h1), (h1, ce220 kc0 (z.2.2.1 128) (z.2.2.1 129) (z.2.2.1 130))] [(kc0, .object "java/lang/Object")] sz z)) (va_Qi (fun (r : Int32) (_ : Unit) => r = 1) (fun (_ : Unit) (t : State) => PG (dC, dI) [(h0, ce223 h1), (h1, ce146 kc0 (z.2.2.1 128) (z.2.2.1 129) (z.2.2.1 130) (z.2.2.1 131))] [(kc0, .object "java/lang/Object")] (va_A [(h0, ce219 h1), (h1, ce220 kc0 (z.2.2.1 128) (z.2.2.1 129) (z.2.2.1 130))] sz) sz 0 t) (va_A [(h0, ce219 h1), (h1, ce220 kc0 (z.2.2.1 128) (z.2.2.1 129) (z.2.2.1 130))] sz)) 0 0 (va_A [(h0, ce219 h1), (h1, ce220 kc0 (z.2.2.1 128) (z.2.2.1 129) (z.2.2.1 130))] sz) := by
  refine Met.ofW (cc := cJx4a65c_add_9ea2d) (maxL := 2) (ret := (some .boolean)) (by decide) rfl ?_
  intro p e s m args below meth c s₁ B hml hv
  obtain ⟨rfl, hsz, hP, hK, hD0, hX, hT⟩ := hv
  have hx := B.exec
  have hb := B.bytes
  have hr := B.returns
  have hts0 := atoms_spec (ws := .code yJx4a65c_add_9ea2d cJx4a65c_add_9ea2d 2 (some .boolean) :: wsL_law) B.pre
  have hts := xTail hts0
  have hown : s.vm.findClass RJx4a65c = some m.cls := xown B.named rfl
  have hlocks := B.notSynchronized
  subst hsz
  have hD := hD0.self (sz := s.heap.size)
  generalize hAe : va_A [(h0, ce219 h1), (h1, ce220 kc0 (z.2.2.1 128) (z.2.2.1 129) (z.2.2.1 130))] s.heap.size = A at hD hX ⊢
  have hA : ∀ q : Nat, s.heap.size ≤ q → A q := fun q h => by rw [← hAe]; exact Or.inr h
  have hS : va_S A s.heap s.heap [] := va_S.rf
  have hG : s.heap.size + 0 ≤ s.heap.size := Nat.le_refl _
  have hl := lv_entry ([.ref h0, .ref (z.2.2.1 131)]) (n := 2) (Nat.le_of_ble_eq_true rfl)
  rw [lg_entry_eq]
  generalize (lg_sl ([.ref h0, .ref (z.2.2.1 131)]) ++ List.replicate (2 - (lg_sl ([.ref h0, .ref (z.2.2.1 131)])).length) Slot.unset).toArray = ls at hl ⊢
  have hl : lv_has ls 2 [(0, .ref h0), (1, .ref (z.2.2.1 131))] := hl
  refine lv_aload_n hx hb dJx4a65c_add_9ea2d_0 rfl (lv_at hl 0 rfl) ?_
  refine lv_dup hx hb dJx4a65c_add_9ea2d_1 rfl ?_
  refine va_get (D := (dC, dI)) (ci := 0) (v := .int 18) (C := RJx4a65c) (T := TJx4a65c) (N := 3) hx hb hts in_Jx4a65c hown hK hP 0 rfl rfl 0 (by decide) (hts _ q_108) (u_same (hts _ q_107)) rfl dJx4a65c_add_9ea2d_2 ?_
  refine lv_iconst (v := 1) hx hb dJx4a65c_add_9ea2d_5 (by decide) ?_
  refine lv_iadd hx hb dJx4a65c_add_9ea2d_6 ?_
  refine lv_topi (fun y1 ey1 => ?_)
  obtain rfl : y1 = 19 := ey1.trans (by decide)
  refine va_put (D := (dC, dI)) (ci := 0) (v := .int 19) (ty := .int) (C := RJx4a65c) (T := TJx4a65c) (N := 3) hx hb hts in_Jx4a65c tyJx4a65c tyJx4a65c_ok nmJx4a65c hown hK hP hD (va_Sre hS) 0 rfl rfl 0 (by decide) (hts _ q_108) (u_same (hts _ q_107)) rfl (by decide +kernel) rfl rfl (Nat.le_of_ble_eq_true rfl) dJx4a65c_add_9ea2d_7 (fun H2 _ hP hD hS' => ?_)
  have hG : s.heap.size + 0 ≤ H2.size := Nat.le_trans hG hS'.1
  have hS := va_Str hS hS'
  have hP : va_P (dC, dI) xCl [(h0, ce221 h1), (h1, ce220 kc0 (z.2.2.1 128) (z.2.2.1 129) (z.2.2.1 130))] H2 := hP
  have hD := vd_as hP hD rfl
  refine lv_aload_n hx hb dJx4a65c_add_9ea2d_10 rfl (lv_at hl 0 rfl) ?_
  refine lv_aload_n hx hb dJx4a65c_add_9ea2d_11 rfl (lv_at hl 1 rfl) ?_
  refine lv_aload_n hx hb dJx4a65c_add_9ea2d_12 rfl (lv_at hl 0 rfl) ?_
  refine va_get (D := (dC, dI)) (ci := 0) (v := .ref h1) (C := RJx4a65c) (T := TJx4a65c) (N := 3) hx hb hts in_Jx4a65c hown hK hP 0 rfl rfl 1 (by decide) (hts _ q_24) (fun _ h9 => h9) rfl dJx4a65c_add_9ea2d_13 ?_
  refine lv_aload_n hx hb dJx4a65c_add_9ea2d_16 rfl (lv_at hl 0 rfl) ?_
  refine va_get (D := (dC, dI)) (ci := 0) (v := .int 3) (C := RJx4a65c) (T := TJx4a65c) (N := 3) hx hb hts in_Jx4a65c hown hK hP 0 rfl rfl 2 (by decide) (hts _ q_74) (fun _ h9 => h9) rfl dJx4a65c_add_9ea2d_17 ?_
  have hM5 := k433_add l hl9 dC dI z h0 h1 H2.size kc0
  obtain ⟨hF3, hC6⟩ := pc_M hM5 hP hD hK hS hX hT hA [0, 1] [0] rfl rfl rfl
  refine va_callv (va_runV (As := [.ref (z.2.2.1 131), .ref h1, .int 3]) (rest := []) ⟨hx, hb, hml, hown, hts⟩ hM5 (cwV 3 hts (gV q_123 q_124 q_125 q_12 q_122) rfl rfl rfl hV_Jx4a65c_add_72be8 ⟨Nat.le_of_ble_eq_true rfl, Nat.le_of_ble_eq_true rfl⟩) ⟨pc_blind, va_recv hK hP (ci := 0) (q := (RJx4a65c, TJx4a65c, 3)) (q0 := 0) rfl rfl, fun U hU hW => ⟨rfl, hC6 U hU hW⟩⟩ rfl rfl hl.1 rfl (lv_room (Nat.le_of_ble_eq_true rfl)) dJx4a65c_add_9ea2d_20 ⟨(Nat.le_of_ble_eq_true rfl), (Nat.le_of_ble_eq_true rfl)⟩) hS (fun q9 _ h9 => hF3 q9 h9) hF3 (fun u7 t7 H7 L7 ht7 hvm7 hw7 hB7 hz7 hk7 hS => ?_)
  obtain ⟨hP, hD, hK⟩ := pq_jn (wz := [(h0, ce223 h1), (h1, ce146 kc0 (z.2.2.1 128) (z.2.2.1 129) (z.2.2.1 130) (z.2.2.1 131))]) (tz := [(kc0, .object "java/lang/Object")]) hP hD hK [0, 1] [] rfl hk7 hF3 hB7.1 ht7 hvm7 rfl rfl
  have hG : s.heap.size + 0 ≤ H7.size := Nat.le_trans hG hz7
  refine lv_iconst (v := 1) hx hb dJx4a65c_add_9ea2d_23 (by decide) ?_
  exact W.zret (v := 1) (ty := .boolean) hx hb hr rfl (fun t9 ht9 hW9 => ⟨⟨1, (), rfl, rfl, ⟨pq_mk2 hP hD hK [0, 1] [0] rfl rfl rfl ht9 hW9, by rw [ht9]; exact Nat.le_trans (Nat.add_le_add_left (Nat.le_of_ble_eq_true rfl) _) hG⟩⟩, hS.F ht9⟩) hS.2.2 dJx4a65c_add_9ea2d_24

set_option maxHeartbeats 4000000 in
set_option maxRecDepth 100000 in
theorem k435_valueOf (l : Launch) (hl9 : l.stackTraces = false) (dC : Nat → ClassId) (dI : Nat → Nat → Nat) (z : XZ) (sz : Nat) : Met l yJ6_valueOf_2dffe (.code yJ6_valueOf_2dffe cJ6_valueOf_2dffe 1 (some (.object "java/lang/Integer")) :: wsL_law) ({ frames := 0, cells := 0, slots := 0, locals := 0 }) (va_Pc [.int 4] (PC (dC, dI) [] [] sz z)) (va_Qr (fun (_ : Unit) => True) (fun (_ : Unit) (ra : Nat) (t : State) => ra = (z.2.2.1 132) ∧ PG (dC, dI) [] [] (va_A [] sz) sz 0 t) (va_A [] sz)) 0 0 (va_A [] sz) := by
  refine Met.ofW (cc := cJ6_valueOf_2dffe) (maxL := 1) (ret := (some (.object "java/lang/Integer"))) (by decide) rfl ?_
  intro p e s m args below meth c s₁ B hml hv
  obtain ⟨rfl, hsz, hP, hK, hD0, hX, hT⟩ := hv
  have hx := B.exec
  have hb := B.bytes
  have hr := B.returns
  have hts0 := atoms_spec (ws := .code yJ6_valueOf_2dffe cJ6_valueOf_2dffe 1 (some (.object "java/lang/Integer")) :: wsL_law) B.pre
  have hts := xTail hts0
  have hown : s.vm.findClass RJ6 = some m.cls := xown B.named rfl
  have hlocks := B.notSynchronized
  subst hsz
  have hD := hD0.self (sz := s.heap.size)
  generalize hAe : va_A [] s.heap.size = A at hD hX ⊢
  have hA : ∀ q : Nat, s.heap.size ≤ q → A q := fun q h => by rw [← hAe]; exact Or.inr h
  have hS : va_S A s.heap s.heap [] := va_S.rf
  have hG : s.heap.size + 0 ≤ s.heap.size := Nat.le_refl _
  have hl := lv_entry ([.int 4]) (n := 1) (Nat.le_of_ble_eq_true rfl)
  rw [lg_entry_eq]
  generalize (lg_sl ([.int 4]) ++ List.replicate (1 - (lg_sl ([.int 4])).length) Slot.unset).toArray = ls at hl ⊢
  have hl : lv_has ls 1 [(0, .int 4)] := hl
  refine lv_iload_n hx hb dJ6_valueOf_2dffe_0 rfl (lv_at hl 0 rfl) ?_
  refine lv_bipush (v := (-128)) hx hb dJ6_valueOf_2dffe_1 (by decide) ?_
  refine lv_icmp_lt (tgt := 23) hx hb dJ6_valueOf_2dffe_3 (by decide) (fun cz => absurd cz (by decide)) (fun _ => ?_)
  refine lv_iload_n hx hb dJ6_valueOf_2dffe_6 rfl (lv_at hl 0 rfl) ?_
  refine va_gets (own := RJ6) (ref := "java/lang/Integer$IntegerCache") hx hb hX.2.2.1.2.1 hS hown (hts _ q_292) (fun _ h9 => h9) dJ6_valueOf_2dffe_7 ?_
  refine lv_icmp_gt (tgt := 23) hx hb dJ6_valueOf_2dffe_10 (by decide) (fun cz => absurd cz (by decide)) (fun _ => ?_)
  refine va_gets (own := RJ6) (ref := "java/lang/Integer$IntegerCache") hx hb hX.2.2.1.2.2.1 hS hown (hts _ q_293) (fun _ h9 => h9) dJ6_valueOf_2dffe_13 ?_
  refine lv_iload_n hx hb dJ6_valueOf_2dffe_16 rfl (lv_at hl 0 rfl) ?_
  refine lv_sipush (v := 128) hx hb dJ6_valueOf_2dffe_17 (by decide) ?_
  refine lv_iadd hx hb dJ6_valueOf_2dffe_20 ?_
  refine lv_topi (fun y1 ey1 => ?_)
  obtain rfl : y1 = 132 := ey1.trans (by decide)
  refine vb_tq hx hb hX.2.2.1.2.2.2 hS (i := 132) (by unfold vp_in; decide) (v := .ref (z.2.2.1 132)) rfl dJ6_valueOf_2dffe_21 ?_
  exact W.aret (v := .ref (z.2.2.1 132)) hx hb hr (by first | exact Or.inl ⟨_, rfl⟩ | exact Or.inr ⟨_, rfl⟩) (Or.inr ⟨_, rfl⟩) (fun t9 ht9 hW9 => ⟨⟨(), (z.2.2.1 132), rfl, trivial, ⟨rfl, ⟨pq_mk2 hP hD hK [] [] rfl rfl rfl ht9 hW9, by rw [ht9]; exact Nat.le_trans (Nat.add_le_add_left (Nat.le_of_ble_eq_true rfl) _) hG⟩⟩⟩, hS.F ht9⟩) hS.2.2 dJ6_valueOf_2dffe_22

set_option maxHeartbeats 4000000 in
set_option maxRecDepth 100000 in
theorem k436_add (l : Launch) (hl9 : l.stackTraces = false) (dC : Nat → ClassId) (dI : Nat → Nat → Nat) (z : XZ) (h0 h1 : Nat) (sz : Nat) (kc0 : ClassId) : Met l yJx4a65c_add_72be8 (.code yJx4a65c_add_72be8 cJx4a65c_add_72be8 4 none :: wsL_law) ({ frames := 0, cells := 0, slots := 0, locals := 0 }) (va_Pc [.ref h0, .ref (z.2.2.1 132), .ref h1, .int 4] (PC (dC, dI) [(h0, ce225 h1), (h1, ce146 kc0 (z.2.2.1 128) (z.2.2.1 129) (z.2.2.1 130) (z.2.2.1 131))] [(kc0, .object "java/lang/Object")] sz z)) (va_Qv (fun (_ : Unit) => True) (fun (_ : Unit) (t : State) => PG (dC, dI) [(h0, ce226 h1), (h1, ce200 kc0 (z.2.2.1 128) (z.2.2.1 129) (z.2.2.1 130) (z.2.2.1 131) (z.2.2.1 132))] [(kc0, .object "java/lang/Object")] (va_A [(h0, ce225 h1), (h1, ce146 kc0 (z.2.2.1 128) (z.2.2.1 129) (z.2.2.1 130) (z.2.2.1 131))] sz) sz 0 t) (va_A [(h0, ce225 h1), (h1, ce146 kc0 (z.2.2.1 128) (z.2.2.1 129) (z.2.2.1 130) (z.2.2.1 131))] sz)) 0 0 (va_A [(h0, ce225 h1), (h1, ce146 kc0 (z.2.2.1 128) (z.2.2.1 129) (z.2.2.1 130) (z.2.2.1 131))] sz) := by
  refine Met.ofW (cc := cJx4a65c_add_72be8) (maxL := 4) (ret := none) (by decide) rfl ?_
  intro p e s m args below meth c s₁ B hml hv
  obtain ⟨rfl, hsz, hP, hK, hD0, hX, hT⟩ := hv
  have hx := B.exec
  have hb := B.bytes
  have hr := B.returns
  have hts0 := atoms_spec (ws := .code yJx4a65c_add_72be8 cJx4a65c_add_72be8 4 none :: wsL_law) B.pre
  have hts := xTail hts0
  have hown : s.vm.findClass RJx4a65c = some m.cls := xown B.named rfl
  have hlocks := B.notSynchronized
  subst hsz
  have hD := hD0.self (sz := s.heap.size)
  generalize hAe : va_A [(h0, ce225 h1), (h1, ce146 kc0 (z.2.2.1 128) (z.2.2.1 129) (z.2.2.1 130) (z.2.2.1 131))] s.heap.size = A at hD hX ⊢
  have hA : ∀ q : Nat, s.heap.size ≤ q → A q := fun q h => by rw [← hAe]; exact Or.inr h
  have hS : va_S A s.heap s.heap [] := va_S.rf
  have hG : s.heap.size + 0 ≤ s.heap.size := Nat.le_refl _
  have hl := lv_entry ([.ref h0, .ref (z.2.2.1 132), .ref h1, .int 4]) (n := 4) (Nat.le_of_ble_eq_true rfl)
  rw [lg_entry_eq]
  generalize (lg_sl ([.ref h0, .ref (z.2.2.1 132), .ref h1, .int 4]) ++ List.replicate (4 - (lg_sl ([.ref h0, .ref (z.2.2.1 132), .ref h1, .int 4])).length) Slot.unset).toArray = ls at hl ⊢
  have hl : lv_has ls 4 [(0, .ref h0), (1, .ref (z.2.2.1 132)), (2, .ref h1), (3, .int 4)] := hl
  refine lv_iload_n hx hb dJx4a65c_add_72be8_0 rfl (lv_at hl 3 rfl) ?_
  refine lv_aload_n hx hb dJx4a65c_add_72be8_1 rfl (lv_at hl 2 rfl) ?_
  refine va_alen hx hb hK hP 1 0 rfl rfl (v := 10) rfl dJx4a65c_add_72be8_2 ?_
  refine lv_icmp_ne (tgt := 11) hx hb dJx4a65c_add_72be8_3 (by decide) (fun _ => ?_) (fun cz => absurd cz (by decide))
  refine lv_aload_n hx hb dJx4a65c_add_72be8_11 rfl (lv_at hl 2 rfl) ?_
  refine lv_iload_n hx hb dJx4a65c_add_72be8_12 rfl (lv_at hl 3 rfl) ?_
  refine lv_aload_n hx hb dJx4a65c_add_72be8_13 rfl (lv_at hl 1 rfl) ?_
  refine vb_astq (E := "java/lang/Object") (C := "java/lang/Integer") hx hb hK hP hD (va_Sre hS) 1 0 rfl rfl (va_Orecv (hX.2.2.1.1.1 132 (by decide)) hS) (vb_asgC (hT.2.1.1 ("java/lang/Integer", "java/lang/Object") (by decide))) (i := 4) (by unfold vp_in; decide) dJx4a65c_add_72be8_14 (fun H1 _ hP hD hS' => ?_)
  have hG : s.heap.size + 0 ≤ H1.size := Nat.le_trans hG hS'.1
  have hS := va_Str hS hS'
  have hP : va_P (dC, dI) xCl [(h0, ce225 h1), (h1, ce200 kc0 (z.2.2.1 128) (z.2.2.1 129) (z.2.2.1 130) (z.2.2.1 131) (z.2.2.1 132))] H1 := hP
  have hD := vd_as hP hD rfl
  refine lv_aload_n hx hb dJx4a65c_add_72be8_15 rfl (lv_at hl 0 rfl) ?_
  refine lv_iload_n hx hb dJx4a65c_add_72be8_16 rfl (lv_at hl 3 rfl) ?_
  refine lv_iconst (v := 1) hx hb dJx4a65c_add_72be8_17 (by decide) ?_
  refine lv_iadd hx hb dJx4a65c_add_72be8_18 ?_
  refine lv_topi (fun y2 ey2 => ?_)
  obtain rfl : y2 = 5 := ey2.trans (by decide)
  refine va_put (D := (dC, dI)) (ci := 0) (v := .int 5) (ty := .int) (C := RJx4a65c) (T := TJx4a65c) (N := 3) hx hb hts in_Jx4a65c tyJx4a65c tyJx4a65c_ok nmJx4a65c hown hK hP hD (va_Sre hS) 0 rfl rfl 2 (by decide) (hts _ q_74) (fun _ h9 => h9) rfl (by decide +kernel) rfl rfl (Nat.le_of_ble_eq_true rfl) dJx4a65c_add_72be8_19 (fun H3 _ hP hD hS' => ?_)
  have hG : s.heap.size + 0 ≤ H3.size := Nat.le_trans hG hS'.1
  have hS := va_Str hS hS'
  have hP : va_P (dC, dI) xCl [(h0, ce226 h1), (h1, ce200 kc0 (z.2.2.1 128) (z.2.2.1 129) (z.2.2.1 130) (z.2.2.1 131) (z.2.2.1 132))] H3 := hP
  have hD := vd_as hP hD rfl
  exact W.vret hx hb hr (fun t9 ht9 hW9 => ⟨⟨(), rfl, trivial, ⟨pq_mk2 hP hD hK [0, 1] [0] rfl rfl rfl ht9 hW9, by rw [ht9]; exact Nat.le_trans (Nat.add_le_add_left (Nat.le_of_ble_eq_true rfl) _) hG⟩⟩, hS.F ht9⟩) hS.2.2 dJx4a65c_add_72be8_22

set_option maxHeartbeats 4000000 in
set_option maxRecDepth 100000 in
theorem k437_add (l : Launch) (hl9 : l.stackTraces = false) (dC : Nat → ClassId) (dI : Nat → Nat → Nat) (z : XZ) (h0 h1 : Nat) (sz : Nat) (kc0 : ClassId) : Met l yJx4a65c_add_9ea2d (.code yJx4a65c_add_9ea2d cJx4a65c_add_9ea2d 2 (some .boolean) :: wsL_law) ({ frames := 1, cells := 0, slots := 0, locals := 23 }) (va_Pc [.ref h0, .ref (z.2.2.1 132)] (PC (dC, dI) [(h0, ce223 h1), (h1, ce146 kc0 (z.2.2.1 128) (z.2.2.1 129) (z.2.2.1 130) (z.2.2.1 131))] [(kc0, .object "java/lang/Object")] sz z)) (va_Qi (fun (r : Int32) (_ : Unit) => r = 1) (fun (_ : Unit) (t : State) => PG (dC, dI) [(h0, ce226 h1), (h1, ce200 kc0 (z.2.2.1 128) (z.2.2.1 129) (z.2.2.1 130) (z.2.2.1 131) (z.2.2.1 132))] [(kc0, .object "java/lang/Object")] (va_A [(h0, ce223 h1), (h1, ce146 kc0 (z.2.2.1 128) (z.2.2.1 129) (z.2.2.1 130) (z.2.2.1 131))] sz) sz 0 t) (va_A [(h0, ce223 h1), (h1, ce146 kc0 (z.2.2.1 128) (z.2.2.1 129) (z.2.2.1 130) (z.2.2.1 131))] sz)) 0 0 (va_A [(h0, ce223 h1), (h1, ce146 kc0 (z.2.2.1 128) (z.2.2.1 129) (z.2.2.1 130) (z.2.2.1 131))] sz) := by
  refine Met.ofW (cc := cJx4a65c_add_9ea2d) (maxL := 2) (ret := (some .boolean)) (by decide) rfl ?_
  intro p e s m args below meth c s₁ B hml hv
  obtain ⟨rfl, hsz, hP, hK, hD0, hX, hT⟩ := hv
  have hx := B.exec
  have hb := B.bytes
  have hr := B.returns
  have hts0 := atoms_spec (ws := .code yJx4a65c_add_9ea2d cJx4a65c_add_9ea2d 2 (some .boolean) :: wsL_law) B.pre
  have hts := xTail hts0
  have hown : s.vm.findClass RJx4a65c = some m.cls := xown B.named rfl
  have hlocks := B.notSynchronized
  subst hsz
  have hD := hD0.self (sz := s.heap.size)
  generalize hAe : va_A [(h0, ce223 h1), (h1, ce146 kc0 (z.2.2.1 128) (z.2.2.1 129) (z.2.2.1 130) (z.2.2.1 131))] s.heap.size = A at hD hX ⊢
  have hA : ∀ q : Nat, s.heap.size ≤ q → A q := fun q h => by rw [← hAe]; exact Or.inr h
  have hS : va_S A s.heap s.heap [] := va_S.rf
  have hG : s.heap.size + 0 ≤ s.heap.size := Nat.le_refl _
  have hl := lv_entry ([.ref h0, .ref (z.2.2.1 132)]) (n := 2) (Nat.le_of_ble_eq_true rfl)
  rw [lg_entry_eq]
  generalize (lg_sl ([.ref h0, .ref (z.2.2.1 132)]) ++ List.replicate (2 - (lg_sl ([.ref h0, .ref (z.2.2.1 132)])).length) Slot.unset).toArray = ls at hl ⊢
  have hl : lv_has ls 2 [(0, .ref h0), (1, .ref (z.2.2.1 132))] := hl
  refine lv_aload_n hx hb dJx4a65c_add_9ea2d_0 rfl (lv_at hl 0 rfl) ?_
  refine lv_dup hx hb dJx4a65c_add_9ea2d_1 rfl ?_
  refine va_get (D := (dC, dI)) (ci := 0) (v := .int 19) (C := RJx4a65c) (T := TJx4a65c) (N := 3) hx hb hts in_Jx4a65c hown hK hP 0 rfl rfl 0 (by decide) (hts _ q_108) (u_same (hts _ q_107)) rfl dJx4a65c_add_9ea2d_2 ?_
  refine lv_iconst (v := 1) hx hb dJx4a65c_add_9ea2d_5 (by decide) ?_
  refine lv_iadd hx hb dJx4a65c_add_9ea2d_6 ?_
  refine lv_topi (fun y1 ey1 => ?_)
  obtain rfl : y1 = 20 := ey1.trans (by decide)
  refine va_put (D := (dC, dI)) (ci := 0) (v := .int 20) (ty := .int) (C := RJx4a65c) (T := TJx4a65c) (N := 3) hx hb hts in_Jx4a65c tyJx4a65c tyJx4a65c_ok nmJx4a65c hown hK hP hD (va_Sre hS) 0 rfl rfl 0 (by decide) (hts _ q_108) (u_same (hts _ q_107)) rfl (by decide +kernel) rfl rfl (Nat.le_of_ble_eq_true rfl) dJx4a65c_add_9ea2d_7 (fun H2 _ hP hD hS' => ?_)
  have hG : s.heap.size + 0 ≤ H2.size := Nat.le_trans hG hS'.1
  have hS := va_Str hS hS'
  have hP : va_P (dC, dI) xCl [(h0, ce225 h1), (h1, ce146 kc0 (z.2.2.1 128) (z.2.2.1 129) (z.2.2.1 130) (z.2.2.1 131))] H2 := hP
  have hD := vd_as hP hD rfl
  refine lv_aload_n hx hb dJx4a65c_add_9ea2d_10 rfl (lv_at hl 0 rfl) ?_
  refine lv_aload_n hx hb dJx4a65c_add_9ea2d_11 rfl (lv_at hl 1 rfl) ?_
  refine lv_aload_n hx hb dJx4a65c_add_9ea2d_12 rfl (lv_at hl 0 rfl) ?_
  refine va_get (D := (dC, dI)) (ci := 0) (v := .ref h1) (C := RJx4a65c) (T := TJx4a65c) (N := 3) hx hb hts in_Jx4a65c hown hK hP 0 rfl rfl 1 (by decide) (hts _ q_24) (fun _ h9 => h9) rfl dJx4a65c_add_9ea2d_13 ?_
  refine lv_aload_n hx hb dJx4a65c_add_9ea2d_16 rfl (lv_at hl 0 rfl) ?_
  refine va_get (D := (dC, dI)) (ci := 0) (v := .int 4) (C := RJx4a65c) (T := TJx4a65c) (N := 3) hx hb hts in_Jx4a65c hown hK hP 0 rfl rfl 2 (by decide) (hts _ q_74) (fun _ h9 => h9) rfl dJx4a65c_add_9ea2d_17 ?_
  have hM5 := k436_add l hl9 dC dI z h0 h1 H2.size kc0
  obtain ⟨hF3, hC6⟩ := pc_M hM5 hP hD hK hS hX hT hA [0, 1] [0] rfl rfl rfl
  refine va_callv (va_runV (As := [.ref (z.2.2.1 132), .ref h1, .int 4]) (rest := []) ⟨hx, hb, hml, hown, hts⟩ hM5 (cwV 3 hts (gV q_123 q_124 q_125 q_12 q_122) rfl rfl rfl hV_Jx4a65c_add_72be8 ⟨Nat.le_of_ble_eq_true rfl, Nat.le_of_ble_eq_true rfl⟩) ⟨pc_blind, va_recv hK hP (ci := 0) (q := (RJx4a65c, TJx4a65c, 3)) (q0 := 0) rfl rfl, fun U hU hW => ⟨rfl, hC6 U hU hW⟩⟩ rfl rfl hl.1 rfl (lv_room (Nat.le_of_ble_eq_true rfl)) dJx4a65c_add_9ea2d_20 ⟨(Nat.le_of_ble_eq_true rfl), (Nat.le_of_ble_eq_true rfl)⟩) hS (fun q9 _ h9 => hF3 q9 h9) hF3 (fun u7 t7 H7 L7 ht7 hvm7 hw7 hB7 hz7 hk7 hS => ?_)
  obtain ⟨hP, hD, hK⟩ := pq_jn (wz := [(h0, ce226 h1), (h1, ce200 kc0 (z.2.2.1 128) (z.2.2.1 129) (z.2.2.1 130) (z.2.2.1 131) (z.2.2.1 132))]) (tz := [(kc0, .object "java/lang/Object")]) hP hD hK [0, 1] [] rfl hk7 hF3 hB7.1 ht7 hvm7 rfl rfl
  have hG : s.heap.size + 0 ≤ H7.size := Nat.le_trans hG hz7
  refine lv_iconst (v := 1) hx hb dJx4a65c_add_9ea2d_23 (by decide) ?_
  exact W.zret (v := 1) (ty := .boolean) hx hb hr rfl (fun t9 ht9 hW9 => ⟨⟨1, (), rfl, rfl, ⟨pq_mk2 hP hD hK [0, 1] [0] rfl rfl rfl ht9 hW9, by rw [ht9]; exact Nat.le_trans (Nat.add_le_add_left (Nat.le_of_ble_eq_true rfl) _) hG⟩⟩, hS.F ht9⟩) hS.2.2 dJx4a65c_add_9ea2d_24

set_option maxHeartbeats 4000000 in
set_option maxRecDepth 100000 in
theorem k438_putInOrder (l : Launch) (hl9 : l.stackTraces = false) (dC : Nat → ClassId) (dI : Nat → Nat → Nat) (z : XZ) (h0 h1 h2 h3 h4 : Nat) (o0 o1 : Nat) (sz : Nat) (kc0 : ClassId) : Met l yX9_putInOrder (.code yX9_putInOrder cX9_putInOrder 6 none :: wsL_law) ({ frames := 3, cells := 6, slots := 60, locals := 57 }) (va_Pc [.ref h0] (PC (dC, dI) [(h0, ce21 h1 h2 o0 h3), (h1, ce201 o1), (h2, ce3 z.1), (h3, ce167 h4), (h4, ce146 kc0 (z.2.2.1 128) (z.2.2.1 129) (z.2.2.1 130) (z.2.2.1 131))] [(kc0, .object "java/lang/Object")] sz z)) (va_Qv (fun (_ : Unit) => True) (fun (_ : Unit) (t : State) => PG (dC, dI) [(h0, ce21 h1 h2 o0 h3), (h1, ce201 o1), (h2, ce3 z.1), (h3, ce226 h4), (h4, ce200 kc0 (z.2.2.1 128) (z.2.2.1 129) (z.2.2.1 130) (z.2.2.1 131) (z.2.2.1 132))] [(kc0, .object "java/lang/Object")] (va_A [(h0, ce21 h1 h2 o0 h3), (h1, ce201 o1), (h2, ce3 z.1), (h3, ce167 h4), (h4, ce146 kc0 (z.2.2.1 128) (z.2.2.1 129) (z.2.2.1 130) (z.2.2.1 131))] sz) sz 6 t) (va_A [(h0, ce21 h1 h2 o0 h3), (h1, ce201 o1), (h2, ce3 z.1), (h3, ce167 h4), (h4, ce146 kc0 (z.2.2.1 128) (z.2.2.1 129) (z.2.2.1 130) (z.2.2.1 131))] sz)) 6 60 (va_A [(h0, ce21 h1 h2 o0 h3), (h1, ce201 o1), (h2, ce3 z.1), (h3, ce167 h4), (h4, ce146 kc0 (z.2.2.1 128) (z.2.2.1 129) (z.2.2.1 130) (z.2.2.1 131))] sz) := by
  refine Met.ofW (cc := cX9_putInOrder) (maxL := 6) (ret := none) (by decide) rfl ?_
  intro p e s m args below meth c s₁ B hml hv
  obtain ⟨rfl, hsz, hP, hK, hD0, hX, hT⟩ := hv
  have hx := B.exec
  have hb := B.bytes
  have hr := B.returns
  have hts0 := atoms_spec (ws := .code yX9_putInOrder cX9_putInOrder 6 none :: wsL_law) B.pre
  have hts := xTail hts0
  have hown : s.vm.findClass RX9 = some m.cls := xown B.named rfl
  have hlocks := B.notSynchronized
  subst hsz
  have hD := hD0.self (sz := s.heap.size)
  generalize hAe : va_A [(h0, ce21 h1 h2 o0 h3), (h1, ce201 o1), (h2, ce3 z.1), (h3, ce167 h4), (h4, ce146 kc0 (z.2.2.1 128) (z.2.2.1 129) (z.2.2.1 130) (z.2.2.1 131))] s.heap.size = A at hD hX ⊢
  have hA : ∀ q : Nat, s.heap.size ≤ q → A q := fun q h => by rw [← hAe]; exact Or.inr h
  have hS : va_S A s.heap s.heap [] := va_S.rf
  have hG : s.heap.size + 0 ≤ s.heap.size := Nat.le_refl _
  have hl := lv_entry ([.ref h0]) (n := 6) (Nat.le_of_ble_eq_true rfl)
  rw [lg_entry_eq]
  generalize (lg_sl ([.ref h0]) ++ List.replicate (6 - (lg_sl ([.ref h0])).length) Slot.unset).toArray = ls at hl ⊢
  have hl : lv_has ls 6 [(0, .ref h0)] := hl
  refine lv_bipush (v := 40) hx hb dX9_putInOrder_0 (by decide) ?_
  refine xa_newa (atype := .boolean) hx hb (hts _ q_290) rfl hK hP hD hS hA (n := 40) (N' := 40) (a0 := (40, .inl (fun _ => 0))) (fun _ => rfl) (by decide) (by decide) (Nat.le_of_ble_eq_true rfl) (Nat.le_of_ble_eq_true rfl) (Nat.le_of_ble_eq_true rfl) dX9_putInOrder_2 (fun a1 k2 H3 hg8 hK hP hD hS => ?_)
  have hG : s.heap.size + 1 ≤ H3.size := by rw [hg8]; exact Nat.succ_le_succ hG
  have hK : va_K (dC, dI) xCl [(kc0, .object "java/lang/Object"), (k2, .boolean)] s := hK
  have hP : va_P (dC, dI) xCl [(h0, ce21 h1 h2 o0 h3), (h1, ce201 o1), (h2, ce3 z.1), (h3, ce167 h4), (h4, ce146 kc0 (z.2.2.1 128) (z.2.2.1 129) (z.2.2.1 130) (z.2.2.1 131)), (a1, ce51 k2)] H3 := hP
  have hD := vd_as hP hD rfl
  refine W.widen (k := 1) (n := 40) (by decide) (by decide) ?_
  refine lv_astore_n (lv' := [(1, .ref a1), (0, .ref h0)]) hx hb dX9_putInOrder_4 rfl hl (by decide) rfl (fun ls hl => ?_)
  refine lv_aload_n hx hb dX9_putInOrder_5 rfl (lv_at hl 1 rfl) ?_
  refine va_get (D := (dC, dI)) (ci := 8) (v := .ref h3) (C := RX9) (T := TX9) (N := 6) hx hb hts in_X9 hown hK hP 0 rfl rfl 4 (by decide) (hts _ q_67) (fun _ h9 => h9) rfl dX9_putInOrder_6 ?_
  have hM6 := k426_clear l hl9 dC dI z h3 h4 H3.size kc0
  obtain ⟨hF4, hC7⟩ := pc_M hM6 hP hD hK hS hX hT hA [3, 4] [0] rfl rfl rfl
  refine va_callv (va_runV (As := []) (rest := []) ⟨hx, hb, hml, hown, hts⟩ hM6 (cwV 0 hts (gV q_291 q_141 q_142 q_12 q_139) rfl rfl rfl hV_Jx4a65c_clear_da8c8 ⟨Nat.le_of_ble_eq_true rfl, Nat.le_of_ble_eq_true rfl⟩) ⟨pc_blind, va_recv hK hP (ci := 0) (q := (RJx4a65c, TJx4a65c, 3)) (q0 := 3) rfl rfl, fun U hU hW => ⟨rfl, hC7 U hU hW⟩⟩ rfl rfl hl.1 rfl (lv_room (Nat.le_of_ble_eq_true rfl)) dX9_putInOrder_9 ⟨(Nat.le_of_ble_eq_true rfl), (Nat.le_of_ble_eq_true rfl)⟩) hS (fun q9 _ h9 => hF4 q9 h9) hF4 (fun u8 t8 H8 L8 ht8 hvm8 hw8 hB8 hz8 hk8 hS => ?_)
  obtain ⟨hP, hD, hK⟩ := pq_jn (wz := [(h0, ce21 h1 h2 o0 h3), (h1, ce201 o1), (h2, ce3 z.1), (a1, ce51 k2), (h3, ce203 h4), (h4, ce208 kc0)]) (tz := [(k2, .boolean), (kc0, .object "java/lang/Object")]) hP hD hK [3, 4] [1] rfl hk8 hF4 hB8.1 ht8 hvm8 rfl rfl
  have hG : s.heap.size + 1 ≤ H8.size := Nat.le_trans hG hz8
  refine lv_aload_n hx hb dX9_putInOrder_12 rfl (lv_at hl 1 rfl) ?_
  refine va_get (D := (dC, dI)) (ci := 8) (v := .ref h3) (C := RX9) (T := TX9) (N := 6) hx hb hts in_X9 hown hK hP 0 rfl rfl 4 (by decide) (hts _ q_67) (fun _ h9 => h9) rfl dX9_putInOrder_13 ?_
  have hM12 := k20_size l hl9 dC dI z h3 h4 H8.size 15 0
  obtain ⟨hF10, hC13⟩ := pc_M hM12 hP hD hK hS hX hT hA [4] [] rfl rfl rfl
  refine va_calli (va_runV (As := []) (rest := []) ⟨hx, hb, hml, hown, hts⟩ hM12 (cwV 0 hts (gV q_272 q_77 q_78 q_12 q_75) rfl rfl rfl hV_Jx4a65c_size_8abf5 ⟨Nat.le_of_ble_eq_true rfl, Nat.le_of_ble_eq_true rfl⟩) ⟨pc_blind, va_recv hK hP (ci := 0) (q := (RJx4a65c, TJx4a65c, 3)) (q0 := 4) rfl rfl, fun U hU hW => ⟨rfl, hC13 U hU hW⟩⟩ rfl rfl hl.1 rfl (lv_room (Nat.le_of_ble_eq_true rfl)) dX9_putInOrder_16 ⟨(Nat.le_of_ble_eq_true rfl), (Nat.le_of_ble_eq_true rfl)⟩) hS (fun q9 _ h9 => hF10 q9 h9) hF10 (fun r15 u14 t14 H14 L14 ht14 hvm14 hw14 hB14 hz14 hk14 hS => ?_)
  have hP := pq_keep hP hD [4] rfl hk14 hB14.1 ht14
  have hG : s.heap.size + 1 ≤ H14.size := Nat.le_trans hG hz14
  refine W.eq (g2 := F0 m 19 ls [.int 0]) (by rw [hw14]) ?_
  refine lv_aload_n hx hb dX9_putInOrder_19 rfl (lv_at hl 1 rfl) ?_
  refine va_get (D := (dC, dI)) (ci := 8) (v := .ref h1) (C := RX9) (T := TX9) (N := 6) hx hb hts in_X9 hown hK hP 0 rfl rfl 1 (by decide) (hts _ q_64) (fun _ h9 => h9) rfl dX9_putInOrder_20 ?_
  have hM18 := k20_size l hl9 dC dI z h1 o1 H14.size 5 5
  obtain ⟨hF16, hC19⟩ := pc_M hM18 hP hD hK hS hX hT hA [1] [] rfl rfl rfl
  refine va_calli (va_runV (As := []) (rest := [.int 0]) ⟨hx, hb, hml, hown, hts⟩ hM18 (cwV 0 hts (gV q_272 q_77 q_78 q_12 q_75) rfl rfl rfl hV_Jx4a65c_size_8abf5 ⟨Nat.le_of_ble_eq_true rfl, Nat.le_of_ble_eq_true rfl⟩) ⟨pc_blind, va_recv hK hP (ci := 0) (q := (RJx4a65c, TJx4a65c, 3)) (q0 := 1) rfl rfl, fun U hU hW => ⟨rfl, hC19 U hU hW⟩⟩ rfl rfl hl.1 rfl (lv_room (Nat.le_of_ble_eq_true rfl)) dX9_putInOrder_23 ⟨(Nat.le_of_ble_eq_true rfl), (Nat.le_of_ble_eq_true rfl)⟩) hS (fun q9 _ h9 => hF16 q9 h9) hF16 (fun r21 u20 t20 H20 L20 ht20 hvm20 hw20 hB20 hz20 hk20 hS => ?_)
  have hP := pq_keep hP hD [1] rfl hk20 hB20.1 ht20
  have hG : s.heap.size + 1 ≤ H20.size := Nat.le_trans hG hz20
  refine W.eq (g2 := F0 m 26 ls [.int 5, .int 0]) (by rw [hw20]) ?_
  refine lv_icmp_ge (tgt := 165) hx hb dX9_putInOrder_26 (by decide) (fun cz => absurd cz (by decide)) (fun _ => ?_)
  refine lv_iconst (v := 0) hx hb dX9_putInOrder_29 (by decide) ?_
  refine lv_istore_n (lv' := [(2, .int 0), (1, .ref a1), (0, .ref h0)]) hx hb dX9_putInOrder_30 rfl hl (by decide) rfl (fun ls hl => ?_)
  refine lv_iload_n hx hb dX9_putInOrder_31 rfl (lv_at hl 0 rfl) ?_
  refine lv_aload_n hx hb dX9_putInOrder_32 rfl (lv_at hl 2 rfl) ?_
  refine va_get (D := (dC, dI)) (ci := 8) (v := .ref h1) (C := RX9) (T := TX9) (N := 6) hx hb hts in_X9 hown hK hP 0 rfl rfl 1 (by decide) (hts _ q_64) (fun _ h9 => h9) rfl dX9_putInOrder_33 ?_
  have hM24 := k20_size l hl9 dC dI z h1 o1 H20.size 5 5
  obtain ⟨hF22, hC25⟩ := pc_M hM24 hP hD hK hS hX hT hA [1] [] rfl rfl rfl
  refine va_calli (va_runV (As := []) (rest := [.int 0]) ⟨hx, hb, hml, hown, hts⟩ hM24 (cwV 0 hts (gV q_272 q_77 q_78 q_12 q_75) rfl rfl rfl hV_Jx4a65c_size_8abf5 ⟨Nat.le_of_ble_eq_true rfl, Nat.le_of_ble_eq_true rfl⟩) ⟨pc_blind, va_recv hK hP (ci := 0) (q := (RJx4a65c, TJx4a65c, 3)) (q0 := 1) rfl rfl, fun U hU hW => ⟨rfl, hC25 U hU hW⟩⟩ rfl rfl hl.1 rfl (lv_room (Nat.le_of_ble_eq_true rfl)) dX9_putInOrder_36 ⟨(Nat.le_of_ble_eq_true rfl), (Nat.le_of_ble_eq_true rfl)⟩) hS (fun q9 _ h9 => hF22 q9 h9) hF22 (fun r27 u26 t26 H26 L26 ht26 hvm26 hw26 hB26 hz26 hk26 hS => ?_)
  have hP := pq_keep hP hD [1] rfl hk26 hB26.1 ht26
  have hG : s.heap.size + 1 ≤ H26.size := Nat.le_trans hG hz26
  refine W.eq (g2 := F0 m 39 ls [.int 5, .int 0]) (by rw [hw26]) ?_
  refine lv_icmp_ge (tgt := 162) hx hb dX9_putInOrder_39 (by decide) (fun cz => absurd cz (by decide)) (fun _ => ?_)
  refine lv_aload_n hx hb dX9_putInOrder_42 rfl (lv_at hl 1 rfl) ?_
  refine lv_iload_n hx hb dX9_putInOrder_43 rfl (lv_at hl 0 rfl) ?_
  refine va_zald hx hb hK hP 3 0 rfl rfl (i := 0) (by unfold vp_in; decide) dX9_putInOrder_44 ?_
  refine W.eq (g2 := F0 m 45 ls [.int 0]) rfl ?_
  refine lv_if_ne (tgt := 52) hx hb dX9_putInOrder_45 (by decide) (fun cz => absurd (by decide) cz) (fun _ => ?_)
  refine lv_iconst (v := 1) hx hb dX9_putInOrder_48 (by decide) ?_
  refine lv_goto (tgt := 53) hx hb dX9_putInOrder_49 (by decide) ?_
  refine lv_istore_n (lv' := [(3, .int 1), (2, .int 0), (1, .ref a1), (0, .ref h0)]) hx hb dX9_putInOrder_53 rfl hl (by decide) rfl (fun ls hl => ?_)
  refine lv_aload_n hx hb dX9_putInOrder_54 rfl (lv_at hl 3 rfl) ?_
  refine va_get (D := (dC, dI)) (ci := 8) (v := .ref h2) (C := RX9) (T := TX9) (N := 6) hx hb hts in_X9 hown hK hP 0 rfl rfl 2 (by decide) (hts _ q_65) (fun _ h9 => h9) rfl dX9_putInOrder_55 ?_
  have hM30 := k49_iterator l hl9 dC dI z h2 H26.size
  obtain ⟨hF28, hC31⟩ := pc_M hM30 hP hD hK hS hX hT hA [2] [] rfl rfl rfl
  refine va_callr (va_runV (As := []) (rest := []) ⟨hx, hb, hml, hown, hts⟩ hM30 (cwV 0 hts (gV q_256 q_257 q_258 q_12 q_255) rfl rfl rfl hV_Jx4a65c_iterator_32c93 ⟨Nat.le_of_ble_eq_true rfl, Nat.le_of_ble_eq_true rfl⟩) ⟨pc_blind, va_recv hK hP (ci := 0) (q := (RJx4a65c, TJx4a65c, 3)) (q0 := 2) rfl rfl, fun U hU hW => ⟨rfl, hC31 U hU hW⟩⟩ rfl rfl hl.1 rfl (lv_room (Nat.le_of_ble_eq_true rfl)) dX9_putInOrder_58 ⟨(Nat.le_of_ble_eq_true rfl), (Nat.le_of_ble_eq_true rfl)⟩) hS (fun q9 _ h9 => hF28 q9 h9) hF28 (fun u32 r33 t32 H32 L32 ht32 hvm32 hw32 hB32 hz32 hk32 hS => ?_)
  obtain ⟨a34, hr32, hB32⟩ := hB32
  obtain ⟨hP, hD, hK⟩ := pq_jn (wz := [(h0, ce21 h1 h2 o0 h3), (h1, ce201 o1), (a1, ce51 k2), (h3, ce203 h4), (h4, ce208 kc0), (h2, ce3 z.1), (a34, ce44 h2)]) (tz := [(k2, .boolean), (kc0, .object "java/lang/Object")]) hP hD hK [2] [0, 1] rfl hk32 hF28 hB32.1 ht32 hvm32 rfl rfl
  have hG : s.heap.size + 2 ≤ H32.size := va_gr (g := 1) (g1 := 1) hG (by rw [← ht32]; exact hB32.2)
  refine W.eq (g2 := F0 m 61 ls [.ref a34]) (by rw [hr32]) ?_
  refine W.widen (k := 2) (n := 44) (by decide) (by decide) ?_
  refine lv_astore (lv' := [(4, .ref a34), (3, .int 1), (2, .int 0), (1, .ref a1), (0, .ref h0)]) hx hb dX9_putInOrder_61 hl (by decide) rfl (fun ls hl => ?_)
  refine lv_aload hx hb dX9_putInOrder_63 (lv_at hl 0 rfl) ?_
  have hM37 := k50_hasNext l hl9 dC dI z a34 h2 H32.size
  obtain ⟨hF35, hC38⟩ := pc_M hM37 hP hD hK hS hX hT hA [6, 5] [] rfl rfl rfl
  refine va_callFi (va_runF (As := []) (rest := []) (hK.1 1 (RJx35411, TJx35411, 4) rfl).2 ⟨hx, hb, hml, hown, hts⟩ hM37 (va_cwF 0 hts (gF q_261 q_262 q_263 q_246 q_260) rfl rfl rfl hT.2.2.2.2.2.2.1 hF_xIh ⟨Nat.le_of_ble_eq_true rfl, Nat.le_of_ble_eq_true rfl⟩) ⟨pc_blind, va_recv hK hP (ci := 1) (q := (RJx35411, TJx35411, 4)) (q0 := 6) rfl rfl, fun U hU hW => ⟨rfl, hC38 U hU hW⟩⟩ rfl rfl hl.1 rfl (lv_room (Nat.le_of_ble_eq_true rfl)) dX9_putInOrder_65 ⟨(Nat.le_of_ble_eq_true rfl), (Nat.le_of_ble_eq_true rfl)⟩) hS (fun q9 _ h9 => hF35 q9 h9) hF35 (fun r40 u39 t39 H39 L39 ht39 hvm39 hw39 hB39 hz39 hk39 hS => ?_)
  have hP := pq_keep hP hD [6, 5] rfl hk39 hB39.1 ht39
  have hG : s.heap.size + 2 ≤ H39.size := Nat.le_trans hG hz39
  refine W.eq (g2 := F0 m 70 ls [.int 0]) (by rw [hw39]) ?_
  refine lv_if_eq (tgt := 136) hx hb dX9_putInOrder_70 (by decide) (fun _ => ?_) (fun cz => absurd (by decide) cz)
  refine lv_iload_n hx hb dX9_putInOrder_136 rfl (lv_at hl 1 rfl) ?_
  refine lv_if_eq (tgt := 156) hx hb dX9_putInOrder_137 (by decide) (fun cz => absurd cz (by decide)) (fun _ => ?_)
  refine lv_aload_n hx hb dX9_putInOrder_140 rfl (lv_at hl 3 rfl) ?_
  refine lv_iload_n hx hb dX9_putInOrder_141 rfl (lv_at hl 2 rfl) ?_
  refine lv_iconst (v := 1) hx hb dX9_putInOrder_142 (by decide) ?_
  refine va_zast hx hb hK hP hD (va_Sre hS) 2 0 rfl rfl (i := 0) (by unfold vp_in; decide) dX9_putInOrder_143 (fun H41 _ hP hD hS' => ?_)
  have hG : s.heap.size + 2 ≤ H41.size := Nat.le_trans hG hS'.1
  have hS := va_Str hS hS'
  have hP : va_P (dC, dI) xCl [(h0, ce21 h1 h2 o0 h3), (h1, ce201 o1), (a1, ce52 k2), (h3, ce203 h4), (h4, ce208 kc0), (h2, ce3 z.1), (a34, ce44 h2)] H41 := hP
  have hD := vd_as hP hD rfl
  refine lv_aload_n hx hb dX9_putInOrder_144 rfl (lv_at hl 4 rfl) ?_
  refine va_get (D := (dC, dI)) (ci := 8) (v := .ref h3) (C := RX9) (T := TX9) (N := 6) hx hb hts in_X9 hown hK hP 0 rfl rfl 4 (by decide) (hts _ q_67) (fun _ h9 => h9) rfl dX9_putInOrder_145 ?_
  refine lv_iload_n hx hb dX9_putInOrder_148 rfl (lv_at hl 2 rfl) ?_
  have hM44 := k58_valueOf l hl9 dC dI z H41.size
  obtain ⟨hF42, hC45⟩ := pc_M hM44 hP hD hK hS hX hT hA [] [] rfl rfl rfl
  refine va_callr (va_runS (As := [.int 0]) (rest := [.ref h3]) ⟨hx, hb, hml, hown, hts⟩ hM44 (va_cwS 1 hts (gS q_295 q_296 q_297 q_294) rfl rfl rfl hS_J6_valueOf_2dffe ⟨Nat.le_of_ble_eq_true rfl, Nat.le_of_ble_eq_true rfl⟩) ⟨pc_blind, fun U hU hW => ⟨rfl, hC45 U hU hW⟩⟩ rfl rfl hl.1 rfl (lv_room (Nat.le_of_ble_eq_true rfl)) dX9_putInOrder_149 ⟨(Nat.le_of_ble_eq_true rfl), (Nat.le_of_ble_eq_true rfl)⟩) hS (fun q9 _ h9 => hF42 q9 h9) hF42 (fun u46 r47 t46 H46 L46 ht46 hvm46 hw46 hB46 hz46 hk46 hS => ?_)
  obtain ⟨hr46, hB46⟩ := hB46
  have hP := pq_keep hP hD [] rfl hk46 hB46.1 ht46
  have hG : s.heap.size + 2 ≤ H46.size := Nat.le_trans hG hz46
  refine W.eq (g2 := F0 m 152 ls [.ref (z.2.2.1 128), .ref h3]) (by rw [hr46]) ?_
  have hM50 := k428_add l hl9 dC dI z h3 h4 H46.size kc0
  obtain ⟨hF48, hC51⟩ := pc_M hM50 hP hD hK hS hX hT hA [3, 4] [1] rfl rfl rfl
  refine va_calli (va_runV (As := [.ref (z.2.2.1 128)]) (rest := []) ⟨hx, hb, hml, hown, hts⟩ hM50 (cwV 1 hts (gV q_284 q_128 q_129 q_12 q_126) rfl rfl rfl hV_Jx4a65c_add_9ea2d ⟨Nat.le_of_ble_eq_true rfl, Nat.le_of_ble_eq_true rfl⟩) ⟨pc_blind, va_recv hK hP (ci := 0) (q := (RJx4a65c, TJx4a65c, 3)) (q0 := 3) rfl rfl, fun U hU hW => ⟨rfl, hC51 U hU hW⟩⟩ rfl rfl hl.1 rfl (lv_room (Nat.le_of_ble_eq_true rfl)) dX9_putInOrder_152 ⟨(Nat.le_of_ble_eq_true rfl), (Nat.le_of_ble_eq_true rfl)⟩) hS (fun q9 _ h9 => hF48 q9 h9) hF48 (fun r53 u52 t52 H52 L52 ht52 hvm52 hw52 hB52 hz52 hk52 hS => ?_)
  obtain ⟨hP, hD, hK⟩ := pq_jn (wz := [(h0, ce21 h1 h2 o0 h3), (h1, ce201 o1), (a1, ce52 k2), (h2, ce3 z.1), (a34, ce44 h2), (h3, ce211 h4), (h4, ce212 kc0 (z.2.2.1 128))]) (tz := [(k2, .boolean), (kc0, .object "java/lang/Object")]) hP hD hK [3, 4] [0] rfl hk52 hF48 hB52.1 ht52 hvm52 rfl rfl
  have hG : s.heap.size + 2 ≤ H52.size := Nat.le_trans hG hz52
  refine W.eq (g2 := F0 m 155 ls [.int 1]) (by rw [hw52]) ?_
  refine lv_pop hx hb dX9_putInOrder_155 rfl ?_
  refine lv_iinc (v := 1) (lv' := [(2, .int 1), (4, .ref a34), (3, .int 1), (1, .ref a1), (0, .ref h0)]) hx hb dX9_putInOrder_156 hl (k := 2) rfl (by decide) (by decide) rfl (fun ls hl => ?_)
  refine lv_goto (tgt := 31) hx hb dX9_putInOrder_159 (by decide) ?_
  refine lv_iload_n hx hb dX9_putInOrder_31 rfl (lv_at hl 0 rfl) ?_
  refine lv_aload_n hx hb dX9_putInOrder_32 rfl (lv_at hl 4 rfl) ?_
  refine va_get (D := (dC, dI)) (ci := 8) (v := .ref h1) (C := RX9) (T := TX9) (N := 6) hx hb hts in_X9 hown hK hP 0 rfl rfl 1 (by decide) (hts _ q_64) (fun _ h9 => h9) rfl dX9_putInOrder_33 ?_
  have hM56 := k20_size l hl9 dC dI z h1 o1 H52.size 5 5
  obtain ⟨hF54, hC57⟩ := pc_M hM56 hP hD hK hS hX hT hA [1] [] rfl rfl rfl
  refine va_calli (va_runV (As := []) (rest := [.int 1]) ⟨hx, hb, hml, hown, hts⟩ hM56 (cwV 0 hts (gV q_272 q_77 q_78 q_12 q_75) rfl rfl rfl hV_Jx4a65c_size_8abf5 ⟨Nat.le_of_ble_eq_true rfl, Nat.le_of_ble_eq_true rfl⟩) ⟨pc_blind, va_recv hK hP (ci := 0) (q := (RJx4a65c, TJx4a65c, 3)) (q0 := 1) rfl rfl, fun U hU hW => ⟨rfl, hC57 U hU hW⟩⟩ rfl rfl hl.1 rfl (lv_room (Nat.le_of_ble_eq_true rfl)) dX9_putInOrder_36 ⟨(Nat.le_of_ble_eq_true rfl), (Nat.le_of_ble_eq_true rfl)⟩) hS (fun q9 _ h9 => hF54 q9 h9) hF54 (fun r59 u58 t58 H58 L58 ht58 hvm58 hw58 hB58 hz58 hk58 hS => ?_)
  have hP := pq_keep hP hD [1] rfl hk58 hB58.1 ht58
  have hG : s.heap.size + 2 ≤ H58.size := Nat.le_trans hG hz58
  refine W.eq (g2 := F0 m 39 ls [.int 5, .int 1]) (by rw [hw58]) ?_
  refine lv_icmp_ge (tgt := 162) hx hb dX9_putInOrder_39 (by decide) (fun cz => absurd cz (by decide)) (fun _ => ?_)
  refine lv_aload_n hx hb dX9_putInOrder_42 rfl (lv_at hl 3 rfl) ?_
  refine lv_iload_n hx hb dX9_putInOrder_43 rfl (lv_at hl 0 rfl) ?_
  refine va_zald hx hb hK hP 2 0 rfl rfl (i := 1) (by unfold vp_in; decide) dX9_putInOrder_44 ?_
  refine W.eq (g2 := F0 m 45 ls [.int 0]) rfl ?_
  refine lv_if_ne (tgt := 52) hx hb dX9_putInOrder_45 (by decide) (fun cz => absurd (by decide) cz) (fun _ => ?_)
  refine lv_iconst (v := 1) hx hb dX9_putInOrder_48 (by decide) ?_
  refine lv_goto (tgt := 53) hx hb dX9_putInOrder_49 (by decide) ?_
  refine lv_istore_n (lv' := [(3, .int 1), (2, .int 1), (4, .ref a34), (1, .ref a1), (0, .ref h0)]) hx hb dX9_putInOrder_53 rfl hl (by decide) rfl (fun ls hl => ?_)
  refine lv_aload_n hx hb dX9_putInOrder_54 rfl (lv_at hl 4 rfl) ?_
  refine va_get (D := (dC, dI)) (ci := 8) (v := .ref h2) (C := RX9) (T := TX9) (N := 6) hx hb hts in_X9 hown hK hP 0 rfl rfl 2 (by decide) (hts _ q_65) (fun _ h9 => h9) rfl dX9_putInOrder_55 ?_
  have hM62 := k49_iterator l hl9 dC dI z h2 H58.size
  obtain ⟨hF60, hC63⟩ := pc_M hM62 hP hD hK hS hX hT hA [3] [] rfl rfl rfl
  refine va_callr (va_runV (As := []) (rest := []) ⟨hx, hb, hml, hown, hts⟩ hM62 (cwV 0 hts (gV q_256 q_257 q_258 q_12 q_255) rfl rfl rfl hV_Jx4a65c_iterator_32c93 ⟨Nat.le_of_ble_eq_true rfl, Nat.le_of_ble_eq_true rfl⟩) ⟨pc_blind, va_recv hK hP (ci := 0) (q := (RJx4a65c, TJx4a65c, 3)) (q0 := 3) rfl rfl, fun U hU hW => ⟨rfl, hC63 U hU hW⟩⟩ rfl rfl hl.1 rfl (lv_room (Nat.le_of_ble_eq_true rfl)) dX9_putInOrder_58 ⟨(Nat.le_of_ble_eq_true rfl), (Nat.le_of_ble_eq_true rfl)⟩) hS (fun q9 _ h9 => hF60 q9 h9) hF60 (fun u64 r65 t64 H64 L64 ht64 hvm64 hw64 hB64 hz64 hk64 hS => ?_)
  obtain ⟨a66, hr64, hB64⟩ := hB64
  obtain ⟨hP, hD, hK⟩ := pq_jn (wz := [(h0, ce21 h1 h2 o0 h3), (h1, ce201 o1), (a1, ce52 k2), (a34, ce44 h2), (h3, ce211 h4), (h4, ce212 kc0 (z.2.2.1 128)), (h2, ce3 z.1), (a66, ce44 h2)]) (tz := [(k2, .boolean), (kc0, .object "java/lang/Object")]) hP hD hK [3] [0, 1] rfl hk64 hF60 hB64.1 ht64 hvm64 rfl rfl
  have hG : s.heap.size + 3 ≤ H64.size := va_gr (g := 2) (g1 := 1) hG (by rw [← ht64]; exact hB64.2)
  refine W.eq (g2 := F0 m 61 ls [.ref a66]) (by rw [hr64]) ?_
  refine W.widen (k := 3) (n := 48) (by decide) (by decide) ?_
  refine lv_astore (lv' := [(4, .ref a66), (3, .int 1), (2, .int 1), (1, .ref a1), (0, .ref h0)]) hx hb dX9_putInOrder_61 hl (by decide) rfl (fun ls hl => ?_)
  refine lv_aload hx hb dX9_putInOrder_63 (lv_at hl 0 rfl) ?_
  have hM69 := k50_hasNext l hl9 dC dI z a66 h2 H64.size
  obtain ⟨hF67, hC70⟩ := pc_M hM69 hP hD hK hS hX hT hA [7, 6] [] rfl rfl rfl
  refine va_callFi (va_runF (As := []) (rest := []) (hK.1 1 (RJx35411, TJx35411, 4) rfl).2 ⟨hx, hb, hml, hown, hts⟩ hM69 (va_cwF 0 hts (gF q_261 q_262 q_263 q_246 q_260) rfl rfl rfl hT.2.2.2.2.2.2.1 hF_xIh ⟨Nat.le_of_ble_eq_true rfl, Nat.le_of_ble_eq_true rfl⟩) ⟨pc_blind, va_recv hK hP (ci := 1) (q := (RJx35411, TJx35411, 4)) (q0 := 7) rfl rfl, fun U hU hW => ⟨rfl, hC70 U hU hW⟩⟩ rfl rfl hl.1 rfl (lv_room (Nat.le_of_ble_eq_true rfl)) dX9_putInOrder_65 ⟨(Nat.le_of_ble_eq_true rfl), (Nat.le_of_ble_eq_true rfl)⟩) hS (fun q9 _ h9 => hF67 q9 h9) hF67 (fun r72 u71 t71 H71 L71 ht71 hvm71 hw71 hB71 hz71 hk71 hS => ?_)
  have hP := pq_keep hP hD [7, 6] rfl hk71 hB71.1 ht71
  have hG : s.heap.size + 3 ≤ H71.size := Nat.le_trans hG hz71
  refine W.eq (g2 := F0 m 70 ls [.int 0]) (by rw [hw71]) ?_
  refine lv_if_eq (tgt := 136) hx hb dX9_putInOrder_70 (by decide) (fun _ => ?_) (fun cz => absurd (by decide) cz)
  refine lv_iload_n hx hb dX9_putInOrder_136 rfl (lv_at hl 1 rfl) ?_
  refine lv_if_eq (tgt := 156) hx hb dX9_putInOrder_137 (by decide) (fun cz => absurd cz (by decide)) (fun _ => ?_)
  refine lv_aload_n hx hb dX9_putInOrder_140 rfl (lv_at hl 3 rfl) ?_
  refine lv_iload_n hx hb dX9_putInOrder_141 rfl (lv_at hl 2 rfl) ?_
  refine lv_iconst (v := 1) hx hb dX9_putInOrder_142 (by decide) ?_
  refine va_zast hx hb hK hP hD (va_Sre hS) 2 0 rfl rfl (i := 1) (by unfold vp_in; decide) dX9_putInOrder_143 (fun H73 _ hP hD hS' => ?_)
  have hG : s.heap.size + 3 ≤ H73.size := Nat.le_trans hG hS'.1
  have hS := va_Str hS hS'
  have hP : va_P (dC, dI) xCl [(h0, ce21 h1 h2 o0 h3), (h1, ce201 o1), (a1, ce82 k2), (a34, ce44 h2), (h3, ce211 h4), (h4, ce212 kc0 (z.2.2.1 128)), (h2, ce3 z.1), (a66, ce44 h2)] H73 := hP
  have hD := vd_as hP hD rfl
  refine lv_aload_n hx hb dX9_putInOrder_144 rfl (lv_at hl 4 rfl) ?_
  refine va_get (D := (dC, dI)) (ci := 8) (v := .ref h3) (C := RX9) (T := TX9) (N := 6) hx hb hts in_X9 hown hK hP 0 rfl rfl 4 (by decide) (hts _ q_67) (fun _ h9 => h9) rfl dX9_putInOrder_145 ?_
  refine lv_iload_n hx hb dX9_putInOrder_148 rfl (lv_at hl 2 rfl) ?_
  have hM76 := k129_valueOf l hl9 dC dI z H73.size
  obtain ⟨hF74, hC77⟩ := pc_M hM76 hP hD hK hS hX hT hA [] [] rfl rfl rfl
  refine va_callr (va_runS (As := [.int 1]) (rest := [.ref h3]) ⟨hx, hb, hml, hown, hts⟩ hM76 (va_cwS 1 hts (gS q_295 q_296 q_297 q_294) rfl rfl rfl hS_J6_valueOf_2dffe ⟨Nat.le_of_ble_eq_true rfl, Nat.le_of_ble_eq_true rfl⟩) ⟨pc_blind, fun U hU hW => ⟨rfl, hC77 U hU hW⟩⟩ rfl rfl hl.1 rfl (lv_room (Nat.le_of_ble_eq_true rfl)) dX9_putInOrder_149 ⟨(Nat.le_of_ble_eq_true rfl), (Nat.le_of_ble_eq_true rfl)⟩) hS (fun q9 _ h9 => hF74 q9 h9) hF74 (fun u78 r79 t78 H78 L78 ht78 hvm78 hw78 hB78 hz78 hk78 hS => ?_)
  obtain ⟨hr78, hB78⟩ := hB78
  have hP := pq_keep hP hD [] rfl hk78 hB78.1 ht78
  have hG : s.heap.size + 3 ≤ H78.size := Nat.le_trans hG hz78
  refine W.eq (g2 := F0 m 152 ls [.ref (z.2.2.1 129), .ref h3]) (by rw [hr78]) ?_
  have hM82 := k430_add l hl9 dC dI z h3 h4 H78.size kc0
  obtain ⟨hF80, hC83⟩ := pc_M hM82 hP hD hK hS hX hT hA [4, 5] [1] rfl rfl rfl
  refine va_calli (va_runV (As := [.ref (z.2.2.1 129)]) (rest := []) ⟨hx, hb, hml, hown, hts⟩ hM82 (cwV 1 hts (gV q_284 q_128 q_129 q_12 q_126) rfl rfl rfl hV_Jx4a65c_add_9ea2d ⟨Nat.le_of_ble_eq_true rfl, Nat.le_of_ble_eq_true rfl⟩) ⟨pc_blind, va_recv hK hP (ci := 0) (q := (RJx4a65c, TJx4a65c, 3)) (q0 := 4) rfl rfl, fun U hU hW => ⟨rfl, hC83 U hU hW⟩⟩ rfl rfl hl.1 rfl (lv_room (Nat.le_of_ble_eq_true rfl)) dX9_putInOrder_152 ⟨(Nat.le_of_ble_eq_true rfl), (Nat.le_of_ble_eq_true rfl)⟩) hS (fun q9 _ h9 => hF80 q9 h9) hF80 (fun r85 u84 t84 H84 L84 ht84 hvm84 hw84 hB84 hz84 hk84 hS => ?_)
  obtain ⟨hP, hD, hK⟩ := pq_jn (wz := [(h0, ce21 h1 h2 o0 h3), (h1, ce201 o1), (a1, ce82 k2), (a34, ce44 h2), (h2, ce3 z.1), (a66, ce44 h2), (h3, ce215 h4), (h4, ce216 kc0 (z.2.2.1 128) (z.2.2.1 129))]) (tz := [(k2, .boolean), (kc0, .object "java/lang/Object")]) hP hD hK [4, 5] [0] rfl hk84 hF80 hB84.1 ht84 hvm84 rfl rfl
  have hG : s.heap.size + 3 ≤ H84.size := Nat.le_trans hG hz84
  refine W.eq (g2 := F0 m 155 ls [.int 1]) (by rw [hw84]) ?_
  refine lv_pop hx hb dX9_putInOrder_155 rfl ?_
  refine lv_iinc (v := 2) (lv' := [(2, .int 2), (4, .ref a66), (3, .int 1), (1, .ref a1), (0, .ref h0)]) hx hb dX9_putInOrder_156 hl (k := 2) rfl (by decide) (by decide) rfl (fun ls hl => ?_)
  refine lv_goto (tgt := 31) hx hb dX9_putInOrder_159 (by decide) ?_
  refine lv_iload_n hx hb dX9_putInOrder_31 rfl (lv_at hl 0 rfl) ?_
  refine lv_aload_n hx hb dX9_putInOrder_32 rfl (lv_at hl 4 rfl) ?_
  refine va_get (D := (dC, dI)) (ci := 8) (v := .ref h1) (C := RX9) (T := TX9) (N := 6) hx hb hts in_X9 hown hK hP 0 rfl rfl 1 (by decide) (hts _ q_64) (fun _ h9 => h9) rfl dX9_putInOrder_33 ?_
  have hM88 := k20_size l hl9 dC dI z h1 o1 H84.size 5 5
  obtain ⟨hF86, hC89⟩ := pc_M hM88 hP hD hK hS hX hT hA [1] [] rfl rfl rfl
  refine va_calli (va_runV (As := []) (rest := [.int 2]) ⟨hx, hb, hml, hown, hts⟩ hM88 (cwV 0 hts (gV q_272 q_77 q_78 q_12 q_75) rfl rfl rfl hV_Jx4a65c_size_8abf5 ⟨Nat.le_of_ble_eq_true rfl, Nat.le_of_ble_eq_true rfl⟩) ⟨pc_blind, va_recv hK hP (ci := 0) (q := (RJx4a65c, TJx4a65c, 3)) (q0 := 1) rfl rfl, fun U hU hW => ⟨rfl, hC89 U hU hW⟩⟩ rfl rfl hl.1 rfl (lv_room (Nat.le_of_ble_eq_true rfl)) dX9_putInOrder_36 ⟨(Nat.le_of_ble_eq_true rfl), (Nat.le_of_ble_eq_true rfl)⟩) hS (fun q9 _ h9 => hF86 q9 h9) hF86 (fun r91 u90 t90 H90 L90 ht90 hvm90 hw90 hB90 hz90 hk90 hS => ?_)
  have hP := pq_keep hP hD [1] rfl hk90 hB90.1 ht90
  have hG : s.heap.size + 3 ≤ H90.size := Nat.le_trans hG hz90
  refine W.eq (g2 := F0 m 39 ls [.int 5, .int 2]) (by rw [hw90]) ?_
  refine lv_icmp_ge (tgt := 162) hx hb dX9_putInOrder_39 (by decide) (fun cz => absurd cz (by decide)) (fun _ => ?_)
  refine lv_aload_n hx hb dX9_putInOrder_42 rfl (lv_at hl 3 rfl) ?_
  refine lv_iload_n hx hb dX9_putInOrder_43 rfl (lv_at hl 0 rfl) ?_
  refine va_zald hx hb hK hP 2 0 rfl rfl (i := 2) (by unfold vp_in; decide) dX9_putInOrder_44 ?_
  refine W.eq (g2 := F0 m 45 ls [.int 0]) rfl ?_
  refine lv_if_ne (tgt := 52) hx hb dX9_putInOrder_45 (by decide) (fun cz => absurd (by decide) cz) (fun _ => ?_)
  refine lv_iconst (v := 1) hx hb dX9_putInOrder_48 (by decide) ?_
  refine lv_goto (tgt := 53) hx hb dX9_putInOrder_49 (by decide) ?_
  refine lv_istore_n (lv' := [(3, .int 1), (2, .int 2), (4, .ref a66), (1, .ref a1), (0, .ref h0)]) hx hb dX9_putInOrder_53 rfl hl (by decide) rfl (fun ls hl => ?_)
  refine lv_aload_n hx hb dX9_putInOrder_54 rfl (lv_at hl 4 rfl) ?_
  refine va_get (D := (dC, dI)) (ci := 8) (v := .ref h2) (C := RX9) (T := TX9) (N := 6) hx hb hts in_X9 hown hK hP 0 rfl rfl 2 (by decide) (hts _ q_65) (fun _ h9 => h9) rfl dX9_putInOrder_55 ?_
  have hM94 := k49_iterator l hl9 dC dI z h2 H90.size
  obtain ⟨hF92, hC95⟩ := pc_M hM94 hP hD hK hS hX hT hA [4] [] rfl rfl rfl
  refine va_callr (va_runV (As := []) (rest := []) ⟨hx, hb, hml, hown, hts⟩ hM94 (cwV 0 hts (gV q_256 q_257 q_258 q_12 q_255) rfl rfl rfl hV_Jx4a65c_iterator_32c93 ⟨Nat.le_of_ble_eq_true rfl, Nat.le_of_ble_eq_true rfl⟩) ⟨pc_blind, va_recv hK hP (ci := 0) (q := (RJx4a65c, TJx4a65c, 3)) (q0 := 4) rfl rfl, fun U hU hW => ⟨rfl, hC95 U hU hW⟩⟩ rfl rfl hl.1 rfl (lv_room (Nat.le_of_ble_eq_true rfl)) dX9_putInOrder_58 ⟨(Nat.le_of_ble_eq_true rfl), (Nat.le_of_ble_eq_true rfl)⟩) hS (fun q9 _ h9 => hF92 q9 h9) hF92 (fun u96 r97 t96 H96 L96 ht96 hvm96 hw96 hB96 hz96 hk96 hS => ?_)
  obtain ⟨a98, hr96, hB96⟩ := hB96
  obtain ⟨hP, hD, hK⟩ := pq_jn (wz := [(h0, ce21 h1 h2 o0 h3), (h1, ce201 o1), (a1, ce82 k2), (a34, ce44 h2), (a66, ce44 h2), (h3, ce215 h4), (h4, ce216 kc0 (z.2.2.1 128) (z.2.2.1 129)), (h2, ce3 z.1), (a98, ce44 h2)]) (tz := [(k2, .boolean), (kc0, .object "java/lang/Object")]) hP hD hK [4] [0, 1] rfl hk96 hF92 hB96.1 ht96 hvm96 rfl rfl
  have hG : s.heap.size + 4 ≤ H96.size := va_gr (g := 3) (g1 := 1) hG (by rw [← ht96]; exact hB96.2)
  refine W.eq (g2 := F0 m 61 ls [.ref a98]) (by rw [hr96]) ?_
  refine W.widen (k := 4) (n := 52) (by decide) (by decide) ?_
  refine lv_astore (lv' := [(4, .ref a98), (3, .int 1), (2, .int 2), (1, .ref a1), (0, .ref h0)]) hx hb dX9_putInOrder_61 hl (by decide) rfl (fun ls hl => ?_)
  refine lv_aload hx hb dX9_putInOrder_63 (lv_at hl 0 rfl) ?_
  have hM101 := k50_hasNext l hl9 dC dI z a98 h2 H96.size
  obtain ⟨hF99, hC102⟩ := pc_M hM101 hP hD hK hS hX hT hA [8, 7] [] rfl rfl rfl
  refine va_callFi (va_runF (As := []) (rest := []) (hK.1 1 (RJx35411, TJx35411, 4) rfl).2 ⟨hx, hb, hml, hown, hts⟩ hM101 (va_cwF 0 hts (gF q_261 q_262 q_263 q_246 q_260) rfl rfl rfl hT.2.2.2.2.2.2.1 hF_xIh ⟨Nat.le_of_ble_eq_true rfl, Nat.le_of_ble_eq_true rfl⟩) ⟨pc_blind, va_recv hK hP (ci := 1) (q := (RJx35411, TJx35411, 4)) (q0 := 8) rfl rfl, fun U hU hW => ⟨rfl, hC102 U hU hW⟩⟩ rfl rfl hl.1 rfl (lv_room (Nat.le_of_ble_eq_true rfl)) dX9_putInOrder_65 ⟨(Nat.le_of_ble_eq_true rfl), (Nat.le_of_ble_eq_true rfl)⟩) hS (fun q9 _ h9 => hF99 q9 h9) hF99 (fun r104 u103 t103 H103 L103 ht103 hvm103 hw103 hB103 hz103 hk103 hS => ?_)
  have hP := pq_keep hP hD [8, 7] rfl hk103 hB103.1 ht103
  have hG : s.heap.size + 4 ≤ H103.size := Nat.le_trans hG hz103
  refine W.eq (g2 := F0 m 70 ls [.int 0]) (by rw [hw103]) ?_
  refine lv_if_eq (tgt := 136) hx hb dX9_putInOrder_70 (by decide) (fun _ => ?_) (fun cz => absurd (by decide) cz)
  refine lv_iload_n hx hb dX9_putInOrder_136 rfl (lv_at hl 1 rfl) ?_
  refine lv_if_eq (tgt := 156) hx hb dX9_putInOrder_137 (by decide) (fun cz => absurd cz (by decide)) (fun _ => ?_)
  refine lv_aload_n hx hb dX9_putInOrder_140 rfl (lv_at hl 3 rfl) ?_
  refine lv_iload_n hx hb dX9_putInOrder_141 rfl (lv_at hl 2 rfl) ?_
  refine lv_iconst (v := 1) hx hb dX9_putInOrder_142 (by decide) ?_
  refine va_zast hx hb hK hP hD (va_Sre hS) 2 0 rfl rfl (i := 2) (by unfold vp_in; decide) dX9_putInOrder_143 (fun H105 _ hP hD hS' => ?_)
  have hG : s.heap.size + 4 ≤ H105.size := Nat.le_trans hG hS'.1
  have hS := va_Str hS hS'
  have hP : va_P (dC, dI) xCl [(h0, ce21 h1 h2 o0 h3), (h1, ce201 o1), (a1, ce120 k2), (a34, ce44 h2), (a66, ce44 h2), (h3, ce215 h4), (h4, ce216 kc0 (z.2.2.1 128) (z.2.2.1 129)), (h2, ce3 z.1), (a98, ce44 h2)] H105 := hP
  have hD := vd_as hP hD rfl
  refine lv_aload_n hx hb dX9_putInOrder_144 rfl (lv_at hl 4 rfl) ?_
  refine va_get (D := (dC, dI)) (ci := 8) (v := .ref h3) (C := RX9) (T := TX9) (N := 6) hx hb hts in_X9 hown hK hP 0 rfl rfl 4 (by decide) (hts _ q_67) (fun _ h9 => h9) rfl dX9_putInOrder_145 ?_
  refine lv_iload_n hx hb dX9_putInOrder_148 rfl (lv_at hl 2 rfl) ?_
  have hM108 := k215_valueOf l hl9 dC dI z H105.size
  obtain ⟨hF106, hC109⟩ := pc_M hM108 hP hD hK hS hX hT hA [] [] rfl rfl rfl
  refine va_callr (va_runS (As := [.int 2]) (rest := [.ref h3]) ⟨hx, hb, hml, hown, hts⟩ hM108 (va_cwS 1 hts (gS q_295 q_296 q_297 q_294) rfl rfl rfl hS_J6_valueOf_2dffe ⟨Nat.le_of_ble_eq_true rfl, Nat.le_of_ble_eq_true rfl⟩) ⟨pc_blind, fun U hU hW => ⟨rfl, hC109 U hU hW⟩⟩ rfl rfl hl.1 rfl (lv_room (Nat.le_of_ble_eq_true rfl)) dX9_putInOrder_149 ⟨(Nat.le_of_ble_eq_true rfl), (Nat.le_of_ble_eq_true rfl)⟩) hS (fun q9 _ h9 => hF106 q9 h9) hF106 (fun u110 r111 t110 H110 L110 ht110 hvm110 hw110 hB110 hz110 hk110 hS => ?_)
  obtain ⟨hr110, hB110⟩ := hB110
  have hP := pq_keep hP hD [] rfl hk110 hB110.1 ht110
  have hG : s.heap.size + 4 ≤ H110.size := Nat.le_trans hG hz110
  refine W.eq (g2 := F0 m 152 ls [.ref (z.2.2.1 130), .ref h3]) (by rw [hr110]) ?_
  have hM114 := k432_add l hl9 dC dI z h3 h4 H110.size kc0
  obtain ⟨hF112, hC115⟩ := pc_M hM114 hP hD hK hS hX hT hA [5, 6] [1] rfl rfl rfl
  refine va_calli (va_runV (As := [.ref (z.2.2.1 130)]) (rest := []) ⟨hx, hb, hml, hown, hts⟩ hM114 (cwV 1 hts (gV q_284 q_128 q_129 q_12 q_126) rfl rfl rfl hV_Jx4a65c_add_9ea2d ⟨Nat.le_of_ble_eq_true rfl, Nat.le_of_ble_eq_true rfl⟩) ⟨pc_blind, va_recv hK hP (ci := 0) (q := (RJx4a65c, TJx4a65c, 3)) (q0 := 5) rfl rfl, fun U hU hW => ⟨rfl, hC115 U hU hW⟩⟩ rfl rfl hl.1 rfl (lv_room (Nat.le_of_ble_eq_true rfl)) dX9_putInOrder_152 ⟨(Nat.le_of_ble_eq_true rfl), (Nat.le_of_ble_eq_true rfl)⟩) hS (fun q9 _ h9 => hF112 q9 h9) hF112 (fun r117 u116 t116 H116 L116 ht116 hvm116 hw116 hB116 hz116 hk116 hS => ?_)
  obtain ⟨hP, hD, hK⟩ := pq_jn (wz := [(h0, ce21 h1 h2 o0 h3), (h1, ce201 o1), (a1, ce120 k2), (a34, ce44 h2), (a66, ce44 h2), (h2, ce3 z.1), (a98, ce44 h2), (h3, ce219 h4), (h4, ce220 kc0 (z.2.2.1 128) (z.2.2.1 129) (z.2.2.1 130))]) (tz := [(k2, .boolean), (kc0, .object "java/lang/Object")]) hP hD hK [5, 6] [0] rfl hk116 hF112 hB116.1 ht116 hvm116 rfl rfl
  have hG : s.heap.size + 4 ≤ H116.size := Nat.le_trans hG hz116
  refine W.eq (g2 := F0 m 155 ls [.int 1]) (by rw [hw116]) ?_
  refine lv_pop hx hb dX9_putInOrder_155 rfl ?_
  refine lv_iinc (v := 3) (lv' := [(2, .int 3), (4, .ref a98), (3, .int 1), (1, .ref a1), (0, .ref h0)]) hx hb dX9_putInOrder_156 hl (k := 2) rfl (by decide) (by decide) rfl (fun ls hl => ?_)
  refine lv_goto (tgt := 31) hx hb dX9_putInOrder_159 (by decide) ?_
  refine lv_iload_n hx hb dX9_putInOrder_31 rfl (lv_at hl 0 rfl) ?_
  refine lv_aload_n hx hb dX9_putInOrder_32 rfl (lv_at hl 4 rfl) ?_
  refine va_get (D := (dC, dI)) (ci := 8) (v := .ref h1) (C := RX9) (T := TX9) (N := 6) hx hb hts in_X9 hown hK hP 0 rfl rfl 1 (by decide) (hts _ q_64) (fun _ h9 => h9) rfl dX9_putInOrder_33 ?_
  have hM120 := k20_size l hl9 dC dI z h1 o1 H116.size 5 5
  obtain ⟨hF118, hC121⟩ := pc_M hM120 hP hD hK hS hX hT hA [1] [] rfl rfl rfl
  refine va_calli (va_runV (As := []) (rest := [.int 3]) ⟨hx, hb, hml, hown, hts⟩ hM120 (cwV 0 hts (gV q_272 q_77 q_78 q_12 q_75) rfl rfl rfl hV_Jx4a65c_size_8abf5 ⟨Nat.le_of_ble_eq_true rfl, Nat.le_of_ble_eq_true rfl⟩) ⟨pc_blind, va_recv hK hP (ci := 0) (q := (RJx4a65c, TJx4a65c, 3)) (q0 := 1) rfl rfl, fun U hU hW => ⟨rfl, hC121 U hU hW⟩⟩ rfl rfl hl.1 rfl (lv_room (Nat.le_of_ble_eq_true rfl)) dX9_putInOrder_36 ⟨(Nat.le_of_ble_eq_true rfl), (Nat.le_of_ble_eq_true rfl)⟩) hS (fun q9 _ h9 => hF118 q9 h9) hF118 (fun r123 u122 t122 H122 L122 ht122 hvm122 hw122 hB122 hz122 hk122 hS => ?_)
  have hP := pq_keep hP hD [1] rfl hk122 hB122.1 ht122
  have hG : s.heap.size + 4 ≤ H122.size := Nat.le_trans hG hz122
  refine W.eq (g2 := F0 m 39 ls [.int 5, .int 3]) (by rw [hw122]) ?_
  refine lv_icmp_ge (tgt := 162) hx hb dX9_putInOrder_39 (by decide) (fun cz => absurd cz (by decide)) (fun _ => ?_)
  refine lv_aload_n hx hb dX9_putInOrder_42 rfl (lv_at hl 3 rfl) ?_
  refine lv_iload_n hx hb dX9_putInOrder_43 rfl (lv_at hl 0 rfl) ?_
  refine va_zald hx hb hK hP 2 0 rfl rfl (i := 3) (by unfold vp_in; decide) dX9_putInOrder_44 ?_
  refine W.eq (g2 := F0 m 45 ls [.int 0]) rfl ?_
  refine lv_if_ne (tgt := 52) hx hb dX9_putInOrder_45 (by decide) (fun cz => absurd (by decide) cz) (fun _ => ?_)
  refine lv_iconst (v := 1) hx hb dX9_putInOrder_48 (by decide) ?_
  refine lv_goto (tgt := 53) hx hb dX9_putInOrder_49 (by decide) ?_
  refine lv_istore_n (lv' := [(3, .int 1), (2, .int 3), (4, .ref a98), (1, .ref a1), (0, .ref h0)]) hx hb dX9_putInOrder_53 rfl hl (by decide) rfl (fun ls hl => ?_)
  refine lv_aload_n hx hb dX9_putInOrder_54 rfl (lv_at hl 4 rfl) ?_
  refine va_get (D := (dC, dI)) (ci := 8) (v := .ref h2) (C := RX9) (T := TX9) (N := 6) hx hb hts in_X9 hown hK hP 0 rfl rfl 2 (by decide) (hts _ q_65) (fun _ h9 => h9) rfl dX9_putInOrder_55 ?_
  have hM126 := k49_iterator l hl9 dC dI z h2 H122.size
  obtain ⟨hF124, hC127⟩ := pc_M hM126 hP hD hK hS hX hT hA [5] [] rfl rfl rfl
  refine va_callr (va_runV (As := []) (rest := []) ⟨hx, hb, hml, hown, hts⟩ hM126 (cwV 0 hts (gV q_256 q_257 q_258 q_12 q_255) rfl rfl rfl hV_Jx4a65c_iterator_32c93 ⟨Nat.le_of_ble_eq_true rfl, Nat.le_of_ble_eq_true rfl⟩) ⟨pc_blind, va_recv hK hP (ci := 0) (q := (RJx4a65c, TJx4a65c, 3)) (q0 := 5) rfl rfl, fun U hU hW => ⟨rfl, hC127 U hU hW⟩⟩ rfl rfl hl.1 rfl (lv_room (Nat.le_of_ble_eq_true rfl)) dX9_putInOrder_58 ⟨(Nat.le_of_ble_eq_true rfl), (Nat.le_of_ble_eq_true rfl)⟩) hS (fun q9 _ h9 => hF124 q9 h9) hF124 (fun u128 r129 t128 H128 L128 ht128 hvm128 hw128 hB128 hz128 hk128 hS => ?_)
  obtain ⟨a130, hr128, hB128⟩ := hB128
  obtain ⟨hP, hD, hK⟩ := pq_jn (wz := [(h0, ce21 h1 h2 o0 h3), (h1, ce201 o1), (a1, ce120 k2), (a34, ce44 h2), (a66, ce44 h2), (a98, ce44 h2), (h3, ce219 h4), (h4, ce220 kc0 (z.2.2.1 128) (z.2.2.1 129) (z.2.2.1 130)), (h2, ce3 z.1), (a130, ce44 h2)]) (tz := [(k2, .boolean), (kc0, .object "java/lang/Object")]) hP hD hK [5] [0, 1] rfl hk128 hF124 hB128.1 ht128 hvm128 rfl rfl
  have hG : s.heap.size + 5 ≤ H128.size := va_gr (g := 4) (g1 := 1) hG (by rw [← ht128]; exact hB128.2)
  refine W.eq (g2 := F0 m 61 ls [.ref a130]) (by rw [hr128]) ?_
  refine W.widen (k := 5) (n := 56) (by decide) (by decide) ?_
  refine lv_astore (lv' := [(4, .ref a130), (3, .int 1), (2, .int 3), (1, .ref a1), (0, .ref h0)]) hx hb dX9_putInOrder_61 hl (by decide) rfl (fun ls hl => ?_)
  refine lv_aload hx hb dX9_putInOrder_63 (lv_at hl 0 rfl) ?_
  have hM133 := k50_hasNext l hl9 dC dI z a130 h2 H128.size
  obtain ⟨hF131, hC134⟩ := pc_M hM133 hP hD hK hS hX hT hA [9, 8] [] rfl rfl rfl
  refine va_callFi (va_runF (As := []) (rest := []) (hK.1 1 (RJx35411, TJx35411, 4) rfl).2 ⟨hx, hb, hml, hown, hts⟩ hM133 (va_cwF 0 hts (gF q_261 q_262 q_263 q_246 q_260) rfl rfl rfl hT.2.2.2.2.2.2.1 hF_xIh ⟨Nat.le_of_ble_eq_true rfl, Nat.le_of_ble_eq_true rfl⟩) ⟨pc_blind, va_recv hK hP (ci := 1) (q := (RJx35411, TJx35411, 4)) (q0 := 9) rfl rfl, fun U hU hW => ⟨rfl, hC134 U hU hW⟩⟩ rfl rfl hl.1 rfl (lv_room (Nat.le_of_ble_eq_true rfl)) dX9_putInOrder_65 ⟨(Nat.le_of_ble_eq_true rfl), (Nat.le_of_ble_eq_true rfl)⟩) hS (fun q9 _ h9 => hF131 q9 h9) hF131 (fun r136 u135 t135 H135 L135 ht135 hvm135 hw135 hB135 hz135 hk135 hS => ?_)
  have hP := pq_keep hP hD [9, 8] rfl hk135 hB135.1 ht135
  have hG : s.heap.size + 5 ≤ H135.size := Nat.le_trans hG hz135
  refine W.eq (g2 := F0 m 70 ls [.int 0]) (by rw [hw135]) ?_
  refine lv_if_eq (tgt := 136) hx hb dX9_putInOrder_70 (by decide) (fun _ => ?_) (fun cz => absurd (by decide) cz)
  refine lv_iload_n hx hb dX9_putInOrder_136 rfl (lv_at hl 1 rfl) ?_
  refine lv_if_eq (tgt := 156) hx hb dX9_putInOrder_137 (by decide) (fun cz => absurd cz (by decide)) (fun _ => ?_)
  refine lv_aload_n hx hb dX9_putInOrder_140 rfl (lv_at hl 3 rfl) ?_
  refine lv_iload_n hx hb dX9_putInOrder_141 rfl (lv_at hl 2 rfl) ?_
  refine lv_iconst (v := 1) hx hb dX9_putInOrder_142 (by decide) ?_
  refine va_zast hx hb hK hP hD (va_Sre hS) 2 0 rfl rfl (i := 3) (by unfold vp_in; decide) dX9_putInOrder_143 (fun H137 _ hP hD hS' => ?_)
  have hG : s.heap.size + 5 ≤ H137.size := Nat.le_trans hG hS'.1
  have hS := va_Str hS hS'
  have hP : va_P (dC, dI) xCl [(h0, ce21 h1 h2 o0 h3), (h1, ce201 o1), (a1, ce170 k2), (a34, ce44 h2), (a66, ce44 h2), (a98, ce44 h2), (h3, ce219 h4), (h4, ce220 kc0 (z.2.2.1 128) (z.2.2.1 129) (z.2.2.1 130)), (h2, ce3 z.1), (a130, ce44 h2)] H137 := hP
  have hD := vd_as hP hD rfl
  refine lv_aload_n hx hb dX9_putInOrder_144 rfl (lv_at hl 4 rfl) ?_
  refine va_get (D := (dC, dI)) (ci := 8) (v := .ref h3) (C := RX9) (T := TX9) (N := 6) hx hb hts in_X9 hown hK hP 0 rfl rfl 4 (by decide) (hts _ q_67) (fun _ h9 => h9) rfl dX9_putInOrder_145 ?_
  refine lv_iload_n hx hb dX9_putInOrder_148 rfl (lv_at hl 2 rfl) ?_
  have hM140 := k317_valueOf l hl9 dC dI z H137.size
  obtain ⟨hF138, hC141⟩ := pc_M hM140 hP hD hK hS hX hT hA [] [] rfl rfl rfl
  refine va_callr (va_runS (As := [.int 3]) (rest := [.ref h3]) ⟨hx, hb, hml, hown, hts⟩ hM140 (va_cwS 1 hts (gS q_295 q_296 q_297 q_294) rfl rfl rfl hS_J6_valueOf_2dffe ⟨Nat.le_of_ble_eq_true rfl, Nat.le_of_ble_eq_true rfl⟩) ⟨pc_blind, fun U hU hW => ⟨rfl, hC141 U hU hW⟩⟩ rfl rfl hl.1 rfl (lv_room (Nat.le_of_ble_eq_true rfl)) dX9_putInOrder_149 ⟨(Nat.le_of_ble_eq_true rfl), (Nat.le_of_ble_eq_true rfl)⟩) hS (fun q9 _ h9 => hF138 q9 h9) hF138 (fun u142 r143 t142 H142 L142 ht142 hvm142 hw142 hB142 hz142 hk142 hS => ?_)
  obtain ⟨hr142, hB142⟩ := hB142
  have hP := pq_keep hP hD [] rfl hk142 hB142.1 ht142
  have hG : s.heap.size + 5 ≤ H142.size := Nat.le_trans hG hz142
  refine W.eq (g2 := F0 m 152 ls [.ref (z.2.2.1 131), .ref h3]) (by rw [hr142]) ?_
  have hM146 := k434_add l hl9 dC dI z h3 h4 H142.size kc0
  obtain ⟨hF144, hC147⟩ := pc_M hM146 hP hD hK hS hX hT hA [6, 7] [1] rfl rfl rfl
  refine va_calli (va_runV (As := [.ref (z.2.2.1 131)]) (rest := []) ⟨hx, hb, hml, hown, hts⟩ hM146 (cwV 1 hts (gV q_284 q_128 q_129 q_12 q_126) rfl rfl rfl hV_Jx4a65c_add_9ea2d ⟨Nat.le_of_ble_eq_true rfl, Nat.le_of_ble_eq_true rfl⟩) ⟨pc_blind, va_recv hK hP (ci := 0) (q := (RJx4a65c, TJx4a65c, 3)) (q0 := 6) rfl rfl, fun U hU hW => ⟨rfl, hC147 U hU hW⟩⟩ rfl rfl hl.1 rfl (lv_room (Nat.le_of_ble_eq_true rfl)) dX9_putInOrder_152 ⟨(Nat.le_of_ble_eq_true rfl), (Nat.le_of_ble_eq_true rfl)⟩) hS (fun q9 _ h9 => hF144 q9 h9) hF144 (fun r149 u148 t148 H148 L148 ht148 hvm148 hw148 hB148 hz148 hk148 hS => ?_)
  obtain ⟨hP, hD, hK⟩ := pq_jn (wz := [(h0, ce21 h1 h2 o0 h3), (h1, ce201 o1), (a1, ce170 k2), (a34, ce44 h2), (a66, ce44 h2), (a98, ce44 h2), (h2, ce3 z.1), (a130, ce44 h2), (h3, ce223 h4), (h4, ce146 kc0 (z.2.2.1 128) (z.2.2.1 129) (z.2.2.1 130) (z.2.2.1 131))]) (tz := [(k2, .boolean), (kc0, .object "java/lang/Object")]) hP hD hK [6, 7] [0] rfl hk148 hF144 hB148.1 ht148 hvm148 rfl rfl
  have hG : s.heap.size + 5 ≤ H148.size := Nat.le_trans hG hz148
  refine W.eq (g2 := F0 m 155 ls [.int 1]) (by rw [hw148]) ?_
  refine lv_pop hx hb dX9_putInOrder_155 rfl ?_
  refine lv_iinc (v := 4) (lv' := [(2, .int 4), (4, .ref a130), (3, .int 1), (1, .ref a1), (0, .ref h0)]) hx hb dX9_putInOrder_156 hl (k := 2) rfl (by decide) (by decide) rfl (fun ls hl => ?_)
  refine lv_goto (tgt := 31) hx hb dX9_putInOrder_159 (by decide) ?_
  refine lv_iload_n hx hb dX9_putInOrder_31 rfl (lv_at hl 0 rfl) ?_
  refine lv_aload_n hx hb dX9_putInOrder_32 rfl (lv_at hl 4 rfl) ?_
  refine va_get (D := (dC, dI)) (ci := 8) (v := .ref h1) (C := RX9) (T := TX9) (N := 6) hx hb hts in_X9 hown hK hP 0 rfl rfl 1 (by decide) (hts _ q_64) (fun _ h9 => h9) rfl dX9_putInOrder_33 ?_
  have hM152 := k20_size l hl9 dC dI z h1 o1 H148.size 5 5
  obtain ⟨hF150, hC153⟩ := pc_M hM152 hP hD hK hS hX hT hA [1] [] rfl rfl rfl
  refine va_calli (va_runV (As := []) (rest := [.int 4]) ⟨hx, hb, hml, hown, hts⟩ hM152 (cwV 0 hts (gV q_272 q_77 q_78 q_12 q_75) rfl rfl rfl hV_Jx4a65c_size_8abf5 ⟨Nat.le_of_ble_eq_true rfl, Nat.le_of_ble_eq_true rfl⟩) ⟨pc_blind, va_recv hK hP (ci := 0) (q := (RJx4a65c, TJx4a65c, 3)) (q0 := 1) rfl rfl, fun U hU hW => ⟨rfl, hC153 U hU hW⟩⟩ rfl rfl hl.1 rfl (lv_room (Nat.le_of_ble_eq_true rfl)) dX9_putInOrder_36 ⟨(Nat.le_of_ble_eq_true rfl), (Nat.le_of_ble_eq_true rfl)⟩) hS (fun q9 _ h9 => hF150 q9 h9) hF150 (fun r155 u154 t154 H154 L154 ht154 hvm154 hw154 hB154 hz154 hk154 hS => ?_)
  have hP := pq_keep hP hD [1] rfl hk154 hB154.1 ht154
  have hG : s.heap.size + 5 ≤ H154.size := Nat.le_trans hG hz154
  refine W.eq (g2 := F0 m 39 ls [.int 5, .int 4]) (by rw [hw154]) ?_
  refine lv_icmp_ge (tgt := 162) hx hb dX9_putInOrder_39 (by decide) (fun cz => absurd cz (by decide)) (fun _ => ?_)
  refine lv_aload_n hx hb dX9_putInOrder_42 rfl (lv_at hl 3 rfl) ?_
  refine lv_iload_n hx hb dX9_putInOrder_43 rfl (lv_at hl 0 rfl) ?_
  refine va_zald hx hb hK hP 2 0 rfl rfl (i := 4) (by unfold vp_in; decide) dX9_putInOrder_44 ?_
  refine W.eq (g2 := F0 m 45 ls [.int 0]) rfl ?_
  refine lv_if_ne (tgt := 52) hx hb dX9_putInOrder_45 (by decide) (fun cz => absurd (by decide) cz) (fun _ => ?_)
  refine lv_iconst (v := 1) hx hb dX9_putInOrder_48 (by decide) ?_
  refine lv_goto (tgt := 53) hx hb dX9_putInOrder_49 (by decide) ?_
  refine lv_istore_n (lv' := [(3, .int 1), (2, .int 4), (4, .ref a130), (1, .ref a1), (0, .ref h0)]) hx hb dX9_putInOrder_53 rfl hl (by decide) rfl (fun ls hl => ?_)
  refine lv_aload_n hx hb dX9_putInOrder_54 rfl (lv_at hl 4 rfl) ?_
  refine va_get (D := (dC, dI)) (ci := 8) (v := .ref h2) (C := RX9) (T := TX9) (N := 6) hx hb hts in_X9 hown hK hP 0 rfl rfl 2 (by decide) (hts _ q_65) (fun _ h9 => h9) rfl dX9_putInOrder_55 ?_
  have hM158 := k49_iterator l hl9 dC dI z h2 H154.size
  obtain ⟨hF156, hC159⟩ := pc_M hM158 hP hD hK hS hX hT hA [6] [] rfl rfl rfl
  refine va_callr (va_runV (As := []) (rest := []) ⟨hx, hb, hml, hown, hts⟩ hM158 (cwV 0 hts (gV q_256 q_257 q_258 q_12 q_255) rfl rfl rfl hV_Jx4a65c_iterator_32c93 ⟨Nat.le_of_ble_eq_true rfl, Nat.le_of_ble_eq_true rfl⟩) ⟨pc_blind, va_recv hK hP (ci := 0) (q := (RJx4a65c, TJx4a65c, 3)) (q0 := 6) rfl rfl, fun U hU hW => ⟨rfl, hC159 U hU hW⟩⟩ rfl rfl hl.1 rfl (lv_room (Nat.le_of_ble_eq_true rfl)) dX9_putInOrder_58 ⟨(Nat.le_of_ble_eq_true rfl), (Nat.le_of_ble_eq_true rfl)⟩) hS (fun q9 _ h9 => hF156 q9 h9) hF156 (fun u160 r161 t160 H160 L160 ht160 hvm160 hw160 hB160 hz160 hk160 hS => ?_)
  obtain ⟨a162, hr160, hB160⟩ := hB160
  obtain ⟨hP, hD, hK⟩ := pq_jn (wz := [(h0, ce21 h1 h2 o0 h3), (h1, ce201 o1), (a1, ce170 k2), (a34, ce44 h2), (a66, ce44 h2), (a98, ce44 h2), (a130, ce44 h2), (h3, ce223 h4), (h4, ce146 kc0 (z.2.2.1 128) (z.2.2.1 129) (z.2.2.1 130) (z.2.2.1 131)), (h2, ce3 z.1), (a162, ce44 h2)]) (tz := [(k2, .boolean), (kc0, .object "java/lang/Object")]) hP hD hK [6] [0, 1] rfl hk160 hF156 hB160.1 ht160 hvm160 rfl rfl
  have hG : s.heap.size + 6 ≤ H160.size := va_gr (g := 5) (g1 := 1) hG (by rw [← ht160]; exact hB160.2)
  refine W.eq (g2 := F0 m 61 ls [.ref a162]) (by rw [hr160]) ?_
  refine W.widen (k := 6) (n := 60) (by decide) (by decide) ?_
  refine lv_astore (lv' := [(4, .ref a162), (3, .int 1), (2, .int 4), (1, .ref a1), (0, .ref h0)]) hx hb dX9_putInOrder_61 hl (by decide) rfl (fun ls hl => ?_)
  refine lv_aload hx hb dX9_putInOrder_63 (lv_at hl 0 rfl) ?_
  have hM165 := k50_hasNext l hl9 dC dI z a162 h2 H160.size
  obtain ⟨hF163, hC166⟩ := pc_M hM165 hP hD hK hS hX hT hA [10, 9] [] rfl rfl rfl
  refine va_callFi (va_runF (As := []) (rest := []) (hK.1 1 (RJx35411, TJx35411, 4) rfl).2 ⟨hx, hb, hml, hown, hts⟩ hM165 (va_cwF 0 hts (gF q_261 q_262 q_263 q_246 q_260) rfl rfl rfl hT.2.2.2.2.2.2.1 hF_xIh ⟨Nat.le_of_ble_eq_true rfl, Nat.le_of_ble_eq_true rfl⟩) ⟨pc_blind, va_recv hK hP (ci := 1) (q := (RJx35411, TJx35411, 4)) (q0 := 10) rfl rfl, fun U hU hW => ⟨rfl, hC166 U hU hW⟩⟩ rfl rfl hl.1 rfl (lv_room (Nat.le_of_ble_eq_true rfl)) dX9_putInOrder_65 ⟨(Nat.le_of_ble_eq_true rfl), (Nat.le_of_ble_eq_true rfl)⟩) hS (fun q9 _ h9 => hF163 q9 h9) hF163 (fun r168 u167 t167 H167 L167 ht167 hvm167 hw167 hB167 hz167 hk167 hS => ?_)
  have hP := pq_keep hP hD [10, 9] rfl hk167 hB167.1 ht167
  have hG : s.heap.size + 6 ≤ H167.size := Nat.le_trans hG hz167
  refine W.eq (g2 := F0 m 70 ls [.int 0]) (by rw [hw167]) ?_
  refine lv_if_eq (tgt := 136) hx hb dX9_putInOrder_70 (by decide) (fun _ => ?_) (fun cz => absurd (by decide) cz)
  refine lv_iload_n hx hb dX9_putInOrder_136 rfl (lv_at hl 1 rfl) ?_
  refine lv_if_eq (tgt := 156) hx hb dX9_putInOrder_137 (by decide) (fun cz => absurd cz (by decide)) (fun _ => ?_)
  refine lv_aload_n hx hb dX9_putInOrder_140 rfl (lv_at hl 3 rfl) ?_
  refine lv_iload_n hx hb dX9_putInOrder_141 rfl (lv_at hl 2 rfl) ?_
  refine lv_iconst (v := 1) hx hb dX9_putInOrder_142 (by decide) ?_
  refine va_zast hx hb hK hP hD (va_Sre hS) 2 0 rfl rfl (i := 4) (by unfold vp_in; decide) dX9_putInOrder_143 (fun H169 _ hP hD hS' => ?_)
  have hG : s.heap.size + 6 ≤ H169.size := Nat.le_trans hG hS'.1
  have hS := va_Str hS hS'
  have hP : va_P (dC, dI) xCl [(h0, ce21 h1 h2 o0 h3), (h1, ce201 o1), (a1, ce229 k2), (a34, ce44 h2), (a66, ce44 h2), (a98, ce44 h2), (a130, ce44 h2), (h3, ce223 h4), (h4, ce146 kc0 (z.2.2.1 128) (z.2.2.1 129) (z.2.2.1 130) (z.2.2.1 131)), (h2, ce3 z.1), (a162, ce44 h2)] H169 := hP
  have hD := vd_as hP hD rfl
  refine lv_aload_n hx hb dX9_putInOrder_144 rfl (lv_at hl 4 rfl) ?_
  refine va_get (D := (dC, dI)) (ci := 8) (v := .ref h3) (C := RX9) (T := TX9) (N := 6) hx hb hts in_X9 hown hK hP 0 rfl rfl 4 (by decide) (hts _ q_67) (fun _ h9 => h9) rfl dX9_putInOrder_145 ?_
  refine lv_iload_n hx hb dX9_putInOrder_148 rfl (lv_at hl 2 rfl) ?_
  have hM172 := k435_valueOf l hl9 dC dI z H169.size
  obtain ⟨hF170, hC173⟩ := pc_M hM172 hP hD hK hS hX hT hA [] [] rfl rfl rfl
  refine va_callr (va_runS (As := [.int 4]) (rest := [.ref h3]) ⟨hx, hb, hml, hown, hts⟩ hM172 (va_cwS 1 hts (gS q_295 q_296 q_297 q_294) rfl rfl rfl hS_J6_valueOf_2dffe ⟨Nat.le_of_ble_eq_true rfl, Nat.le_of_ble_eq_true rfl⟩) ⟨pc_blind, fun U hU hW => ⟨rfl, hC173 U hU hW⟩⟩ rfl rfl hl.1 rfl (lv_room (Nat.le_of_ble_eq_true rfl)) dX9_putInOrder_149 ⟨(Nat.le_of_ble_eq_true rfl), (Nat.le_of_ble_eq_true rfl)⟩) hS (fun q9 _ h9 => hF170 q9 h9) hF170 (fun u174 r175 t174 H174 L174 ht174 hvm174 hw174 hB174 hz174 hk174 hS => ?_)
  obtain ⟨hr174, hB174⟩ := hB174
  have hP := pq_keep hP hD [] rfl hk174 hB174.1 ht174
  have hG : s.heap.size + 6 ≤ H174.size := Nat.le_trans hG hz174
  refine W.eq (g2 := F0 m 152 ls [.ref (z.2.2.1 132), .ref h3]) (by rw [hr174]) ?_
  have hM178 := k437_add l hl9 dC dI z h3 h4 H174.size kc0
  obtain ⟨hF176, hC179⟩ := pc_M hM178 hP hD hK hS hX hT hA [7, 8] [1] rfl rfl rfl
  refine va_calli (va_runV (As := [.ref (z.2.2.1 132)]) (rest := []) ⟨hx, hb, hml, hown, hts⟩ hM178 (cwV 1 hts (gV q_284 q_128 q_129 q_12 q_126) rfl rfl rfl hV_Jx4a65c_add_9ea2d ⟨Nat.le_of_ble_eq_true rfl, Nat.le_of_ble_eq_true rfl⟩) ⟨pc_blind, va_recv hK hP (ci := 0) (q := (RJx4a65c, TJx4a65c, 3)) (q0 := 7) rfl rfl, fun U hU hW => ⟨rfl, hC179 U hU hW⟩⟩ rfl rfl hl.1 rfl (lv_room (Nat.le_of_ble_eq_true rfl)) dX9_putInOrder_152 ⟨(Nat.le_of_ble_eq_true rfl), (Nat.le_of_ble_eq_true rfl)⟩) hS (fun q9 _ h9 => hF176 q9 h9) hF176 (fun r181 u180 t180 H180 L180 ht180 hvm180 hw180 hB180 hz180 hk180 hS => ?_)
  obtain ⟨hP, hD, hK⟩ := pq_jn (wz := [(h0, ce21 h1 h2 o0 h3), (h1, ce201 o1), (a1, ce229 k2), (a34, ce44 h2), (a66, ce44 h2), (a98, ce44 h2), (a130, ce44 h2), (h2, ce3 z.1), (a162, ce44 h2), (h3, ce226 h4), (h4, ce200 kc0 (z.2.2.1 128) (z.2.2.1 129) (z.2.2.1 130) (z.2.2.1 131) (z.2.2.1 132))]) (tz := [(k2, .boolean), (kc0, .object "java/lang/Object")]) hP hD hK [7, 8] [0] rfl hk180 hF176 hB180.1 ht180 hvm180 rfl rfl
  have hG : s.heap.size + 6 ≤ H180.size := Nat.le_trans hG hz180
  refine W.eq (g2 := F0 m 155 ls [.int 1]) (by rw [hw180]) ?_
  refine lv_pop hx hb dX9_putInOrder_155 rfl ?_
  refine lv_iinc (v := 5) (lv' := [(2, .int 5), (4, .ref a162), (3, .int 1), (1, .ref a1), (0, .ref h0)]) hx hb dX9_putInOrder_156 hl (k := 2) rfl (by decide) (by decide) rfl (fun ls hl => ?_)
  refine lv_goto (tgt := 31) hx hb dX9_putInOrder_159 (by decide) ?_
  refine lv_iload_n hx hb dX9_putInOrder_31 rfl (lv_at hl 0 rfl) ?_
  refine lv_aload_n hx hb dX9_putInOrder_32 rfl (lv_at hl 4 rfl) ?_
  refine va_get (D := (dC, dI)) (ci := 8) (v := .ref h1) (C := RX9) (T := TX9) (N := 6) hx hb hts in_X9 hown hK hP 0 rfl rfl 1 (by decide) (hts _ q_64) (fun _ h9 => h9) rfl dX9_putInOrder_33 ?_
  have hM184 := k20_size l hl9 dC dI z h1 o1 H180.size 5 5
  obtain ⟨hF182, hC185⟩ := pc_M hM184 hP hD hK hS hX hT hA [1] [] rfl rfl rfl
  refine va_calli (va_runV (As := []) (rest := [.int 5]) ⟨hx, hb, hml, hown, hts⟩ hM184 (cwV 0 hts (gV q_272 q_77 q_78 q_12 q_75) rfl rfl rfl hV_Jx4a65c_size_8abf5 ⟨Nat.le_of_ble_eq_true rfl, Nat.le_of_ble_eq_true rfl⟩) ⟨pc_blind, va_recv hK hP (ci := 0) (q := (RJx4a65c, TJx4a65c, 3)) (q0 := 1) rfl rfl, fun U hU hW => ⟨rfl, hC185 U hU hW⟩⟩ rfl rfl hl.1 rfl (lv_room (Nat.le_of_ble_eq_true rfl)) dX9_putInOrder_36 ⟨(Nat.le_of_ble_eq_true rfl), (Nat.le_of_ble_eq_true rfl)⟩) hS (fun q9 _ h9 => hF182 q9 h9) hF182 (fun r187 u186 t186 H186 L186 ht186 hvm186 hw186 hB186 hz186 hk186 hS => ?_)
  have hP := pq_keep hP hD [1] rfl hk186 hB186.1 ht186
  have hG : s.heap.size + 6 ≤ H186.size := Nat.le_trans hG hz186
  refine W.eq (g2 := F0 m 39 ls [.int 5, .int 5]) (by rw [hw186]) ?_
  refine lv_icmp_ge (tgt := 162) hx hb dX9_putInOrder_39 (by decide) (fun _ => ?_) (fun cz => absurd (by decide) cz)
  refine lv_goto (tgt := 12) hx hb dX9_putInOrder_162 (by decide) ?_
  refine lv_aload_n hx hb dX9_putInOrder_12 rfl (lv_at hl 4 rfl) ?_
  refine va_get (D := (dC, dI)) (ci := 8) (v := .ref h3) (C := RX9) (T := TX9) (N := 6) hx hb hts in_X9 hown hK hP 0 rfl rfl 4 (by decide) (hts _ q_67) (fun _ h9 => h9) rfl dX9_putInOrder_13 ?_
  have hM190 := k20_size l hl9 dC dI z h3 h4 H186.size 20 5
  obtain ⟨hF188, hC191⟩ := pc_M hM190 hP hD hK hS hX hT hA [9] [] rfl rfl rfl
  refine va_calli (va_runV (As := []) (rest := []) ⟨hx, hb, hml, hown, hts⟩ hM190 (cwV 0 hts (gV q_272 q_77 q_78 q_12 q_75) rfl rfl rfl hV_Jx4a65c_size_8abf5 ⟨Nat.le_of_ble_eq_true rfl, Nat.le_of_ble_eq_true rfl⟩) ⟨pc_blind, va_recv hK hP (ci := 0) (q := (RJx4a65c, TJx4a65c, 3)) (q0 := 9) rfl rfl, fun U hU hW => ⟨rfl, hC191 U hU hW⟩⟩ rfl rfl hl.1 rfl (lv_room (Nat.le_of_ble_eq_true rfl)) dX9_putInOrder_16 ⟨(Nat.le_of_ble_eq_true rfl), (Nat.le_of_ble_eq_true rfl)⟩) hS (fun q9 _ h9 => hF188 q9 h9) hF188 (fun r193 u192 t192 H192 L192 ht192 hvm192 hw192 hB192 hz192 hk192 hS => ?_)
  have hP := pq_keep hP hD [9] rfl hk192 hB192.1 ht192
  have hG : s.heap.size + 6 ≤ H192.size := Nat.le_trans hG hz192
  refine W.eq (g2 := F0 m 19 ls [.int 5]) (by rw [hw192]) ?_
  refine lv_aload_n hx hb dX9_putInOrder_19 rfl (lv_at hl 4 rfl) ?_
  refine va_get (D := (dC, dI)) (ci := 8) (v := .ref h1) (C := RX9) (T := TX9) (N := 6) hx hb hts in_X9 hown hK hP 0 rfl rfl 1 (by decide) (hts _ q_64) (fun _ h9 => h9) rfl dX9_putInOrder_20 ?_
  have hM196 := k20_size l hl9 dC dI z h1 o1 H192.size 5 5
  obtain ⟨hF194, hC197⟩ := pc_M hM196 hP hD hK hS hX hT hA [1] [] rfl rfl rfl
  refine va_calli (va_runV (As := []) (rest := [.int 5]) ⟨hx, hb, hml, hown, hts⟩ hM196 (cwV 0 hts (gV q_272 q_77 q_78 q_12 q_75) rfl rfl rfl hV_Jx4a65c_size_8abf5 ⟨Nat.le_of_ble_eq_true rfl, Nat.le_of_ble_eq_true rfl⟩) ⟨pc_blind, va_recv hK hP (ci := 0) (q := (RJx4a65c, TJx4a65c, 3)) (q0 := 1) rfl rfl, fun U hU hW => ⟨rfl, hC197 U hU hW⟩⟩ rfl rfl hl.1 rfl (lv_room (Nat.le_of_ble_eq_true rfl)) dX9_putInOrder_23 ⟨(Nat.le_of_ble_eq_true rfl), (Nat.le_of_ble_eq_true rfl)⟩) hS (fun q9 _ h9 => hF194 q9 h9) hF194 (fun r199 u198 t198 H198 L198 ht198 hvm198 hw198 hB198 hz198 hk198 hS => ?_)
  have hP := pq_keep hP hD [1] rfl hk198 hB198.1 ht198
  have hG : s.heap.size + 6 ≤ H198.size := Nat.le_trans hG hz198
  refine W.eq (g2 := F0 m 26 ls [.int 5, .int 5]) (by rw [hw198]) ?_
  refine lv_icmp_ge (tgt := 165) hx hb dX9_putInOrder_26 (by decide) (fun _ => ?_) (fun cz => absurd (by decide) cz)
  exact W.vret hx hb hr (fun t9 ht9 hW9 => ⟨⟨(), rfl, trivial, ⟨pq_mk2 hP hD hK [0, 1, 7, 9, 10] [1] rfl rfl rfl ht9 hW9, by rw [ht9]; exact Nat.le_trans (Nat.add_le_add_left (Nat.le_of_ble_eq_true rfl) _) hG⟩⟩, hS.F ht9⟩) hS.2.2 dX9_putInOrder_165

set_option maxHeartbeats 4000000 in
set_option maxRecDepth 100000 in
theorem k439_init (l : Launch) (hl9 : l.stackTraces = false) (dC : Nat → ClassId) (dI : Nat → Nat → Nat) (z : XZ) (h0 h1 : Nat) (o0 : Nat) (sz : Nat) : Met l yJx35411_init_45d68 (.code yJx35411_init_45d68 cJx35411_init_45d68 2 none :: wsL_law) ({ frames := 1, cells := 0, slots := 0, locals := 16 }) (va_Pc [.ref h0, .ref h1] (PC (dC, dI) [(h0, ce42), (h1, ce201 o0)] [] sz z)) (va_Qv (fun (_ : Unit) => True) (fun (_ : Unit) (t : State) => PG (dC, dI) [(h0, ce86 h1), (h1, ce201 o0)] [] (va_A [(h0, ce42), (h1, ce201 o0)] sz) sz 0 t) (va_A [(h0, ce42), (h1, ce201 o0)] sz)) 0 0 (va_A [(h0, ce42), (h1, ce201 o0)] sz) := by
  refine Met.ofW (cc := cJx35411_init_45d68) (maxL := 2) (ret := none) (by decide) rfl ?_
  intro p e s m args below meth c s₁ B hml hv
  obtain ⟨rfl, hsz, hP, hK, hD0, hX, hT⟩ := hv
  have hx := B.exec
  have hb := B.bytes
  have hr := B.returns
  have hts0 := atoms_spec (ws := .code yJx35411_init_45d68 cJx35411_init_45d68 2 none :: wsL_law) B.pre
  have hts := xTail hts0
  have hown : s.vm.findClass RJx35411 = some m.cls := xown B.named rfl
  have hlocks := B.notSynchronized
  have hin : meth.name = "<init>" := (name_of_methodNamed B.named B.method).1
  subst hsz
  have hD := hD0.self (sz := s.heap.size)
  generalize hAe : va_A [(h0, ce42), (h1, ce201 o0)] s.heap.size = A at hD hX ⊢
  have hA : ∀ q : Nat, s.heap.size ≤ q → A q := fun q h => by rw [← hAe]; exact Or.inr h
  have hS : va_S A s.heap s.heap [] := va_S.rf
  have hG : s.heap.size + 0 ≤ s.heap.size := Nat.le_refl _
  have hl := lv_entry ([.ref h0, .ref h1]) (n := 2) (Nat.le_of_ble_eq_true rfl)
  rw [lg_entry_eq]
  generalize (lg_sl ([.ref h0, .ref h1]) ++ List.replicate (2 - (lg_sl ([.ref h0, .ref h1])).length) Slot.unset).toArray = ls at hl ⊢
  have hl : lv_has ls 2 [(0, .ref h0), (1, .ref h1)] := hl
  refine lv_aload_n hx hb dJx35411_init_45d68_0 rfl (lv_at hl 0 rfl) ?_
  refine lv_aload_n hx hb dJx35411_init_45d68_1 rfl (lv_at hl 1 rfl) ?_
  refine va_putF (D := (dC, dI)) (ci := 1) (v := .ref h1) (ty := .object "java/util/ArrayList") (C := RJx35411) (T := TJx35411) (N := 4) hx hb hts in_Jx35411 tyJx35411 tyJx35411_ok nmJx35411 hown hK hP hD (va_Sre hS) 0 rfl rfl 3 (by decide) (hts _ q_247) (fun _ h9 => h9) rfl hin rfl (by decide +kernel) rfl rfl (Nat.le_of_ble_eq_true rfl) dJx35411_init_45d68_2 (fun H1 _ hP hD hS' => ?_)
  have hG : s.heap.size + 0 ≤ H1.size := Nat.le_trans hG hS'.1
  have hS := va_Str hS hS'
  have hP : va_P (dC, dI) xCl [(h0, ce43 h1), (h1, ce201 o0)] H1 := hP
  have hD := vd_as hP hD rfl
  refine lv_aload_n hx hb dJx35411_init_45d68_5 rfl (lv_at hl 0 rfl) ?_
  refine W.objInit hx hb hown (hts _ q_248) (hts _ q_4) (hts _ q_5) rfl (by rw [hml]; exact hl.1) rfl dJx35411_init_45d68_6 (Nat.le_of_ble_eq_true rfl) (Nat.le_of_ble_eq_true rfl) ?_
  refine W.eq (g2 := F0 m 9 ls []) rfl ?_
  refine lv_aload_n hx hb dJx35411_init_45d68_9 rfl (lv_at hl 0 rfl) ?_
  refine lv_iconst (v := (-1)) hx hb dJx35411_init_45d68_10 (by decide) ?_
  refine va_put (D := (dC, dI)) (ci := 1) (v := .int (-1)) (ty := .int) (C := RJx35411) (T := TJx35411) (N := 4) hx hb hts in_Jx35411 tyJx35411 tyJx35411_ok nmJx35411 hown hK hP hD (va_Sre hS) 0 rfl rfl 1 (by decide) (hts _ q_249) (fun _ h9 => h9) rfl (by decide +kernel) rfl rfl (Nat.le_of_ble_eq_true rfl) dJx35411_init_45d68_11 (fun H2 _ hP hD hS' => ?_)
  have hG : s.heap.size + 0 ≤ H2.size := Nat.le_trans hG hS'.1
  have hS := va_Str hS hS'
  have hP : va_P (dC, dI) xCl [(h0, ce44 h1), (h1, ce201 o0)] H2 := hP
  have hD := vd_as hP hD rfl
  refine lv_aload_n hx hb dJx35411_init_45d68_14 rfl (lv_at hl 0 rfl) ?_
  refine lv_aload_n hx hb dJx35411_init_45d68_15 rfl (lv_at hl 0 rfl) ?_
  refine va_get (D := (dC, dI)) (ci := 1) (v := .ref h1) (C := RJx35411) (T := TJx35411) (N := 4) hx hb hts in_Jx35411 hown hK hP 0 rfl rfl 3 (by decide) (hts _ q_247) (fun _ h9 => h9) rfl dJx35411_init_45d68_16 ?_
  refine va_get (D := (dC, dI)) (ci := 0) (v := .int 5) (C := RJx4a65c) (T := TJx4a65c) (N := 3) hx hb hts in_Jx4a65c hown hK hP 1 rfl rfl 0 (by decide) (hts _ q_250) (u_same (hts _ q_107)) rfl dJx35411_init_45d68_19 ?_
  refine va_put (D := (dC, dI)) (ci := 1) (v := .int 5) (ty := .int) (C := RJx35411) (T := TJx35411) (N := 4) hx hb hts in_Jx35411 tyJx35411 tyJx35411_ok nmJx35411 hown hK hP hD (va_Sre hS) 0 rfl rfl 2 (by decide) (hts _ q_251) (fun _ h9 => h9) rfl (by decide +kernel) rfl rfl (Nat.le_of_ble_eq_true rfl) dJx35411_init_45d68_22 (fun H3 _ hP hD hS' => ?_)
  have hG : s.heap.size + 0 ≤ H3.size := Nat.le_trans hG hS'.1
  have hS := va_Str hS hS'
  have hP : va_P (dC, dI) xCl [(h0, ce86 h1), (h1, ce201 o0)] H3 := hP
  have hD := vd_as hP hD rfl
  exact W.vret hx hb hr (fun t9 ht9 hW9 => ⟨⟨(), rfl, trivial, ⟨pq_mk2 hP hD hK [0, 1] [] rfl rfl rfl ht9 hW9, by rw [ht9]; exact Nat.le_trans (Nat.add_le_add_left (Nat.le_of_ble_eq_true rfl) _) hG⟩⟩, hS.F ht9⟩) hS.2.2 dJx35411_init_45d68_25

set_option maxHeartbeats 4000000 in
set_option maxRecDepth 100000 in
theorem k440_iterator (l : Launch) (hl9 : l.stackTraces = false) (dC : Nat → ClassId) (dI : Nat → Nat → Nat) (z : XZ) (h0 : Nat) (o0 : Nat) (sz : Nat) : Met l yJx4a65c_iterator_32c93 (.code yJx4a65c_iterator_32c93 cJx4a65c_iterator_32c93 1 (some (.object "java/util/Iterator")) :: wsL_law) ({ frames := 2, cells := 1, slots := 4, locals := 37 }) (va_Pc [.ref h0] (PC (dC, dI) [(h0, ce201 o0)] [] sz z)) (va_Qr (fun (_ : Unit) => True) (fun (_ : Unit) (ra : Nat) (t : State) => ∃ (n0 : Nat), ra = n0 ∧ PG (dC, dI) [(h0, ce201 o0), (n0, ce86 h0)] [] (va_A [(h0, ce201 o0)] sz) sz 1 t) (va_A [(h0, ce201 o0)] sz)) 1 4 (va_A [(h0, ce201 o0)] sz) := by
  refine Met.ofW (cc := cJx4a65c_iterator_32c93) (maxL := 1) (ret := (some (.object "java/util/Iterator"))) (by decide) rfl ?_
  intro p e s m args below meth c s₁ B hml hv
  obtain ⟨rfl, hsz, hP, hK, hD0, hX, hT⟩ := hv
  have hx := B.exec
  have hb := B.bytes
  have hr := B.returns
  have hts0 := atoms_spec (ws := .code yJx4a65c_iterator_32c93 cJx4a65c_iterator_32c93 1 (some (.object "java/util/Iterator")) :: wsL_law) B.pre
  have hts := xTail hts0
  have hown : s.vm.findClass RJx4a65c = some m.cls := xown B.named rfl
  have hlocks := B.notSynchronized
  subst hsz
  have hD := hD0.self (sz := s.heap.size)
  generalize hAe : va_A [(h0, ce201 o0)] s.heap.size = A at hD hX ⊢
  have hA : ∀ q : Nat, s.heap.size ≤ q → A q := fun q h => by rw [← hAe]; exact Or.inr h
  have hS : va_S A s.heap s.heap [] := va_S.rf
  have hG : s.heap.size + 0 ≤ s.heap.size := Nat.le_refl _
  have hl := lv_entry ([.ref h0]) (n := 1) (Nat.le_of_ble_eq_true rfl)
  rw [lg_entry_eq]
  generalize (lg_sl ([.ref h0]) ++ List.replicate (1 - (lg_sl ([.ref h0])).length) Slot.unset).toArray = ls at hl ⊢
  have hl : lv_has ls 1 [(0, .ref h0)] := hl
  refine xa_new (ci := 1) (fs := [.int 0, .int 0, .int 0, .null]) (C := RJx35411) (T := TJx35411) (N := 4) hx hb hts in_Jx35411 tyJx35411 tyJx35411_ok hown (hts _ q_244) (hts _ q_245) (hts _ q_246) hK hP hD hS hA rfl nf_Jx35411 (Nat.le_of_ble_eq_true rfl) (Nat.le_of_ble_eq_true rfl) dJx4a65c_iterator_32c93_0 (fun a1 H2 hg8 hP hD hS => ?_)
  have hG : s.heap.size + 1 ≤ H2.size := by rw [hg8]; exact Nat.succ_le_succ hG
  have hP : va_P (dC, dI) xCl [(h0, ce201 o0), (a1, ce42)] H2 := hP
  have hD := vd_as hP hD rfl
  refine W.widen (k := 1) (n := 4) (by decide) (by decide) ?_
  refine lv_dup hx hb dJx4a65c_iterator_32c93_3 rfl ?_
  refine lv_aload_n hx hb dJx4a65c_iterator_32c93_4 rfl (lv_at hl 0 rfl) ?_
  have hM5 := k439_init l hl9 dC dI z a1 h0 o0 H2.size
  obtain ⟨hF3, hC6⟩ := pc_M hM5 hP hD hK hS hX hT hA [1, 0] [] rfl rfl rfl
  refine va_callv (va_runI (As := [.ref h0]) (rest := [.ref a1]) ⟨hx, hb, hml, hown, hts⟩ hM5 (cwI 1 hts (gIL q_252) rfl rfl rfl (hts _ q_246) (hts _ q_253) (hts _ q_254) rfl hS_Jx35411_init_45d68 ⟨Nat.le_of_ble_eq_true rfl, Nat.le_of_ble_eq_true rfl⟩) ⟨pc_blind, fun U hU hW => ⟨rfl, hC6 U hU hW⟩⟩ rfl rfl hl.1 rfl (lv_room (Nat.le_of_ble_eq_true rfl)) dJx4a65c_iterator_32c93_5 ⟨(Nat.le_of_ble_eq_true rfl), (Nat.le_of_ble_eq_true rfl)⟩) hS (fun q9 _ h9 => hF3 q9 h9) hF3 (fun u7 t7 H7 L7 ht7 hvm7 hw7 hB7 hz7 hk7 hS => ?_)
  obtain ⟨hP, hD, hK⟩ := pq_jn (wz := [(a1, ce86 h0), (h0, ce201 o0)]) (tz := []) hP hD hK [1, 0] [] rfl hk7 hF3 hB7.1 ht7 hvm7 rfl rfl
  have hG : s.heap.size + 1 ≤ H7.size := Nat.le_trans hG hz7
  exact W.aret (v := .ref a1) hx hb hr (by first | exact Or.inl ⟨_, rfl⟩ | exact Or.inr ⟨_, rfl⟩) (Or.inr ⟨_, rfl⟩) (fun t9 ht9 hW9 => ⟨⟨(), a1, rfl, trivial, ⟨a1, rfl, ⟨pq_mk2 hP hD hK [1, 0] [] rfl rfl rfl ht9 hW9, by rw [ht9]; exact Nat.le_trans (Nat.add_le_add_left (Nat.le_of_ble_eq_true rfl) _) hG⟩⟩⟩, hS.F ht9⟩) hS.2.2 dJx4a65c_iterator_32c93_8

set_option maxHeartbeats 4000000 in
set_option maxRecDepth 100000 in
theorem k441_hasNext (l : Launch) (hl9 : l.stackTraces = false) (dC : Nat → ClassId) (dI : Nat → Nat → Nat) (z : XZ) (h0 h1 : Nat) (o0 : Nat) (sz : Nat) : Met l yJx35411_hasNext_aae02 (.code yJx35411_hasNext_aae02 cJx35411_hasNext_aae02 1 (some .boolean) :: wsL_law) ({ frames := 0, cells := 0, slots := 0, locals := 0 }) (va_Pc [.ref h0] (PC (dC, dI) [(h0, ce86 h1), (h1, ce201 o0)] [] sz z)) (va_Qi (fun (r : Int32) (_ : Unit) => r = 1) (fun (_ : Unit) (t : State) => PG (dC, dI) [(h0, ce86 h1), (h1, ce201 o0)] [] (va_A [(h0, ce86 h1), (h1, ce201 o0)] sz) sz 0 t) (va_A [(h0, ce86 h1), (h1, ce201 o0)] sz)) 0 0 (va_A [(h0, ce86 h1), (h1, ce201 o0)] sz) := by
  refine Met.ofW (cc := cJx35411_hasNext_aae02) (maxL := 1) (ret := (some .boolean)) (by decide) rfl ?_
  intro p e s m args below meth c s₁ B hml hv
  obtain ⟨rfl, hsz, hP, hK, hD0, hX, hT⟩ := hv
  have hx := B.exec
  have hb := B.bytes
  have hr := B.returns
  have hts0 := atoms_spec (ws := .code yJx35411_hasNext_aae02 cJx35411_hasNext_aae02 1 (some .boolean) :: wsL_law) B.pre
  have hts := xTail hts0
  have hown : s.vm.findClass RJx35411 = some m.cls := xown B.named rfl
  have hlocks := B.notSynchronized
  subst hsz
  have hD := hD0.self (sz := s.heap.size)
  generalize hAe : va_A [(h0, ce86 h1), (h1, ce201 o0)] s.heap.size = A at hD hX ⊢
  have hA : ∀ q : Nat, s.heap.size ≤ q → A q := fun q h => by rw [← hAe]; exact Or.inr h
  have hS : va_S A s.heap s.heap [] := va_S.rf
  have hG : s.heap.size + 0 ≤ s.heap.size := Nat.le_refl _
  have hl := lv_entry ([.ref h0]) (n := 1) (Nat.le_of_ble_eq_true rfl)
  rw [lg_entry_eq]
  generalize (lg_sl ([.ref h0]) ++ List.replicate (1 - (lg_sl ([.ref h0])).length) Slot.unset).toArray = ls at hl ⊢
  have hl : lv_has ls 1 [(0, .ref h0)] := hl
  refine lv_aload_n hx hb dJx35411_hasNext_aae02_0 rfl (lv_at hl 0 rfl) ?_
  refine va_get (D := (dC, dI)) (ci := 1) (v := .int 0) (C := RJx35411) (T := TJx35411) (N := 4) hx hb hts in_Jx35411 hown hK hP 0 rfl rfl 0 (by decide) (hts _ q_259) (fun _ h9 => h9) rfl dJx35411_hasNext_aae02_1 ?_
  refine lv_aload_n hx hb dJx35411_hasNext_aae02_4 rfl (lv_at hl 0 rfl) ?_
  refine va_get (D := (dC, dI)) (ci := 1) (v := .ref h1) (C := RJx35411) (T := TJx35411) (N := 4) hx hb hts in_Jx35411 hown hK hP 0 rfl rfl 3 (by decide) (hts _ q_247) (fun _ h9 => h9) rfl dJx35411_hasNext_aae02_5 ?_
  refine va_getN (D := (dC, dI)) (ci := 0) (v := .int 5) (C := RJx4a65c) (T := TJx4a65c) (N := 3) hx hb hts in_Jx4a65c hown hK hP 1 rfl rfl 2 (by decide) (va_Nw.use rfl hT.2.2.2.2.1) (fun _ h9 => h9) rfl dJx35411_hasNext_aae02_8 ?_
  refine lv_icmp_eq (tgt := 18) hx hb dJx35411_hasNext_aae02_11 (by decide) (fun cz => absurd cz (by decide)) (fun _ => ?_)
  refine lv_iconst (v := 1) hx hb dJx35411_hasNext_aae02_14 (by decide) ?_
  refine lv_goto (tgt := 19) hx hb dJx35411_hasNext_aae02_15 (by decide) ?_
  exact W.zret (v := 1) (ty := .boolean) hx hb hr rfl (fun t9 ht9 hW9 => ⟨⟨1, (), rfl, rfl, ⟨pq_mk2 hP hD hK [0, 1] [] rfl rfl rfl ht9 hW9, by rw [ht9]; exact Nat.le_trans (Nat.add_le_add_left (Nat.le_of_ble_eq_true rfl) _) hG⟩⟩, hS.F ht9⟩) hS.2.2 dJx35411_hasNext_aae02_19

set_option maxHeartbeats 4000000 in
set_option maxRecDepth 100000 in
theorem k442_checkForComodification (l : Launch) (hl9 : l.stackTraces = false) (dC : Nat → ClassId) (dI : Nat → Nat → Nat) (z : XZ) (h0 h1 : Nat) (o0 : Nat) (sz : Nat) : Met l yJx35411_checkForComodification_da8c8 (.code yJx35411_checkForComodification_da8c8 cJx35411_checkForComodification_da8c8 1 none :: wsL_law) ({ frames := 0, cells := 0, slots := 0, locals := 0 }) (va_Pc [.ref h0] (PC (dC, dI) [(h0, ce86 h1), (h1, ce201 o0)] [] sz z)) (va_Qv (fun (_ : Unit) => True) (fun (_ : Unit) (t : State) => PG (dC, dI) [(h0, ce86 h1), (h1, ce201 o0)] [] (va_A [(h0, ce86 h1), (h1, ce201 o0)] sz) sz 0 t) (va_A [(h0, ce86 h1), (h1, ce201 o0)] sz)) 0 0 (va_A [(h0, ce86 h1), (h1, ce201 o0)] sz) := by
  refine Met.ofW (cc := cJx35411_checkForComodification_da8c8) (maxL := 1) (ret := none) (by decide) rfl ?_
  intro p e s m args below meth c s₁ B hml hv
  obtain ⟨rfl, hsz, hP, hK, hD0, hX, hT⟩ := hv
  have hx := B.exec
  have hb := B.bytes
  have hr := B.returns
  have hts0 := atoms_spec (ws := .code yJx35411_checkForComodification_da8c8 cJx35411_checkForComodification_da8c8 1 none :: wsL_law) B.pre
  have hts := xTail hts0
  have hown : s.vm.findClass RJx35411 = some m.cls := xown B.named rfl
  have hlocks := B.notSynchronized
  subst hsz
  have hD := hD0.self (sz := s.heap.size)
  generalize hAe : va_A [(h0, ce86 h1), (h1, ce201 o0)] s.heap.size = A at hD hX ⊢
  have hA : ∀ q : Nat, s.heap.size ≤ q → A q := fun q h => by rw [← hAe]; exact Or.inr h
  have hS : va_S A s.heap s.heap [] := va_S.rf
  have hG : s.heap.size + 0 ≤ s.heap.size := Nat.le_refl _
  have hl := lv_entry ([.ref h0]) (n := 1) (Nat.le_of_ble_eq_true rfl)
  rw [lg_entry_eq]
  generalize (lg_sl ([.ref h0]) ++ List.replicate (1 - (lg_sl ([.ref h0])).length) Slot.unset).toArray = ls at hl ⊢
  have hl : lv_has ls 1 [(0, .ref h0)] := hl
  refine lv_aload_n hx hb dJx35411_checkForComodification_da8c8_0 rfl (lv_at hl 0 rfl) ?_
  refine va_get (D := (dC, dI)) (ci := 1) (v := .ref h1) (C := RJx35411) (T := TJx35411) (N := 4) hx hb hts in_Jx35411 hown hK hP 0 rfl rfl 3 (by decide) (hts _ q_247) (fun _ h9 => h9) rfl dJx35411_checkForComodification_da8c8_1 ?_
  refine va_get (D := (dC, dI)) (ci := 0) (v := .int 5) (C := RJx4a65c) (T := TJx4a65c) (N := 3) hx hb hts in_Jx4a65c hown hK hP 1 rfl rfl 0 (by decide) (hts _ q_250) (u_same (hts _ q_107)) rfl dJx35411_checkForComodification_da8c8_4 ?_
  refine lv_aload_n hx hb dJx35411_checkForComodification_da8c8_7 rfl (lv_at hl 0 rfl) ?_
  refine va_get (D := (dC, dI)) (ci := 1) (v := .int 5) (C := RJx35411) (T := TJx35411) (N := 4) hx hb hts in_Jx35411 hown hK hP 0 rfl rfl 2 (by decide) (hts _ q_251) (fun _ h9 => h9) rfl dJx35411_checkForComodification_da8c8_8 ?_
  refine lv_icmp_eq (tgt := 22) hx hb dJx35411_checkForComodification_da8c8_11 (by decide) (fun _ => ?_) (fun cz => absurd (by decide) cz)
  exact W.vret hx hb hr (fun t9 ht9 hW9 => ⟨⟨(), rfl, trivial, ⟨pq_mk2 hP hD hK [0, 1] [] rfl rfl rfl ht9 hW9, by rw [ht9]; exact Nat.le_trans (Nat.add_le_add_left (Nat.le_of_ble_eq_true rfl) _) hG⟩⟩, hS.F ht9⟩) hS.2.2 dJx35411_checkForComodification_da8c8_22

set_option maxHeartbeats 4000000 in
set_option maxRecDepth 100000 in
theorem k443_next (l : Launch) (hl9 : l.stackTraces = false) (dC : Nat → ClassId) (dI : Nat → Nat → Nat) (z : XZ) (h0 h1 h2 : Nat) (o0 o1 o2 o3 o4 : Nat) (sz : Nat) (kc0 : ClassId) : Met l yJx35411_next_0502b (.code yJx35411_next_0502b cJx35411_next_0502b 3 (some (.object "java/lang/Object")) :: wsL_law) ({ frames := 1, cells := 0, slots := 0, locals := 20 }) (va_Pc [.ref h0] (PC (dC, dI) [(h0, ce86 h1), (h1, ce201 h2), (h2, ce200 kc0 o0 o1 o2 o3 o4)] [(kc0, .object "java/lang/Object")] sz z)) (va_Qr (fun (_ : Unit) => True) (fun (_ : Unit) (ra : Nat) (t : State) => ra = o0 ∧ PG (dC, dI) [(h0, ce88 h1), (h1, ce201 h2), (h2, ce200 kc0 o0 o1 o2 o3 o4)] [(kc0, .object "java/lang/Object")] (va_A [(h0, ce86 h1), (h1, ce201 h2), (h2, ce200 kc0 o0 o1 o2 o3 o4)] sz) sz 0 t) (va_A [(h0, ce86 h1), (h1, ce201 h2), (h2, ce200 kc0 o0 o1 o2 o3 o4)] sz)) 0 0 (va_A [(h0, ce86 h1), (h1, ce201 h2), (h2, ce200 kc0 o0 o1 o2 o3 o4)] sz) := by
  refine Met.ofW (cc := cJx35411_next_0502b) (maxL := 3) (ret := (some (.object "java/lang/Object"))) (by decide) rfl ?_
  intro p e s m args below meth c s₁ B hml hv
  obtain ⟨rfl, hsz, hP, hK, hD0, hX, hT⟩ := hv
  have hx := B.exec
  have hb := B.bytes
  have hr := B.returns
  have hts0 := atoms_spec (ws := .code yJx35411_next_0502b cJx35411_next_0502b 3 (some (.object "java/lang/Object")) :: wsL_law) B.pre
  have hts := xTail hts0
  have hown : s.vm.findClass RJx35411 = some m.cls := xown B.named rfl
  have hlocks := B.notSynchronized
  subst hsz
  have hD := hD0.self (sz := s.heap.size)
  generalize hAe : va_A [(h0, ce86 h1), (h1, ce201 h2), (h2, ce200 kc0 o0 o1 o2 o3 o4)] s.heap.size = A at hD hX ⊢
  have hA : ∀ q : Nat, s.heap.size ≤ q → A q := fun q h => by rw [← hAe]; exact Or.inr h
  have hS : va_S A s.heap s.heap [] := va_S.rf
  have hG : s.heap.size + 0 ≤ s.heap.size := Nat.le_refl _
  have hl := lv_entry ([.ref h0]) (n := 3) (Nat.le_of_ble_eq_true rfl)
  rw [lg_entry_eq]
  generalize (lg_sl ([.ref h0]) ++ List.replicate (3 - (lg_sl ([.ref h0])).length) Slot.unset).toArray = ls at hl ⊢
  have hl : lv_has ls 3 [(0, .ref h0)] := hl
  refine lv_aload_n hx hb dJx35411_next_0502b_0 rfl (lv_at hl 0 rfl) ?_
  have hM3 := k442_checkForComodification l hl9 dC dI z h0 h1 h2 s.heap.size
  obtain ⟨hF1, hC4⟩ := pc_M hM3 hP hD hK hS hX hT hA [0, 1] [] rfl rfl rfl
  refine va_callv (va_runV (As := []) (rest := []) ⟨hx, hb, hml, hown, hts⟩ hM3 (cwV 0 hts (gV q_303 q_304 q_305 q_246 q_302) rfl rfl rfl hV_Jx35411_checkForComodification_da8c8 ⟨Nat.le_of_ble_eq_true rfl, Nat.le_of_ble_eq_true rfl⟩) ⟨pc_blind, va_recv hK hP (ci := 1) (q := (RJx35411, TJx35411, 4)) (q0 := 0) rfl rfl, fun U hU hW => ⟨rfl, hC4 U hU hW⟩⟩ rfl rfl hl.1 rfl (lv_room (Nat.le_of_ble_eq_true rfl)) dJx35411_next_0502b_1 ⟨(Nat.le_of_ble_eq_true rfl), (Nat.le_of_ble_eq_true rfl)⟩) hS (fun q9 _ h9 => hF1 q9 h9) hF1 (fun u5 t5 H5 L5 ht5 hvm5 hw5 hB5 hz5 hk5 hS => ?_)
  have hP := pq_keep hP hD [0, 1] rfl hk5 hB5.1 ht5
  have hG : s.heap.size + 0 ≤ H5.size := Nat.le_trans hG hz5
  refine lv_aload_n hx hb dJx35411_next_0502b_4 rfl (lv_at hl 0 rfl) ?_
  refine va_get (D := (dC, dI)) (ci := 1) (v := .int 0) (C := RJx35411) (T := TJx35411) (N := 4) hx hb hts in_Jx35411 hown hK hP 0 rfl rfl 0 (by decide) (hts _ q_259) (fun _ h9 => h9) rfl dJx35411_next_0502b_5 ?_
  refine lv_istore_n (lv' := [(1, .int 0), (0, .ref h0)]) hx hb dJx35411_next_0502b_8 rfl hl (by decide) rfl (fun ls hl => ?_)
  refine lv_iload_n hx hb dJx35411_next_0502b_9 rfl (lv_at hl 0 rfl) ?_
  refine lv_aload_n hx hb dJx35411_next_0502b_10 rfl (lv_at hl 1 rfl) ?_
  refine va_get (D := (dC, dI)) (ci := 1) (v := .ref h1) (C := RJx35411) (T := TJx35411) (N := 4) hx hb hts in_Jx35411 hown hK hP 0 rfl rfl 3 (by decide) (hts _ q_247) (fun _ h9 => h9) rfl dJx35411_next_0502b_11 ?_
  refine va_getN (D := (dC, dI)) (ci := 0) (v := .int 5) (C := RJx4a65c) (T := TJx4a65c) (N := 3) hx hb hts in_Jx4a65c hown hK hP 1 rfl rfl 2 (by decide) (va_Nw.use rfl hT.2.2.2.2.1) (fun _ h9 => h9) rfl dJx35411_next_0502b_14 ?_
  refine lv_icmp_lt (tgt := 28) hx hb dJx35411_next_0502b_17 (by decide) (fun _ => ?_) (fun cz => absurd (by decide) cz)
  refine lv_aload_n hx hb dJx35411_next_0502b_28 rfl (lv_at hl 1 rfl) ?_
  refine va_get (D := (dC, dI)) (ci := 1) (v := .ref h1) (C := RJx35411) (T := TJx35411) (N := 4) hx hb hts in_Jx35411 hown hK hP 0 rfl rfl 3 (by decide) (hts _ q_247) (fun _ h9 => h9) rfl dJx35411_next_0502b_29 ?_
  refine va_get (D := (dC, dI)) (ci := 0) (v := .ref h2) (C := RJx4a65c) (T := TJx4a65c) (N := 3) hx hb hts in_Jx4a65c hown hK hP 1 rfl rfl 1 (by decide) (hts _ q_306) (fun _ h9 => h9) rfl dJx35411_next_0502b_32 ?_
  refine lv_astore_n (lv' := [(2, .ref h2), (1, .int 0), (0, .ref h0)]) hx hb dJx35411_next_0502b_35 rfl hl (by decide) rfl (fun ls hl => ?_)
  refine lv_iload_n hx hb dJx35411_next_0502b_36 rfl (lv_at hl 1 rfl) ?_
  refine lv_aload_n hx hb dJx35411_next_0502b_37 rfl (lv_at hl 0 rfl) ?_
  refine va_alen hx hb hK hP 2 0 rfl rfl (v := 10) rfl dJx35411_next_0502b_38 ?_
  refine lv_icmp_lt (tgt := 50) hx hb dJx35411_next_0502b_39 (by decide) (fun _ => ?_) (fun cz => absurd (by decide) cz)
  refine lv_aload_n hx hb dJx35411_next_0502b_50 rfl (lv_at hl 2 rfl) ?_
  refine lv_iload_n hx hb dJx35411_next_0502b_51 rfl (lv_at hl 1 rfl) ?_
  refine lv_iconst (v := 1) hx hb dJx35411_next_0502b_52 (by decide) ?_
  refine lv_iadd hx hb dJx35411_next_0502b_53 ?_
  refine lv_topi (fun y7 ey7 => ?_)
  obtain rfl : y7 = 1 := ey7.trans (by decide)
  refine va_put (D := (dC, dI)) (ci := 1) (v := .int 1) (ty := .int) (C := RJx35411) (T := TJx35411) (N := 4) hx hb hts in_Jx35411 tyJx35411 tyJx35411_ok nmJx35411 hown hK hP hD (va_Sre hS) 0 rfl rfl 0 (by decide) (hts _ q_259) (fun _ h9 => h9) rfl (by decide +kernel) rfl rfl (Nat.le_of_ble_eq_true rfl) dJx35411_next_0502b_54 (fun H8 _ hP hD hS' => ?_)
  have hG : s.heap.size + 0 ≤ H8.size := Nat.le_trans hG hS'.1
  have hS := va_Str hS hS'
  have hP : va_P (dC, dI) xCl [(h0, ce87 h1), (h1, ce201 h2), (h2, ce200 kc0 o0 o1 o2 o3 o4)] H8 := hP
  have hD := vd_as hP hD rfl
  refine lv_aload_n hx hb dJx35411_next_0502b_57 rfl (lv_at hl 0 rfl) ?_
  refine lv_aload_n hx hb dJx35411_next_0502b_58 rfl (lv_at hl 2 rfl) ?_
  refine lv_iload_n hx hb dJx35411_next_0502b_59 rfl (lv_at hl 1 rfl) ?_
  refine lv_dup_x1 hx hb dJx35411_next_0502b_60 rfl rfl ?_
  refine va_put (D := (dC, dI)) (ci := 1) (v := .int 0) (ty := .int) (C := RJx35411) (T := TJx35411) (N := 4) hx hb hts in_Jx35411 tyJx35411 tyJx35411_ok nmJx35411 hown hK hP hD (va_Sre hS) 0 rfl rfl 1 (by decide) (hts _ q_249) (fun _ h9 => h9) rfl (by decide +kernel) rfl rfl (Nat.le_of_ble_eq_true rfl) dJx35411_next_0502b_61 (fun H9 _ hP hD hS' => ?_)
  have hG : s.heap.size + 0 ≤ H9.size := Nat.le_trans hG hS'.1
  have hS := va_Str hS hS'
  have hP : va_P (dC, dI) xCl [(h0, ce88 h1), (h1, ce201 h2), (h2, ce200 kc0 o0 o1 o2 o3 o4)] H9 := hP
  have hD := vd_as hP hD rfl
  refine va_aldq hx hb hK hP 2 0 rfl rfl (i := 0) (by unfold vp_in; decide) dJx35411_next_0502b_64 ?_
  refine W.eq (g2 := F0 m 65 ls [.ref o0]) rfl ?_
  exact W.aret (v := .ref o0) hx hb hr (by first | exact Or.inl ⟨_, rfl⟩ | exact Or.inr ⟨_, rfl⟩) (Or.inr ⟨_, rfl⟩) (fun t9 ht9 hW9 => ⟨⟨(), o0, rfl, trivial, ⟨rfl, ⟨pq_mk2 hP hD hK [0, 1, 2] [0] rfl rfl rfl ht9 hW9, by rw [ht9]; exact Nat.le_trans (Nat.add_le_add_left (Nat.le_of_ble_eq_true rfl) _) hG⟩⟩⟩, hS.F ht9⟩) hS.2.2 dJx35411_next_0502b_65

set_option maxHeartbeats 4000000 in
set_option maxRecDepth 100000 in
theorem k444_hasNext (l : Launch) (hl9 : l.stackTraces = false) (dC : Nat → ClassId) (dI : Nat → Nat → Nat) (z : XZ) (h0 h1 : Nat) (o0 : Nat) (sz : Nat) : Met l yJx35411_hasNext_aae02 (.code yJx35411_hasNext_aae02 cJx35411_hasNext_aae02 1 (some .boolean) :: wsL_law) ({ frames := 0, cells := 0, slots := 0, locals := 0 }) (va_Pc [.ref h0] (PC (dC, dI) [(h0, ce88 h1), (h1, ce201 o0)] [] sz z)) (va_Qi (fun (r : Int32) (_ : Unit) => r = 1) (fun (_ : Unit) (t : State) => PG (dC, dI) [(h0, ce88 h1), (h1, ce201 o0)] [] (va_A [(h0, ce88 h1), (h1, ce201 o0)] sz) sz 0 t) (va_A [(h0, ce88 h1), (h1, ce201 o0)] sz)) 0 0 (va_A [(h0, ce88 h1), (h1, ce201 o0)] sz) := by
  refine Met.ofW (cc := cJx35411_hasNext_aae02) (maxL := 1) (ret := (some .boolean)) (by decide) rfl ?_
  intro p e s m args below meth c s₁ B hml hv
  obtain ⟨rfl, hsz, hP, hK, hD0, hX, hT⟩ := hv
  have hx := B.exec
  have hb := B.bytes
  have hr := B.returns
  have hts0 := atoms_spec (ws := .code yJx35411_hasNext_aae02 cJx35411_hasNext_aae02 1 (some .boolean) :: wsL_law) B.pre
  have hts := xTail hts0
  have hown : s.vm.findClass RJx35411 = some m.cls := xown B.named rfl
  have hlocks := B.notSynchronized
  subst hsz
  have hD := hD0.self (sz := s.heap.size)
  generalize hAe : va_A [(h0, ce88 h1), (h1, ce201 o0)] s.heap.size = A at hD hX ⊢
  have hA : ∀ q : Nat, s.heap.size ≤ q → A q := fun q h => by rw [← hAe]; exact Or.inr h
  have hS : va_S A s.heap s.heap [] := va_S.rf
  have hG : s.heap.size + 0 ≤ s.heap.size := Nat.le_refl _
  have hl := lv_entry ([.ref h0]) (n := 1) (Nat.le_of_ble_eq_true rfl)
  rw [lg_entry_eq]
  generalize (lg_sl ([.ref h0]) ++ List.replicate (1 - (lg_sl ([.ref h0])).length) Slot.unset).toArray = ls at hl ⊢
  have hl : lv_has ls 1 [(0, .ref h0)] := hl
  refine lv_aload_n hx hb dJx35411_hasNext_aae02_0 rfl (lv_at hl 0 rfl) ?_
  refine va_get (D := (dC, dI)) (ci := 1) (v := .int 1) (C := RJx35411) (T := TJx35411) (N := 4) hx hb hts in_Jx35411 hown hK hP 0 rfl rfl 0 (by decide) (hts _ q_259) (fun _ h9 => h9) rfl dJx35411_hasNext_aae02_1 ?_
  refine lv_aload_n hx hb dJx35411_hasNext_aae02_4 rfl (lv_at hl 0 rfl) ?_
  refine va_get (D := (dC, dI)) (ci := 1) (v := .ref h1) (C := RJx35411) (T := TJx35411) (N := 4) hx hb hts in_Jx35411 hown hK hP 0 rfl rfl 3 (by decide) (hts _ q_247) (fun _ h9 => h9) rfl dJx35411_hasNext_aae02_5 ?_
  refine va_getN (D := (dC, dI)) (ci := 0) (v := .int 5) (C := RJx4a65c) (T := TJx4a65c) (N := 3) hx hb hts in_Jx4a65c hown hK hP 1 rfl rfl 2 (by decide) (va_Nw.use rfl hT.2.2.2.2.1) (fun _ h9 => h9) rfl dJx35411_hasNext_aae02_8 ?_
  refine lv_icmp_eq (tgt := 18) hx hb dJx35411_hasNext_aae02_11 (by decide) (fun cz => absurd cz (by decide)) (fun _ => ?_)
  refine lv_iconst (v := 1) hx hb dJx35411_hasNext_aae02_14 (by decide) ?_
  refine lv_goto (tgt := 19) hx hb dJx35411_hasNext_aae02_15 (by decide) ?_
  exact W.zret (v := 1) (ty := .boolean) hx hb hr rfl (fun t9 ht9 hW9 => ⟨⟨1, (), rfl, rfl, ⟨pq_mk2 hP hD hK [0, 1] [] rfl rfl rfl ht9 hW9, by rw [ht9]; exact Nat.le_trans (Nat.add_le_add_left (Nat.le_of_ble_eq_true rfl) _) hG⟩⟩, hS.F ht9⟩) hS.2.2 dJx35411_hasNext_aae02_19

set_option maxHeartbeats 4000000 in
set_option maxRecDepth 100000 in
theorem k445_checkForComodification (l : Launch) (hl9 : l.stackTraces = false) (dC : Nat → ClassId) (dI : Nat → Nat → Nat) (z : XZ) (h0 h1 : Nat) (o0 : Nat) (sz : Nat) : Met l yJx35411_checkForComodification_da8c8 (.code yJx35411_checkForComodification_da8c8 cJx35411_checkForComodification_da8c8 1 none :: wsL_law) ({ frames := 0, cells := 0, slots := 0, locals := 0 }) (va_Pc [.ref h0] (PC (dC, dI) [(h0, ce88 h1), (h1, ce201 o0)] [] sz z)) (va_Qv (fun (_ : Unit) => True) (fun (_ : Unit) (t : State) => PG (dC, dI) [(h0, ce88 h1), (h1, ce201 o0)] [] (va_A [(h0, ce88 h1), (h1, ce201 o0)] sz) sz 0 t) (va_A [(h0, ce88 h1), (h1, ce201 o0)] sz)) 0 0 (va_A [(h0, ce88 h1), (h1, ce201 o0)] sz) := by
  refine Met.ofW (cc := cJx35411_checkForComodification_da8c8) (maxL := 1) (ret := none) (by decide) rfl ?_
  intro p e s m args below meth c s₁ B hml hv
  obtain ⟨rfl, hsz, hP, hK, hD0, hX, hT⟩ := hv
  have hx := B.exec
  have hb := B.bytes
  have hr := B.returns
  have hts0 := atoms_spec (ws := .code yJx35411_checkForComodification_da8c8 cJx35411_checkForComodification_da8c8 1 none :: wsL_law) B.pre
  have hts := xTail hts0
  have hown : s.vm.findClass RJx35411 = some m.cls := xown B.named rfl
  have hlocks := B.notSynchronized
  subst hsz
  have hD := hD0.self (sz := s.heap.size)
  generalize hAe : va_A [(h0, ce88 h1), (h1, ce201 o0)] s.heap.size = A at hD hX ⊢
  have hA : ∀ q : Nat, s.heap.size ≤ q → A q := fun q h => by rw [← hAe]; exact Or.inr h
  have hS : va_S A s.heap s.heap [] := va_S.rf
  have hG : s.heap.size + 0 ≤ s.heap.size := Nat.le_refl _
  have hl := lv_entry ([.ref h0]) (n := 1) (Nat.le_of_ble_eq_true rfl)
  rw [lg_entry_eq]
  generalize (lg_sl ([.ref h0]) ++ List.replicate (1 - (lg_sl ([.ref h0])).length) Slot.unset).toArray = ls at hl ⊢
  have hl : lv_has ls 1 [(0, .ref h0)] := hl
  refine lv_aload_n hx hb dJx35411_checkForComodification_da8c8_0 rfl (lv_at hl 0 rfl) ?_
  refine va_get (D := (dC, dI)) (ci := 1) (v := .ref h1) (C := RJx35411) (T := TJx35411) (N := 4) hx hb hts in_Jx35411 hown hK hP 0 rfl rfl 3 (by decide) (hts _ q_247) (fun _ h9 => h9) rfl dJx35411_checkForComodification_da8c8_1 ?_
  refine va_get (D := (dC, dI)) (ci := 0) (v := .int 5) (C := RJx4a65c) (T := TJx4a65c) (N := 3) hx hb hts in_Jx4a65c hown hK hP 1 rfl rfl 0 (by decide) (hts _ q_250) (u_same (hts _ q_107)) rfl dJx35411_checkForComodification_da8c8_4 ?_
  refine lv_aload_n hx hb dJx35411_checkForComodification_da8c8_7 rfl (lv_at hl 0 rfl) ?_
  refine va_get (D := (dC, dI)) (ci := 1) (v := .int 5) (C := RJx35411) (T := TJx35411) (N := 4) hx hb hts in_Jx35411 hown hK hP 0 rfl rfl 2 (by decide) (hts _ q_251) (fun _ h9 => h9) rfl dJx35411_checkForComodification_da8c8_8 ?_
  refine lv_icmp_eq (tgt := 22) hx hb dJx35411_checkForComodification_da8c8_11 (by decide) (fun _ => ?_) (fun cz => absurd (by decide) cz)
  exact W.vret hx hb hr (fun t9 ht9 hW9 => ⟨⟨(), rfl, trivial, ⟨pq_mk2 hP hD hK [0, 1] [] rfl rfl rfl ht9 hW9, by rw [ht9]; exact Nat.le_trans (Nat.add_le_add_left (Nat.le_of_ble_eq_true rfl) _) hG⟩⟩, hS.F ht9⟩) hS.2.2 dJx35411_checkForComodification_da8c8_22

set_option maxHeartbeats 4000000 in
set_option maxRecDepth 100000 in
theorem k446_next (l : Launch) (hl9 : l.stackTraces = false) (dC : Nat → ClassId) (dI : Nat → Nat → Nat) (z : XZ) (h0 h1 h2 : Nat) (o0 o1 o2 o3 o4 : Nat) (sz : Nat) (kc0 : ClassId) : Met l yJx35411_next_0502b (.code yJx35411_next_0502b cJx35411_next_0502b 3 (some (.object "java/lang/Object")) :: wsL_law) ({ frames := 1, cells := 0, slots := 0, locals := 20 }) (va_Pc [.ref h0] (PC (dC, dI) [(h0, ce88 h1), (h1, ce201 h2), (h2, ce200 kc0 o0 o1 o2 o3 o4)] [(kc0, .object "java/lang/Object")] sz z)) (va_Qr (fun (_ : Unit) => True) (fun (_ : Unit) (ra : Nat) (t : State) => ra = o1 ∧ PG (dC, dI) [(h0, ce90 h1), (h1, ce201 h2), (h2, ce200 kc0 o0 o1 o2 o3 o4)] [(kc0, .object "java/lang/Object")] (va_A [(h0, ce88 h1), (h1, ce201 h2), (h2, ce200 kc0 o0 o1 o2 o3 o4)] sz) sz 0 t) (va_A [(h0, ce88 h1), (h1, ce201 h2), (h2, ce200 kc0 o0 o1 o2 o3 o4)] sz)) 0 0 (va_A [(h0, ce88 h1), (h1, ce201 h2), (h2, ce200 kc0 o0 o1 o2 o3 o4)] sz) := by
  refine Met.ofW (cc := cJx35411_next_0502b) (maxL := 3) (ret := (some (.object "java/lang/Object"))) (by decide) rfl ?_
  intro p e s m args below meth c s₁ B hml hv
  obtain ⟨rfl, hsz, hP, hK, hD0, hX, hT⟩ := hv
  have hx := B.exec
  have hb := B.bytes
  have hr := B.returns
  have hts0 := atoms_spec (ws := .code yJx35411_next_0502b cJx35411_next_0502b 3 (some (.object "java/lang/Object")) :: wsL_law) B.pre
  have hts := xTail hts0
  have hown : s.vm.findClass RJx35411 = some m.cls := xown B.named rfl
  have hlocks := B.notSynchronized
  subst hsz
  have hD := hD0.self (sz := s.heap.size)
  generalize hAe : va_A [(h0, ce88 h1), (h1, ce201 h2), (h2, ce200 kc0 o0 o1 o2 o3 o4)] s.heap.size = A at hD hX ⊢
  have hA : ∀ q : Nat, s.heap.size ≤ q → A q := fun q h => by rw [← hAe]; exact Or.inr h
  have hS : va_S A s.heap s.heap [] := va_S.rf
  have hG : s.heap.size + 0 ≤ s.heap.size := Nat.le_refl _
  have hl := lv_entry ([.ref h0]) (n := 3) (Nat.le_of_ble_eq_true rfl)
  rw [lg_entry_eq]
  generalize (lg_sl ([.ref h0]) ++ List.replicate (3 - (lg_sl ([.ref h0])).length) Slot.unset).toArray = ls at hl ⊢
  have hl : lv_has ls 3 [(0, .ref h0)] := hl
  refine lv_aload_n hx hb dJx35411_next_0502b_0 rfl (lv_at hl 0 rfl) ?_
  have hM3 := k445_checkForComodification l hl9 dC dI z h0 h1 h2 s.heap.size
  obtain ⟨hF1, hC4⟩ := pc_M hM3 hP hD hK hS hX hT hA [0, 1] [] rfl rfl rfl
  refine va_callv (va_runV (As := []) (rest := []) ⟨hx, hb, hml, hown, hts⟩ hM3 (cwV 0 hts (gV q_303 q_304 q_305 q_246 q_302) rfl rfl rfl hV_Jx35411_checkForComodification_da8c8 ⟨Nat.le_of_ble_eq_true rfl, Nat.le_of_ble_eq_true rfl⟩) ⟨pc_blind, va_recv hK hP (ci := 1) (q := (RJx35411, TJx35411, 4)) (q0 := 0) rfl rfl, fun U hU hW => ⟨rfl, hC4 U hU hW⟩⟩ rfl rfl hl.1 rfl (lv_room (Nat.le_of_ble_eq_true rfl)) dJx35411_next_0502b_1 ⟨(Nat.le_of_ble_eq_true rfl), (Nat.le_of_ble_eq_true rfl)⟩) hS (fun q9 _ h9 => hF1 q9 h9) hF1 (fun u5 t5 H5 L5 ht5 hvm5 hw5 hB5 hz5 hk5 hS => ?_)
  have hP := pq_keep hP hD [0, 1] rfl hk5 hB5.1 ht5
  have hG : s.heap.size + 0 ≤ H5.size := Nat.le_trans hG hz5
  refine lv_aload_n hx hb dJx35411_next_0502b_4 rfl (lv_at hl 0 rfl) ?_
  refine va_get (D := (dC, dI)) (ci := 1) (v := .int 1) (C := RJx35411) (T := TJx35411) (N := 4) hx hb hts in_Jx35411 hown hK hP 0 rfl rfl 0 (by decide) (hts _ q_259) (fun _ h9 => h9) rfl dJx35411_next_0502b_5 ?_
  refine lv_istore_n (lv' := [(1, .int 1), (0, .ref h0)]) hx hb dJx35411_next_0502b_8 rfl hl (by decide) rfl (fun ls hl => ?_)
  refine lv_iload_n hx hb dJx35411_next_0502b_9 rfl (lv_at hl 0 rfl) ?_
  refine lv_aload_n hx hb dJx35411_next_0502b_10 rfl (lv_at hl 1 rfl) ?_
  refine va_get (D := (dC, dI)) (ci := 1) (v := .ref h1) (C := RJx35411) (T := TJx35411) (N := 4) hx hb hts in_Jx35411 hown hK hP 0 rfl rfl 3 (by decide) (hts _ q_247) (fun _ h9 => h9) rfl dJx35411_next_0502b_11 ?_
  refine va_getN (D := (dC, dI)) (ci := 0) (v := .int 5) (C := RJx4a65c) (T := TJx4a65c) (N := 3) hx hb hts in_Jx4a65c hown hK hP 1 rfl rfl 2 (by decide) (va_Nw.use rfl hT.2.2.2.2.1) (fun _ h9 => h9) rfl dJx35411_next_0502b_14 ?_
  refine lv_icmp_lt (tgt := 28) hx hb dJx35411_next_0502b_17 (by decide) (fun _ => ?_) (fun cz => absurd (by decide) cz)
  refine lv_aload_n hx hb dJx35411_next_0502b_28 rfl (lv_at hl 1 rfl) ?_
  refine va_get (D := (dC, dI)) (ci := 1) (v := .ref h1) (C := RJx35411) (T := TJx35411) (N := 4) hx hb hts in_Jx35411 hown hK hP 0 rfl rfl 3 (by decide) (hts _ q_247) (fun _ h9 => h9) rfl dJx35411_next_0502b_29 ?_
  refine va_get (D := (dC, dI)) (ci := 0) (v := .ref h2) (C := RJx4a65c) (T := TJx4a65c) (N := 3) hx hb hts in_Jx4a65c hown hK hP 1 rfl rfl 1 (by decide) (hts _ q_306) (fun _ h9 => h9) rfl dJx35411_next_0502b_32 ?_
  refine lv_astore_n (lv' := [(2, .ref h2), (1, .int 1), (0, .ref h0)]) hx hb dJx35411_next_0502b_35 rfl hl (by decide) rfl (fun ls hl => ?_)
  refine lv_iload_n hx hb dJx35411_next_0502b_36 rfl (lv_at hl 1 rfl) ?_
  refine lv_aload_n hx hb dJx35411_next_0502b_37 rfl (lv_at hl 0 rfl) ?_
  refine va_alen hx hb hK hP 2 0 rfl rfl (v := 10) rfl dJx35411_next_0502b_38 ?_
  refine lv_icmp_lt (tgt := 50) hx hb dJx35411_next_0502b_39 (by decide) (fun _ => ?_) (fun cz => absurd (by decide) cz)
  refine lv_aload_n hx hb dJx35411_next_0502b_50 rfl (lv_at hl 2 rfl) ?_
  refine lv_iload_n hx hb dJx35411_next_0502b_51 rfl (lv_at hl 1 rfl) ?_
  refine lv_iconst (v := 1) hx hb dJx35411_next_0502b_52 (by decide) ?_
  refine lv_iadd hx hb dJx35411_next_0502b_53 ?_
  refine lv_topi (fun y7 ey7 => ?_)
  obtain rfl : y7 = 2 := ey7.trans (by decide)
  refine va_put (D := (dC, dI)) (ci := 1) (v := .int 2) (ty := .int) (C := RJx35411) (T := TJx35411) (N := 4) hx hb hts in_Jx35411 tyJx35411 tyJx35411_ok nmJx35411 hown hK hP hD (va_Sre hS) 0 rfl rfl 0 (by decide) (hts _ q_259) (fun _ h9 => h9) rfl (by decide +kernel) rfl rfl (Nat.le_of_ble_eq_true rfl) dJx35411_next_0502b_54 (fun H8 _ hP hD hS' => ?_)
  have hG : s.heap.size + 0 ≤ H8.size := Nat.le_trans hG hS'.1
  have hS := va_Str hS hS'
  have hP : va_P (dC, dI) xCl [(h0, ce89 h1), (h1, ce201 h2), (h2, ce200 kc0 o0 o1 o2 o3 o4)] H8 := hP
  have hD := vd_as hP hD rfl
  refine lv_aload_n hx hb dJx35411_next_0502b_57 rfl (lv_at hl 0 rfl) ?_
  refine lv_aload_n hx hb dJx35411_next_0502b_58 rfl (lv_at hl 2 rfl) ?_
  refine lv_iload_n hx hb dJx35411_next_0502b_59 rfl (lv_at hl 1 rfl) ?_
  refine lv_dup_x1 hx hb dJx35411_next_0502b_60 rfl rfl ?_
  refine va_put (D := (dC, dI)) (ci := 1) (v := .int 1) (ty := .int) (C := RJx35411) (T := TJx35411) (N := 4) hx hb hts in_Jx35411 tyJx35411 tyJx35411_ok nmJx35411 hown hK hP hD (va_Sre hS) 0 rfl rfl 1 (by decide) (hts _ q_249) (fun _ h9 => h9) rfl (by decide +kernel) rfl rfl (Nat.le_of_ble_eq_true rfl) dJx35411_next_0502b_61 (fun H9 _ hP hD hS' => ?_)
  have hG : s.heap.size + 0 ≤ H9.size := Nat.le_trans hG hS'.1
  have hS := va_Str hS hS'
  have hP : va_P (dC, dI) xCl [(h0, ce90 h1), (h1, ce201 h2), (h2, ce200 kc0 o0 o1 o2 o3 o4)] H9 := hP
  have hD := vd_as hP hD rfl
  refine va_aldq hx hb hK hP 2 0 rfl rfl (i := 1) (by unfold vp_in; decide) dJx35411_next_0502b_64 ?_
  refine W.eq (g2 := F0 m 65 ls [.ref o1]) rfl ?_
  exact W.aret (v := .ref o1) hx hb hr (by first | exact Or.inl ⟨_, rfl⟩ | exact Or.inr ⟨_, rfl⟩) (Or.inr ⟨_, rfl⟩) (fun t9 ht9 hW9 => ⟨⟨(), o1, rfl, trivial, ⟨rfl, ⟨pq_mk2 hP hD hK [0, 1, 2] [0] rfl rfl rfl ht9 hW9, by rw [ht9]; exact Nat.le_trans (Nat.add_le_add_left (Nat.le_of_ble_eq_true rfl) _) hG⟩⟩⟩, hS.F ht9⟩) hS.2.2 dJx35411_next_0502b_65

set_option maxHeartbeats 4000000 in
set_option maxRecDepth 100000 in
theorem k447_hasNext (l : Launch) (hl9 : l.stackTraces = false) (dC : Nat → ClassId) (dI : Nat → Nat → Nat) (z : XZ) (h0 h1 : Nat) (o0 : Nat) (sz : Nat) : Met l yJx35411_hasNext_aae02 (.code yJx35411_hasNext_aae02 cJx35411_hasNext_aae02 1 (some .boolean) :: wsL_law) ({ frames := 0, cells := 0, slots := 0, locals := 0 }) (va_Pc [.ref h0] (PC (dC, dI) [(h0, ce90 h1), (h1, ce201 o0)] [] sz z)) (va_Qi (fun (r : Int32) (_ : Unit) => r = 1) (fun (_ : Unit) (t : State) => PG (dC, dI) [(h0, ce90 h1), (h1, ce201 o0)] [] (va_A [(h0, ce90 h1), (h1, ce201 o0)] sz) sz 0 t) (va_A [(h0, ce90 h1), (h1, ce201 o0)] sz)) 0 0 (va_A [(h0, ce90 h1), (h1, ce201 o0)] sz) := by
  refine Met.ofW (cc := cJx35411_hasNext_aae02) (maxL := 1) (ret := (some .boolean)) (by decide) rfl ?_
  intro p e s m args below meth c s₁ B hml hv
  obtain ⟨rfl, hsz, hP, hK, hD0, hX, hT⟩ := hv
  have hx := B.exec
  have hb := B.bytes
  have hr := B.returns
  have hts0 := atoms_spec (ws := .code yJx35411_hasNext_aae02 cJx35411_hasNext_aae02 1 (some .boolean) :: wsL_law) B.pre
  have hts := xTail hts0
  have hown : s.vm.findClass RJx35411 = some m.cls := xown B.named rfl
  have hlocks := B.notSynchronized
  subst hsz
  have hD := hD0.self (sz := s.heap.size)
  generalize hAe : va_A [(h0, ce90 h1), (h1, ce201 o0)] s.heap.size = A at hD hX ⊢
  have hA : ∀ q : Nat, s.heap.size ≤ q → A q := fun q h => by rw [← hAe]; exact Or.inr h
  have hS : va_S A s.heap s.heap [] := va_S.rf
  have hG : s.heap.size + 0 ≤ s.heap.size := Nat.le_refl _
  have hl := lv_entry ([.ref h0]) (n := 1) (Nat.le_of_ble_eq_true rfl)
  rw [lg_entry_eq]
  generalize (lg_sl ([.ref h0]) ++ List.replicate (1 - (lg_sl ([.ref h0])).length) Slot.unset).toArray = ls at hl ⊢
  have hl : lv_has ls 1 [(0, .ref h0)] := hl
  refine lv_aload_n hx hb dJx35411_hasNext_aae02_0 rfl (lv_at hl 0 rfl) ?_
  refine va_get (D := (dC, dI)) (ci := 1) (v := .int 2) (C := RJx35411) (T := TJx35411) (N := 4) hx hb hts in_Jx35411 hown hK hP 0 rfl rfl 0 (by decide) (hts _ q_259) (fun _ h9 => h9) rfl dJx35411_hasNext_aae02_1 ?_
  refine lv_aload_n hx hb dJx35411_hasNext_aae02_4 rfl (lv_at hl 0 rfl) ?_
  refine va_get (D := (dC, dI)) (ci := 1) (v := .ref h1) (C := RJx35411) (T := TJx35411) (N := 4) hx hb hts in_Jx35411 hown hK hP 0 rfl rfl 3 (by decide) (hts _ q_247) (fun _ h9 => h9) rfl dJx35411_hasNext_aae02_5 ?_
  refine va_getN (D := (dC, dI)) (ci := 0) (v := .int 5) (C := RJx4a65c) (T := TJx4a65c) (N := 3) hx hb hts in_Jx4a65c hown hK hP 1 rfl rfl 2 (by decide) (va_Nw.use rfl hT.2.2.2.2.1) (fun _ h9 => h9) rfl dJx35411_hasNext_aae02_8 ?_
  refine lv_icmp_eq (tgt := 18) hx hb dJx35411_hasNext_aae02_11 (by decide) (fun cz => absurd cz (by decide)) (fun _ => ?_)
  refine lv_iconst (v := 1) hx hb dJx35411_hasNext_aae02_14 (by decide) ?_
  refine lv_goto (tgt := 19) hx hb dJx35411_hasNext_aae02_15 (by decide) ?_
  exact W.zret (v := 1) (ty := .boolean) hx hb hr rfl (fun t9 ht9 hW9 => ⟨⟨1, (), rfl, rfl, ⟨pq_mk2 hP hD hK [0, 1] [] rfl rfl rfl ht9 hW9, by rw [ht9]; exact Nat.le_trans (Nat.add_le_add_left (Nat.le_of_ble_eq_true rfl) _) hG⟩⟩, hS.F ht9⟩) hS.2.2 dJx35411_hasNext_aae02_19

set_option maxHeartbeats 4000000 in
set_option maxRecDepth 100000 in
theorem k448_checkForComodification (l : Launch) (hl9 : l.stackTraces = false) (dC : Nat → ClassId) (dI : Nat → Nat → Nat) (z : XZ) (h0 h1 : Nat) (o0 : Nat) (sz : Nat) : Met l yJx35411_checkForComodification_da8c8 (.code yJx35411_checkForComodification_da8c8 cJx35411_checkForComodification_da8c8 1 none :: wsL_law) ({ frames := 0, cells := 0, slots := 0, locals := 0 }) (va_Pc [.ref h0] (PC (dC, dI) [(h0, ce90 h1), (h1, ce201 o0)] [] sz z)) (va_Qv (fun (_ : Unit) => True) (fun (_ : Unit) (t : State) => PG (dC, dI) [(h0, ce90 h1), (h1, ce201 o0)] [] (va_A [(h0, ce90 h1), (h1, ce201 o0)] sz) sz 0 t) (va_A [(h0, ce90 h1), (h1, ce201 o0)] sz)) 0 0 (va_A [(h0, ce90 h1), (h1, ce201 o0)] sz) := by
  refine Met.ofW (cc := cJx35411_checkForComodification_da8c8) (maxL := 1) (ret := none) (by decide) rfl ?_
  intro p e s m args below meth c s₁ B hml hv
  obtain ⟨rfl, hsz, hP, hK, hD0, hX, hT⟩ := hv
  have hx := B.exec
  have hb := B.bytes
  have hr := B.returns
  have hts0 := atoms_spec (ws := .code yJx35411_checkForComodification_da8c8 cJx35411_checkForComodification_da8c8 1 none :: wsL_law) B.pre
  have hts := xTail hts0
  have hown : s.vm.findClass RJx35411 = some m.cls := xown B.named rfl
  have hlocks := B.notSynchronized
  subst hsz
  have hD := hD0.self (sz := s.heap.size)
  generalize hAe : va_A [(h0, ce90 h1), (h1, ce201 o0)] s.heap.size = A at hD hX ⊢
  have hA : ∀ q : Nat, s.heap.size ≤ q → A q := fun q h => by rw [← hAe]; exact Or.inr h
  have hS : va_S A s.heap s.heap [] := va_S.rf
  have hG : s.heap.size + 0 ≤ s.heap.size := Nat.le_refl _
  have hl := lv_entry ([.ref h0]) (n := 1) (Nat.le_of_ble_eq_true rfl)
  rw [lg_entry_eq]
  generalize (lg_sl ([.ref h0]) ++ List.replicate (1 - (lg_sl ([.ref h0])).length) Slot.unset).toArray = ls at hl ⊢
  have hl : lv_has ls 1 [(0, .ref h0)] := hl
  refine lv_aload_n hx hb dJx35411_checkForComodification_da8c8_0 rfl (lv_at hl 0 rfl) ?_
  refine va_get (D := (dC, dI)) (ci := 1) (v := .ref h1) (C := RJx35411) (T := TJx35411) (N := 4) hx hb hts in_Jx35411 hown hK hP 0 rfl rfl 3 (by decide) (hts _ q_247) (fun _ h9 => h9) rfl dJx35411_checkForComodification_da8c8_1 ?_
  refine va_get (D := (dC, dI)) (ci := 0) (v := .int 5) (C := RJx4a65c) (T := TJx4a65c) (N := 3) hx hb hts in_Jx4a65c hown hK hP 1 rfl rfl 0 (by decide) (hts _ q_250) (u_same (hts _ q_107)) rfl dJx35411_checkForComodification_da8c8_4 ?_
  refine lv_aload_n hx hb dJx35411_checkForComodification_da8c8_7 rfl (lv_at hl 0 rfl) ?_
  refine va_get (D := (dC, dI)) (ci := 1) (v := .int 5) (C := RJx35411) (T := TJx35411) (N := 4) hx hb hts in_Jx35411 hown hK hP 0 rfl rfl 2 (by decide) (hts _ q_251) (fun _ h9 => h9) rfl dJx35411_checkForComodification_da8c8_8 ?_
  refine lv_icmp_eq (tgt := 22) hx hb dJx35411_checkForComodification_da8c8_11 (by decide) (fun _ => ?_) (fun cz => absurd (by decide) cz)
  exact W.vret hx hb hr (fun t9 ht9 hW9 => ⟨⟨(), rfl, trivial, ⟨pq_mk2 hP hD hK [0, 1] [] rfl rfl rfl ht9 hW9, by rw [ht9]; exact Nat.le_trans (Nat.add_le_add_left (Nat.le_of_ble_eq_true rfl) _) hG⟩⟩, hS.F ht9⟩) hS.2.2 dJx35411_checkForComodification_da8c8_22

set_option maxHeartbeats 4000000 in
set_option maxRecDepth 100000 in
theorem k449_next (l : Launch) (hl9 : l.stackTraces = false) (dC : Nat → ClassId) (dI : Nat → Nat → Nat) (z : XZ) (h0 h1 h2 : Nat) (o0 o1 o2 o3 o4 : Nat) (sz : Nat) (kc0 : ClassId) : Met l yJx35411_next_0502b (.code yJx35411_next_0502b cJx35411_next_0502b 3 (some (.object "java/lang/Object")) :: wsL_law) ({ frames := 1, cells := 0, slots := 0, locals := 20 }) (va_Pc [.ref h0] (PC (dC, dI) [(h0, ce90 h1), (h1, ce201 h2), (h2, ce200 kc0 o0 o1 o2 o3 o4)] [(kc0, .object "java/lang/Object")] sz z)) (va_Qr (fun (_ : Unit) => True) (fun (_ : Unit) (ra : Nat) (t : State) => ra = o2 ∧ PG (dC, dI) [(h0, ce231 h1), (h1, ce201 h2), (h2, ce200 kc0 o0 o1 o2 o3 o4)] [(kc0, .object "java/lang/Object")] (va_A [(h0, ce90 h1), (h1, ce201 h2), (h2, ce200 kc0 o0 o1 o2 o3 o4)] sz) sz 0 t) (va_A [(h0, ce90 h1), (h1, ce201 h2), (h2, ce200 kc0 o0 o1 o2 o3 o4)] sz)) 0 0 (va_A [(h0, ce90 h1), (h1, ce201 h2), (h2, ce200 kc0 o0 o1 o2 o3 o4)] sz) := by
  refine Met.ofW (cc := cJx35411_next_0502b) (maxL := 3) (ret := (some (.object "java/lang/Object"))) (by decide) rfl ?_
  intro p e s m args below meth c s₁ B hml hv
  obtain ⟨rfl, hsz, hP, hK, hD0, hX, hT⟩ := hv
  have hx := B.exec
  have hb := B.bytes
  have hr := B.returns
  have hts0 := atoms_spec (ws := .code yJx35411_next_0502b cJx35411_next_0502b 3 (some (.object "java/lang/Object")) :: wsL_law) B.pre
  have hts := xTail hts0
  have hown : s.vm.findClass RJx35411 = some m.cls := xown B.named rfl
  have hlocks := B.notSynchronized
  subst hsz
  have hD := hD0.self (sz := s.heap.size)
  generalize hAe : va_A [(h0, ce90 h1), (h1, ce201 h2), (h2, ce200 kc0 o0 o1 o2 o3 o4)] s.heap.size = A at hD hX ⊢
  have hA : ∀ q : Nat, s.heap.size ≤ q → A q := fun q h => by rw [← hAe]; exact Or.inr h
  have hS : va_S A s.heap s.heap [] := va_S.rf
  have hG : s.heap.size + 0 ≤ s.heap.size := Nat.le_refl _
  have hl := lv_entry ([.ref h0]) (n := 3) (Nat.le_of_ble_eq_true rfl)
  rw [lg_entry_eq]
  generalize (lg_sl ([.ref h0]) ++ List.replicate (3 - (lg_sl ([.ref h0])).length) Slot.unset).toArray = ls at hl ⊢
  have hl : lv_has ls 3 [(0, .ref h0)] := hl
  refine lv_aload_n hx hb dJx35411_next_0502b_0 rfl (lv_at hl 0 rfl) ?_
  have hM3 := k448_checkForComodification l hl9 dC dI z h0 h1 h2 s.heap.size
  obtain ⟨hF1, hC4⟩ := pc_M hM3 hP hD hK hS hX hT hA [0, 1] [] rfl rfl rfl
  refine va_callv (va_runV (As := []) (rest := []) ⟨hx, hb, hml, hown, hts⟩ hM3 (cwV 0 hts (gV q_303 q_304 q_305 q_246 q_302) rfl rfl rfl hV_Jx35411_checkForComodification_da8c8 ⟨Nat.le_of_ble_eq_true rfl, Nat.le_of_ble_eq_true rfl⟩) ⟨pc_blind, va_recv hK hP (ci := 1) (q := (RJx35411, TJx35411, 4)) (q0 := 0) rfl rfl, fun U hU hW => ⟨rfl, hC4 U hU hW⟩⟩ rfl rfl hl.1 rfl (lv_room (Nat.le_of_ble_eq_true rfl)) dJx35411_next_0502b_1 ⟨(Nat.le_of_ble_eq_true rfl), (Nat.le_of_ble_eq_true rfl)⟩) hS (fun q9 _ h9 => hF1 q9 h9) hF1 (fun u5 t5 H5 L5 ht5 hvm5 hw5 hB5 hz5 hk5 hS => ?_)
  have hP := pq_keep hP hD [0, 1] rfl hk5 hB5.1 ht5
  have hG : s.heap.size + 0 ≤ H5.size := Nat.le_trans hG hz5
  refine lv_aload_n hx hb dJx35411_next_0502b_4 rfl (lv_at hl 0 rfl) ?_
  refine va_get (D := (dC, dI)) (ci := 1) (v := .int 2) (C := RJx35411) (T := TJx35411) (N := 4) hx hb hts in_Jx35411 hown hK hP 0 rfl rfl 0 (by decide) (hts _ q_259) (fun _ h9 => h9) rfl dJx35411_next_0502b_5 ?_
  refine lv_istore_n (lv' := [(1, .int 2), (0, .ref h0)]) hx hb dJx35411_next_0502b_8 rfl hl (by decide) rfl (fun ls hl => ?_)
  refine lv_iload_n hx hb dJx35411_next_0502b_9 rfl (lv_at hl 0 rfl) ?_
  refine lv_aload_n hx hb dJx35411_next_0502b_10 rfl (lv_at hl 1 rfl) ?_
  refine va_get (D := (dC, dI)) (ci := 1) (v := .ref h1) (C := RJx35411) (T := TJx35411) (N := 4) hx hb hts in_Jx35411 hown hK hP 0 rfl rfl 3 (by decide) (hts _ q_247) (fun _ h9 => h9) rfl dJx35411_next_0502b_11 ?_
  refine va_getN (D := (dC, dI)) (ci := 0) (v := .int 5) (C := RJx4a65c) (T := TJx4a65c) (N := 3) hx hb hts in_Jx4a65c hown hK hP 1 rfl rfl 2 (by decide) (va_Nw.use rfl hT.2.2.2.2.1) (fun _ h9 => h9) rfl dJx35411_next_0502b_14 ?_
  refine lv_icmp_lt (tgt := 28) hx hb dJx35411_next_0502b_17 (by decide) (fun _ => ?_) (fun cz => absurd (by decide) cz)
  refine lv_aload_n hx hb dJx35411_next_0502b_28 rfl (lv_at hl 1 rfl) ?_
  refine va_get (D := (dC, dI)) (ci := 1) (v := .ref h1) (C := RJx35411) (T := TJx35411) (N := 4) hx hb hts in_Jx35411 hown hK hP 0 rfl rfl 3 (by decide) (hts _ q_247) (fun _ h9 => h9) rfl dJx35411_next_0502b_29 ?_
  refine va_get (D := (dC, dI)) (ci := 0) (v := .ref h2) (C := RJx4a65c) (T := TJx4a65c) (N := 3) hx hb hts in_Jx4a65c hown hK hP 1 rfl rfl 1 (by decide) (hts _ q_306) (fun _ h9 => h9) rfl dJx35411_next_0502b_32 ?_
  refine lv_astore_n (lv' := [(2, .ref h2), (1, .int 2), (0, .ref h0)]) hx hb dJx35411_next_0502b_35 rfl hl (by decide) rfl (fun ls hl => ?_)
  refine lv_iload_n hx hb dJx35411_next_0502b_36 rfl (lv_at hl 1 rfl) ?_
  refine lv_aload_n hx hb dJx35411_next_0502b_37 rfl (lv_at hl 0 rfl) ?_
  refine va_alen hx hb hK hP 2 0 rfl rfl (v := 10) rfl dJx35411_next_0502b_38 ?_
  refine lv_icmp_lt (tgt := 50) hx hb dJx35411_next_0502b_39 (by decide) (fun _ => ?_) (fun cz => absurd (by decide) cz)
  refine lv_aload_n hx hb dJx35411_next_0502b_50 rfl (lv_at hl 2 rfl) ?_
  refine lv_iload_n hx hb dJx35411_next_0502b_51 rfl (lv_at hl 1 rfl) ?_
  refine lv_iconst (v := 1) hx hb dJx35411_next_0502b_52 (by decide) ?_
  refine lv_iadd hx hb dJx35411_next_0502b_53 ?_
  refine lv_topi (fun y7 ey7 => ?_)
  obtain rfl : y7 = 3 := ey7.trans (by decide)
  refine va_put (D := (dC, dI)) (ci := 1) (v := .int 3) (ty := .int) (C := RJx35411) (T := TJx35411) (N := 4) hx hb hts in_Jx35411 tyJx35411 tyJx35411_ok nmJx35411 hown hK hP hD (va_Sre hS) 0 rfl rfl 0 (by decide) (hts _ q_259) (fun _ h9 => h9) rfl (by decide +kernel) rfl rfl (Nat.le_of_ble_eq_true rfl) dJx35411_next_0502b_54 (fun H8 _ hP hD hS' => ?_)
  have hG : s.heap.size + 0 ≤ H8.size := Nat.le_trans hG hS'.1
  have hS := va_Str hS hS'
  have hP : va_P (dC, dI) xCl [(h0, ce230 h1), (h1, ce201 h2), (h2, ce200 kc0 o0 o1 o2 o3 o4)] H8 := hP
  have hD := vd_as hP hD rfl
  refine lv_aload_n hx hb dJx35411_next_0502b_57 rfl (lv_at hl 0 rfl) ?_
  refine lv_aload_n hx hb dJx35411_next_0502b_58 rfl (lv_at hl 2 rfl) ?_
  refine lv_iload_n hx hb dJx35411_next_0502b_59 rfl (lv_at hl 1 rfl) ?_
  refine lv_dup_x1 hx hb dJx35411_next_0502b_60 rfl rfl ?_
  refine va_put (D := (dC, dI)) (ci := 1) (v := .int 2) (ty := .int) (C := RJx35411) (T := TJx35411) (N := 4) hx hb hts in_Jx35411 tyJx35411 tyJx35411_ok nmJx35411 hown hK hP hD (va_Sre hS) 0 rfl rfl 1 (by decide) (hts _ q_249) (fun _ h9 => h9) rfl (by decide +kernel) rfl rfl (Nat.le_of_ble_eq_true rfl) dJx35411_next_0502b_61 (fun H9 _ hP hD hS' => ?_)
  have hG : s.heap.size + 0 ≤ H9.size := Nat.le_trans hG hS'.1
  have hS := va_Str hS hS'
  have hP : va_P (dC, dI) xCl [(h0, ce231 h1), (h1, ce201 h2), (h2, ce200 kc0 o0 o1 o2 o3 o4)] H9 := hP
  have hD := vd_as hP hD rfl
  refine va_aldq hx hb hK hP 2 0 rfl rfl (i := 2) (by unfold vp_in; decide) dJx35411_next_0502b_64 ?_
  refine W.eq (g2 := F0 m 65 ls [.ref o2]) rfl ?_
  exact W.aret (v := .ref o2) hx hb hr (by first | exact Or.inl ⟨_, rfl⟩ | exact Or.inr ⟨_, rfl⟩) (Or.inr ⟨_, rfl⟩) (fun t9 ht9 hW9 => ⟨⟨(), o2, rfl, trivial, ⟨rfl, ⟨pq_mk2 hP hD hK [0, 1, 2] [0] rfl rfl rfl ht9 hW9, by rw [ht9]; exact Nat.le_trans (Nat.add_le_add_left (Nat.le_of_ble_eq_true rfl) _) hG⟩⟩⟩, hS.F ht9⟩) hS.2.2 dJx35411_next_0502b_65

set_option maxHeartbeats 4000000 in
set_option maxRecDepth 100000 in
theorem k450_hasNext (l : Launch) (hl9 : l.stackTraces = false) (dC : Nat → ClassId) (dI : Nat → Nat → Nat) (z : XZ) (h0 h1 : Nat) (o0 : Nat) (sz : Nat) : Met l yJx35411_hasNext_aae02 (.code yJx35411_hasNext_aae02 cJx35411_hasNext_aae02 1 (some .boolean) :: wsL_law) ({ frames := 0, cells := 0, slots := 0, locals := 0 }) (va_Pc [.ref h0] (PC (dC, dI) [(h0, ce231 h1), (h1, ce201 o0)] [] sz z)) (va_Qi (fun (r : Int32) (_ : Unit) => r = 1) (fun (_ : Unit) (t : State) => PG (dC, dI) [(h0, ce231 h1), (h1, ce201 o0)] [] (va_A [(h0, ce231 h1), (h1, ce201 o0)] sz) sz 0 t) (va_A [(h0, ce231 h1), (h1, ce201 o0)] sz)) 0 0 (va_A [(h0, ce231 h1), (h1, ce201 o0)] sz) := by
  refine Met.ofW (cc := cJx35411_hasNext_aae02) (maxL := 1) (ret := (some .boolean)) (by decide) rfl ?_
  intro p e s m args below meth c s₁ B hml hv
  obtain ⟨rfl, hsz, hP, hK, hD0, hX, hT⟩ := hv
  have hx := B.exec
  have hb := B.bytes
  have hr := B.returns
  have hts0 := atoms_spec (ws := .code yJx35411_hasNext_aae02 cJx35411_hasNext_aae02 1 (some .boolean) :: wsL_law) B.pre
  have hts := xTail hts0
  have hown : s.vm.findClass RJx35411 = some m.cls := xown B.named rfl
  have hlocks := B.notSynchronized
  subst hsz
  have hD := hD0.self (sz := s.heap.size)
  generalize hAe : va_A [(h0, ce231 h1), (h1, ce201 o0)] s.heap.size = A at hD hX ⊢
  have hA : ∀ q : Nat, s.heap.size ≤ q → A q := fun q h => by rw [← hAe]; exact Or.inr h
  have hS : va_S A s.heap s.heap [] := va_S.rf
  have hG : s.heap.size + 0 ≤ s.heap.size := Nat.le_refl _
  have hl := lv_entry ([.ref h0]) (n := 1) (Nat.le_of_ble_eq_true rfl)
  rw [lg_entry_eq]
  generalize (lg_sl ([.ref h0]) ++ List.replicate (1 - (lg_sl ([.ref h0])).length) Slot.unset).toArray = ls at hl ⊢
  have hl : lv_has ls 1 [(0, .ref h0)] := hl
  refine lv_aload_n hx hb dJx35411_hasNext_aae02_0 rfl (lv_at hl 0 rfl) ?_
  refine va_get (D := (dC, dI)) (ci := 1) (v := .int 3) (C := RJx35411) (T := TJx35411) (N := 4) hx hb hts in_Jx35411 hown hK hP 0 rfl rfl 0 (by decide) (hts _ q_259) (fun _ h9 => h9) rfl dJx35411_hasNext_aae02_1 ?_
  refine lv_aload_n hx hb dJx35411_hasNext_aae02_4 rfl (lv_at hl 0 rfl) ?_
  refine va_get (D := (dC, dI)) (ci := 1) (v := .ref h1) (C := RJx35411) (T := TJx35411) (N := 4) hx hb hts in_Jx35411 hown hK hP 0 rfl rfl 3 (by decide) (hts _ q_247) (fun _ h9 => h9) rfl dJx35411_hasNext_aae02_5 ?_
  refine va_getN (D := (dC, dI)) (ci := 0) (v := .int 5) (C := RJx4a65c) (T := TJx4a65c) (N := 3) hx hb hts in_Jx4a65c hown hK hP 1 rfl rfl 2 (by decide) (va_Nw.use rfl hT.2.2.2.2.1) (fun _ h9 => h9) rfl dJx35411_hasNext_aae02_8 ?_
  refine lv_icmp_eq (tgt := 18) hx hb dJx35411_hasNext_aae02_11 (by decide) (fun cz => absurd cz (by decide)) (fun _ => ?_)
  refine lv_iconst (v := 1) hx hb dJx35411_hasNext_aae02_14 (by decide) ?_
  refine lv_goto (tgt := 19) hx hb dJx35411_hasNext_aae02_15 (by decide) ?_
  exact W.zret (v := 1) (ty := .boolean) hx hb hr rfl (fun t9 ht9 hW9 => ⟨⟨1, (), rfl, rfl, ⟨pq_mk2 hP hD hK [0, 1] [] rfl rfl rfl ht9 hW9, by rw [ht9]; exact Nat.le_trans (Nat.add_le_add_left (Nat.le_of_ble_eq_true rfl) _) hG⟩⟩, hS.F ht9⟩) hS.2.2 dJx35411_hasNext_aae02_19

set_option maxHeartbeats 4000000 in
set_option maxRecDepth 100000 in
theorem k451_checkForComodification (l : Launch) (hl9 : l.stackTraces = false) (dC : Nat → ClassId) (dI : Nat → Nat → Nat) (z : XZ) (h0 h1 : Nat) (o0 : Nat) (sz : Nat) : Met l yJx35411_checkForComodification_da8c8 (.code yJx35411_checkForComodification_da8c8 cJx35411_checkForComodification_da8c8 1 none :: wsL_law) ({ frames := 0, cells := 0, slots := 0, locals := 0 }) (va_Pc [.ref h0] (PC (dC, dI) [(h0, ce231 h1), (h1, ce201 o0)] [] sz z)) (va_Qv (fun (_ : Unit) => True) (fun (_ : Unit) (t : State) => PG (dC, dI) [(h0, ce231 h1), (h1, ce201 o0)] [] (va_A [(h0, ce231 h1), (h1, ce201 o0)] sz) sz 0 t) (va_A [(h0, ce231 h1), (h1, ce201 o0)] sz)) 0 0 (va_A [(h0, ce231 h1), (h1, ce201 o0)] sz) := by
  refine Met.ofW (cc := cJx35411_checkForComodification_da8c8) (maxL := 1) (ret := none) (by decide) rfl ?_
  intro p e s m args below meth c s₁ B hml hv
  obtain ⟨rfl, hsz, hP, hK, hD0, hX, hT⟩ := hv
  have hx := B.exec
  have hb := B.bytes
  have hr := B.returns
  have hts0 := atoms_spec (ws := .code yJx35411_checkForComodification_da8c8 cJx35411_checkForComodification_da8c8 1 none :: wsL_law) B.pre
  have hts := xTail hts0
  have hown : s.vm.findClass RJx35411 = some m.cls := xown B.named rfl
  have hlocks := B.notSynchronized
  subst hsz
  have hD := hD0.self (sz := s.heap.size)
  generalize hAe : va_A [(h0, ce231 h1), (h1, ce201 o0)] s.heap.size = A at hD hX ⊢
  have hA : ∀ q : Nat, s.heap.size ≤ q → A q := fun q h => by rw [← hAe]; exact Or.inr h
  have hS : va_S A s.heap s.heap [] := va_S.rf
  have hG : s.heap.size + 0 ≤ s.heap.size := Nat.le_refl _
  have hl := lv_entry ([.ref h0]) (n := 1) (Nat.le_of_ble_eq_true rfl)
  rw [lg_entry_eq]
  generalize (lg_sl ([.ref h0]) ++ List.replicate (1 - (lg_sl ([.ref h0])).length) Slot.unset).toArray = ls at hl ⊢
  have hl : lv_has ls 1 [(0, .ref h0)] := hl
  refine lv_aload_n hx hb dJx35411_checkForComodification_da8c8_0 rfl (lv_at hl 0 rfl) ?_
  refine va_get (D := (dC, dI)) (ci := 1) (v := .ref h1) (C := RJx35411) (T := TJx35411) (N := 4) hx hb hts in_Jx35411 hown hK hP 0 rfl rfl 3 (by decide) (hts _ q_247) (fun _ h9 => h9) rfl dJx35411_checkForComodification_da8c8_1 ?_
  refine va_get (D := (dC, dI)) (ci := 0) (v := .int 5) (C := RJx4a65c) (T := TJx4a65c) (N := 3) hx hb hts in_Jx4a65c hown hK hP 1 rfl rfl 0 (by decide) (hts _ q_250) (u_same (hts _ q_107)) rfl dJx35411_checkForComodification_da8c8_4 ?_
  refine lv_aload_n hx hb dJx35411_checkForComodification_da8c8_7 rfl (lv_at hl 0 rfl) ?_
  refine va_get (D := (dC, dI)) (ci := 1) (v := .int 5) (C := RJx35411) (T := TJx35411) (N := 4) hx hb hts in_Jx35411 hown hK hP 0 rfl rfl 2 (by decide) (hts _ q_251) (fun _ h9 => h9) rfl dJx35411_checkForComodification_da8c8_8 ?_
  refine lv_icmp_eq (tgt := 22) hx hb dJx35411_checkForComodification_da8c8_11 (by decide) (fun _ => ?_) (fun cz => absurd (by decide) cz)
  exact W.vret hx hb hr (fun t9 ht9 hW9 => ⟨⟨(), rfl, trivial, ⟨pq_mk2 hP hD hK [0, 1] [] rfl rfl rfl ht9 hW9, by rw [ht9]; exact Nat.le_trans (Nat.add_le_add_left (Nat.le_of_ble_eq_true rfl) _) hG⟩⟩, hS.F ht9⟩) hS.2.2 dJx35411_checkForComodification_da8c8_22
