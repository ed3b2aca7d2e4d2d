set_option maxHeartbeats 4000000 in
set_option maxRecDepth 100000 in
theorem k296_findStandings (l : Launch) (hl9 : l.stackTraces = false) (dC : Nat → ClassId) (dI : Nat → Nat → Nat) (z : XZ) (h0 h1 h2 h3 h4 h5 h6 h7 : Nat) (o0 o1 o2 o3 o4 o5 : Nat) (sz : Nat) (kc0 : ClassId) : Met l yX0_findStandings (.code yX0_findStandings cX0_findStandings 5 none :: wsL_law) ({ frames := 3, cells := 0, slots := 0, locals := 64 }) (va_Pc [.ref h0] (PC (dC, dI) [(h0, ce7 h1 o0 h2 o1), (h1, ce147 h3), (h2, ce3 z.1), (h3, ce146 kc0 h4 h5 h6 h7), (h4, ce38 (z.2.1 0) o2 h4), (h5, ce77 (z.2.1 0) o3 h5), (h6, ce115 (z.2.1 0) o4 h6), (h7, ce165 (z.2.1 0) o5 h7)] [(kc0, .object "java/lang/Object")] sz z)) (va_Qv (fun (_ : Unit) => True) (fun (_ : Unit) (t : State) => PG (dC, dI) [(h0, ce7 h1 o0 h2 o1), (h1, ce147 h3), (h2, ce3 z.1), (h3, ce146 kc0 h4 h5 h6 h7), (h4, ce38 (z.2.1 0) o2 h4), (h5, ce77 (z.2.1 0) o3 h5), (h6, ce115 (z.2.1 0) o4 h6), (h7, ce165 (z.2.1 0) o5 h7)] [(kc0, .object "java/lang/Object")] (va_A [(h0, ce7 h1 o0 h2 o1), (h1, ce147 h3), (h2, ce3 z.1), (h3, ce146 kc0 h4 h5 h6 h7), (h4, ce38 (z.2.1 0) o2 h4), (h5, ce77 (z.2.1 0) o3 h5), (h6, ce115 (z.2.1 0) o4 h6), (h7, ce165 (z.2.1 0) o5 h7)] sz) sz 0 t) (va_A [(h0, ce7 h1 o0 h2 o1), (h1, ce147 h3), (h2, ce3 z.1), (h3, ce146 kc0 h4 h5 h6 h7), (h4, ce38 (z.2.1 0) o2 h4), (h5, ce77 (z.2.1 0) o3 h5), (h6, ce115 (z.2.1 0) o4 h6), (h7, ce165 (z.2.1 0) o5 h7)] sz)) 0 0 (va_A [(h0, ce7 h1 o0 h2 o1), (h1, ce147 h3), (h2, ce3 z.1), (h3, ce146 kc0 h4 h5 h6 h7), (h4, ce38 (z.2.1 0) o2 h4), (h5, ce77 (z.2.1 0) o3 h5), (h6, ce115 (z.2.1 0) o4 h6), (h7, ce165 (z.2.1 0) o5 h7)] sz) := by
  refine Met.ofW (cc := cX0_findStandings) (maxL := 5) (ret := none) (by decide) rfl ?_
  intro p e s m args below meth c s₁ B hml hv
  obtain ⟨rfl, hsz, hP, hK, hD0, hX, hT⟩ := hv
  have hx := B.exec
  have hb := B.bytes
  have hr := B.returns
  have hts0 := atoms_spec (ws := .code yX0_findStandings cX0_findStandings 5 none :: wsL_law) B.pre
  have hts := xTail hts0
  have hown : s.vm.findClass RX0 = some m.cls := xown B.named rfl
  have hlocks := B.notSynchronized
  subst hsz
  have hD := hD0.self (sz := s.heap.size)
  generalize hAe : va_A [(h0, ce7 h1 o0 h2 o1), (h1, ce147 h3), (h2, ce3 z.1), (h3, ce146 kc0 h4 h5 h6 h7), (h4, ce38 (z.2.1 0) o2 h4), (h5, ce77 (z.2.1 0) o3 h5), (h6, ce115 (z.2.1 0) o4 h6), (h7, ce165 (z.2.1 0) o5 h7)] s.heap.size = A at hD hX ⊢
  have hA : ∀ q : Nat, s.heap.size ≤ q → A q := fun q h => by rw [← hAe]; exact Or.inr h
  have hS : va_S A s.heap s.heap [] := va_S.rf
  have hG : s.heap.size + 0 ≤ s.heap.size := Nat.le_refl _
  have hl := lv_entry ([.ref h0]) (n := 5) (Nat.le_of_ble_eq_true rfl)
  rw [lg_entry_eq]
  generalize (lg_sl ([.ref h0]) ++ List.replicate (5 - (lg_sl ([.ref h0])).length) Slot.unset).toArray = ls at hl ⊢
  have hl : lv_has ls 5 [(0, .ref h0)] := hl
  refine lv_iconst (v := 0) hx hb dX0_findStandings_0 (by decide) ?_
  refine lv_istore_n (lv' := [(1, .int 0), (0, .ref h0)]) hx hb dX0_findStandings_1 rfl hl (by decide) rfl (fun ls hl => ?_)
  refine lv_iload_n hx hb dX0_findStandings_2 rfl (lv_at hl 0 rfl) ?_
  refine lv_aload_n hx hb dX0_findStandings_3 rfl (lv_at hl 1 rfl) ?_
  refine va_get (D := (dC, dI)) (ci := 2) (v := .ref h1) (C := RX0) (T := TX0) (N := 4) hx hb hts in_X0 hown hK hP 0 rfl rfl 0 (by decide) (hts _ q_28) (fun _ h9 => h9) rfl dX0_findStandings_4 ?_
  have hM3 := k20_size l hl9 dC dI z h1 h3 s.heap.size 4 4
  obtain ⟨hF1, hC4⟩ := pc_M hM3 hP hD hK hS hX hT hA [1] [] rfl rfl rfl
  refine va_calli (va_runV (As := []) (rest := [.int 0]) ⟨hx, hb, hml, hown, hts⟩ hM3 (cwV 0 hts (gV q_92 q_77 q_78 q_12 q_75) rfl rfl rfl hV_Jx4a65c_size_8abf5 ⟨Nat.le_of_ble_eq_true rfl, Nat.le_of_ble_eq_true rfl⟩) ⟨pc_blind, va_recv hK hP (ci := 0) (q := (RJx4a65c, TJx4a65c, 3)) (q0 := 1) rfl rfl, fun U hU hW => ⟨rfl, hC4 U hU hW⟩⟩ rfl rfl hl.1 rfl (lv_room (Nat.le_of_ble_eq_true rfl)) dX0_findStandings_7 ⟨(Nat.le_of_ble_eq_true rfl), (Nat.le_of_ble_eq_true rfl)⟩) hS (fun q9 _ h9 => hF1 q9 h9) hF1 (fun r6 u5 t5 H5 L5 ht5 hvm5 hw5 hB5 hz5 hk5 hS => ?_)
  have hP := pq_keep hP hD [1] rfl hk5 hB5.1 ht5
  have hG : s.heap.size + 0 ≤ H5.size := Nat.le_trans hG hz5
  refine W.eq (g2 := F0 m 10 ls [.int 4, .int 0]) (by rw [hw5]) ?_
  refine lv_icmp_ge (tgt := 44) hx hb dX0_findStandings_10 (by decide) (fun cz => absurd cz (by decide)) (fun _ => ?_)
  refine lv_aload_n hx hb dX0_findStandings_13 rfl (lv_at hl 1 rfl) ?_
  refine va_get (D := (dC, dI)) (ci := 2) (v := .ref h1) (C := RX0) (T := TX0) (N := 4) hx hb hts in_X0 hown hK hP 0 rfl rfl 0 (by decide) (hts _ q_28) (fun _ h9 => h9) rfl dX0_findStandings_14 ?_
  refine lv_iload_n hx hb dX0_findStandings_17 rfl (lv_at hl 0 rfl) ?_
  have hM9 := k260_get l hl9 dC dI z h1 h3 h4 h5 h6 h7 H5.size kc0
  obtain ⟨hF7, hC10⟩ := pc_M hM9 hP hD hK hS hX hT hA [1, 3] [0] rfl rfl rfl
  refine va_callr (va_runV (As := [.int 0]) (rest := []) ⟨hx, hb, hml, hown, hts⟩ hM9 (cwV 1 hts (gV q_156 q_157 q_158 q_12 q_155) rfl rfl rfl hV_Jx4a65c_get_915e3 ⟨Nat.le_of_ble_eq_true rfl, Nat.le_of_ble_eq_true rfl⟩) ⟨pc_blind, va_recv hK hP (ci := 0) (q := (RJx4a65c, TJx4a65c, 3)) (q0 := 1) rfl rfl, fun U hU hW => ⟨rfl, hC10 U hU hW⟩⟩ rfl rfl hl.1 rfl (lv_room (Nat.le_of_ble_eq_true rfl)) dX0_findStandings_18 ⟨(Nat.le_of_ble_eq_true rfl), (Nat.le_of_ble_eq_true rfl)⟩) hS (fun q9 _ h9 => hF7 q9 h9) hF7 (fun u11 r12 t11 H11 L11 ht11 hvm11 hw11 hB11 hz11 hk11 hS => ?_)
  obtain ⟨hr11, hB11⟩ := hB11
  have hP := pq_keep hP hD [1, 3] rfl hk11 hB11.1 ht11
  have hG : s.heap.size + 0 ≤ H11.size := Nat.le_trans hG hz11
  refine W.eq (g2 := F0 m 21 ls [.ref h4]) (by rw [hr11]) ?_
  refine va_castE (nm := RX2) hx hb hown (hts _ q_89) (va_recv hK hP (ci := 3) (q := (RX2, TX2, 19)) (q0 := 4) rfl rfl) dX0_findStandings_21 ?_
  refine lv_aload_n hx hb dX0_findStandings_24 rfl (lv_at hl 1 rfl) ?_
  refine va_get (D := (dC, dI)) (ci := 2) (v := .ref h1) (C := RX0) (T := TX0) (N := 4) hx hb hts in_X0 hown hK hP 0 rfl rfl 0 (by decide) (hts _ q_28) (fun _ h9 => h9) rfl dX0_findStandings_25 ?_
  refine lv_iload_n hx hb dX0_findStandings_28 rfl (lv_at hl 0 rfl) ?_
  have hM15 := k260_get l hl9 dC dI z h1 h3 h4 h5 h6 h7 H11.size kc0
  obtain ⟨hF13, hC16⟩ := pc_M hM15 hP hD hK hS hX hT hA [1, 3] [0] rfl rfl rfl
  refine va_callr (va_runV (As := [.int 0]) (rest := [.ref h4]) ⟨hx, hb, hml, hown, hts⟩ hM15 (cwV 1 hts (gV q_156 q_157 q_158 q_12 q_155) rfl rfl rfl hV_Jx4a65c_get_915e3 ⟨Nat.le_of_ble_eq_true rfl, Nat.le_of_ble_eq_true rfl⟩) ⟨pc_blind, va_recv hK hP (ci := 0) (q := (RJx4a65c, TJx4a65c, 3)) (q0 := 1) rfl rfl, fun U hU hW => ⟨rfl, hC16 U hU hW⟩⟩ rfl rfl hl.1 rfl (lv_room (Nat.le_of_ble_eq_true rfl)) dX0_findStandings_29 ⟨(Nat.le_of_ble_eq_true rfl), (Nat.le_of_ble_eq_true rfl)⟩) hS (fun q9 _ h9 => hF13 q9 h9) hF13 (fun u17 r18 t17 H17 L17 ht17 hvm17 hw17 hB17 hz17 hk17 hS => ?_)
  obtain ⟨hr17, hB17⟩ := hB17
  have hP := pq_keep hP hD [1, 3] rfl hk17 hB17.1 ht17
  have hG : s.heap.size + 0 ≤ H17.size := Nat.le_trans hG hz17
  refine W.eq (g2 := F0 m 32 ls [.ref h4, .ref h4]) (by rw [hr17]) ?_
  refine va_castE (nm := RX2) hx hb hown (hts _ q_89) (va_recv hK hP (ci := 3) (q := (RX2, TX2, 19)) (q0 := 4) rfl rfl) dX0_findStandings_32 ?_
  refine va_put (D := (dC, dI)) (ci := 3) (v := .ref h4) (ty := .object "Deltacycle$Net") (C := RX2) (T := TX2) (N := 19) hx hb hts in_X2 tyX2 tyX2_ok nmX2 hown hK hP hD (va_Sre hS) 4 rfl rfl 16 (by decide) (hts _ q_192) (fun _ h9 => h9) rfl (by decide +kernel) rfl rfl (Nat.le_of_ble_eq_true rfl) dX0_findStandings_35 (fun H19 _ hP hD hS' => ?_)
  have hG : s.heap.size + 0 ≤ H19.size := Nat.le_trans hG hS'.1
  have hS := va_Str hS hS'
  have hP : va_P (dC, dI) xCl [(h0, ce7 h1 o0 h2 o1), (h1, ce147 h3), (h2, ce3 z.1), (h3, ce146 kc0 h4 h5 h6 h7), (h4, ce38 (z.2.1 0) o2 h4), (h5, ce77 (z.2.1 0) o3 h5), (h6, ce115 (z.2.1 0) o4 h6), (h7, ce165 (z.2.1 0) o5 h7)] H19 := hP
  have hD := vd_as hP hD rfl
  refine lv_iinc (v := 1) (lv' := [(1, .int 1), (0, .ref h0)]) hx hb dX0_findStandings_38 hl (k := 0) rfl (by decide) (by decide) rfl (fun ls hl => ?_)
  refine lv_goto (tgt := 2) hx hb dX0_findStandings_41 (by decide) ?_
  refine lv_iload_n hx hb dX0_findStandings_2 rfl (lv_at hl 0 rfl) ?_
  refine lv_aload_n hx hb dX0_findStandings_3 rfl (lv_at hl 1 rfl) ?_
  refine va_get (D := (dC, dI)) (ci := 2) (v := .ref h1) (C := RX0) (T := TX0) (N := 4) hx hb hts in_X0 hown hK hP 0 rfl rfl 0 (by decide) (hts _ q_28) (fun _ h9 => h9) rfl dX0_findStandings_4 ?_
  have hM22 := k20_size l hl9 dC dI z h1 h3 H19.size 4 4
  obtain ⟨hF20, hC23⟩ := pc_M hM22 hP hD hK hS hX hT hA [1] [] rfl rfl rfl
  refine va_calli (va_runV (As := []) (rest := [.int 1]) ⟨hx, hb, hml, hown, hts⟩ hM22 (cwV 0 hts (gV q_92 q_77 q_78 q_12 q_75) rfl rfl rfl hV_Jx4a65c_size_8abf5 ⟨Nat.le_of_ble_eq_true rfl, Nat.le_of_ble_eq_true rfl⟩) ⟨pc_blind, va_recv hK hP (ci := 0) (q := (RJx4a65c, TJx4a65c, 3)) (q0 := 1) rfl rfl, fun U hU hW => ⟨rfl, hC23 U hU hW⟩⟩ rfl rfl hl.1 rfl (lv_room (Nat.le_of_ble_eq_true rfl)) dX0_findStandings_7 ⟨(Nat.le_of_ble_eq_true rfl), (Nat.le_of_ble_eq_true rfl)⟩) hS (fun q9 _ h9 => hF20 q9 h9) hF20 (fun r25 u24 t24 H24 L24 ht24 hvm24 hw24 hB24 hz24 hk24 hS => ?_)
  have hP := pq_keep hP hD [1] rfl hk24 hB24.1 ht24
  have hG : s.heap.size + 0 ≤ H24.size := Nat.le_trans hG hz24
  refine W.eq (g2 := F0 m 10 ls [.int 4, .int 1]) (by rw [hw24]) ?_
  refine lv_icmp_ge (tgt := 44) hx hb dX0_findStandings_10 (by decide) (fun cz => absurd cz (by decide)) (fun _ => ?_)
  refine lv_aload_n hx hb dX0_findStandings_13 rfl (lv_at hl 1 rfl) ?_
  refine va_get (D := (dC, dI)) (ci := 2) (v := .ref h1) (C := RX0) (T := TX0) (N := 4) hx hb hts in_X0 hown hK hP 0 rfl rfl 0 (by decide) (hts _ q_28) (fun _ h9 => h9) rfl dX0_findStandings_14 ?_
  refine lv_iload_n hx hb dX0_findStandings_17 rfl (lv_at hl 0 rfl) ?_
  have hM28 := k264_get l hl9 dC dI z h1 h3 h4 h5 h6 h7 H24.size kc0
  obtain ⟨hF26, hC29⟩ := pc_M hM28 hP hD hK hS hX hT hA [1, 3] [0] rfl rfl rfl
  refine va_callr (va_runV (As := [.int 1]) (rest := []) ⟨hx, hb, hml, hown, hts⟩ hM28 (cwV 1 hts (gV q_156 q_157 q_158 q_12 q_155) rfl rfl rfl hV_Jx4a65c_get_915e3 ⟨Nat.le_of_ble_eq_true rfl, Nat.le_of_ble_eq_true rfl⟩) ⟨pc_blind, va_recv hK hP (ci := 0) (q := (RJx4a65c, TJx4a65c, 3)) (q0 := 1) rfl rfl, fun U hU hW => ⟨rfl, hC29 U hU hW⟩⟩ rfl rfl hl.1 rfl (lv_room (Nat.le_of_ble_eq_true rfl)) dX0_findStandings_18 ⟨(Nat.le_of_ble_eq_true rfl), (Nat.le_of_ble_eq_true rfl)⟩) hS (fun q9 _ h9 => hF26 q9 h9) hF26 (fun u30 r31 t30 H30 L30 ht30 hvm30 hw30 hB30 hz30 hk30 hS => ?_)
  obtain ⟨hr30, hB30⟩ := hB30
  have hP := pq_keep hP hD [1, 3] rfl hk30 hB30.1 ht30
  have hG : s.heap.size + 0 ≤ H30.size := Nat.le_trans hG hz30
  refine W.eq (g2 := F0 m 21 ls [.ref h5]) (by rw [hr30]) ?_
  refine va_castE (nm := RX2) hx hb hown (hts _ q_89) (va_recv hK hP (ci := 3) (q := (RX2, TX2, 19)) (q0 := 5) rfl rfl) dX0_findStandings_21 ?_
  refine lv_aload_n hx hb dX0_findStandings_24 rfl (lv_at hl 1 rfl) ?_
  refine va_get (D := (dC, dI)) (ci := 2) (v := .ref h1) (C := RX0) (T := TX0) (N := 4) hx hb hts in_X0 hown hK hP 0 rfl rfl 0 (by decide) (hts _ q_28) (fun _ h9 => h9) rfl dX0_findStandings_25 ?_
  refine lv_iload_n hx hb dX0_findStandings_28 rfl (lv_at hl 0 rfl) ?_
  have hM34 := k264_get l hl9 dC dI z h1 h3 h4 h5 h6 h7 H30.size kc0
  obtain ⟨hF32, hC35⟩ := pc_M hM34 hP hD hK hS hX hT hA [1, 3] [0] rfl rfl rfl
  refine va_callr (va_runV (As := [.int 1]) (rest := [.ref h5]) ⟨hx, hb, hml, hown, hts⟩ hM34 (cwV 1 hts (gV q_156 q_157 q_158 q_12 q_155) rfl rfl rfl hV_Jx4a65c_get_915e3 ⟨Nat.le_of_ble_eq_true rfl, Nat.le_of_ble_eq_true rfl⟩) ⟨pc_blind, va_recv hK hP (ci := 0) (q := (RJx4a65c, TJx4a65c, 3)) (q0 := 1) rfl rfl, fun U hU hW => ⟨rfl, hC35 U hU hW⟩⟩ rfl rfl hl.1 rfl (lv_room (Nat.le_of_ble_eq_true rfl)) dX0_findStandings_29 ⟨(Nat.le_of_ble_eq_true rfl), (Nat.le_of_ble_eq_true rfl)⟩) hS (fun q9 _ h9 => hF32 q9 h9) hF32 (fun u36 r37 t36 H36 L36 ht36 hvm36 hw36 hB36 hz36 hk36 hS => ?_)
  obtain ⟨hr36, hB36⟩ := hB36
  have hP := pq_keep hP hD [1, 3] rfl hk36 hB36.1 ht36
  have hG : s.heap.size + 0 ≤ H36.size := Nat.le_trans hG hz36
  refine W.eq (g2 := F0 m 32 ls [.ref h5, .ref h5]) (by rw [hr36]) ?_
  refine va_castE (nm := RX2) hx hb hown (hts _ q_89) (va_recv hK hP (ci := 3) (q := (RX2, TX2, 19)) (q0 := 5) rfl rfl) dX0_findStandings_32 ?_
  refine va_put (D := (dC, dI)) (ci := 3) (v := .ref h5) (ty := .object "Deltacycle$Net") (C := RX2) (T := TX2) (N := 19) hx hb hts in_X2 tyX2 tyX2_ok nmX2 hown hK hP hD (va_Sre hS) 5 rfl rfl 16 (by decide) (hts _ q_192) (fun _ h9 => h9) rfl (by decide +kernel) rfl rfl (Nat.le_of_ble_eq_true rfl) dX0_findStandings_35 (fun H38 _ hP hD hS' => ?_)
  have hG : s.heap.size + 0 ≤ H38.size := Nat.le_trans hG hS'.1
  have hS := va_Str hS hS'
  have hP : va_P (dC, dI) xCl [(h0, ce7 h1 o0 h2 o1), (h1, ce147 h3), (h2, ce3 z.1), (h3, ce146 kc0 h4 h5 h6 h7), (h4, ce38 (z.2.1 0) o2 h4), (h5, ce77 (z.2.1 0) o3 h5), (h6, ce115 (z.2.1 0) o4 h6), (h7, ce165 (z.2.1 0) o5 h7)] H38 := hP
  have hD := vd_as hP hD rfl
  refine lv_iinc (v := 2) (lv' := [(1, .int 2), (0, .ref h0)]) hx hb dX0_findStandings_38 hl (k := 0) rfl (by decide) (by decide) rfl (fun ls hl => ?_)
  refine lv_goto (tgt := 2) hx hb dX0_findStandings_41 (by decide) ?_
  refine lv_iload_n hx hb dX0_findStandings_2 rfl (lv_at hl 0 rfl) ?_
  refine lv_aload_n hx hb dX0_findStandings_3 rfl (lv_at hl 1 rfl) ?_
  refine va_get (D := (dC, dI)) (ci := 2) (v := .ref h1) (C := RX0) (T := TX0) (N := 4) hx hb hts in_X0 hown hK hP 0 rfl rfl 0 (by decide) (hts _ q_28) (fun _ h9 => h9) rfl dX0_findStandings_4 ?_
  have hM41 := k20_size l hl9 dC dI z h1 h3 H38.size 4 4
  obtain ⟨hF39, hC42⟩ := pc_M hM41 hP hD hK hS hX hT hA [1] [] rfl rfl rfl
  refine va_calli (va_runV (As := []) (rest := [.int 2]) ⟨hx, hb, hml, hown, hts⟩ hM41 (cwV 0 hts (gV q_92 q_77 q_78 q_12 q_75) rfl rfl rfl hV_Jx4a65c_size_8abf5 ⟨Nat.le_of_ble_eq_true rfl, Nat.le_of_ble_eq_true rfl⟩) ⟨pc_blind, va_recv hK hP (ci := 0) (q := (RJx4a65c, TJx4a65c, 3)) (q0 := 1) rfl rfl, fun U hU hW => ⟨rfl, hC42 U hU hW⟩⟩ rfl rfl hl.1 rfl (lv_room (Nat.le_of_ble_eq_true rfl)) dX0_findStandings_7 ⟨(Nat.le_of_ble_eq_true rfl), (Nat.le_of_ble_eq_true rfl)⟩) hS (fun q9 _ h9 => hF39 q9 h9) hF39 (fun r44 u43 t43 H43 L43 ht43 hvm43 hw43 hB43 hz43 hk43 hS => ?_)
  have hP := pq_keep hP hD [1] rfl hk43 hB43.1 ht43
  have hG : s.heap.size + 0 ≤ H43.size := Nat.le_trans hG hz43
  refine W.eq (g2 := F0 m 10 ls [.int 4, .int 2]) (by rw [hw43]) ?_
  refine lv_icmp_ge (tgt := 44) hx hb dX0_findStandings_10 (by decide) (fun cz => absurd cz (by decide)) (fun _ => ?_)
  refine lv_aload_n hx hb dX0_findStandings_13 rfl (lv_at hl 1 rfl) ?_
  refine va_get (D := (dC, dI)) (ci := 2) (v := .ref h1) (C := RX0) (T := TX0) (N := 4) hx hb hts in_X0 hown hK hP 0 rfl rfl 0 (by decide) (hts _ q_28) (fun _ h9 => h9) rfl dX0_findStandings_14 ?_
  refine lv_iload_n hx hb dX0_findStandings_17 rfl (lv_at hl 0 rfl) ?_
  have hM47 := k268_get l hl9 dC dI z h1 h3 h4 h5 h6 h7 H43.size kc0
  obtain ⟨hF45, hC48⟩ := pc_M hM47 hP hD hK hS hX hT hA [1, 3] [0] rfl rfl rfl
  refine va_callr (va_runV (As := [.int 2]) (rest := []) ⟨hx, hb, hml, hown, hts⟩ hM47 (cwV 1 hts (gV q_156 q_157 q_158 q_12 q_155) rfl rfl rfl hV_Jx4a65c_get_915e3 ⟨Nat.le_of_ble_eq_true rfl, Nat.le_of_ble_eq_true rfl⟩) ⟨pc_blind, va_recv hK hP (ci := 0) (q := (RJx4a65c, TJx4a65c, 3)) (q0 := 1) rfl rfl, fun U hU hW => ⟨rfl, hC48 U hU hW⟩⟩ rfl rfl hl.1 rfl (lv_room (Nat.le_of_ble_eq_true rfl)) dX0_findStandings_18 ⟨(Nat.le_of_ble_eq_true rfl), (Nat.le_of_ble_eq_true rfl)⟩) hS (fun q9 _ h9 => hF45 q9 h9) hF45 (fun u49 r50 t49 H49 L49 ht49 hvm49 hw49 hB49 hz49 hk49 hS => ?_)
  obtain ⟨hr49, hB49⟩ := hB49
  have hP := pq_keep hP hD [1, 3] rfl hk49 hB49.1 ht49
  have hG : s.heap.size + 0 ≤ H49.size := Nat.le_trans hG hz49
  refine W.eq (g2 := F0 m 21 ls [.ref h6]) (by rw [hr49]) ?_
  refine va_castE (nm := RX2) hx hb hown (hts _ q_89) (va_recv hK hP (ci := 3) (q := (RX2, TX2, 19)) (q0 := 6) rfl rfl) dX0_findStandings_21 ?_
  refine lv_aload_n hx hb dX0_findStandings_24 rfl (lv_at hl 1 rfl) ?_
  refine va_get (D := (dC, dI)) (ci := 2) (v := .ref h1) (C := RX0) (T := TX0) (N := 4) hx hb hts in_X0 hown hK hP 0 rfl rfl 0 (by decide) (hts _ q_28) (fun _ h9 => h9) rfl dX0_findStandings_25 ?_
  refine lv_iload_n hx hb dX0_findStandings_28 rfl (lv_at hl 0 rfl) ?_
  have hM53 := k268_get l hl9 dC dI z h1 h3 h4 h5 h6 h7 H49.size kc0
  obtain ⟨hF51, hC54⟩ := pc_M hM53 hP hD hK hS hX hT hA [1, 3] [0] rfl rfl rfl
  refine va_callr (va_runV (As := [.int 2]) (rest := [.ref h6]) ⟨hx, hb, hml, hown, hts⟩ hM53 (cwV 1 hts (gV q_156 q_157 q_158 q_12 q_155) rfl rfl rfl hV_Jx4a65c_get_915e3 ⟨Nat.le_of_ble_eq_true rfl, Nat.le_of_ble_eq_true rfl⟩) ⟨pc_blind, va_recv hK hP (ci := 0) (q := (RJx4a65c, TJx4a65c, 3)) (q0 := 1) rfl rfl, fun U hU hW => ⟨rfl, hC54 U hU hW⟩⟩ rfl rfl hl.1 rfl (lv_room (Nat.le_of_ble_eq_true rfl)) dX0_findStandings_29 ⟨(Nat.le_of_ble_eq_true rfl), (Nat.le_of_ble_eq_true rfl)⟩) hS (fun q9 _ h9 => hF51 q9 h9) hF51 (fun u55 r56 t55 H55 L55 ht55 hvm55 hw55 hB55 hz55 hk55 hS => ?_)
  obtain ⟨hr55, hB55⟩ := hB55
  have hP := pq_keep hP hD [1, 3] rfl hk55 hB55.1 ht55
  have hG : s.heap.size + 0 ≤ H55.size := Nat.le_trans hG hz55
  refine W.eq (g2 := F0 m 32 ls [.ref h6, .ref h6]) (by rw [hr55]) ?_
  refine va_castE (nm := RX2) hx hb hown (hts _ q_89) (va_recv hK hP (ci := 3) (q := (RX2, TX2, 19)) (q0 := 6) rfl rfl) dX0_findStandings_32 ?_
  refine va_put (D := (dC, dI)) (ci := 3) (v := .ref h6) (ty := .object "Deltacycle$Net") (C := RX2) (T := TX2) (N := 19) hx hb hts in_X2 tyX2 tyX2_ok nmX2 hown hK hP hD (va_Sre hS) 6 rfl rfl 16 (by decide) (hts _ q_192) (fun _ h9 => h9) rfl (by decide +kernel) rfl rfl (Nat.le_of_ble_eq_true rfl) dX0_findStandings_35 (fun H57 _ hP hD hS' => ?_)
  have hG : s.heap.size + 0 ≤ H57.size := Nat.le_trans hG hS'.1
  have hS := va_Str hS hS'
  have hP : va_P (dC, dI) xCl [(h0, ce7 h1 o0 h2 o1), (h1, ce147 h3), (h2, ce3 z.1), (h3, ce146 kc0 h4 h5 h6 h7), (h4, ce38 (z.2.1 0) o2 h4), (h5, ce77 (z.2.1 0) o3 h5), (h6, ce115 (z.2.1 0) o4 h6), (h7, ce165 (z.2.1 0) o5 h7)] H57 := hP
  have hD := vd_as hP hD rfl
  refine lv_iinc (v := 3) (lv' := [(1, .int 3), (0, .ref h0)]) hx hb dX0_findStandings_38 hl (k := 0) rfl (by decide) (by decide) rfl (fun ls hl => ?_)
  refine lv_goto (tgt := 2) hx hb dX0_findStandings_41 (by decide) ?_
  refine lv_iload_n hx hb dX0_findStandings_2 rfl (lv_at hl 0 rfl) ?_
  refine lv_aload_n hx hb dX0_findStandings_3 rfl (lv_at hl 1 rfl) ?_
  refine va_get (D := (dC, dI)) (ci := 2) (v := .ref h1) (C := RX0) (T := TX0) (N := 4) hx hb hts in_X0 hown hK hP 0 rfl rfl 0 (by decide) (hts _ q_28) (fun _ h9 => h9) rfl dX0_findStandings_4 ?_
  have hM60 := k20_size l hl9 dC dI z h1 h3 H57.size 4 4
  obtain ⟨hF58, hC61⟩ := pc_M hM60 hP hD hK hS hX hT hA [1] [] rfl rfl rfl
  refine va_calli (va_runV (As := []) (rest := [.int 3]) ⟨hx, hb, hml, hown, hts⟩ hM60 (cwV 0 hts (gV q_92 q_77 q_78 q_12 q_75) rfl rfl rfl hV_Jx4a65c_size_8abf5 ⟨Nat.le_of_ble_eq_true rfl, Nat.le_of_ble_eq_true rfl⟩) ⟨pc_blind, va_recv hK hP (ci := 0) (q := (RJx4a65c, TJx4a65c, 3)) (q0 := 1) rfl rfl, fun U hU hW => ⟨rfl, hC61 U hU hW⟩⟩ rfl rfl hl.1 rfl (lv_room (Nat.le_of_ble_eq_true rfl)) dX0_findStandings_7 ⟨(Nat.le_of_ble_eq_true rfl), (Nat.le_of_ble_eq_true rfl)⟩) hS (fun q9 _ h9 => hF58 q9 h9) hF58 (fun r63 u62 t62 H62 L62 ht62 hvm62 hw62 hB62 hz62 hk62 hS => ?_)
  have hP := pq_keep hP hD [1] rfl hk62 hB62.1 ht62
  have hG : s.heap.size + 0 ≤ H62.size := Nat.le_trans hG hz62
  refine W.eq (g2 := F0 m 10 ls [.int 4, .int 3]) (by rw [hw62]) ?_
  refine lv_icmp_ge (tgt := 44) hx hb dX0_findStandings_10 (by decide) (fun cz => absurd cz (by decide)) (fun _ => ?_)
  refine lv_aload_n hx hb dX0_findStandings_13 rfl (lv_at hl 1 rfl) ?_
  refine va_get (D := (dC, dI)) (ci := 2) (v := .ref h1) (C := RX0) (T := TX0) (N := 4) hx hb hts in_X0 hown hK hP 0 rfl rfl 0 (by decide) (hts _ q_28) (fun _ h9 => h9) rfl dX0_findStandings_14 ?_
  refine lv_iload_n hx hb dX0_findStandings_17 rfl (lv_at hl 0 rfl) ?_
  have hM66 := k272_get l hl9 dC dI z h1 h3 h4 h5 h6 h7 H62.size kc0
  obtain ⟨hF64, hC67⟩ := pc_M hM66 hP hD hK hS hX hT hA [1, 3] [0] rfl rfl rfl
  refine va_callr (va_runV (As := [.int 3]) (rest := []) ⟨hx, hb, hml, hown, hts⟩ hM66 (cwV 1 hts (gV q_156 q_157 q_158 q_12 q_155) rfl rfl rfl hV_Jx4a65c_get_915e3 ⟨Nat.le_of_ble_eq_true rfl, Nat.le_of_ble_eq_true rfl⟩) ⟨pc_blind, va_recv hK hP (ci := 0) (q := (RJx4a65c, TJx4a65c, 3)) (q0 := 1) rfl rfl, fun U hU hW => ⟨rfl, hC67 U hU hW⟩⟩ rfl rfl hl.1 rfl (lv_room (Nat.le_of_ble_eq_true rfl)) dX0_findStandings_18 ⟨(Nat.le_of_ble_eq_true rfl), (Nat.le_of_ble_eq_true rfl)⟩) hS (fun q9 _ h9 => hF64 q9 h9) hF64 (fun u68 r69 t68 H68 L68 ht68 hvm68 hw68 hB68 hz68 hk68 hS => ?_)
  obtain ⟨hr68, hB68⟩ := hB68
  have hP := pq_keep hP hD [1, 3] rfl hk68 hB68.1 ht68
  have hG : s.heap.size + 0 ≤ H68.size := Nat.le_trans hG hz68
  refine W.eq (g2 := F0 m 21 ls [.ref h7]) (by rw [hr68]) ?_
  refine va_castE (nm := RX2) hx hb hown (hts _ q_89) (va_recv hK hP (ci := 3) (q := (RX2, TX2, 19)) (q0 := 7) rfl rfl) dX0_findStandings_21 ?_
  refine lv_aload_n hx hb dX0_findStandings_24 rfl (lv_at hl 1 rfl) ?_
  refine va_get (D := (dC, dI)) (ci := 2) (v := .ref h1) (C := RX0) (T := TX0) (N := 4) hx hb hts in_X0 hown hK hP 0 rfl rfl 0 (by decide) (hts _ q_28) (fun _ h9 => h9) rfl dX0_findStandings_25 ?_
  refine lv_iload_n hx hb dX0_findStandings_28 rfl (lv_at hl 0 rfl) ?_
  have hM72 := k272_get l hl9 dC dI z h1 h3 h4 h5 h6 h7 H68.size kc0
  obtain ⟨hF70, hC73⟩ := pc_M hM72 hP hD hK hS hX hT hA [1, 3] [0] rfl rfl rfl
  refine va_callr (va_runV (As := [.int 3]) (rest := [.ref h7]) ⟨hx, hb, hml, hown, hts⟩ hM72 (cwV 1 hts (gV q_156 q_157 q_158 q_12 q_155) rfl rfl rfl hV_Jx4a65c_get_915e3 ⟨Nat.le_of_ble_eq_true rfl, Nat.le_of_ble_eq_true rfl⟩) ⟨pc_blind, va_recv hK hP (ci := 0) (q := (RJx4a65c, TJx4a65c, 3)) (q0 := 1) rfl rfl, fun U hU hW => ⟨rfl, hC73 U hU hW⟩⟩ rfl rfl hl.1 rfl (lv_room (Nat.le_of_ble_eq_true rfl)) dX0_findStandings_29 ⟨(Nat.le_of_ble_eq_true rfl), (Nat.le_of_ble_eq_true rfl)⟩) hS (fun q9 _ h9 => hF70 q9 h9) hF70 (fun u74 r75 t74 H74 L74 ht74 hvm74 hw74 hB74 hz74 hk74 hS => ?_)
  obtain ⟨hr74, hB74⟩ := hB74
  have hP := pq_keep hP hD [1, 3] rfl hk74 hB74.1 ht74
  have hG : s.heap.size + 0 ≤ H74.size := Nat.le_trans hG hz74
  refine W.eq (g2 := F0 m 32 ls [.ref h7, .ref h7]) (by rw [hr74]) ?_
  refine va_castE (nm := RX2) hx hb hown (hts _ q_89) (va_recv hK hP (ci := 3) (q := (RX2, TX2, 19)) (q0 := 7) rfl rfl) dX0_findStandings_32 ?_
  refine va_put (D := (dC, dI)) (ci := 3) (v := .ref h7) (ty := .object "Deltacycle$Net") (C := RX2) (T := TX2) (N := 19) hx hb hts in_X2 tyX2 tyX2_ok nmX2 hown hK hP hD (va_Sre hS) 7 rfl rfl 16 (by decide) (hts _ q_192) (fun _ h9 => h9) rfl (by decide +kernel) rfl rfl (Nat.le_of_ble_eq_true rfl) dX0_findStandings_35 (fun H76 _ hP hD hS' => ?_)
  have hG : s.heap.size + 0 ≤ H76.size := Nat.le_trans hG hS'.1
  have hS := va_Str hS hS'
  have hP : va_P (dC, dI) xCl [(h0, ce7 h1 o0 h2 o1), (h1, ce147 h3), (h2, ce3 z.1), (h3, ce146 kc0 h4 h5 h6 h7), (h4, ce38 (z.2.1 0) o2 h4), (h5, ce77 (z.2.1 0) o3 h5), (h6, ce115 (z.2.1 0) o4 h6), (h7, ce165 (z.2.1 0) o5 h7)] H76 := hP
  have hD := vd_as hP hD rfl
  refine lv_iinc (v := 4) (lv' := [(1, .int 4), (0, .ref h0)]) hx hb dX0_findStandings_38 hl (k := 0) rfl (by decide) (by decide) rfl (fun ls hl => ?_)
  refine lv_goto (tgt := 2) hx hb dX0_findStandings_41 (by decide) ?_
  refine lv_iload_n hx hb dX0_findStandings_2 rfl (lv_at hl 0 rfl) ?_
  refine lv_aload_n hx hb dX0_findStandings_3 rfl (lv_at hl 1 rfl) ?_
  refine va_get (D := (dC, dI)) (ci := 2) (v := .ref h1) (C := RX0) (T := TX0) (N := 4) hx hb hts in_X0 hown hK hP 0 rfl rfl 0 (by decide) (hts _ q_28) (fun _ h9 => h9) rfl dX0_findStandings_4 ?_
  have hM79 := k20_size l hl9 dC dI z h1 h3 H76.size 4 4
  obtain ⟨hF77, hC80⟩ := pc_M hM79 hP hD hK hS hX hT hA [1] [] rfl rfl rfl
  refine va_calli (va_runV (As := []) (rest := [.int 4]) ⟨hx, hb, hml, hown, hts⟩ hM79 (cwV 0 hts (gV q_92 q_77 q_78 q_12 q_75) rfl rfl rfl hV_Jx4a65c_size_8abf5 ⟨Nat.le_of_ble_eq_true rfl, Nat.le_of_ble_eq_true rfl⟩) ⟨pc_blind, va_recv hK hP (ci := 0) (q := (RJx4a65c, TJx4a65c, 3)) (q0 := 1) rfl rfl, fun U hU hW => ⟨rfl, hC80 U hU hW⟩⟩ rfl rfl hl.1 rfl (lv_room (Nat.le_of_ble_eq_true rfl)) dX0_findStandings_7 ⟨(Nat.le_of_ble_eq_true rfl), (Nat.le_of_ble_eq_true rfl)⟩) hS (fun q9 _ h9 => hF77 q9 h9) hF77 (fun r82 u81 t81 H81 L81 ht81 hvm81 hw81 hB81 hz81 hk81 hS => ?_)
  have hP := pq_keep hP hD [1] rfl hk81 hB81.1 ht81
  have hG : s.heap.size + 0 ≤ H81.size := Nat.le_trans hG hz81
  refine W.eq (g2 := F0 m 10 ls [.int 4, .int 4]) (by rw [hw81]) ?_
  refine lv_icmp_ge (tgt := 44) hx hb dX0_findStandings_10 (by decide) (fun _ => ?_) (fun cz => absurd (by decide) cz)
  refine lv_iconst (v := 0) hx hb dX0_findStandings_44 (by decide) ?_
  refine lv_istore_n (lv' := [(1, .int 0), (0, .ref h0)]) hx hb dX0_findStandings_45 rfl hl (by decide) rfl (fun ls hl => ?_)
  refine lv_iload_n hx hb dX0_findStandings_46 rfl (lv_at hl 0 rfl) ?_
  refine lv_aload_n hx hb dX0_findStandings_47 rfl (lv_at hl 1 rfl) ?_
  refine va_get (D := (dC, dI)) (ci := 2) (v := .ref h2) (C := RX0) (T := TX0) (N := 4) hx hb hts in_X0 hown hK hP 0 rfl rfl 2 (by decide) (hts _ q_30) (fun _ h9 => h9) rfl dX0_findStandings_48 ?_
  have hM85 := k9_size l hl9 dC dI z h2 H81.size 0 0
  obtain ⟨hF83, hC86⟩ := pc_M hM85 hP hD hK hS hX hT hA [2] [] rfl rfl rfl
  refine va_calli (va_runV (As := []) (rest := [.int 0]) ⟨hx, hb, hml, hown, hts⟩ hM85 (cwV 0 hts (gV q_92 q_77 q_78 q_12 q_75) rfl rfl rfl hV_Jx4a65c_size_8abf5 ⟨Nat.le_of_ble_eq_true rfl, Nat.le_of_ble_eq_true rfl⟩) ⟨pc_blind, va_recv hK hP (ci := 0) (q := (RJx4a65c, TJx4a65c, 3)) (q0 := 2) rfl rfl, fun U hU hW => ⟨rfl, hC86 U hU hW⟩⟩ rfl rfl hl.1 rfl (lv_room (Nat.le_of_ble_eq_true rfl)) dX0_findStandings_51 ⟨(Nat.le_of_ble_eq_true rfl), (Nat.le_of_ble_eq_true rfl)⟩) hS (fun q9 _ h9 => hF83 q9 h9) hF83 (fun r88 u87 t87 H87 L87 ht87 hvm87 hw87 hB87 hz87 hk87 hS => ?_)
  have hP := pq_keep hP hD [2] rfl hk87 hB87.1 ht87
  have hG : s.heap.size + 0 ≤ H87.size := Nat.le_trans hG hz87
  refine W.eq (g2 := F0 m 54 ls [.int 0, .int 0]) (by rw [hw87]) ?_
  refine lv_icmp_ge (tgt := 131) hx hb dX0_findStandings_54 (by decide) (fun _ => ?_) (fun cz => absurd (by decide) cz)
  exact W.vret hx hb hr (fun t9 ht9 hW9 => ⟨⟨(), rfl, trivial, ⟨pq_mk2 hP hD hK [0, 1, 2, 3, 4, 5, 6, 7] [0] rfl rfl rfl ht9 hW9, by rw [ht9]; exact Nat.le_trans (Nat.add_le_add_left (Nat.le_of_ble_eq_true rfl) _) hG⟩⟩, hS.F ht9⟩) hS.2.2 dX0_findStandings_131

set_option maxHeartbeats 4000000 in
set_option maxRecDepth 100000 in
theorem k297_findTaken (l : Launch) (hl9 : l.stackTraces = false) (dC : Nat → ClassId) (dI : Nat → Nat → Nat) (z : XZ) (h0 h1 h2 h3 h4 h5 h6 h7 h8 : Nat) (o0 o1 o2 o3 o4 o5 : Nat) (sz : Nat) (kc0 kc1 : ClassId) : Met l yX0_findTaken (.code yX0_findTaken cX0_findTaken 3 none :: wsL_law) ({ frames := 3, cells := 0, slots := 0, locals := 64 }) (va_Pc [.ref h0] (PC (dC, dI) [(h0, ce7 h1 h2 o0 o1), (h1, ce147 h3), (h2, ce147 h4), (h3, ce146 kc0 h5 h6 h7 h8), (h4, ce146 kc1 h5 h6 h7 h8), (h5, ce38 (z.2.1 0) o2 h5), (h6, ce77 (z.2.1 0) o3 h6), (h7, ce115 (z.2.1 0) o4 h7), (h8, ce165 (z.2.1 0) o5 h8)] [(kc0, .object "java/lang/Object"), (kc1, .object "java/lang/Object")] sz z)) (va_Qv (fun (_ : Unit) => True) (fun (_ : Unit) (t : State) => PG (dC, dI) [(h0, ce7 h1 h2 o0 o1), (h1, ce147 h3), (h2, ce147 h4), (h3, ce146 kc0 h5 h6 h7 h8), (h4, ce146 kc1 h5 h6 h7 h8), (h5, ce38 (z.2.1 0) o2 h5), (h6, ce77 (z.2.1 0) o3 h6), (h7, ce115 (z.2.1 0) o4 h7), (h8, ce165 (z.2.1 0) o5 h8)] [(kc0, .object "java/lang/Object"), (kc1, .object "java/lang/Object")] (va_A [(h0, ce7 h1 h2 o0 o1), (h1, ce147 h3), (h2, ce147 h4), (h3, ce146 kc0 h5 h6 h7 h8), (h4, ce146 kc1 h5 h6 h7 h8), (h5, ce38 (z.2.1 0) o2 h5), (h6, ce77 (z.2.1 0) o3 h6), (h7, ce115 (z.2.1 0) o4 h7), (h8, ce165 (z.2.1 0) o5 h8)] sz) sz 0 t) (va_A [(h0, ce7 h1 h2 o0 o1), (h1, ce147 h3), (h2, ce147 h4), (h3, ce146 kc0 h5 h6 h7 h8), (h4, ce146 kc1 h5 h6 h7 h8), (h5, ce38 (z.2.1 0) o2 h5), (h6, ce77 (z.2.1 0) o3 h6), (h7, ce115 (z.2.1 0) o4 h7), (h8, ce165 (z.2.1 0) o5 h8)] sz)) 0 0 (va_A [(h0, ce7 h1 h2 o0 o1), (h1, ce147 h3), (h2, ce147 h4), (h3, ce146 kc0 h5 h6 h7 h8), (h4, ce146 kc1 h5 h6 h7 h8), (h5, ce38 (z.2.1 0) o2 h5), (h6, ce77 (z.2.1 0) o3 h6), (h7, ce115 (z.2.1 0) o4 h7), (h8, ce165 (z.2.1 0) o5 h8)] sz) := by
  refine Met.ofW (cc := cX0_findTaken) (maxL := 3) (ret := none) (by decide) rfl ?_
  intro p e s m args below meth c s₁ B hml hv
  obtain ⟨rfl, hsz, hP, hK, hD0, hX, hT⟩ := hv
  have hx := B.exec
  have hb := B.bytes
  have hr := B.returns
  have hts0 := atoms_spec (ws := .code yX0_findTaken cX0_findTaken 3 none :: wsL_law) B.pre
  have hts := xTail hts0
  have hown : s.vm.findClass RX0 = some m.cls := xown B.named rfl
  have hlocks := B.notSynchronized
  subst hsz
  have hD := hD0.self (sz := s.heap.size)
  generalize hAe : va_A [(h0, ce7 h1 h2 o0 o1), (h1, ce147 h3), (h2, ce147 h4), (h3, ce146 kc0 h5 h6 h7 h8), (h4, ce146 kc1 h5 h6 h7 h8), (h5, ce38 (z.2.1 0) o2 h5), (h6, ce77 (z.2.1 0) o3 h6), (h7, ce115 (z.2.1 0) o4 h7), (h8, ce165 (z.2.1 0) o5 h8)] s.heap.size = A at hD hX ⊢
  have hA : ∀ q : Nat, s.heap.size ≤ q → A q := fun q h => by rw [← hAe]; exact Or.inr h
  have hS : va_S A s.heap s.heap [] := va_S.rf
  have hG : s.heap.size + 0 ≤ s.heap.size := Nat.le_refl _
  have hl := lv_entry ([.ref h0]) (n := 3) (Nat.le_of_ble_eq_true rfl)
  rw [lg_entry_eq]
  generalize (lg_sl ([.ref h0]) ++ List.replicate (3 - (lg_sl ([.ref h0])).length) Slot.unset).toArray = ls at hl ⊢
  have hl : lv_has ls 3 [(0, .ref h0)] := hl
  refine lv_iconst (v := 0) hx hb dX0_findTaken_0 (by decide) ?_
  refine lv_istore_n (lv' := [(1, .int 0), (0, .ref h0)]) hx hb dX0_findTaken_1 rfl hl (by decide) rfl (fun ls hl => ?_)
  refine lv_iload_n hx hb dX0_findTaken_2 rfl (lv_at hl 0 rfl) ?_
  refine lv_aload_n hx hb dX0_findTaken_3 rfl (lv_at hl 1 rfl) ?_
  refine va_get (D := (dC, dI)) (ci := 2) (v := .ref h1) (C := RX0) (T := TX0) (N := 4) hx hb hts in_X0 hown hK hP 0 rfl rfl 0 (by decide) (hts _ q_28) (fun _ h9 => h9) rfl dX0_findTaken_4 ?_
  have hM3 := k20_size l hl9 dC dI z h1 h3 s.heap.size 4 4
  obtain ⟨hF1, hC4⟩ := pc_M hM3 hP hD hK hS hX hT hA [1] [] rfl rfl rfl
  refine va_calli (va_runV (As := []) (rest := [.int 0]) ⟨hx, hb, hml, hown, hts⟩ hM3 (cwV 0 hts (gV q_92 q_77 q_78 q_12 q_75) rfl rfl rfl hV_Jx4a65c_size_8abf5 ⟨Nat.le_of_ble_eq_true rfl, Nat.le_of_ble_eq_true rfl⟩) ⟨pc_blind, va_recv hK hP (ci := 0) (q := (RJx4a65c, TJx4a65c, 3)) (q0 := 1) rfl rfl, fun U hU hW => ⟨rfl, hC4 U hU hW⟩⟩ rfl rfl hl.1 rfl (lv_room (Nat.le_of_ble_eq_true rfl)) dX0_findTaken_7 ⟨(Nat.le_of_ble_eq_true rfl), (Nat.le_of_ble_eq_true rfl)⟩) hS (fun q9 _ h9 => hF1 q9 h9) hF1 (fun r6 u5 t5 H5 L5 ht5 hvm5 hw5 hB5 hz5 hk5 hS => ?_)
  have hP := pq_keep hP hD [1] rfl hk5 hB5.1 ht5
  have hG : s.heap.size + 0 ≤ H5.size := Nat.le_trans hG hz5
  refine W.eq (g2 := F0 m 10 ls [.int 4, .int 0]) (by rw [hw5]) ?_
  refine lv_icmp_ge (tgt := 34) hx hb dX0_findTaken_10 (by decide) (fun cz => absurd cz (by decide)) (fun _ => ?_)
  refine lv_aload_n hx hb dX0_findTaken_13 rfl (lv_at hl 1 rfl) ?_
  refine va_get (D := (dC, dI)) (ci := 2) (v := .ref h1) (C := RX0) (T := TX0) (N := 4) hx hb hts in_X0 hown hK hP 0 rfl rfl 0 (by decide) (hts _ q_28) (fun _ h9 => h9) rfl dX0_findTaken_14 ?_
  refine lv_iload_n hx hb dX0_findTaken_17 rfl (lv_at hl 0 rfl) ?_
  have hM9 := k260_get l hl9 dC dI z h1 h3 h5 h6 h7 h8 H5.size kc0
  obtain ⟨hF7, hC10⟩ := pc_M hM9 hP hD hK hS hX hT hA [1, 3] [0] rfl rfl rfl
  refine va_callr (va_runV (As := [.int 0]) (rest := []) ⟨hx, hb, hml, hown, hts⟩ hM9 (cwV 1 hts (gV q_156 q_157 q_158 q_12 q_155) rfl rfl rfl hV_Jx4a65c_get_915e3 ⟨Nat.le_of_ble_eq_true rfl, Nat.le_of_ble_eq_true rfl⟩) ⟨pc_blind, va_recv hK hP (ci := 0) (q := (RJx4a65c, TJx4a65c, 3)) (q0 := 1) rfl rfl, fun U hU hW => ⟨rfl, hC10 U hU hW⟩⟩ rfl rfl hl.1 rfl (lv_room (Nat.le_of_ble_eq_true rfl)) dX0_findTaken_18 ⟨(Nat.le_of_ble_eq_true rfl), (Nat.le_of_ble_eq_true rfl)⟩) hS (fun q9 _ h9 => hF7 q9 h9) hF7 (fun u11 r12 t11 H11 L11 ht11 hvm11 hw11 hB11 hz11 hk11 hS => ?_)
  obtain ⟨hr11, hB11⟩ := hB11
  have hP := pq_keep hP hD [1, 3] rfl hk11 hB11.1 ht11
  have hG : s.heap.size + 0 ≤ H11.size := Nat.le_trans hG hz11
  refine W.eq (g2 := F0 m 21 ls [.ref h5]) (by rw [hr11]) ?_
  refine va_castE (nm := RX2) hx hb hown (hts _ q_89) (va_recv hK hP (ci := 3) (q := (RX2, TX2, 19)) (q0 := 5) rfl rfl) dX0_findTaken_21 ?_
  refine lv_iconst (v := 0) hx hb dX0_findTaken_24 (by decide) ?_
  refine va_put (D := (dC, dI)) (ci := 3) (v := .int 0) (ty := .boolean) (C := RX2) (T := TX2) (N := 19) hx hb hts in_X2 tyX2 tyX2_ok nmX2 hown hK hP hD (va_Sre hS) 5 rfl rfl 4 (by decide) (hts _ q_197) (fun _ h9 => h9) rfl (by decide +kernel) rfl rfl (Nat.le_of_ble_eq_true rfl) dX0_findTaken_25 (fun H13 _ hP hD hS' => ?_)
  have hG : s.heap.size + 0 ≤ H13.size := Nat.le_trans hG hS'.1
  have hS := va_Str hS hS'
  have hP : va_P (dC, dI) xCl [(h0, ce7 h1 h2 o0 o1), (h1, ce147 h3), (h2, ce147 h4), (h3, ce146 kc0 h5 h6 h7 h8), (h4, ce146 kc1 h5 h6 h7 h8), (h5, ce38 (z.2.1 0) o2 h5), (h6, ce77 (z.2.1 0) o3 h6), (h7, ce115 (z.2.1 0) o4 h7), (h8, ce165 (z.2.1 0) o5 h8)] H13 := hP
  have hD := vd_as hP hD rfl
  refine lv_iinc (v := 1) (lv' := [(1, .int 1), (0, .ref h0)]) hx hb dX0_findTaken_28 hl (k := 0) rfl (by decide) (by decide) rfl (fun ls hl => ?_)
  refine lv_goto (tgt := 2) hx hb dX0_findTaken_31 (by decide) ?_
  refine lv_iload_n hx hb dX0_findTaken_2 rfl (lv_at hl 0 rfl) ?_
  refine lv_aload_n hx hb dX0_findTaken_3 rfl (lv_at hl 1 rfl) ?_
  refine va_get (D := (dC, dI)) (ci := 2) (v := .ref h1) (C := RX0) (T := TX0) (N := 4) hx hb hts in_X0 hown hK hP 0 rfl rfl 0 (by decide) (hts _ q_28) (fun _ h9 => h9) rfl dX0_findTaken_4 ?_
  have hM16 := k20_size l hl9 dC dI z h1 h3 H13.size 4 4
  obtain ⟨hF14, hC17⟩ := pc_M hM16 hP hD hK hS hX hT hA [1] [] rfl rfl rfl
  refine va_calli (va_runV (As := []) (rest := [.int 1]) ⟨hx, hb, hml, hown, hts⟩ hM16 (cwV 0 hts (gV q_92 q_77 q_78 q_12 q_75) rfl rfl rfl hV_Jx4a65c_size_8abf5 ⟨Nat.le_of_ble_eq_true rfl, Nat.le_of_ble_eq_true rfl⟩) ⟨pc_blind, va_recv hK hP (ci := 0) (q := (RJx4a65c, TJx4a65c, 3)) (q0 := 1) rfl rfl, fun U hU hW => ⟨rfl, hC17 U hU hW⟩⟩ rfl rfl hl.1 rfl (lv_room (Nat.le_of_ble_eq_true rfl)) dX0_findTaken_7 ⟨(Nat.le_of_ble_eq_true rfl), (Nat.le_of_ble_eq_true rfl)⟩) hS (fun q9 _ h9 => hF14 q9 h9) hF14 (fun r19 u18 t18 H18 L18 ht18 hvm18 hw18 hB18 hz18 hk18 hS => ?_)
  have hP := pq_keep hP hD [1] rfl hk18 hB18.1 ht18
  have hG : s.heap.size + 0 ≤ H18.size := Nat.le_trans hG hz18
  refine W.eq (g2 := F0 m 10 ls [.int 4, .int 1]) (by rw [hw18]) ?_
  refine lv_icmp_ge (tgt := 34) hx hb dX0_findTaken_10 (by decide) (fun cz => absurd cz (by decide)) (fun _ => ?_)
  refine lv_aload_n hx hb dX0_findTaken_13 rfl (lv_at hl 1 rfl) ?_
  refine va_get (D := (dC, dI)) (ci := 2) (v := .ref h1) (C := RX0) (T := TX0) (N := 4) hx hb hts in_X0 hown hK hP 0 rfl rfl 0 (by decide) (hts _ q_28) (fun _ h9 => h9) rfl dX0_findTaken_14 ?_
  refine lv_iload_n hx hb dX0_findTaken_17 rfl (lv_at hl 0 rfl) ?_
  have hM22 := k264_get l hl9 dC dI z h1 h3 h5 h6 h7 h8 H18.size kc0
  obtain ⟨hF20, hC23⟩ := pc_M hM22 hP hD hK hS hX hT hA [1, 3] [0] rfl rfl rfl
  refine va_callr (va_runV (As := [.int 1]) (rest := []) ⟨hx, hb, hml, hown, hts⟩ hM22 (cwV 1 hts (gV q_156 q_157 q_158 q_12 q_155) rfl rfl rfl hV_Jx4a65c_get_915e3 ⟨Nat.le_of_ble_eq_true rfl, Nat.le_of_ble_eq_true rfl⟩) ⟨pc_blind, va_recv hK hP (ci := 0) (q := (RJx4a65c, TJx4a65c, 3)) (q0 := 1) rfl rfl, fun U hU hW => ⟨rfl, hC23 U hU hW⟩⟩ rfl rfl hl.1 rfl (lv_room (Nat.le_of_ble_eq_true rfl)) dX0_findTaken_18 ⟨(Nat.le_of_ble_eq_true rfl), (Nat.le_of_ble_eq_true rfl)⟩) hS (fun q9 _ h9 => hF20 q9 h9) hF20 (fun u24 r25 t24 H24 L24 ht24 hvm24 hw24 hB24 hz24 hk24 hS => ?_)
  obtain ⟨hr24, hB24⟩ := hB24
  have hP := pq_keep hP hD [1, 3] rfl hk24 hB24.1 ht24
  have hG : s.heap.size + 0 ≤ H24.size := Nat.le_trans hG hz24
  refine W.eq (g2 := F0 m 21 ls [.ref h6]) (by rw [hr24]) ?_
  refine va_castE (nm := RX2) hx hb hown (hts _ q_89) (va_recv hK hP (ci := 3) (q := (RX2, TX2, 19)) (q0 := 6) rfl rfl) dX0_findTaken_21 ?_
  refine lv_iconst (v := 0) hx hb dX0_findTaken_24 (by decide) ?_
  refine va_put (D := (dC, dI)) (ci := 3) (v := .int 0) (ty := .boolean) (C := RX2) (T := TX2) (N := 19) hx hb hts in_X2 tyX2 tyX2_ok nmX2 hown hK hP hD (va_Sre hS) 6 rfl rfl 4 (by decide) (hts _ q_197) (fun _ h9 => h9) rfl (by decide +kernel) rfl rfl (Nat.le_of_ble_eq_true rfl) dX0_findTaken_25 (fun H26 _ hP hD hS' => ?_)
  have hG : s.heap.size + 0 ≤ H26.size := Nat.le_trans hG hS'.1
  have hS := va_Str hS hS'
  have hP : va_P (dC, dI) xCl [(h0, ce7 h1 h2 o0 o1), (h1, ce147 h3), (h2, ce147 h4), (h3, ce146 kc0 h5 h6 h7 h8), (h4, ce146 kc1 h5 h6 h7 h8), (h5, ce38 (z.2.1 0) o2 h5), (h6, ce77 (z.2.1 0) o3 h6), (h7, ce115 (z.2.1 0) o4 h7), (h8, ce165 (z.2.1 0) o5 h8)] H26 := hP
  have hD := vd_as hP hD rfl
  refine lv_iinc (v := 2) (lv' := [(1, .int 2), (0, .ref h0)]) hx hb dX0_findTaken_28 hl (k := 0) rfl (by decide) (by decide) rfl (fun ls hl => ?_)
  refine lv_goto (tgt := 2) hx hb dX0_findTaken_31 (by decide) ?_
  refine lv_iload_n hx hb dX0_findTaken_2 rfl (lv_at hl 0 rfl) ?_
  refine lv_aload_n hx hb dX0_findTaken_3 rfl (lv_at hl 1 rfl) ?_
  refine va_get (D := (dC, dI)) (ci := 2) (v := .ref h1) (C := RX0) (T := TX0) (N := 4) hx hb hts in_X0 hown hK hP 0 rfl rfl 0 (by decide) (hts _ q_28) (fun _ h9 => h9) rfl dX0_findTaken_4 ?_
  have hM29 := k20_size l hl9 dC dI z h1 h3 H26.size 4 4
  obtain ⟨hF27, hC30⟩ := pc_M hM29 hP hD hK hS hX hT hA [1] [] rfl rfl rfl
  refine va_calli (va_runV (As := []) (rest := [.int 2]) ⟨hx, hb, hml, hown, hts⟩ hM29 (cwV 0 hts (gV q_92 q_77 q_78 q_12 q_75) rfl rfl rfl hV_Jx4a65c_size_8abf5 ⟨Nat.le_of_ble_eq_true rfl, Nat.le_of_ble_eq_true rfl⟩) ⟨pc_blind, va_recv hK hP (ci := 0) (q := (RJx4a65c, TJx4a65c, 3)) (q0 := 1) rfl rfl, fun U hU hW => ⟨rfl, hC30 U hU hW⟩⟩ rfl rfl hl.1 rfl (lv_room (Nat.le_of_ble_eq_true rfl)) dX0_findTaken_7 ⟨(Nat.le_of_ble_eq_true rfl), (Nat.le_of_ble_eq_true rfl)⟩) hS (fun q9 _ h9 => hF27 q9 h9) hF27 (fun r32 u31 t31 H31 L31 ht31 hvm31 hw31 hB31 hz31 hk31 hS => ?_)
  have hP := pq_keep hP hD [1] rfl hk31 hB31.1 ht31
  have hG : s.heap.size + 0 ≤ H31.size := Nat.le_trans hG hz31
  refine W.eq (g2 := F0 m 10 ls [.int 4, .int 2]) (by rw [hw31]) ?_
  refine lv_icmp_ge (tgt := 34) hx hb dX0_findTaken_10 (by decide) (fun cz => absurd cz (by decide)) (fun _ => ?_)
  refine lv_aload_n hx hb dX0_findTaken_13 rfl (lv_at hl 1 rfl) ?_
  refine va_get (D := (dC, dI)) (ci := 2) (v := .ref h1) (C := RX0) (T := TX0) (N := 4) hx hb hts in_X0 hown hK hP 0 rfl rfl 0 (by decide) (hts _ q_28) (fun _ h9 => h9) rfl dX0_findTaken_14 ?_
  refine lv_iload_n hx hb dX0_findTaken_17 rfl (lv_at hl 0 rfl) ?_
  have hM35 := k268_get l hl9 dC dI z h1 h3 h5 h6 h7 h8 H31.size kc0
  obtain ⟨hF33, hC36⟩ := pc_M hM35 hP hD hK hS hX hT hA [1, 3] [0] rfl rfl rfl
  refine va_callr (va_runV (As := [.int 2]) (rest := []) ⟨hx, hb, hml, hown, hts⟩ hM35 (cwV 1 hts (gV q_156 q_157 q_158 q_12 q_155) rfl rfl rfl hV_Jx4a65c_get_915e3 ⟨Nat.le_of_ble_eq_true rfl, Nat.le_of_ble_eq_true rfl⟩) ⟨pc_blind, va_recv hK hP (ci := 0) (q := (RJx4a65c, TJx4a65c, 3)) (q0 := 1) rfl rfl, fun U hU hW => ⟨rfl, hC36 U hU hW⟩⟩ rfl rfl hl.1 rfl (lv_room (Nat.le_of_ble_eq_true rfl)) dX0_findTaken_18 ⟨(Nat.le_of_ble_eq_true rfl), (Nat.le_of_ble_eq_true rfl)⟩) hS (fun q9 _ h9 => hF33 q9 h9) hF33 (fun u37 r38 t37 H37 L37 ht37 hvm37 hw37 hB37 hz37 hk37 hS => ?_)
  obtain ⟨hr37, hB37⟩ := hB37
  have hP := pq_keep hP hD [1, 3] rfl hk37 hB37.1 ht37
  have hG : s.heap.size + 0 ≤ H37.size := Nat.le_trans hG hz37
  refine W.eq (g2 := F0 m 21 ls [.ref h7]) (by rw [hr37]) ?_
  refine va_castE (nm := RX2) hx hb hown (hts _ q_89) (va_recv hK hP (ci := 3) (q := (RX2, TX2, 19)) (q0 := 7) rfl rfl) dX0_findTaken_21 ?_
  refine lv_iconst (v := 0) hx hb dX0_findTaken_24 (by decide) ?_
  refine va_put (D := (dC, dI)) (ci := 3) (v := .int 0) (ty := .boolean) (C := RX2) (T := TX2) (N := 19) hx hb hts in_X2 tyX2 tyX2_ok nmX2 hown hK hP hD (va_Sre hS) 7 rfl rfl 4 (by decide) (hts _ q_197) (fun _ h9 => h9) rfl (by decide +kernel) rfl rfl (Nat.le_of_ble_eq_true rfl) dX0_findTaken_25 (fun H39 _ hP hD hS' => ?_)
  have hG : s.heap.size + 0 ≤ H39.size := Nat.le_trans hG hS'.1
  have hS := va_Str hS hS'
  have hP : va_P (dC, dI) xCl [(h0, ce7 h1 h2 o0 o1), (h1, ce147 h3), (h2, ce147 h4), (h3, ce146 kc0 h5 h6 h7 h8), (h4, ce146 kc1 h5 h6 h7 h8), (h5, ce38 (z.2.1 0) o2 h5), (h6, ce77 (z.2.1 0) o3 h6), (h7, ce115 (z.2.1 0) o4 h7), (h8, ce165 (z.2.1 0) o5 h8)] H39 := hP
  have hD := vd_as hP hD rfl
  refine lv_iinc (v := 3) (lv' := [(1, .int 3), (0, .ref h0)]) hx hb dX0_findTaken_28 hl (k := 0) rfl (by decide) (by decide) rfl (fun ls hl => ?_)
  refine lv_goto (tgt := 2) hx hb dX0_findTaken_31 (by decide) ?_
  refine lv_iload_n hx hb dX0_findTaken_2 rfl (lv_at hl 0 rfl) ?_
  refine lv_aload_n hx hb dX0_findTaken_3 rfl (lv_at hl 1 rfl) ?_
  refine va_get (D := (dC, dI)) (ci := 2) (v := .ref h1) (C := RX0) (T := TX0) (N := 4) hx hb hts in_X0 hown hK hP 0 rfl rfl 0 (by decide) (hts _ q_28) (fun _ h9 => h9) rfl dX0_findTaken_4 ?_
  have hM42 := k20_size l hl9 dC dI z h1 h3 H39.size 4 4
  obtain ⟨hF40, hC43⟩ := pc_M hM42 hP hD hK hS hX hT hA [1] [] rfl rfl rfl
  refine va_calli (va_runV (As := []) (rest := [.int 3]) ⟨hx, hb, hml, hown, hts⟩ hM42 (cwV 0 hts (gV q_92 q_77 q_78 q_12 q_75) rfl rfl rfl hV_Jx4a65c_size_8abf5 ⟨Nat.le_of_ble_eq_true rfl, Nat.le_of_ble_eq_true rfl⟩) ⟨pc_blind, va_recv hK hP (ci := 0) (q := (RJx4a65c, TJx4a65c, 3)) (q0 := 1) rfl rfl, fun U hU hW => ⟨rfl, hC43 U hU hW⟩⟩ rfl rfl hl.1 rfl (lv_room (Nat.le_of_ble_eq_true rfl)) dX0_findTaken_7 ⟨(Nat.le_of_ble_eq_true rfl), (Nat.le_of_ble_eq_true rfl)⟩) hS (fun q9 _ h9 => hF40 q9 h9) hF40 (fun r45 u44 t44 H44 L44 ht44 hvm44 hw44 hB44 hz44 hk44 hS => ?_)
  have hP := pq_keep hP hD [1] rfl hk44 hB44.1 ht44
  have hG : s.heap.size + 0 ≤ H44.size := Nat.le_trans hG hz44
  refine W.eq (g2 := F0 m 10 ls [.int 4, .int 3]) (by rw [hw44]) ?_
  refine lv_icmp_ge (tgt := 34) hx hb dX0_findTaken_10 (by decide) (fun cz => absurd cz (by decide)) (fun _ => ?_)
  refine lv_aload_n hx hb dX0_findTaken_13 rfl (lv_at hl 1 rfl) ?_
  refine va_get (D := (dC, dI)) (ci := 2) (v := .ref h1) (C := RX0) (T := TX0) (N := 4) hx hb hts in_X0 hown hK hP 0 rfl rfl 0 (by decide) (hts _ q_28) (fun _ h9 => h9) rfl dX0_findTaken_14 ?_
  refine lv_iload_n hx hb dX0_findTaken_17 rfl (lv_at hl 0 rfl) ?_
  have hM48 := k272_get l hl9 dC dI z h1 h3 h5 h6 h7 h8 H44.size kc0
  obtain ⟨hF46, hC49⟩ := pc_M hM48 hP hD hK hS hX hT hA [1, 3] [0] rfl rfl rfl
  refine va_callr (va_runV (As := [.int 3]) (rest := []) ⟨hx, hb, hml, hown, hts⟩ hM48 (cwV 1 hts (gV q_156 q_157 q_158 q_12 q_155) rfl rfl rfl hV_Jx4a65c_get_915e3 ⟨Nat.le_of_ble_eq_true rfl, Nat.le_of_ble_eq_true rfl⟩) ⟨pc_blind, va_recv hK hP (ci := 0) (q := (RJx4a65c, TJx4a65c, 3)) (q0 := 1) rfl rfl, fun U hU hW => ⟨rfl, hC49 U hU hW⟩⟩ rfl rfl hl.1 rfl (lv_room (Nat.le_of_ble_eq_true rfl)) dX0_findTaken_18 ⟨(Nat.le_of_ble_eq_true rfl), (Nat.le_of_ble_eq_true rfl)⟩) hS (fun q9 _ h9 => hF46 q9 h9) hF46 (fun u50 r51 t50 H50 L50 ht50 hvm50 hw50 hB50 hz50 hk50 hS => ?_)
  obtain ⟨hr50, hB50⟩ := hB50
  have hP := pq_keep hP hD [1, 3] rfl hk50 hB50.1 ht50
  have hG : s.heap.size + 0 ≤ H50.size := Nat.le_trans hG hz50
  refine W.eq (g2 := F0 m 21 ls [.ref h8]) (by rw [hr50]) ?_
  refine va_castE (nm := RX2) hx hb hown (hts _ q_89) (va_recv hK hP (ci := 3) (q := (RX2, TX2, 19)) (q0 := 8) rfl rfl) dX0_findTaken_21 ?_
  refine lv_iconst (v := 0) hx hb dX0_findTaken_24 (by decide) ?_
  refine va_put (D := (dC, dI)) (ci := 3) (v := .int 0) (ty := .boolean) (C := RX2) (T := TX2) (N := 19) hx hb hts in_X2 tyX2 tyX2_ok nmX2 hown hK hP hD (va_Sre hS) 8 rfl rfl 4 (by decide) (hts _ q_197) (fun _ h9 => h9) rfl (by decide +kernel) rfl rfl (Nat.le_of_ble_eq_true rfl) dX0_findTaken_25 (fun H52 _ hP hD hS' => ?_)
  have hG : s.heap.size + 0 ≤ H52.size := Nat.le_trans hG hS'.1
  have hS := va_Str hS hS'
  have hP : va_P (dC, dI) xCl [(h0, ce7 h1 h2 o0 o1), (h1, ce147 h3), (h2, ce147 h4), (h3, ce146 kc0 h5 h6 h7 h8), (h4, ce146 kc1 h5 h6 h7 h8), (h5, ce38 (z.2.1 0) o2 h5), (h6, ce77 (z.2.1 0) o3 h6), (h7, ce115 (z.2.1 0) o4 h7), (h8, ce165 (z.2.1 0) o5 h8)] H52 := hP
  have hD := vd_as hP hD rfl
  refine lv_iinc (v := 4) (lv' := [(1, .int 4), (0, .ref h0)]) hx hb dX0_findTaken_28 hl (k := 0) rfl (by decide) (by decide) rfl (fun ls hl => ?_)
  refine lv_goto (tgt := 2) hx hb dX0_findTaken_31 (by decide) ?_
  refine lv_iload_n hx hb dX0_findTaken_2 rfl (lv_at hl 0 rfl) ?_
  refine lv_aload_n hx hb dX0_findTaken_3 rfl (lv_at hl 1 rfl) ?_
  refine va_get (D := (dC, dI)) (ci := 2) (v := .ref h1) (C := RX0) (T := TX0) (N := 4) hx hb hts in_X0 hown hK hP 0 rfl rfl 0 (by decide) (hts _ q_28) (fun _ h9 => h9) rfl dX0_findTaken_4 ?_
  have hM55 := k20_size l hl9 dC dI z h1 h3 H52.size 4 4
  obtain ⟨hF53, hC56⟩ := pc_M hM55 hP hD hK hS hX hT hA [1] [] rfl rfl rfl
  refine va_calli (va_runV (As := []) (rest := [.int 4]) ⟨hx, hb, hml, hown, hts⟩ hM55 (cwV 0 hts (gV q_92 q_77 q_78 q_12 q_75) rfl rfl rfl hV_Jx4a65c_size_8abf5 ⟨Nat.le_of_ble_eq_true rfl, Nat.le_of_ble_eq_true rfl⟩) ⟨pc_blind, va_recv hK hP (ci := 0) (q := (RJx4a65c, TJx4a65c, 3)) (q0 := 1) rfl rfl, fun U hU hW => ⟨rfl, hC56 U hU hW⟩⟩ rfl rfl hl.1 rfl (lv_room (Nat.le_of_ble_eq_true rfl)) dX0_findTaken_7 ⟨(Nat.le_of_ble_eq_true rfl), (Nat.le_of_ble_eq_true rfl)⟩) hS (fun q9 _ h9 => hF53 q9 h9) hF53 (fun r58 u57 t57 H57 L57 ht57 hvm57 hw57 hB57 hz57 hk57 hS => ?_)
  have hP := pq_keep hP hD [1] rfl hk57 hB57.1 ht57
  have hG : s.heap.size + 0 ≤ H57.size := Nat.le_trans hG hz57
  refine W.eq (g2 := F0 m 10 ls [.int 4, .int 4]) (by rw [hw57]) ?_
  refine lv_icmp_ge (tgt := 34) hx hb dX0_findTaken_10 (by decide) (fun _ => ?_) (fun cz => absurd (by decide) cz)
  refine lv_iconst (v := 0) hx hb dX0_findTaken_34 (by decide) ?_
  refine lv_istore_n (lv' := [(1, .int 0), (0, .ref h0)]) hx hb dX0_findTaken_35 rfl hl (by decide) rfl (fun ls hl => ?_)
  refine lv_iload_n hx hb dX0_findTaken_36 rfl (lv_at hl 0 rfl) ?_
  refine lv_aload_n hx hb dX0_findTaken_37 rfl (lv_at hl 1 rfl) ?_
  refine va_get (D := (dC, dI)) (ci := 2) (v := .ref h2) (C := RX0) (T := TX0) (N := 4) hx hb hts in_X0 hown hK hP 0 rfl rfl 1 (by decide) (hts _ q_29) (fun _ h9 => h9) rfl dX0_findTaken_38 ?_
  have hM61 := k20_size l hl9 dC dI z h2 h4 H57.size 4 4
  obtain ⟨hF59, hC62⟩ := pc_M hM61 hP hD hK hS hX hT hA [2] [] rfl rfl rfl
  refine va_calli (va_runV (As := []) (rest := [.int 0]) ⟨hx, hb, hml, hown, hts⟩ hM61 (cwV 0 hts (gV q_92 q_77 q_78 q_12 q_75) rfl rfl rfl hV_Jx4a65c_size_8abf5 ⟨Nat.le_of_ble_eq_true rfl, Nat.le_of_ble_eq_true rfl⟩) ⟨pc_blind, va_recv hK hP (ci := 0) (q := (RJx4a65c, TJx4a65c, 3)) (q0 := 2) rfl rfl, fun U hU hW => ⟨rfl, hC62 U hU hW⟩⟩ rfl rfl hl.1 rfl (lv_room (Nat.le_of_ble_eq_true rfl)) dX0_findTaken_41 ⟨(Nat.le_of_ble_eq_true rfl), (Nat.le_of_ble_eq_true rfl)⟩) hS (fun q9 _ h9 => hF59 q9 h9) hF59 (fun r64 u63 t63 H63 L63 ht63 hvm63 hw63 hB63 hz63 hk63 hS => ?_)
  have hP := pq_keep hP hD [2] rfl hk63 hB63.1 ht63
  have hG : s.heap.size + 0 ≤ H63.size := Nat.le_trans hG hz63
  refine W.eq (g2 := F0 m 44 ls [.int 4, .int 0]) (by rw [hw63]) ?_
  refine lv_icmp_ge (tgt := 77) hx hb dX0_findTaken_44 (by decide) (fun cz => absurd cz (by decide)) (fun _ => ?_)
  refine lv_aload_n hx hb dX0_findTaken_47 rfl (lv_at hl 1 rfl) ?_
  refine va_get (D := (dC, dI)) (ci := 2) (v := .ref h2) (C := RX0) (T := TX0) (N := 4) hx hb hts in_X0 hown hK hP 0 rfl rfl 1 (by decide) (hts _ q_29) (fun _ h9 => h9) rfl dX0_findTaken_48 ?_
  refine lv_iload_n hx hb dX0_findTaken_51 rfl (lv_at hl 0 rfl) ?_
  have hM67 := k260_get l hl9 dC dI z h2 h4 h5 h6 h7 h8 H63.size kc1
  obtain ⟨hF65, hC68⟩ := pc_M hM67 hP hD hK hS hX hT hA [2, 4] [1] rfl rfl rfl
  refine va_callr (va_runV (As := [.int 0]) (rest := []) ⟨hx, hb, hml, hown, hts⟩ hM67 (cwV 1 hts (gV q_156 q_157 q_158 q_12 q_155) rfl rfl rfl hV_Jx4a65c_get_915e3 ⟨Nat.le_of_ble_eq_true rfl, Nat.le_of_ble_eq_true rfl⟩) ⟨pc_blind, va_recv hK hP (ci := 0) (q := (RJx4a65c, TJx4a65c, 3)) (q0 := 2) rfl rfl, fun U hU hW => ⟨rfl, hC68 U hU hW⟩⟩ rfl rfl hl.1 rfl (lv_room (Nat.le_of_ble_eq_true rfl)) dX0_findTaken_52 ⟨(Nat.le_of_ble_eq_true rfl), (Nat.le_of_ble_eq_true rfl)⟩) hS (fun q9 _ h9 => hF65 q9 h9) hF65 (fun u69 r70 t69 H69 L69 ht69 hvm69 hw69 hB69 hz69 hk69 hS => ?_)
  obtain ⟨hr69, hB69⟩ := hB69
  have hP := pq_keep hP hD [2, 4] rfl hk69 hB69.1 ht69
  have hG : s.heap.size + 0 ≤ H69.size := Nat.le_trans hG hz69
  refine W.eq (g2 := F0 m 55 ls [.ref h5]) (by rw [hr69]) ?_
  refine va_castE (nm := RX2) hx hb hown (hts _ q_89) (va_recv hK hP (ci := 3) (q := (RX2, TX2, 19)) (q0 := 5) rfl rfl) dX0_findTaken_55 ?_
  refine va_get (D := (dC, dI)) (ci := 3) (v := .null) (C := RX2) (T := TX2) (N := 19) hx hb hts in_X2 hown hK hP 5 rfl rfl 3 (by decide) (hts _ q_198) (fun _ h9 => h9) rfl dX0_findTaken_58 ?_
  refine lv_astore_nN (lv' := [(2, .null), (1, .int 0), (0, .ref h0)]) hx hb dX0_findTaken_61 rfl hl (by decide) rfl (fun ls hl => ?_)
  refine lv_aload_nN hx hb dX0_findTaken_62 rfl (lv_at hl 0 rfl) ?_
  refine lv_ifnullN (tgt := 71) hx hb dX0_findTaken_63 (by decide) ?_
  refine lv_iinc (v := 1) (lv' := [(1, .int 1), (2, .null), (0, .ref h0)]) hx hb dX0_findTaken_71 hl (k := 1) rfl (by decide) (by decide) rfl (fun ls hl => ?_)
  refine lv_goto (tgt := 36) hx hb dX0_findTaken_74 (by decide) ?_
  refine lv_iload_n hx hb dX0_findTaken_36 rfl (lv_at hl 0 rfl) ?_
  refine lv_aload_n hx hb dX0_findTaken_37 rfl (lv_at hl 2 rfl) ?_
  refine va_get (D := (dC, dI)) (ci := 2) (v := .ref h2) (C := RX0) (T := TX0) (N := 4) hx hb hts in_X0 hown hK hP 0 rfl rfl 1 (by decide) (hts _ q_29) (fun _ h9 => h9) rfl dX0_findTaken_38 ?_
  have hM73 := k20_size l hl9 dC dI z h2 h4 H69.size 4 4
  obtain ⟨hF71, hC74⟩ := pc_M hM73 hP hD hK hS hX hT hA [2] [] rfl rfl rfl
  refine va_calli (va_runV (As := []) (rest := [.int 1]) ⟨hx, hb, hml, hown, hts⟩ hM73 (cwV 0 hts (gV q_92 q_77 q_78 q_12 q_75) rfl rfl rfl hV_Jx4a65c_size_8abf5 ⟨Nat.le_of_ble_eq_true rfl, Nat.le_of_ble_eq_true rfl⟩) ⟨pc_blind, va_recv hK hP (ci := 0) (q := (RJx4a65c, TJx4a65c, 3)) (q0 := 2) rfl rfl, fun U hU hW => ⟨rfl, hC74 U hU hW⟩⟩ rfl rfl hl.1 rfl (lv_room (Nat.le_of_ble_eq_true rfl)) dX0_findTaken_41 ⟨(Nat.le_of_ble_eq_true rfl), (Nat.le_of_ble_eq_true rfl)⟩) hS (fun q9 _ h9 => hF71 q9 h9) hF71 (fun r76 u75 t75 H75 L75 ht75 hvm75 hw75 hB75 hz75 hk75 hS => ?_)
  have hP := pq_keep hP hD [2] rfl hk75 hB75.1 ht75
  have hG : s.heap.size + 0 ≤ H75.size := Nat.le_trans hG hz75
  refine W.eq (g2 := F0 m 44 ls [.int 4, .int 1]) (by rw [hw75]) ?_
  refine lv_icmp_ge (tgt := 77) hx hb dX0_findTaken_44 (by decide) (fun cz => absurd cz (by decide)) (fun _ => ?_)
  refine lv_aload_n hx hb dX0_findTaken_47 rfl (lv_at hl 2 rfl) ?_
  refine va_get (D := (dC, dI)) (ci := 2) (v := .ref h2) (C := RX0) (T := TX0) (N := 4) hx hb hts in_X0 hown hK hP 0 rfl rfl 1 (by decide) (hts _ q_29) (fun _ h9 => h9) rfl dX0_findTaken_48 ?_
  refine lv_iload_n hx hb dX0_findTaken_51 rfl (lv_at hl 0 rfl) ?_
  have hM79 := k264_get l hl9 dC dI z h2 h4 h5 h6 h7 h8 H75.size kc1
  obtain ⟨hF77, hC80⟩ := pc_M hM79 hP hD hK hS hX hT hA [2, 4] [1] rfl rfl rfl
  refine va_callr (va_runV (As := [.int 1]) (rest := []) ⟨hx, hb, hml, hown, hts⟩ hM79 (cwV 1 hts (gV q_156 q_157 q_158 q_12 q_155) rfl rfl rfl hV_Jx4a65c_get_915e3 ⟨Nat.le_of_ble_eq_true rfl, Nat.le_of_ble_eq_true rfl⟩) ⟨pc_blind, va_recv hK hP (ci := 0) (q := (RJx4a65c, TJx4a65c, 3)) (q0 := 2) rfl rfl, fun U hU hW => ⟨rfl, hC80 U hU hW⟩⟩ rfl rfl hl.1 rfl (lv_room (Nat.le_of_ble_eq_true rfl)) dX0_findTaken_52 ⟨(Nat.le_of_ble_eq_true rfl), (Nat.le_of_ble_eq_true rfl)⟩) hS (fun q9 _ h9 => hF77 q9 h9) hF77 (fun u81 r82 t81 H81 L81 ht81 hvm81 hw81 hB81 hz81 hk81 hS => ?_)
  obtain ⟨hr81, hB81⟩ := hB81
  have hP := pq_keep hP hD [2, 4] rfl hk81 hB81.1 ht81
  have hG : s.heap.size + 0 ≤ H81.size := Nat.le_trans hG hz81
  refine W.eq (g2 := F0 m 55 ls [.ref h6]) (by rw [hr81]) ?_
  refine va_castE (nm := RX2) hx hb hown (hts _ q_89) (va_recv hK hP (ci := 3) (q := (RX2, TX2, 19)) (q0 := 6) rfl rfl) dX0_findTaken_55 ?_
  refine va_get (D := (dC, dI)) (ci := 3) (v := .null) (C := RX2) (T := TX2) (N := 19) hx hb hts in_X2 hown hK hP 6 rfl rfl 3 (by decide) (hts _ q_198) (fun _ h9 => h9) rfl dX0_findTaken_58 ?_
  refine lv_astore_nN (lv' := [(2, .null), (1, .int 1), (0, .ref h0)]) hx hb dX0_findTaken_61 rfl hl (by decide) rfl (fun ls hl => ?_)
  refine lv_aload_nN hx hb dX0_findTaken_62 rfl (lv_at hl 0 rfl) ?_
  refine lv_ifnullN (tgt := 71) hx hb dX0_findTaken_63 (by decide) ?_
  refine lv_iinc (v := 2) (lv' := [(1, .int 2), (2, .null), (0, .ref h0)]) hx hb dX0_findTaken_71 hl (k := 1) rfl (by decide) (by decide) rfl (fun ls hl => ?_)
  refine lv_goto (tgt := 36) hx hb dX0_findTaken_74 (by decide) ?_
  refine lv_iload_n hx hb dX0_findTaken_36 rfl (lv_at hl 0 rfl) ?_
  refine lv_aload_n hx hb dX0_findTaken_37 rfl (lv_at hl 2 rfl) ?_
  refine va_get (D := (dC, dI)) (ci := 2) (v := .ref h2) (C := RX0) (T := TX0) (N := 4) hx hb hts in_X0 hown hK hP 0 rfl rfl 1 (by decide) (hts _ q_29) (fun _ h9 => h9) rfl dX0_findTaken_38 ?_
  have hM85 := k20_size l hl9 dC dI z h2 h4 H81.size 4 4
  obtain ⟨hF83, hC86⟩ := pc_M hM85 hP hD hK hS hX hT hA [2] [] rfl rfl rfl
  refine va_calli (va_runV (As := []) (rest := [.int 2]) ⟨hx, hb, hml, hown, hts⟩ hM85 (cwV 0 hts (gV q_92 q_77 q_78 q_12 q_75) rfl rfl rfl hV_Jx4a65c_size_8abf5 ⟨Nat.le_of_ble_eq_true rfl, Nat.le_of_ble_eq_true rfl⟩) ⟨pc_blind, va_recv hK hP (ci := 0) (q := (RJx4a65c, TJx4a65c, 3)) (q0 := 2) rfl rfl, fun U hU hW => ⟨rfl, hC86 U hU hW⟩⟩ rfl rfl hl.1 rfl (lv_room (Nat.le_of_ble_eq_true rfl)) dX0_findTaken_41 ⟨(Nat.le_of_ble_eq_true rfl), (Nat.le_of_ble_eq_true rfl)⟩) hS (fun q9 _ h9 => hF83 q9 h9) hF83 (fun r88 u87 t87 H87 L87 ht87 hvm87 hw87 hB87 hz87 hk87 hS => ?_)
  have hP := pq_keep hP hD [2] rfl hk87 hB87.1 ht87
  have hG : s.heap.size + 0 ≤ H87.size := Nat.le_trans hG hz87
  refine W.eq (g2 := F0 m 44 ls [.int 4, .int 2]) (by rw [hw87]) ?_
  refine lv_icmp_ge (tgt := 77) hx hb dX0_findTaken_44 (by decide) (fun cz => absurd cz (by decide)) (fun _ => ?_)
  refine lv_aload_n hx hb dX0_findTaken_47 rfl (lv_at hl 2 rfl) ?_
  refine va_get (D := (dC, dI)) (ci := 2) (v := .ref h2) (C := RX0) (T := TX0) (N := 4) hx hb hts in_X0 hown hK hP 0 rfl rfl 1 (by decide) (hts _ q_29) (fun _ h9 => h9) rfl dX0_findTaken_48 ?_
  refine lv_iload_n hx hb dX0_findTaken_51 rfl (lv_at hl 0 rfl) ?_
  have hM91 := k268_get l hl9 dC dI z h2 h4 h5 h6 h7 h8 H87.size kc1
  obtain ⟨hF89, hC92⟩ := pc_M hM91 hP hD hK hS hX hT hA [2, 4] [1] rfl rfl rfl
  refine va_callr (va_runV (As := [.int 2]) (rest := []) ⟨hx, hb, hml, hown, hts⟩ hM91 (cwV 1 hts (gV q_156 q_157 q_158 q_12 q_155) rfl rfl rfl hV_Jx4a65c_get_915e3 ⟨Nat.le_of_ble_eq_true rfl, Nat.le_of_ble_eq_true rfl⟩) ⟨pc_blind, va_recv hK hP (ci := 0) (q := (RJx4a65c, TJx4a65c, 3)) (q0 := 2) rfl rfl, fun U hU hW => ⟨rfl, hC92 U hU hW⟩⟩ rfl rfl hl.1 rfl (lv_room (Nat.le_of_ble_eq_true rfl)) dX0_findTaken_52 ⟨(Nat.le_of_ble_eq_true rfl), (Nat.le_of_ble_eq_true rfl)⟩) hS (fun q9 _ h9 => hF89 q9 h9) hF89 (fun u93 r94 t93 H93 L93 ht93 hvm93 hw93 hB93 hz93 hk93 hS => ?_)
  obtain ⟨hr93, hB93⟩ := hB93
  have hP := pq_keep hP hD [2, 4] rfl hk93 hB93.1 ht93
  have hG : s.heap.size + 0 ≤ H93.size := Nat.le_trans hG hz93
  refine W.eq (g2 := F0 m 55 ls [.ref h7]) (by rw [hr93]) ?_
  refine va_castE (nm := RX2) hx hb hown (hts _ q_89) (va_recv hK hP (ci := 3) (q := (RX2, TX2, 19)) (q0 := 7) rfl rfl) dX0_findTaken_55 ?_
  refine va_get (D := (dC, dI)) (ci := 3) (v := .null) (C := RX2) (T := TX2) (N := 19) hx hb hts in_X2 hown hK hP 7 rfl rfl 3 (by decide) (hts _ q_198) (fun _ h9 => h9) rfl dX0_findTaken_58 ?_
  refine lv_astore_nN (lv' := [(2, .null), (1, .int 2), (0, .ref h0)]) hx hb dX0_findTaken_61 rfl hl (by decide) rfl (fun ls hl => ?_)
  refine lv_aload_nN hx hb dX0_findTaken_62 rfl (lv_at hl 0 rfl) ?_
  refine lv_ifnullN (tgt := 71) hx hb dX0_findTaken_63 (by decide) ?_
  refine lv_iinc (v := 3) (lv' := [(1, .int 3), (2, .null), (0, .ref h0)]) hx hb dX0_findTaken_71 hl (k := 1) rfl (by decide) (by decide) rfl (fun ls hl => ?_)
  refine lv_goto (tgt := 36) hx hb dX0_findTaken_74 (by decide) ?_
  refine lv_iload_n hx hb dX0_findTaken_36 rfl (lv_at hl 0 rfl) ?_
  refine lv_aload_n hx hb dX0_findTaken_37 rfl (lv_at hl 2 rfl) ?_
  refine va_get (D := (dC, dI)) (ci := 2) (v := .ref h2) (C := RX0) (T := TX0) (N := 4) hx hb hts in_X0 hown hK hP 0 rfl rfl 1 (by decide) (hts _ q_29) (fun _ h9 => h9) rfl dX0_findTaken_38 ?_
  have hM97 := k20_size l hl9 dC dI z h2 h4 H93.size 4 4
  obtain ⟨hF95, hC98⟩ := pc_M hM97 hP hD hK hS hX hT hA [2] [] rfl rfl rfl
  refine va_calli (va_runV (As := []) (rest := [.int 3]) ⟨hx, hb, hml, hown, hts⟩ hM97 (cwV 0 hts (gV q_92 q_77 q_78 q_12 q_75) rfl rfl rfl hV_Jx4a65c_size_8abf5 ⟨Nat.le_of_ble_eq_true rfl, Nat.le_of_ble_eq_true rfl⟩) ⟨pc_blind, va_recv hK hP (ci := 0) (q := (RJx4a65c, TJx4a65c, 3)) (q0 := 2) rfl rfl, fun U hU hW => ⟨rfl, hC98 U hU hW⟩⟩ rfl rfl hl.1 rfl (lv_room (Nat.le_of_ble_eq_true rfl)) dX0_findTaken_41 ⟨(Nat.le_of_ble_eq_true rfl), (Nat.le_of_ble_eq_true rfl)⟩) hS (fun q9 _ h9 => hF95 q9 h9) hF95 (fun r100 u99 t99 H99 L99 ht99 hvm99 hw99 hB99 hz99 hk99 hS => ?_)
  have hP := pq_keep hP hD [2] rfl hk99 hB99.1 ht99
  have hG : s.heap.size + 0 ≤ H99.size := Nat.le_trans hG hz99
  refine W.eq (g2 := F0 m 44 ls [.int 4, .int 3]) (by rw [hw99]) ?_
  refine lv_icmp_ge (tgt := 77) hx hb dX0_findTaken_44 (by decide) (fun cz => absurd cz (by decide)) (fun _ => ?_)
  refine lv_aload_n hx hb dX0_findTaken_47 rfl (lv_at hl 2 rfl) ?_
  refine va_get (D := (dC, dI)) (ci := 2) (v := .ref h2) (C := RX0) (T := TX0) (N := 4) hx hb hts in_X0 hown hK hP 0 rfl rfl 1 (by decide) (hts _ q_29) (fun _ h9 => h9) rfl dX0_findTaken_48 ?_
  refine lv_iload_n hx hb dX0_findTaken_51 rfl (lv_at hl 0 rfl) ?_
  have hM103 := k272_get l hl9 dC dI z h2 h4 h5 h6 h7 h8 H99.size kc1
  obtain ⟨hF101, hC104⟩ := pc_M hM103 hP hD hK hS hX hT hA [2, 4] [1] rfl rfl rfl
  refine va_callr (va_runV (As := [.int 3]) (rest := []) ⟨hx, hb, hml, hown, hts⟩ hM103 (cwV 1 hts (gV q_156 q_157 q_158 q_12 q_155) rfl rfl rfl hV_Jx4a65c_get_915e3 ⟨Nat.le_of_ble_eq_true rfl, Nat.le_of_ble_eq_true rfl⟩) ⟨pc_blind, va_recv hK hP (ci := 0) (q := (RJx4a65c, TJx4a65c, 3)) (q0 := 2) rfl rfl, fun U hU hW => ⟨rfl, hC104 U hU hW⟩⟩ rfl rfl hl.1 rfl (lv_room (Nat.le_of_ble_eq_true rfl)) dX0_findTaken_52 ⟨(Nat.le_of_ble_eq_true rfl), (Nat.le_of_ble_eq_true rfl)⟩) hS (fun q9 _ h9 => hF101 q9 h9) hF101 (fun u105 r106 t105 H105 L105 ht105 hvm105 hw105 hB105 hz105 hk105 hS => ?_)
  obtain ⟨hr105, hB105⟩ := hB105
  have hP := pq_keep hP hD [2, 4] rfl hk105 hB105.1 ht105
  have hG : s.heap.size + 0 ≤ H105.size := Nat.le_trans hG hz105
  refine W.eq (g2 := F0 m 55 ls [.ref h8]) (by rw [hr105]) ?_
  refine va_castE (nm := RX2) hx hb hown (hts _ q_89) (va_recv hK hP (ci := 3) (q := (RX2, TX2, 19)) (q0 := 8) rfl rfl) dX0_findTaken_55 ?_
  refine va_get (D := (dC, dI)) (ci := 3) (v := .null) (C := RX2) (T := TX2) (N := 19) hx hb hts in_X2 hown hK hP 8 rfl rfl 3 (by decide) (hts _ q_198) (fun _ h9 => h9) rfl dX0_findTaken_58 ?_
  refine lv_astore_nN (lv' := [(2, .null), (1, .int 3), (0, .ref h0)]) hx hb dX0_findTaken_61 rfl hl (by decide) rfl (fun ls hl => ?_)
  refine lv_aload_nN hx hb dX0_findTaken_62 rfl (lv_at hl 0 rfl) ?_
  refine lv_ifnullN (tgt := 71) hx hb dX0_findTaken_63 (by decide) ?_
  refine lv_iinc (v := 4) (lv' := [(1, .int 4), (2, .null), (0, .ref h0)]) hx hb dX0_findTaken_71 hl (k := 1) rfl (by decide) (by decide) rfl (fun ls hl => ?_)
  refine lv_goto (tgt := 36) hx hb dX0_findTaken_74 (by decide) ?_
  refine lv_iload_n hx hb dX0_findTaken_36 rfl (lv_at hl 0 rfl) ?_
  refine lv_aload_n hx hb dX0_findTaken_37 rfl (lv_at hl 2 rfl) ?_
  refine va_get (D := (dC, dI)) (ci := 2) (v := .ref h2) (C := RX0) (T := TX0) (N := 4) hx hb hts in_X0 hown hK hP 0 rfl rfl 1 (by decide) (hts _ q_29) (fun _ h9 => h9) rfl dX0_findTaken_38 ?_
  have hM109 := k20_size l hl9 dC dI z h2 h4 H105.size 4 4
  obtain ⟨hF107, hC110⟩ := pc_M hM109 hP hD hK hS hX hT hA [2] [] rfl rfl rfl
  refine va_calli (va_runV (As := []) (rest := [.int 4]) ⟨hx, hb, hml, hown, hts⟩ hM109 (cwV 0 hts (gV q_92 q_77 q_78 q_12 q_75) rfl rfl rfl hV_Jx4a65c_size_8abf5 ⟨Nat.le_of_ble_eq_true rfl, Nat.le_of_ble_eq_true rfl⟩) ⟨pc_blind, va_recv hK hP (ci := 0) (q := (RJx4a65c, TJx4a65c, 3)) (q0 := 2) rfl rfl, fun U hU hW => ⟨rfl, hC110 U hU hW⟩⟩ rfl rfl hl.1 rfl (lv_room (Nat.le_of_ble_eq_true rfl)) dX0_findTaken_41 ⟨(Nat.le_of_ble_eq_true rfl), (Nat.le_of_ble_eq_true rfl)⟩) hS (fun q9 _ h9 => hF107 q9 h9) hF107 (fun r112 u111 t111 H111 L111 ht111 hvm111 hw111 hB111 hz111 hk111 hS => ?_)
  have hP := pq_keep hP hD [2] rfl hk111 hB111.1 ht111
  have hG : s.heap.size + 0 ≤ H111.size := Nat.le_trans hG hz111
  refine W.eq (g2 := F0 m 44 ls [.int 4, .int 4]) (by rw [hw111]) ?_
  refine lv_icmp_ge (tgt := 77) hx hb dX0_findTaken_44 (by decide) (fun _ => ?_) (fun cz => absurd (by decide) cz)
  exact W.vret hx hb hr (fun t9 ht9 hW9 => ⟨⟨(), rfl, trivial, ⟨pq_mk2 hP hD hK [0, 1, 2, 3, 4, 5, 6, 7, 8] [0, 1] rfl rfl rfl ht9 hW9, by rw [ht9]; exact Nat.le_trans (Nat.add_le_add_left (Nat.le_of_ble_eq_true rfl) _) hG⟩⟩, hS.F ht9⟩) hS.2.2 dX0_findTaken_77

set_option maxHeartbeats 4000000 in
set_option maxRecDepth 100000 in
theorem k298_layOut (l : Launch) (hl9 : l.stackTraces = false) (dC : Nat → ClassId) (dI : Nat → Nat → Nat) (z : XZ) (h0 h1 h2 h3 h4 h5 h6 h7 h8 h9 h10 h11 h12 h13 h14 h15 : Nat) (sz : Nat) (kc0 kc1 kc2 : ClassId) : Met l yX0_layOut (.code yX0_layOut cX0_layOut 1 none :: wsL_law) ({ frames := 5, cells := 0, slots := 0, locals := 107 }) (va_Pc [.ref h0] (PC (dC, dI) [(h0, ce7 h1 h2 h3 h4), (h1, ce147 h5), (h2, ce147 h6), (h3, ce3 z.1), (h4, ce117 h7), (h5, ce146 kc0 h8 h9 h10 h11), (h6, ce146 kc1 h8 h9 h10 h11), (h7, ce101 kc2 h8 h9 h10), (h8, ce38 (z.2.1 0) h12 h8), (h9, ce77 (z.2.1 0) h13 h9), (h10, ce115 (z.2.1 0) h14 h10), (h11, ce144 (z.2.1 0) h15 h11), (h12, ce3 z.1), (h13, ce3 z.1), (h14, ce3 z.1), (h15, ce3 z.1)] [(kc0, .object "java/lang/Object"), (kc1, .object "java/lang/Object"), (kc2, .object "java/lang/Object")] sz z)) (va_Qv (fun (_ : Unit) => True) (fun (_ : Unit) (t : State) => PG (dC, dI) [(h0, ce7 h1 h2 h3 h4), (h1, ce147 h5), (h2, ce147 h6), (h3, ce3 z.1), (h4, ce167 h7), (h5, ce146 kc0 h8 h9 h10 h11), (h6, ce146 kc1 h8 h9 h10 h11), (h7, ce146 kc2 h8 h9 h10 h11), (h8, ce38 (z.2.1 0) h12 h8), (h9, ce77 (z.2.1 0) h13 h9), (h10, ce115 (z.2.1 0) h14 h10), (h11, ce165 (z.2.1 0) h15 h11), (h12, ce3 z.1), (h13, ce3 z.1), (h14, ce3 z.1), (h15, ce3 z.1)] [(kc0, .object "java/lang/Object"), (kc1, .object "java/lang/Object"), (kc2, .object "java/lang/Object")] (va_A [(h0, ce7 h1 h2 h3 h4), (h1, ce147 h5), (h2, ce147 h6), (h3, ce3 z.1), (h4, ce117 h7), (h5, ce146 kc0 h8 h9 h10 h11), (h6, ce146 kc1 h8 h9 h10 h11), (h7, ce101 kc2 h8 h9 h10), (h8, ce38 (z.2.1 0) h12 h8), (h9, ce77 (z.2.1 0) h13 h9), (h10, ce115 (z.2.1 0) h14 h10), (h11, ce144 (z.2.1 0) h15 h11), (h12, ce3 z.1), (h13, ce3 z.1), (h14, ce3 z.1), (h15, ce3 z.1)] sz) sz 0 t) (va_A [(h0, ce7 h1 h2 h3 h4), (h1, ce147 h5), (h2, ce147 h6), (h3, ce3 z.1), (h4, ce117 h7), (h5, ce146 kc0 h8 h9 h10 h11), (h6, ce146 kc1 h8 h9 h10 h11), (h7, ce101 kc2 h8 h9 h10), (h8, ce38 (z.2.1 0) h12 h8), (h9, ce77 (z.2.1 0) h13 h9), (h10, ce115 (z.2.1 0) h14 h10), (h11, ce144 (z.2.1 0) h15 h11), (h12, ce3 z.1), (h13, ce3 z.1), (h14, ce3 z.1), (h15, ce3 z.1)] sz)) 0 0 (va_A [(h0, ce7 h1 h2 h3 h4), (h1, ce147 h5), (h2, ce147 h6), (h3, ce3 z.1), (h4, ce117 h7), (h5, ce146 kc0 h8 h9 h10 h11), (h6, ce146 kc1 h8 h9 h10 h11), (h7, ce101 kc2 h8 h9 h10), (h8, ce38 (z.2.1 0) h12 h8), (h9, ce77 (z.2.1 0) h13 h9), (h10, ce115 (z.2.1 0) h14 h10), (h11, ce144 (z.2.1 0) h15 h11), (h12, ce3 z.1), (h13, ce3 z.1), (h14, ce3 z.1), (h15, ce3 z.1)] sz) := by
  refine Met.ofW (cc := cX0_layOut) (maxL := 1) (ret := none) (by decide) rfl ?_
  intro p e s m args below meth c s₁ B hml hv
  obtain ⟨rfl, hsz, hP, hK, hD0, hX, hT⟩ := hv
  have hx := B.exec
  have hb := B.bytes
  have hr := B.returns
  have hts0 := atoms_spec (ws := .code yX0_layOut cX0_layOut 1 none :: wsL_law) B.pre
  have hts := xTail hts0
  have hown : s.vm.findClass RX0 = some m.cls := xown B.named rfl
  have hlocks := B.notSynchronized
  subst hsz
  have hD := hD0.self (sz := s.heap.size)
  generalize hAe : va_A [(h0, ce7 h1 h2 h3 h4), (h1, ce147 h5), (h2, ce147 h6), (h3, ce3 z.1), (h4, ce117 h7), (h5, ce146 kc0 h8 h9 h10 h11), (h6, ce146 kc1 h8 h9 h10 h11), (h7, ce101 kc2 h8 h9 h10), (h8, ce38 (z.2.1 0) h12 h8), (h9, ce77 (z.2.1 0) h13 h9), (h10, ce115 (z.2.1 0) h14 h10), (h11, ce144 (z.2.1 0) h15 h11), (h12, ce3 z.1), (h13, ce3 z.1), (h14, ce3 z.1), (h15, ce3 z.1)] s.heap.size = A at hD hX ⊢
  have hA : ∀ q : Nat, s.heap.size ≤ q → A q := fun q h => by rw [← hAe]; exact Or.inr h
  have hS : va_S A s.heap s.heap [] := va_S.rf
  have hG : s.heap.size + 0 ≤ s.heap.size := Nat.le_refl _
  have hl := lv_entry ([.ref h0]) (n := 1) (Nat.le_of_ble_eq_true rfl)
  rw [lg_entry_eq]
  generalize (lg_sl ([.ref h0]) ++ List.replicate (1 - (lg_sl ([.ref h0])).length) Slot.unset).toArray = ls at hl ⊢
  have hl : lv_has ls 1 [(0, .ref h0)] := hl
  refine lv_aload_n hx hb dX0_layOut_0 rfl (lv_at hl 0 rfl) ?_
  have hM3 := k283_putInOrder l hl9 dC dI z h0 h1 h4 h5 h7 h8 h9 h10 h11 h12 h13 h14 h15 h2 h3 s.heap.size kc0 kc2
  obtain ⟨hF1, hC4⟩ := pc_M hM3 hP hD hK hS hX hT hA [0, 1, 4, 5, 7, 8, 9, 10, 11, 12, 13, 14, 15] [0, 2] rfl rfl rfl
  refine va_callv (va_runV (As := []) (rest := []) ⟨hx, hb, hml, hown, hts⟩ hM3 (cwV 0 hts (gV q_170 q_171 q_172 q_8 q_169) rfl rfl rfl hV_X0_putInOrder ⟨Nat.le_of_ble_eq_true rfl, Nat.le_of_ble_eq_true rfl⟩) ⟨pc_blind, va_recv hK hP (ci := 2) (q := (RX0, TX0, 4)) (q0 := 0) rfl rfl, fun U hU hW => ⟨rfl, hC4 U hU hW⟩⟩ rfl rfl hl.1 rfl (lv_room (Nat.le_of_ble_eq_true rfl)) dX0_layOut_1 ⟨(Nat.le_of_ble_eq_true rfl), (Nat.le_of_ble_eq_true rfl)⟩) hS (fun q9 _ h9 => hF1 q9 h9) hF1 (fun u5 t5 H5 L5 ht5 hvm5 hw5 hB5 hz5 hk5 hS => ?_)
  obtain ⟨hP, hD, hK⟩ := pq_jn (wz := [(h2, ce147 h6), (h3, ce3 z.1), (h6, ce146 kc1 h8 h9 h10 h11), (h0, ce7 h1 h2 h3 h4), (h1, ce147 h5), (h4, ce167 h7), (h5, ce146 kc0 h8 h9 h10 h11), (h7, ce146 kc2 h8 h9 h10 h11), (h8, ce38 (z.2.1 0) h12 h8), (h9, ce77 (z.2.1 0) h13 h9), (h10, ce115 (z.2.1 0) h14 h10), (h11, ce165 (z.2.1 0) h15 h11), (h12, ce3 z.1), (h13, ce3 z.1), (h14, ce3 z.1), (h15, ce3 z.1)]) (tz := [(kc1, .object "java/lang/Object"), (kc0, .object "java/lang/Object"), (kc2, .object "java/lang/Object")]) hP hD hK [0, 1, 4, 5, 7, 8, 9, 10, 11, 12, 13, 14, 15] [1] rfl hk5 hF1 hB5.1 ht5 hvm5 rfl rfl
  have hG : s.heap.size + 0 ≤ H5.size := Nat.le_trans hG hz5
  refine lv_aload_n hx hb dX0_layOut_4 rfl (lv_at hl 0 rfl) ?_
  have hM9 := k284_countReaders l hl9 dC dI z h0 h1 h3 h5 h8 h9 h10 h11 h2 h4 h12 h13 h14 h15 H5.size kc0
  obtain ⟨hF7, hC10⟩ := pc_M hM9 hP hD hK hS hX hT hA [3, 4, 1, 6, 8, 9, 10, 11] [1] rfl rfl rfl
  refine va_callv (va_runV (As := []) (rest := []) ⟨hx, hb, hml, hown, hts⟩ hM9 (cwV 0 hts (gV q_175 q_176 q_177 q_8 q_174) rfl rfl rfl hV_X0_countReaders ⟨Nat.le_of_ble_eq_true rfl, Nat.le_of_ble_eq_true rfl⟩) ⟨pc_blind, va_recv hK hP (ci := 2) (q := (RX0, TX0, 4)) (q0 := 3) rfl rfl, fun U hU hW => ⟨rfl, hC10 U hU hW⟩⟩ rfl rfl hl.1 rfl (lv_room (Nat.le_of_ble_eq_true rfl)) dX0_layOut_5 ⟨(Nat.le_of_ble_eq_true rfl), (Nat.le_of_ble_eq_true rfl)⟩) hS (fun q9 _ h9 => hF7 q9 h9) hF7 (fun u11 t11 H11 L11 ht11 hvm11 hw11 hB11 hz11 hk11 hS => ?_)
  have hP := pq_keep hP hD [3, 4, 1, 6, 8, 9, 10, 11] rfl hk11 hB11.1 ht11
  have hG : s.heap.size + 0 ≤ H11.size := Nat.le_trans hG hz11
  refine lv_aload_n hx hb dX0_layOut_8 rfl (lv_at hl 0 rfl) ?_
  have hM15 := k295_reckonDelays l hl9 dC dI z h0 h4 h7 h8 h9 h10 h11 h12 h13 h14 h15 h1 h2 h3 H11.size kc2
  obtain ⟨hF13, hC16⟩ := pc_M hM15 hP hD hK hS hX hT hA [3, 5, 7, 8, 9, 10, 11, 12, 13, 14, 15] [2] rfl rfl rfl
  refine va_callv (va_runV (As := []) (rest := []) ⟨hx, hb, hml, hown, hts⟩ hM15 (cwV 0 hts (gV q_189 q_190 q_191 q_8 q_188) rfl rfl rfl hV_X0_reckonDelays ⟨Nat.le_of_ble_eq_true rfl, Nat.le_of_ble_eq_true rfl⟩) ⟨pc_blind, va_recv hK hP (ci := 2) (q := (RX0, TX0, 4)) (q0 := 3) rfl rfl, fun U hU hW => ⟨rfl, hC16 U hU hW⟩⟩ rfl rfl hl.1 rfl (lv_room (Nat.le_of_ble_eq_true rfl)) dX0_layOut_9 ⟨(Nat.le_of_ble_eq_true rfl), (Nat.le_of_ble_eq_true rfl)⟩) hS (fun q9 _ h9 => hF13 q9 h9) hF13 (fun u17 t17 H17 L17 ht17 hvm17 hw17 hB17 hz17 hk17 hS => ?_)
  have hP := pq_keep hP hD [3, 5, 7, 8, 9, 10, 11, 12, 13, 14, 15] rfl hk17 hB17.1 ht17
  have hG : s.heap.size + 0 ≤ H17.size := Nat.le_trans hG hz17
  refine lv_aload_n hx hb dX0_layOut_12 rfl (lv_at hl 0 rfl) ?_
  have hM21 := k296_findStandings l hl9 dC dI z h0 h1 h3 h5 h8 h9 h10 h11 h2 h4 h12 h13 h14 h15 H17.size kc0
  obtain ⟨hF19, hC22⟩ := pc_M hM21 hP hD hK hS hX hT hA [3, 4, 1, 6, 8, 9, 10, 11] [1] rfl rfl rfl
  refine va_callv (va_runV (As := []) (rest := []) ⟨hx, hb, hml, hown, hts⟩ hM21 (cwV 0 hts (gV q_194 q_195 q_196 q_8 q_193) rfl rfl rfl hV_X0_findStandings ⟨Nat.le_of_ble_eq_true rfl, Nat.le_of_ble_eq_true rfl⟩) ⟨pc_blind, va_recv hK hP (ci := 2) (q := (RX0, TX0, 4)) (q0 := 3) rfl rfl, fun U hU hW => ⟨rfl, hC22 U hU hW⟩⟩ rfl rfl hl.1 rfl (lv_room (Nat.le_of_ble_eq_true rfl)) dX0_layOut_13 ⟨(Nat.le_of_ble_eq_true rfl), (Nat.le_of_ble_eq_true rfl)⟩) hS (fun q9 _ h9 => hF19 q9 h9) hF19 (fun u23 t23 H23 L23 ht23 hvm23 hw23 hB23 hz23 hk23 hS => ?_)
  have hP := pq_keep hP hD [3, 4, 1, 6, 8, 9, 10, 11] rfl hk23 hB23.1 ht23
  have hG : s.heap.size + 0 ≤ H23.size := Nat.le_trans hG hz23
  refine lv_aload_n hx hb dX0_layOut_16 rfl (lv_at hl 0 rfl) ?_
  have hM27 := k297_findTaken l hl9 dC dI z h0 h1 h2 h5 h6 h8 h9 h10 h11 h3 h4 h12 h13 h14 h15 H23.size kc0 kc1
  obtain ⟨hF25, hC28⟩ := pc_M hM27 hP hD hK hS hX hT hA [3, 4, 0, 6, 2, 8, 9, 10, 11] [1, 0] rfl rfl rfl
  refine va_callv (va_runV (As := []) (rest := []) ⟨hx, hb, hml, hown, hts⟩ hM27 (cwV 0 hts (gV q_200 q_201 q_202 q_8 q_199) rfl rfl rfl hV_X0_findTaken ⟨Nat.le_of_ble_eq_true rfl, Nat.le_of_ble_eq_true rfl⟩) ⟨pc_blind, va_recv hK hP (ci := 2) (q := (RX0, TX0, 4)) (q0 := 3) rfl rfl, fun U hU hW => ⟨rfl, hC28 U hU hW⟩⟩ rfl rfl hl.1 rfl (lv_room (Nat.le_of_ble_eq_true rfl)) dX0_layOut_17 ⟨(Nat.le_of_ble_eq_true rfl), (Nat.le_of_ble_eq_true rfl)⟩) hS (fun q9 _ h9 => hF25 q9 h9) hF25 (fun u29 t29 H29 L29 ht29 hvm29 hw29 hB29 hz29 hk29 hS => ?_)
  have hP := pq_keep hP hD [3, 4, 0, 6, 2, 8, 9, 10, 11] rfl hk29 hB29.1 ht29
  have hG : s.heap.size + 0 ≤ H29.size := Nat.le_trans hG hz29
  exact W.vret hx hb hr (fun t9 ht9 hW9 => ⟨⟨(), rfl, trivial, ⟨pq_mk2 hP hD hK [3, 4, 0, 1, 5, 6, 2, 7, 8, 9, 10, 11, 12, 13, 14, 15] [1, 0, 2] rfl rfl rfl ht9 hW9, by rw [ht9]; exact Nat.le_trans (Nat.add_le_add_left (Nat.le_of_ble_eq_true rfl) _) hG⟩⟩, hS.F ht9⟩) hS.2.2 dX0_layOut_20

set_option maxHeartbeats 4000000 in
set_option maxRecDepth 100000 in
theorem k299_isSource (l : Launch) (hl9 : l.stackTraces = false) (dC : Nat → ClassId) (dI : Nat → Nat → Nat) (z : XZ) (h0 : Nat) (o0 : Nat) (sz : Nat) : Met l yX2_isSource (.code yX2_isSource cX2_isSource 1 (some .boolean) :: wsL_law) ({ frames := 0, cells := 0, slots := 0, locals := 0 }) (va_Pc [.ref h0] (PC (dC, dI) [(h0, ce165 (z.2.1 0) o0 h0)] [] sz z)) (va_Qi (fun (r : Int32) (_ : Unit) => r = 1) (fun (_ : Unit) (t : State) => PG (dC, dI) [(h0, ce165 (z.2.1 0) o0 h0)] [] (va_A [(h0, ce165 (z.2.1 0) o0 h0)] sz) sz 0 t) (va_A [(h0, ce165 (z.2.1 0) o0 h0)] sz)) 0 0 (va_A [(h0, ce165 (z.2.1 0) o0 h0)] sz) := by
  refine Met.ofW (cc := cX2_isSource) (maxL := 1) (ret := (some .boolean)) (by decide) rfl ?_
  intro p e s m args below meth c s₁ B hml hv
  obtain ⟨rfl, hsz, hP, hK, hD0, hX, hT⟩ := hv
  have hx := B.exec
  have hb := B.bytes
  have hr := B.returns
  have hts0 := atoms_spec (ws := .code yX2_isSource cX2_isSource 1 (some .boolean) :: wsL_law) B.pre
  have hts := xTail hts0
  have hown : s.vm.findClass RX2 = some m.cls := xown B.named rfl
  have hlocks := B.notSynchronized
  subst hsz
  have hD := hD0.self (sz := s.heap.size)
  generalize hAe : va_A [(h0, ce165 (z.2.1 0) o0 h0)] s.heap.size = A at hD hX ⊢
  have hA : ∀ q : Nat, s.heap.size ≤ q → A q := fun q h => by rw [← hAe]; exact Or.inr h
  have hS : va_S A s.heap s.heap [] := va_S.rf
  have hG : s.heap.size + 0 ≤ s.heap.size := Nat.le_refl _
  have hl := lv_entry ([.ref h0]) (n := 1) (Nat.le_of_ble_eq_true rfl)
  rw [lg_entry_eq]
  generalize (lg_sl ([.ref h0]) ++ List.replicate (1 - (lg_sl ([.ref h0])).length) Slot.unset).toArray = ls at hl ⊢
  have hl : lv_has ls 1 [(0, .ref h0)] := hl
  refine lv_aload_n hx hb dX2_isSource_0 rfl (lv_at hl 0 rfl) ?_
  refine va_get (D := (dC, dI)) (ci := 3) (v := .ref (z.2.1 0)) (C := RX2) (T := TX2) (N := 19) hx hb hts in_X2 hown hK hP 0 rfl rfl 1 (by decide) (hts _ q_98) (fun _ h9 => h9) rfl dX2_isSource_1 ?_
  refine va_gets (own := RX2) (ref := "Deltacycle$NetKind") hx hb (hX.2.1.1 0 (by decide)).1 hS hown (hts _ q_130) (fun _ h9 => h9) dX2_isSource_4 ?_
  refine lv_acmp_eq (rx := (some (z.2.1 0))) (ry := (some (z.2.1 0))) (tgt := 20) hx hb dX2_isSource_7 (by decide) (fun _ => ?_) (fun cz => absurd rfl cz)
  refine lv_iconst (v := 1) hx hb dX2_isSource_20 (by decide) ?_
  refine lv_goto (tgt := 25) hx hb dX2_isSource_21 (by decide) ?_
  exact W.zret (v := 1) (ty := .boolean) hx hb hr rfl (fun t9 ht9 hW9 => ⟨⟨1, (), rfl, rfl, ⟨pq_mk2 hP hD hK [0] [] rfl rfl rfl ht9 hW9, by rw [ht9]; exact Nat.le_trans (Nat.add_le_add_left (Nat.le_of_ble_eq_true rfl) _) hG⟩⟩, hS.F ht9⟩) hS.2.2 dX2_isSource_25

set_option maxHeartbeats 4000000 in
set_option maxRecDepth 100000 in
theorem k300_settle (l : Launch) (hl9 : l.stackTraces = false) (dC : Nat → ClassId) (dI : Nat → Nat → Nat) (z : XZ) (h0 h1 h2 h3 h4 h5 h6 : Nat) (o0 o1 o2 o3 o4 o5 o6 : Nat) (sz : Nat) (kc0 : ClassId) : Met l yX0_settle (.code yX0_settle cX0_settle 5 none :: wsL_law) ({ frames := 3, cells := 0, slots := 0, locals := 64 }) (va_Pc [.ref h0, .null, .int 120] (PC (dC, dI) [(h0, ce7 o0 o1 o2 h1), (h1, ce167 h2), (h2, ce146 kc0 h3 h4 h5 h6), (h3, ce38 (z.2.1 0) o3 h3), (h4, ce77 (z.2.1 0) o4 h4), (h5, ce115 (z.2.1 0) o5 h5), (h6, ce165 (z.2.1 0) o6 h6)] [(kc0, .object "java/lang/Object")] sz z)) (va_Qv (fun (_ : Unit) => True) (fun (_ : Unit) (t : State) => PG (dC, dI) [(h0, ce7 o0 o1 o2 h1), (h1, ce167 h2), (h2, ce146 kc0 h3 h4 h5 h6), (h3, ce38 (z.2.1 0) o3 h3), (h4, ce77 (z.2.1 0) o4 h4), (h5, ce115 (z.2.1 0) o5 h5), (h6, ce165 (z.2.1 0) o6 h6)] [(kc0, .object "java/lang/Object")] (va_A [(h0, ce7 o0 o1 o2 h1), (h1, ce167 h2), (h2, ce146 kc0 h3 h4 h5 h6), (h3, ce38 (z.2.1 0) o3 h3), (h4, ce77 (z.2.1 0) o4 h4), (h5, ce115 (z.2.1 0) o5 h5), (h6, ce165 (z.2.1 0) o6 h6)] sz) sz 0 t) (va_A [(h0, ce7 o0 o1 o2 h1), (h1, ce167 h2), (h2, ce146 kc0 h3 h4 h5 h6), (h3, ce38 (z.2.1 0) o3 h3), (h4, ce77 (z.2.1 0) o4 h4), (h5, ce115 (z.2.1 0) o5 h5), (h6, ce165 (z.2.1 0) o6 h6)] sz)) 0 0 (va_A [(h0, ce7 o0 o1 o2 h1), (h1, ce167 h2), (h2, ce146 kc0 h3 h4 h5 h6), (h3, ce38 (z.2.1 0) o3 h3), (h4, ce77 (z.2.1 0) o4 h4), (h5, ce115 (z.2.1 0) o5 h5), (h6, ce165 (z.2.1 0) o6 h6)] sz) := by
  refine Met.ofW (cc := cX0_settle) (maxL := 5) (ret := none) (by decide) rfl ?_
  intro p e s m args below meth c s₁ B hml hv
  obtain ⟨rfl, hsz, hP, hK, hD0, hX, hT⟩ := hv
  have hx := B.exec
  have hb := B.bytes
  have hr := B.returns
  have hts0 := atoms_spec (ws := .code yX0_settle cX0_settle 5 none :: wsL_law) B.pre
  have hts := xTail hts0
  have hown : s.vm.findClass RX0 = some m.cls := xown B.named rfl
  have hlocks := B.notSynchronized
  subst hsz
  have hD := hD0.self (sz := s.heap.size)
  generalize hAe : va_A [(h0, ce7 o0 o1 o2 h1), (h1, ce167 h2), (h2, ce146 kc0 h3 h4 h5 h6), (h3, ce38 (z.2.1 0) o3 h3), (h4, ce77 (z.2.1 0) o4 h4), (h5, ce115 (z.2.1 0) o5 h5), (h6, ce165 (z.2.1 0) o6 h6)] s.heap.size = A at hD hX ⊢
  have hA : ∀ q : Nat, s.heap.size ≤ q → A q := fun q h => by rw [← hAe]; exact Or.inr h
  have hS : va_S A s.heap s.heap [] := va_S.rf
  have hG : s.heap.size + 0 ≤ s.heap.size := Nat.le_refl _
  have hl := lv_entry ([.ref h0, .null, .int 120]) (n := 5) (Nat.le_of_ble_eq_true rfl)
  rw [lg_entry_eq]
  generalize (lg_sl ([.ref h0, .null, .int 120]) ++ List.replicate (5 - (lg_sl ([.ref h0, .null, .int 120])).length) Slot.unset).toArray = ls at hl ⊢
  have hl : lv_has ls 5 [(0, .ref h0), (1, .null), (2, .int 120)] := hl
  refine lv_iconst (v := 0) hx hb dX0_settle_0 (by decide) ?_
  refine lv_istore_n (lv' := [(3, .int 0), (0, .ref h0), (1, .null), (2, .int 120)]) hx hb dX0_settle_1 rfl hl (by decide) rfl (fun ls hl => ?_)
  refine lv_iload_n hx hb dX0_settle_2 rfl (lv_at hl 0 rfl) ?_
  refine lv_aload_n hx hb dX0_settle_3 rfl (lv_at hl 1 rfl) ?_
  refine va_get (D := (dC, dI)) (ci := 2) (v := .ref h1) (C := RX0) (T := TX0) (N := 4) hx hb hts in_X0 hown hK hP 0 rfl rfl 3 (by decide) (hts _ q_31) (fun _ h9 => h9) rfl dX0_settle_4 ?_
  have hM3 := k20_size l hl9 dC dI z h1 h2 s.heap.size 14 4
  obtain ⟨hF1, hC4⟩ := pc_M hM3 hP hD hK hS hX hT hA [1] [] rfl rfl rfl
  refine va_calli (va_runV (As := []) (rest := [.int 0]) ⟨hx, hb, hml, hown, hts⟩ hM3 (cwV 0 hts (gV q_92 q_77 q_78 q_12 q_75) rfl rfl rfl hV_Jx4a65c_size_8abf5 ⟨Nat.le_of_ble_eq_true rfl, Nat.le_of_ble_eq_true rfl⟩) ⟨pc_blind, va_recv hK hP (ci := 0) (q := (RJx4a65c, TJx4a65c, 3)) (q0 := 1) rfl rfl, fun U hU hW => ⟨rfl, hC4 U hU hW⟩⟩ rfl rfl hl.1 rfl (lv_room (Nat.le_of_ble_eq_true rfl)) dX0_settle_7 ⟨(Nat.le_of_ble_eq_true rfl), (Nat.le_of_ble_eq_true rfl)⟩) hS (fun q9 _ h9 => hF1 q9 h9) hF1 (fun r6 u5 t5 H5 L5 ht5 hvm5 hw5 hB5 hz5 hk5 hS => ?_)
  have hP := pq_keep hP hD [1] rfl hk5 hB5.1 ht5
  have hG : s.heap.size + 0 ≤ H5.size := Nat.le_trans hG hz5
  refine W.eq (g2 := F0 m 10 ls [.int 4, .int 0]) (by rw [hw5]) ?_
  refine lv_icmp_ge (tgt := 65) hx hb dX0_settle_10 (by decide) (fun cz => absurd cz (by decide)) (fun _ => ?_)
  refine lv_aload_n hx hb dX0_settle_13 rfl (lv_at hl 1 rfl) ?_
  refine va_get (D := (dC, dI)) (ci := 2) (v := .ref h1) (C := RX0) (T := TX0) (N := 4) hx hb hts in_X0 hown hK hP 0 rfl rfl 3 (by decide) (hts _ q_31) (fun _ h9 => h9) rfl dX0_settle_14 ?_
  refine lv_iload_n hx hb dX0_settle_17 rfl (lv_at hl 0 rfl) ?_
  have hM9 := k286_get l hl9 dC dI z h1 h2 h3 h4 h5 h6 H5.size kc0
  obtain ⟨hF7, hC10⟩ := pc_M hM9 hP hD hK hS hX hT hA [1, 2] [0] rfl rfl rfl
  refine va_callr (va_runV (As := [.int 0]) (rest := []) ⟨hx, hb, hml, hown, hts⟩ hM9 (cwV 1 hts (gV q_156 q_157 q_158 q_12 q_155) rfl rfl rfl hV_Jx4a65c_get_915e3 ⟨Nat.le_of_ble_eq_true rfl, Nat.le_of_ble_eq_true rfl⟩) ⟨pc_blind, va_recv hK hP (ci := 0) (q := (RJx4a65c, TJx4a65c, 3)) (q0 := 1) rfl rfl, fun U hU hW => ⟨rfl, hC10 U hU hW⟩⟩ rfl rfl hl.1 rfl (lv_room (Nat.le_of_ble_eq_true rfl)) dX0_settle_18 ⟨(Nat.le_of_ble_eq_true rfl), (Nat.le_of_ble_eq_true rfl)⟩) hS (fun q9 _ h9 => hF7 q9 h9) hF7 (fun u11 r12 t11 H11 L11 ht11 hvm11 hw11 hB11 hz11 hk11 hS => ?_)
  obtain ⟨hr11, hB11⟩ := hB11
  have hP := pq_keep hP hD [1, 2] rfl hk11 hB11.1 ht11
  have hG : s.heap.size + 0 ≤ H11.size := Nat.le_trans hG hz11
  refine W.eq (g2 := F0 m 21 ls [.ref h3]) (by rw [hr11]) ?_
  refine va_castE (nm := RX2) hx hb hown (hts _ q_89) (va_recv hK hP (ci := 3) (q := (RX2, TX2, 19)) (q0 := 3) rfl rfl) dX0_settle_21 ?_
  refine lv_astore (lv' := [(4, .ref h3), (3, .int 0), (0, .ref h0), (1, .null), (2, .int 120)]) hx hb dX0_settle_24 hl (by decide) rfl (fun ls hl => ?_)
  refine lv_aload hx hb dX0_settle_26 (lv_at hl 0 rfl) ?_
  refine lv_aload_nN hx hb dX0_settle_28 rfl (lv_at hl 3 rfl) ?_
  refine lv_acmp_ne (rx := (some h3)) (ry := none) (tgt := 41) hx hb dX0_settle_29 (by decide) (fun _ => ?_) (fun cz => absurd cz (by simp))
  refine lv_aload hx hb dX0_settle_41 (lv_at hl 0 rfl) ?_
  have hM15 := k41_isSource l hl9 dC dI z h3 o3 H11.size
  obtain ⟨hF13, hC16⟩ := pc_M hM15 hP hD hK hS hX hT hA [3] [] rfl rfl rfl
  refine va_calli (va_runV (As := []) (rest := []) ⟨hx, hb, hml, hown, hts⟩ hM15 (cwV 0 hts (gV q_132 q_133 q_134 q_91 q_131) rfl rfl rfl hV_X2_isSource ⟨Nat.le_of_ble_eq_true rfl, Nat.le_of_ble_eq_true rfl⟩) ⟨pc_blind, va_recv hK hP (ci := 3) (q := (RX2, TX2, 19)) (q0 := 3) rfl rfl, fun U hU hW => ⟨rfl, hC16 U hU hW⟩⟩ rfl rfl hl.1 rfl (lv_room (Nat.le_of_ble_eq_true rfl)) dX0_settle_43 ⟨(Nat.le_of_ble_eq_true rfl), (Nat.le_of_ble_eq_true rfl)⟩) hS (fun q9 _ h9 => hF13 q9 h9) hF13 (fun r18 u17 t17 H17 L17 ht17 hvm17 hw17 hB17 hz17 hk17 hS => ?_)
  have hP := pq_keep hP hD [3] rfl hk17 hB17.1 ht17
  have hG : s.heap.size + 0 ≤ H17.size := Nat.le_trans hG hz17
  refine W.eq (g2 := F0 m 46 ls [.int 1]) (by rw [hw17]) ?_
  refine lv_if_ne (tgt := 59) hx hb dX0_settle_46 (by decide) (fun _ => ?_) (fun cz => absurd cz (by decide))
  refine lv_iinc (v := 1) (lv' := [(3, .int 1), (4, .ref h3), (0, .ref h0), (1, .null), (2, .int 120)]) hx hb dX0_settle_59 hl (k := 1) rfl (by decide) (by decide) rfl (fun ls hl => ?_)
  refine lv_goto (tgt := 2) hx hb dX0_settle_62 (by decide) ?_
  refine lv_iload_n hx hb dX0_settle_2 rfl (lv_at hl 0 rfl) ?_
  refine lv_aload_n hx hb dX0_settle_3 rfl (lv_at hl 2 rfl) ?_
  refine va_get (D := (dC, dI)) (ci := 2) (v := .ref h1) (C := RX0) (T := TX0) (N := 4) hx hb hts in_X0 hown hK hP 0 rfl rfl 3 (by decide) (hts _ q_31) (fun _ h9 => h9) rfl dX0_settle_4 ?_
  have hM21 := k20_size l hl9 dC dI z h1 h2 H17.size 14 4
  obtain ⟨hF19, hC22⟩ := pc_M hM21 hP hD hK hS hX hT hA [1] [] rfl rfl rfl
  refine va_calli (va_runV (As := []) (rest := [.int 1]) ⟨hx, hb, hml, hown, hts⟩ hM21 (cwV 0 hts (gV q_92 q_77 q_78 q_12 q_75) rfl rfl rfl hV_Jx4a65c_size_8abf5 ⟨Nat.le_of_ble_eq_true rfl, Nat.le_of_ble_eq_true rfl⟩) ⟨pc_blind, va_recv hK hP (ci := 0) (q := (RJx4a65c, TJx4a65c, 3)) (q0 := 1) rfl rfl, fun U hU hW => ⟨rfl, hC22 U hU hW⟩⟩ rfl rfl hl.1 rfl (lv_room (Nat.le_of_ble_eq_true rfl)) dX0_settle_7 ⟨(Nat.le_of_ble_eq_true rfl), (Nat.le_of_ble_eq_true rfl)⟩) hS (fun q9 _ h9 => hF19 q9 h9) hF19 (fun r24 u23 t23 H23 L23 ht23 hvm23 hw23 hB23 hz23 hk23 hS => ?_)
  have hP := pq_keep hP hD [1] rfl hk23 hB23.1 ht23
  have hG : s.heap.size + 0 ≤ H23.size := Nat.le_trans hG hz23
  refine W.eq (g2 := F0 m 10 ls [.int 4, .int 1]) (by rw [hw23]) ?_
  refine lv_icmp_ge (tgt := 65) hx hb dX0_settle_10 (by decide) (fun cz => absurd cz (by decide)) (fun _ => ?_)
  refine lv_aload_n hx hb dX0_settle_13 rfl (lv_at hl 2 rfl) ?_
  refine va_get (D := (dC, dI)) (ci := 2) (v := .ref h1) (C := RX0) (T := TX0) (N := 4) hx hb hts in_X0 hown hK hP 0 rfl rfl 3 (by decide) (hts _ q_31) (fun _ h9 => h9) rfl dX0_settle_14 ?_
  refine lv_iload_n hx hb dX0_settle_17 rfl (lv_at hl 0 rfl) ?_
  have hM27 := k288_get l hl9 dC dI z h1 h2 h3 h4 h5 h6 H23.size kc0
  obtain ⟨hF25, hC28⟩ := pc_M hM27 hP hD hK hS hX hT hA [1, 2] [0] rfl rfl rfl
  refine va_callr (va_runV (As := [.int 1]) (rest := []) ⟨hx, hb, hml, hown, hts⟩ hM27 (cwV 1 hts (gV q_156 q_157 q_158 q_12 q_155) rfl rfl rfl hV_Jx4a65c_get_915e3 ⟨Nat.le_of_ble_eq_true rfl, Nat.le_of_ble_eq_true rfl⟩) ⟨pc_blind, va_recv hK hP (ci := 0) (q := (RJx4a65c, TJx4a65c, 3)) (q0 := 1) rfl rfl, fun U hU hW => ⟨rfl, hC28 U hU hW⟩⟩ rfl rfl hl.1 rfl (lv_room (Nat.le_of_ble_eq_true rfl)) dX0_settle_18 ⟨(Nat.le_of_ble_eq_true rfl), (Nat.le_of_ble_eq_true rfl)⟩) hS (fun q9 _ h9 => hF25 q9 h9) hF25 (fun u29 r30 t29 H29 L29 ht29 hvm29 hw29 hB29 hz29 hk29 hS => ?_)
  obtain ⟨hr29, hB29⟩ := hB29
  have hP := pq_keep hP hD [1, 2] rfl hk29 hB29.1 ht29
  have hG : s.heap.size + 0 ≤ H29.size := Nat.le_trans hG hz29
  refine W.eq (g2 := F0 m 21 ls [.ref h4]) (by rw [hr29]) ?_
  refine va_castE (nm := RX2) hx hb hown (hts _ q_89) (va_recv hK hP (ci := 3) (q := (RX2, TX2, 19)) (q0 := 4) rfl rfl) dX0_settle_21 ?_
  refine lv_astore (lv' := [(4, .ref h4), (3, .int 1), (0, .ref h0), (1, .null), (2, .int 120)]) hx hb dX0_settle_24 hl (by decide) rfl (fun ls hl => ?_)
  refine lv_aload hx hb dX0_settle_26 (lv_at hl 0 rfl) ?_
  refine lv_aload_nN hx hb dX0_settle_28 rfl (lv_at hl 3 rfl) ?_
  refine lv_acmp_ne (rx := (some h4)) (ry := none) (tgt := 41) hx hb dX0_settle_29 (by decide) (fun _ => ?_) (fun cz => absurd cz (by simp))
  refine lv_aload hx hb dX0_settle_41 (lv_at hl 0 rfl) ?_
  have hM33 := k114_isSource l hl9 dC dI z h4 o4 H29.size
  obtain ⟨hF31, hC34⟩ := pc_M hM33 hP hD hK hS hX hT hA [4] [] rfl rfl rfl
  refine va_calli (va_runV (As := []) (rest := []) ⟨hx, hb, hml, hown, hts⟩ hM33 (cwV 0 hts (gV q_132 q_133 q_134 q_91 q_131) rfl rfl rfl hV_X2_isSource ⟨Nat.le_of_ble_eq_true rfl, Nat.le_of_ble_eq_true rfl⟩) ⟨pc_blind, va_recv hK hP (ci := 3) (q := (RX2, TX2, 19)) (q0 := 4) rfl rfl, fun U hU hW => ⟨rfl, hC34 U hU hW⟩⟩ rfl rfl hl.1 rfl (lv_room (Nat.le_of_ble_eq_true rfl)) dX0_settle_43 ⟨(Nat.le_of_ble_eq_true rfl), (Nat.le_of_ble_eq_true rfl)⟩) hS (fun q9 _ h9 => hF31 q9 h9) hF31 (fun r36 u35 t35 H35 L35 ht35 hvm35 hw35 hB35 hz35 hk35 hS => ?_)
  have hP := pq_keep hP hD [4] rfl hk35 hB35.1 ht35
  have hG : s.heap.size + 0 ≤ H35.size := Nat.le_trans hG hz35
  refine W.eq (g2 := F0 m 46 ls [.int 1]) (by rw [hw35]) ?_
  refine lv_if_ne (tgt := 59) hx hb dX0_settle_46 (by decide) (fun _ => ?_) (fun cz => absurd cz (by decide))
  refine lv_iinc (v := 2) (lv' := [(3, .int 2), (4, .ref h4), (0, .ref h0), (1, .null), (2, .int 120)]) hx hb dX0_settle_59 hl (k := 1) rfl (by decide) (by decide) rfl (fun ls hl => ?_)
  refine lv_goto (tgt := 2) hx hb dX0_settle_62 (by decide) ?_
  refine lv_iload_n hx hb dX0_settle_2 rfl (lv_at hl 0 rfl) ?_
  refine lv_aload_n hx hb dX0_settle_3 rfl (lv_at hl 2 rfl) ?_
  refine va_get (D := (dC, dI)) (ci := 2) (v := .ref h1) (C := RX0) (T := TX0) (N := 4) hx hb hts in_X0 hown hK hP 0 rfl rfl 3 (by decide) (hts _ q_31) (fun _ h9 => h9) rfl dX0_settle_4 ?_
  have hM39 := k20_size l hl9 dC dI z h1 h2 H35.size 14 4
  obtain ⟨hF37, hC40⟩ := pc_M hM39 hP hD hK hS hX hT hA [1] [] rfl rfl rfl
  refine va_calli (va_runV (As := []) (rest := [.int 2]) ⟨hx, hb, hml, hown, hts⟩ hM39 (cwV 0 hts (gV q_92 q_77 q_78 q_12 q_75) rfl rfl rfl hV_Jx4a65c_size_8abf5 ⟨Nat.le_of_ble_eq_true rfl, Nat.le_of_ble_eq_true rfl⟩) ⟨pc_blind, va_recv hK hP (ci := 0) (q := (RJx4a65c, TJx4a65c, 3)) (q0 := 1) rfl rfl, fun U hU hW => ⟨rfl, hC40 U hU hW⟩⟩ rfl rfl hl.1 rfl (lv_room (Nat.le_of_ble_eq_true rfl)) dX0_settle_7 ⟨(Nat.le_of_ble_eq_true rfl), (Nat.le_of_ble_eq_true rfl)⟩) hS (fun q9 _ h9 => hF37 q9 h9) hF37 (fun r42 u41 t41 H41 L41 ht41 hvm41 hw41 hB41 hz41 hk41 hS => ?_)
  have hP := pq_keep hP hD [1] rfl hk41 hB41.1 ht41
  have hG : s.heap.size + 0 ≤ H41.size := Nat.le_trans hG hz41
  refine W.eq (g2 := F0 m 10 ls [.int 4, .int 2]) (by rw [hw41]) ?_
  refine lv_icmp_ge (tgt := 65) hx hb dX0_settle_10 (by decide) (fun cz => absurd cz (by decide)) (fun _ => ?_)
  refine lv_aload_n hx hb dX0_settle_13 rfl (lv_at hl 2 rfl) ?_
  refine va_get (D := (dC, dI)) (ci := 2) (v := .ref h1) (C := RX0) (T := TX0) (N := 4) hx hb hts in_X0 hown hK hP 0 rfl rfl 3 (by decide) (hts _ q_31) (fun _ h9 => h9) rfl dX0_settle_14 ?_
  refine lv_iload_n hx hb dX0_settle_17 rfl (lv_at hl 0 rfl) ?_
  have hM45 := k290_get l hl9 dC dI z h1 h2 h3 h4 h5 h6 H41.size kc0
  obtain ⟨hF43, hC46⟩ := pc_M hM45 hP hD hK hS hX hT hA [1, 2] [0] rfl rfl rfl
  refine va_callr (va_runV (As := [.int 2]) (rest := []) ⟨hx, hb, hml, hown, hts⟩ hM45 (cwV 1 hts (gV q_156 q_157 q_158 q_12 q_155) rfl rfl rfl hV_Jx4a65c_get_915e3 ⟨Nat.le_of_ble_eq_true rfl, Nat.le_of_ble_eq_true rfl⟩) ⟨pc_blind, va_recv hK hP (ci := 0) (q := (RJx4a65c, TJx4a65c, 3)) (q0 := 1) rfl rfl, fun U hU hW => ⟨rfl, hC46 U hU hW⟩⟩ rfl rfl hl.1 rfl (lv_room (Nat.le_of_ble_eq_true rfl)) dX0_settle_18 ⟨(Nat.le_of_ble_eq_true rfl), (Nat.le_of_ble_eq_true rfl)⟩) hS (fun q9 _ h9 => hF43 q9 h9) hF43 (fun u47 r48 t47 H47 L47 ht47 hvm47 hw47 hB47 hz47 hk47 hS => ?_)
  obtain ⟨hr47, hB47⟩ := hB47
  have hP := pq_keep hP hD [1, 2] rfl hk47 hB47.1 ht47
  have hG : s.heap.size + 0 ≤ H47.size := Nat.le_trans hG hz47
  refine W.eq (g2 := F0 m 21 ls [.ref h5]) (by rw [hr47]) ?_
  refine va_castE (nm := RX2) hx hb hown (hts _ q_89) (va_recv hK hP (ci := 3) (q := (RX2, TX2, 19)) (q0 := 5) rfl rfl) dX0_settle_21 ?_
  refine lv_astore (lv' := [(4, .ref h5), (3, .int 2), (0, .ref h0), (1, .null), (2, .int 120)]) hx hb dX0_settle_24 hl (by decide) rfl (fun ls hl => ?_)
  refine lv_aload hx hb dX0_settle_26 (lv_at hl 0 rfl) ?_
  refine lv_aload_nN hx hb dX0_settle_28 rfl (lv_at hl 3 rfl) ?_
  refine lv_acmp_ne (rx := (some h5)) (ry := none) (tgt := 41) hx hb dX0_settle_29 (by decide) (fun _ => ?_) (fun cz => absurd cz (by simp))
  refine lv_aload hx hb dX0_settle_41 (lv_at hl 0 rfl) ?_
  have hM51 := k199_isSource l hl9 dC dI z h5 o5 H47.size
  obtain ⟨hF49, hC52⟩ := pc_M hM51 hP hD hK hS hX hT hA [5] [] rfl rfl rfl
  refine va_calli (va_runV (As := []) (rest := []) ⟨hx, hb, hml, hown, hts⟩ hM51 (cwV 0 hts (gV q_132 q_133 q_134 q_91 q_131) rfl rfl rfl hV_X2_isSource ⟨Nat.le_of_ble_eq_true rfl, Nat.le_of_ble_eq_true rfl⟩) ⟨pc_blind, va_recv hK hP (ci := 3) (q := (RX2, TX2, 19)) (q0 := 5) rfl rfl, fun U hU hW => ⟨rfl, hC52 U hU hW⟩⟩ rfl rfl hl.1 rfl (lv_room (Nat.le_of_ble_eq_true rfl)) dX0_settle_43 ⟨(Nat.le_of_ble_eq_true rfl), (Nat.le_of_ble_eq_true rfl)⟩) hS (fun q9 _ h9 => hF49 q9 h9) hF49 (fun r54 u53 t53 H53 L53 ht53 hvm53 hw53 hB53 hz53 hk53 hS => ?_)
  have hP := pq_keep hP hD [5] rfl hk53 hB53.1 ht53
  have hG : s.heap.size + 0 ≤ H53.size := Nat.le_trans hG hz53
  refine W.eq (g2 := F0 m 46 ls [.int 1]) (by rw [hw53]) ?_
  refine lv_if_ne (tgt := 59) hx hb dX0_settle_46 (by decide) (fun _ => ?_) (fun cz => absurd cz (by decide))
  refine lv_iinc (v := 3) (lv' := [(3, .int 3), (4, .ref h5), (0, .ref h0), (1, .null), (2, .int 120)]) hx hb dX0_settle_59 hl (k := 1) rfl (by decide) (by decide) rfl (fun ls hl => ?_)
  refine lv_goto (tgt := 2) hx hb dX0_settle_62 (by decide) ?_
  refine lv_iload_n hx hb dX0_settle_2 rfl (lv_at hl 0 rfl) ?_
  refine lv_aload_n hx hb dX0_settle_3 rfl (lv_at hl 2 rfl) ?_
  refine va_get (D := (dC, dI)) (ci := 2) (v := .ref h1) (C := RX0) (T := TX0) (N := 4) hx hb hts in_X0 hown hK hP 0 rfl rfl 3 (by decide) (hts _ q_31) (fun _ h9 => h9) rfl dX0_settle_4 ?_
  have hM57 := k20_size l hl9 dC dI z h1 h2 H53.size 14 4
  obtain ⟨hF55, hC58⟩ := pc_M hM57 hP hD hK hS hX hT hA [1] [] rfl rfl rfl
  refine va_calli (va_runV (As := []) (rest := [.int 3]) ⟨hx, hb, hml, hown, hts⟩ hM57 (cwV 0 hts (gV q_92 q_77 q_78 q_12 q_75) rfl rfl rfl hV_Jx4a65c_size_8abf5 ⟨Nat.le_of_ble_eq_true rfl, Nat.le_of_ble_eq_true rfl⟩) ⟨pc_blind, va_recv hK hP (ci := 0) (q := (RJx4a65c, TJx4a65c, 3)) (q0 := 1) rfl rfl, fun U hU hW => ⟨rfl, hC58 U hU hW⟩⟩ rfl rfl hl.1 rfl (lv_room (Nat.le_of_ble_eq_true rfl)) dX0_settle_7 ⟨(Nat.le_of_ble_eq_true rfl), (Nat.le_of_ble_eq_true rfl)⟩) hS (fun q9 _ h9 => hF55 q9 h9) hF55 (fun r60 u59 t59 H59 L59 ht59 hvm59 hw59 hB59 hz59 hk59 hS => ?_)
  have hP := pq_keep hP hD [1] rfl hk59 hB59.1 ht59
  have hG : s.heap.size + 0 ≤ H59.size := Nat.le_trans hG hz59
  refine W.eq (g2 := F0 m 10 ls [.int 4, .int 3]) (by rw [hw59]) ?_
  refine lv_icmp_ge (tgt := 65) hx hb dX0_settle_10 (by decide) (fun cz => absurd cz (by decide)) (fun _ => ?_)
  refine lv_aload_n hx hb dX0_settle_13 rfl (lv_at hl 2 rfl) ?_
  refine va_get (D := (dC, dI)) (ci := 2) (v := .ref h1) (C := RX0) (T := TX0) (N := 4) hx hb hts in_X0 hown hK hP 0 rfl rfl 3 (by decide) (hts _ q_31) (fun _ h9 => h9) rfl dX0_settle_14 ?_
  refine lv_iload_n hx hb dX0_settle_17 rfl (lv_at hl 0 rfl) ?_
  have hM63 := k292_get l hl9 dC dI z h1 h2 h3 h4 h5 h6 H59.size kc0
  obtain ⟨hF61, hC64⟩ := pc_M hM63 hP hD hK hS hX hT hA [1, 2] [0] rfl rfl rfl
  refine va_callr (va_runV (As := [.int 3]) (rest := []) ⟨hx, hb, hml, hown, hts⟩ hM63 (cwV 1 hts (gV q_156 q_157 q_158 q_12 q_155) rfl rfl rfl hV_Jx4a65c_get_915e3 ⟨Nat.le_of_ble_eq_true rfl, Nat.le_of_ble_eq_true rfl⟩) ⟨pc_blind, va_recv hK hP (ci := 0) (q := (RJx4a65c, TJx4a65c, 3)) (q0 := 1) rfl rfl, fun U hU hW => ⟨rfl, hC64 U hU hW⟩⟩ rfl rfl hl.1 rfl (lv_room (Nat.le_of_ble_eq_true rfl)) dX0_settle_18 ⟨(Nat.le_of_ble_eq_true rfl), (Nat.le_of_ble_eq_true rfl)⟩) hS (fun q9 _ h9 => hF61 q9 h9) hF61 (fun u65 r66 t65 H65 L65 ht65 hvm65 hw65 hB65 hz65 hk65 hS => ?_)
  obtain ⟨hr65, hB65⟩ := hB65
  have hP := pq_keep hP hD [1, 2] rfl hk65 hB65.1 ht65
  have hG : s.heap.size + 0 ≤ H65.size := Nat.le_trans hG hz65
  refine W.eq (g2 := F0 m 21 ls [.ref h6]) (by rw [hr65]) ?_
  refine va_castE (nm := RX2) hx hb hown (hts _ q_89) (va_recv hK hP (ci := 3) (q := (RX2, TX2, 19)) (q0 := 6) rfl rfl) dX0_settle_21 ?_
  refine lv_astore (lv' := [(4, .ref h6), (3, .int 3), (0, .ref h0), (1, .null), (2, .int 120)]) hx hb dX0_settle_24 hl (by decide) rfl (fun ls hl => ?_)
  refine lv_aload hx hb dX0_settle_26 (lv_at hl 0 rfl) ?_
  refine lv_aload_nN hx hb dX0_settle_28 rfl (lv_at hl 3 rfl) ?_
  refine lv_acmp_ne (rx := (some h6)) (ry := none) (tgt := 41) hx hb dX0_settle_29 (by decide) (fun _ => ?_) (fun cz => absurd cz (by simp))
  refine lv_aload hx hb dX0_settle_41 (lv_at hl 0 rfl) ?_
  have hM69 := k299_isSource l hl9 dC dI z h6 o6 H65.size
  obtain ⟨hF67, hC70⟩ := pc_M hM69 hP hD hK hS hX hT hA [6] [] rfl rfl rfl
  refine va_calli (va_runV (As := []) (rest := []) ⟨hx, hb, hml, hown, hts⟩ hM69 (cwV 0 hts (gV q_132 q_133 q_134 q_91 q_131) rfl rfl rfl hV_X2_isSource ⟨Nat.le_of_ble_eq_true rfl, Nat.le_of_ble_eq_true rfl⟩) ⟨pc_blind, va_recv hK hP (ci := 3) (q := (RX2, TX2, 19)) (q0 := 6) rfl rfl, fun U hU hW => ⟨rfl, hC70 U hU hW⟩⟩ rfl rfl hl.1 rfl (lv_room (Nat.le_of_ble_eq_true rfl)) dX0_settle_43 ⟨(Nat.le_of_ble_eq_true rfl), (Nat.le_of_ble_eq_true rfl)⟩) hS (fun q9 _ h9 => hF67 q9 h9) hF67 (fun r72 u71 t71 H71 L71 ht71 hvm71 hw71 hB71 hz71 hk71 hS => ?_)
  have hP := pq_keep hP hD [6] rfl hk71 hB71.1 ht71
  have hG : s.heap.size + 0 ≤ H71.size := Nat.le_trans hG hz71
  refine W.eq (g2 := F0 m 46 ls [.int 1]) (by rw [hw71]) ?_
  refine lv_if_ne (tgt := 59) hx hb dX0_settle_46 (by decide) (fun _ => ?_) (fun cz => absurd cz (by decide))
  refine lv_iinc (v := 4) (lv' := [(3, .int 4), (4, .ref h6), (0, .ref h0), (1, .null), (2, .int 120)]) hx hb dX0_settle_59 hl (k := 1) rfl (by decide) (by decide) rfl (fun ls hl => ?_)
  refine lv_goto (tgt := 2) hx hb dX0_settle_62 (by decide) ?_
  refine lv_iload_n hx hb dX0_settle_2 rfl (lv_at hl 0 rfl) ?_
  refine lv_aload_n hx hb dX0_settle_3 rfl (lv_at hl 2 rfl) ?_
  refine va_get (D := (dC, dI)) (ci := 2) (v := .ref h1) (C := RX0) (T := TX0) (N := 4) hx hb hts in_X0 hown hK hP 0 rfl rfl 3 (by decide) (hts _ q_31) (fun _ h9 => h9) rfl dX0_settle_4 ?_
  have hM75 := k20_size l hl9 dC dI z h1 h2 H71.size 14 4
  obtain ⟨hF73, hC76⟩ := pc_M hM75 hP hD hK hS hX hT hA [1] [] rfl rfl rfl
  refine va_calli (va_runV (As := []) (rest := [.int 4]) ⟨hx, hb, hml, hown, hts⟩ hM75 (cwV 0 hts (gV q_92 q_77 q_78 q_12 q_75) rfl rfl rfl hV_Jx4a65c_size_8abf5 ⟨Nat.le_of_ble_eq_true rfl, Nat.le_of_ble_eq_true rfl⟩) ⟨pc_blind, va_recv hK hP (ci := 0) (q := (RJx4a65c, TJx4a65c, 3)) (q0 := 1) rfl rfl, fun U hU hW => ⟨rfl, hC76 U hU hW⟩⟩ rfl rfl hl.1 rfl (lv_room (Nat.le_of_ble_eq_true rfl)) dX0_settle_7 ⟨(Nat.le_of_ble_eq_true rfl), (Nat.le_of_ble_eq_true rfl)⟩) hS (fun q9 _ h9 => hF73 q9 h9) hF73 (fun r78 u77 t77 H77 L77 ht77 hvm77 hw77 hB77 hz77 hk77 hS => ?_)
  have hP := pq_keep hP hD [1] rfl hk77 hB77.1 ht77
  have hG : s.heap.size + 0 ≤ H77.size := Nat.le_trans hG hz77
  refine W.eq (g2 := F0 m 10 ls [.int 4, .int 4]) (by rw [hw77]) ?_
  refine lv_icmp_ge (tgt := 65) hx hb dX0_settle_10 (by decide) (fun _ => ?_) (fun cz => absurd (by decide) cz)
  exact W.vret hx hb hr (fun t9 ht9 hW9 => ⟨⟨(), rfl, trivial, ⟨pq_mk2 hP hD hK [0, 1, 2, 3, 4, 5, 6] [0] rfl rfl rfl ht9 hW9, by rw [ht9]; exact Nat.le_trans (Nat.add_le_add_left (Nat.le_of_ble_eq_true rfl) _) hG⟩⟩, hS.F ht9⟩) hS.2.2 dX0_settle_65

set_option maxHeartbeats 4000000 in
set_option maxRecDepth 100000 in
theorem k301_restart (l : Launch) (hl9 : l.stackTraces = false) (dC : Nat → ClassId) (dI : Nat → Nat → Nat) (z : XZ) (h0 : Nat) (o0 : Nat) (sz : Nat) : Met l yX2_restart (.code yX2_restart cX2_restart 1 none :: wsL_law) ({ frames := 0, cells := 0, slots := 0, locals := 0 }) (va_Pc [.ref h0] (PC (dC, dI) [(h0, ce165 (z.2.1 0) o0 h0)] [] sz z)) (va_Qv (fun (_ : Unit) => True) (fun (_ : Unit) (t : State) => PG (dC, dI) [(h0, ce165 (z.2.1 0) o0 h0)] [] (va_A [(h0, ce165 (z.2.1 0) o0 h0)] sz) sz 0 t) (va_A [(h0, ce165 (z.2.1 0) o0 h0)] sz)) 0 0 (va_A [(h0, ce165 (z.2.1 0) o0 h0)] sz) := by
  refine Met.ofW (cc := cX2_restart) (maxL := 1) (ret := none) (by decide) rfl ?_
  intro p e s m args below meth c s₁ B hml hv
  obtain ⟨rfl, hsz, hP, hK, hD0, hX, hT⟩ := hv
  have hx := B.exec
  have hb := B.bytes
  have hr := B.returns
  have hts0 := atoms_spec (ws := .code yX2_restart cX2_restart 1 none :: wsL_law) B.pre
  have hts := xTail hts0
  have hown : s.vm.findClass RX2 = some m.cls := xown B.named rfl
  have hlocks := B.notSynchronized
  subst hsz
  have hD := hD0.self (sz := s.heap.size)
  generalize hAe : va_A [(h0, ce165 (z.2.1 0) o0 h0)] s.heap.size = A at hD hX ⊢
  have hA : ∀ q : Nat, s.heap.size ≤ q → A q := fun q h => by rw [← hAe]; exact Or.inr h
  have hS : va_S A s.heap s.heap [] := va_S.rf
  have hG : s.heap.size + 0 ≤ s.heap.size := Nat.le_refl _
  have hl := lv_entry ([.ref h0]) (n := 1) (Nat.le_of_ble_eq_true rfl)
  rw [lg_entry_eq]
  generalize (lg_sl ([.ref h0]) ++ List.replicate (1 - (lg_sl ([.ref h0])).length) Slot.unset).toArray = ls at hl ⊢
  have hl : lv_has ls 1 [(0, .ref h0)] := hl
  refine lv_aload_n hx hb dX2_restart_0 rfl (lv_at hl 0 rfl) ?_
  refine lv_aload_n hx hb dX2_restart_1 rfl (lv_at hl 0 rfl) ?_
  refine va_get (D := (dC, dI)) (ci := 3) (v := .int 120) (C := RX2) (T := TX2) (N := 19) hx hb hts in_X2 hown hK hP 0 rfl rfl 11 (by decide) (hts _ q_101) (fun _ h9 => h9) rfl dX2_restart_2 ?_
  refine va_put (D := (dC, dI)) (ci := 3) (v := .int 120) (ty := .char) (C := RX2) (T := TX2) (N := 19) hx hb hts in_X2 tyX2 tyX2_ok nmX2 hown hK hP hD (va_Sre hS) 0 rfl rfl 6 (by decide) (hts _ q_99) (fun _ h9 => h9) rfl (by decide +kernel) rfl rfl (Nat.le_of_ble_eq_true rfl) dX2_restart_5 (fun H1 _ hP hD hS' => ?_)
  have hG : s.heap.size + 0 ≤ H1.size := Nat.le_trans hG hS'.1
  have hS := va_Str hS hS'
  have hP : va_P (dC, dI) xCl [(h0, ce165 (z.2.1 0) o0 h0)] H1 := hP
  have hD := vd_as hP hD rfl
  refine lv_aload_n hx hb dX2_restart_8 rfl (lv_at hl 0 rfl) ?_
  refine lv_iconst (v := 0) hx hb dX2_restart_9 (by decide) ?_
  refine va_put (D := (dC, dI)) (ci := 3) (v := .int 0) (ty := .int) (C := RX2) (T := TX2) (N := 19) hx hb hts in_X2 tyX2 tyX2_ok nmX2 hown hK hP hD (va_Sre hS) 0 rfl rfl 8 (by decide) (hts _ q_218) (fun _ h9 => h9) rfl (by decide +kernel) rfl rfl (Nat.le_of_ble_eq_true rfl) dX2_restart_10 (fun H2 _ hP hD hS' => ?_)
  have hG : s.heap.size + 0 ≤ H2.size := Nat.le_trans hG hS'.1
  have hS := va_Str hS hS'
  have hP : va_P (dC, dI) xCl [(h0, ce165 (z.2.1 0) o0 h0)] H2 := hP
  have hD := vd_as hP hD rfl
  refine lv_aload_n hx hb dX2_restart_13 rfl (lv_at hl 0 rfl) ?_
  refine lv_iconst (v := 0) hx hb dX2_restart_14 (by decide) ?_
  refine va_put (D := (dC, dI)) (ci := 3) (v := .int 0) (ty := .int) (C := RX2) (T := TX2) (N := 19) hx hb hts in_X2 tyX2 tyX2_ok nmX2 hown hK hP hD (va_Sre hS) 0 rfl rfl 9 (by decide) (hts _ q_219) (fun _ h9 => h9) rfl (by decide +kernel) rfl rfl (Nat.le_of_ble_eq_true rfl) dX2_restart_15 (fun H3 _ hP hD hS' => ?_)
  have hG : s.heap.size + 0 ≤ H3.size := Nat.le_trans hG hS'.1
  have hS := va_Str hS hS'
  have hP : va_P (dC, dI) xCl [(h0, ce165 (z.2.1 0) o0 h0)] H3 := hP
  have hD := vd_as hP hD rfl
  refine lv_aload_n hx hb dX2_restart_18 rfl (lv_at hl 0 rfl) ?_
  refine lv_iconst (v := 0) hx hb dX2_restart_19 (by decide) ?_
  refine va_put (D := (dC, dI)) (ci := 3) (v := .int 0) (ty := .boolean) (C := RX2) (T := TX2) (N := 19) hx hb hts in_X2 tyX2 tyX2_ok nmX2 hown hK hP hD (va_Sre hS) 0 rfl rfl 10 (by decide) (hts _ q_220) (fun _ h9 => h9) rfl (by decide +kernel) rfl rfl (Nat.le_of_ble_eq_true rfl) dX2_restart_20 (fun H4 _ hP hD hS' => ?_)
  have hG : s.heap.size + 0 ≤ H4.size := Nat.le_trans hG hS'.1
  have hS := va_Str hS hS'
  have hP : va_P (dC, dI) xCl [(h0, ce165 (z.2.1 0) o0 h0)] H4 := hP
  have hD := vd_as hP hD rfl
  exact W.vret hx hb hr (fun t9 ht9 hW9 => ⟨⟨(), rfl, trivial, ⟨pq_mk2 hP hD hK [0] [] rfl rfl rfl ht9 hW9, by rw [ht9]; exact Nat.le_trans (Nat.add_le_add_left (Nat.le_of_ble_eq_true rfl) _) hG⟩⟩, hS.F ht9⟩) hS.2.2 dX2_restart_23

set_option maxHeartbeats 4000000 in
set_option maxRecDepth 100000 in
theorem k302_restart (l : Launch) (hl9 : l.stackTraces = false) (dC : Nat → ClassId) (dI : Nat → Nat → Nat) (z : XZ) (h0 h1 h2 h3 h4 h5 h6 h7 h8 h9 h10 h11 h12 : Nat) (o0 o1 o2 o3 : Nat) (sz : Nat) (kc0 kc1 kc2 : ClassId) : Met l yX5_restart (.code yX5_restart cX5_restart 2 none :: wsL_law) ({ frames := 4, cells := 0, slots := 0, locals := 88 }) (va_Pc [.ref h0] (PC (dC, dI) [(h0, ce10 h1), (h1, ce7 h2 h3 h4 h5), (h2, ce147 h6), (h3, ce147 h7), (h4, ce3 z.1), (h5, ce167 h8), (h6, ce146 kc0 h9 h10 h11 h12), (h7, ce146 kc1 h9 h10 h11 h12), (h8, ce146 kc2 h9 h10 h11 h12), (h9, ce38 (z.2.1 0) o0 h9), (h10, ce77 (z.2.1 0) o1 h10), (h11, ce115 (z.2.1 0) o2 h11), (h12, ce165 (z.2.1 0) o3 h12)] [(kc0, .object "java/lang/Object"), (kc1, .object "java/lang/Object"), (kc2, .object "java/lang/Object")] sz z)) (va_Qv (fun (_ : Unit) => True) (fun (_ : Unit) (t : State) => PG (dC, dI) [(h0, ce10 h1), (h1, ce7 h2 h3 h4 h5), (h2, ce147 h6), (h3, ce147 h7), (h4, ce3 z.1), (h5, ce167 h8), (h6, ce146 kc0 h9 h10 h11 h12), (h7, ce146 kc1 h9 h10 h11 h12), (h8, ce146 kc2 h9 h10 h11 h12), (h9, ce38 (z.2.1 0) o0 h9), (h10, ce77 (z.2.1 0) o1 h10), (h11, ce115 (z.2.1 0) o2 h11), (h12, ce165 (z.2.1 0) o3 h12)] [(kc0, .object "java/lang/Object"), (kc1, .object "java/lang/Object"), (kc2, .object "java/lang/Object")] (va_A [(h0, ce10 h1), (h1, ce7 h2 h3 h4 h5), (h2, ce147 h6), (h3, ce147 h7), (h4, ce3 z.1), (h5, ce167 h8), (h6, ce146 kc0 h9 h10 h11 h12), (h7, ce146 kc1 h9 h10 h11 h12), (h8, ce146 kc2 h9 h10 h11 h12), (h9, ce38 (z.2.1 0) o0 h9), (h10, ce77 (z.2.1 0) o1 h10), (h11, ce115 (z.2.1 0) o2 h11), (h12, ce165 (z.2.1 0) o3 h12)] sz) sz 0 t) (va_A [(h0, ce10 h1), (h1, ce7 h2 h3 h4 h5), (h2, ce147 h6), (h3, ce147 h7), (h4, ce3 z.1), (h5, ce167 h8), (h6, ce146 kc0 h9 h10 h11 h12), (h7, ce146 kc1 h9 h10 h11 h12), (h8, ce146 kc2 h9 h10 h11 h12), (h9, ce38 (z.2.1 0) o0 h9), (h10, ce77 (z.2.1 0) o1 h10), (h11, ce115 (z.2.1 0) o2 h11), (h12, ce165 (z.2.1 0) o3 h12)] sz)) 0 0 (va_A [(h0, ce10 h1), (h1, ce7 h2 h3 h4 h5), (h2, ce147 h6), (h3, ce147 h7), (h4, ce3 z.1), (h5, ce167 h8), (h6, ce146 kc0 h9 h10 h11 h12), (h7, ce146 kc1 h9 h10 h11 h12), (h8, ce146 kc2 h9 h10 h11 h12), (h9, ce38 (z.2.1 0) o0 h9), (h10, ce77 (z.2.1 0) o1 h10), (h11, ce115 (z.2.1 0) o2 h11), (h12, ce165 (z.2.1 0) o3 h12)] sz) := by
  refine Met.ofW (cc := cX5_restart) (maxL := 2) (ret := none) (by decide) rfl ?_
  intro p e s m args below meth c s₁ B hml hv
  obtain ⟨rfl, hsz, hP, hK, hD0, hX, hT⟩ := hv
  have hx := B.exec
  have hb := B.bytes
  have hr := B.returns
  have hts0 := atoms_spec (ws := .code yX5_restart cX5_restart 2 none :: wsL_law) B.pre
  have hts := xTail hts0
  have hown : s.vm.findClass RX5 = some m.cls := xown B.named rfl
  have hlocks := B.notSynchronized
  subst hsz
  have hD := hD0.self (sz := s.heap.size)
  generalize hAe : va_A [(h0, ce10 h1), (h1, ce7 h2 h3 h4 h5), (h2, ce147 h6), (h3, ce147 h7), (h4, ce3 z.1), (h5, ce167 h8), (h6, ce146 kc0 h9 h10 h11 h12), (h7, ce146 kc1 h9 h10 h11 h12), (h8, ce146 kc2 h9 h10 h11 h12), (h9, ce38 (z.2.1 0) o0 h9), (h10, ce77 (z.2.1 0) o1 h10), (h11, ce115 (z.2.1 0) o2 h11), (h12, ce165 (z.2.1 0) o3 h12)] s.heap.size = A at hD hX ⊢
  have hA : ∀ q : Nat, s.heap.size ≤ q → A q := fun q h => by rw [← hAe]; exact Or.inr h
  have hS : va_S A s.heap s.heap [] := va_S.rf
  have hG : s.heap.size + 0 ≤ s.heap.size := Nat.le_refl _
  have hl := lv_entry ([.ref h0]) (n := 2) (Nat.le_of_ble_eq_true rfl)
  rw [lg_entry_eq]
  generalize (lg_sl ([.ref h0]) ++ List.replicate (2 - (lg_sl ([.ref h0])).length) Slot.unset).toArray = ls at hl ⊢
  have hl : lv_has ls 2 [(0, .ref h0)] := hl
  refine lv_aload_n hx hb dX5_restart_0 rfl (lv_at hl 0 rfl) ?_
  refine lv_iconst (v := 0) hx hb dX5_restart_1 (by decide) ?_
  refine va_put (D := (dC, dI)) (ci := 5) (v := .int 0) (ty := .int) (C := RX5) (T := TX5) (N := 2) hx hb hts in_X5 tyX5 tyX5_ok nmX5 hown hK hP hD (va_Sre hS) 0 rfl rfl 1 (by decide) (hts _ q_207) (fun _ h9 => h9) rfl (by decide +kernel) rfl rfl (Nat.le_of_ble_eq_true rfl) dX5_restart_2 (fun H1 _ hP hD hS' => ?_)
  have hG : s.heap.size + 0 ≤ H1.size := Nat.le_trans hG hS'.1
  have hS := va_Str hS hS'
  have hP : va_P (dC, dI) xCl [(h0, ce10 h1), (h1, ce7 h2 h3 h4 h5), (h2, ce147 h6), (h3, ce147 h7), (h4, ce3 z.1), (h5, ce167 h8), (h6, ce146 kc0 h9 h10 h11 h12), (h7, ce146 kc1 h9 h10 h11 h12), (h8, ce146 kc2 h9 h10 h11 h12), (h9, ce38 (z.2.1 0) o0 h9), (h10, ce77 (z.2.1 0) o1 h10), (h11, ce115 (z.2.1 0) o2 h11), (h12, ce165 (z.2.1 0) o3 h12)] H1 := hP
  have hD := vd_as hP hD rfl
  refine lv_iconst (v := 0) hx hb dX5_restart_5 (by decide) ?_
  refine lv_istore_n (lv' := [(1, .int 0), (0, .ref h0)]) hx hb dX5_restart_6 rfl hl (by decide) rfl (fun ls hl => ?_)
  refine lv_iload_n hx hb dX5_restart_7 rfl (lv_at hl 0 rfl) ?_
  refine lv_aload_n hx hb dX5_restart_8 rfl (lv_at hl 1 rfl) ?_
  refine va_get (D := (dC, dI)) (ci := 5) (v := .ref h1) (C := RX5) (T := TX5) (N := 2) hx hb hts in_X5 hown hK hP 0 rfl rfl 0 (by decide) (hts _ q_39) (fun _ h9 => h9) rfl dX5_restart_9 ?_
  refine va_get (D := (dC, dI)) (ci := 2) (v := .ref h3) (C := RX0) (T := TX0) (N := 4) hx hb hts in_X0 hown hK hP 1 rfl rfl 1 (by decide) (hts _ q_208) (fun _ h9 => h9) rfl dX5_restart_12 ?_
  have hM4 := k20_size l hl9 dC dI z h3 h7 H1.size 4 4
  obtain ⟨hF2, hC5⟩ := pc_M hM4 hP hD hK hS hX hT hA [3] [] rfl rfl rfl
  refine va_calli (va_runV (As := []) (rest := [.int 0]) ⟨hx, hb, hml, hown, hts⟩ hM4 (cwV 0 hts (gV q_209 q_77 q_78 q_12 q_75) rfl rfl rfl hV_Jx4a65c_size_8abf5 ⟨Nat.le_of_ble_eq_true rfl, Nat.le_of_ble_eq_true rfl⟩) ⟨pc_blind, va_recv hK hP (ci := 0) (q := (RJx4a65c, TJx4a65c, 3)) (q0 := 3) rfl rfl, fun U hU hW => ⟨rfl, hC5 U hU hW⟩⟩ rfl rfl hl.1 rfl (lv_room (Nat.le_of_ble_eq_true rfl)) dX5_restart_15 ⟨(Nat.le_of_ble_eq_true rfl), (Nat.le_of_ble_eq_true rfl)⟩) hS (fun q9 _ h9 => hF2 q9 h9) hF2 (fun r7 u6 t6 H6 L6 ht6 hvm6 hw6 hB6 hz6 hk6 hS => ?_)
  have hP := pq_keep hP hD [3] rfl hk6 hB6.1 ht6
  have hG : s.heap.size + 0 ≤ H6.size := Nat.le_trans hG hz6
  refine W.eq (g2 := F0 m 18 ls [.int 4, .int 0]) (by rw [hw6]) ?_
  refine lv_icmp_ge (tgt := 46) hx hb dX5_restart_18 (by decide) (fun cz => absurd cz (by decide)) (fun _ => ?_)
  refine lv_aload_n hx hb dX5_restart_21 rfl (lv_at hl 1 rfl) ?_
  refine va_get (D := (dC, dI)) (ci := 5) (v := .ref h1) (C := RX5) (T := TX5) (N := 2) hx hb hts in_X5 hown hK hP 0 rfl rfl 0 (by decide) (hts _ q_39) (fun _ h9 => h9) rfl dX5_restart_22 ?_
  refine va_get (D := (dC, dI)) (ci := 2) (v := .ref h3) (C := RX0) (T := TX0) (N := 4) hx hb hts in_X0 hown hK hP 1 rfl rfl 1 (by decide) (hts _ q_208) (fun _ h9 => h9) rfl dX5_restart_25 ?_
  refine lv_iload_n hx hb dX5_restart_28 rfl (lv_at hl 0 rfl) ?_
  have hM10 := k260_get l hl9 dC dI z h3 h7 h9 h10 h11 h12 H6.size kc1
  obtain ⟨hF8, hC11⟩ := pc_M hM10 hP hD hK hS hX hT hA [3, 7] [1] rfl rfl rfl
  refine va_callr (va_runV (As := [.int 0]) (rest := []) ⟨hx, hb, hml, hown, hts⟩ hM10 (cwV 1 hts (gV q_210 q_157 q_158 q_12 q_155) rfl rfl rfl hV_Jx4a65c_get_915e3 ⟨Nat.le_of_ble_eq_true rfl, Nat.le_of_ble_eq_true rfl⟩) ⟨pc_blind, va_recv hK hP (ci := 0) (q := (RJx4a65c, TJx4a65c, 3)) (q0 := 3) rfl rfl, fun U hU hW => ⟨rfl, hC11 U hU hW⟩⟩ rfl rfl hl.1 rfl (lv_room (Nat.le_of_ble_eq_true rfl)) dX5_restart_29 ⟨(Nat.le_of_ble_eq_true rfl), (Nat.le_of_ble_eq_true rfl)⟩) hS (fun q9 _ h9 => hF8 q9 h9) hF8 (fun u12 r13 t12 H12 L12 ht12 hvm12 hw12 hB12 hz12 hk12 hS => ?_)
  obtain ⟨hr12, hB12⟩ := hB12
  have hP := pq_keep hP hD [3, 7] rfl hk12 hB12.1 ht12
  have hG : s.heap.size + 0 ≤ H12.size := Nat.le_trans hG hz12
  refine W.eq (g2 := F0 m 32 ls [.ref h9]) (by rw [hr12]) ?_
  refine va_castE (nm := RX2) hx hb hown (hts _ q_211) (va_recv hK hP (ci := 3) (q := (RX2, TX2, 19)) (q0 := 9) rfl rfl) dX5_restart_32 ?_
  refine lv_bipush (v := 120) hx hb dX5_restart_35 (by decide) ?_
  refine va_put (D := (dC, dI)) (ci := 3) (v := .int 120) (ty := .char) (C := RX2) (T := TX2) (N := 19) hx hb hts in_X2 tyX2 tyX2_ok nmX2 hown hK hP hD (va_Sre hS) 9 rfl rfl 11 (by decide) (hts _ q_212) (fun _ h9 => h9) rfl (by decide +kernel) rfl rfl (Nat.le_of_ble_eq_true rfl) dX5_restart_37 (fun H14 _ hP hD hS' => ?_)
  have hG : s.heap.size + 0 ≤ H14.size := Nat.le_trans hG hS'.1
  have hS := va_Str hS hS'
  have hP : va_P (dC, dI) xCl [(h0, ce10 h1), (h1, ce7 h2 h3 h4 h5), (h2, ce147 h6), (h3, ce147 h7), (h4, ce3 z.1), (h5, ce167 h8), (h6, ce146 kc0 h9 h10 h11 h12), (h7, ce146 kc1 h9 h10 h11 h12), (h8, ce146 kc2 h9 h10 h11 h12), (h9, ce38 (z.2.1 0) o0 h9), (h10, ce77 (z.2.1 0) o1 h10), (h11, ce115 (z.2.1 0) o2 h11), (h12, ce165 (z.2.1 0) o3 h12)] H14 := hP
  have hD := vd_as hP hD rfl
  refine lv_iinc (v := 1) (lv' := [(1, .int 1), (0, .ref h0)]) hx hb dX5_restart_40 hl (k := 0) rfl (by decide) (by decide) rfl (fun ls hl => ?_)
  refine lv_goto (tgt := 7) hx hb dX5_restart_43 (by decide) ?_
  refine lv_iload_n hx hb dX5_restart_7 rfl (lv_at hl 0 rfl) ?_
  refine lv_aload_n hx hb dX5_restart_8 rfl (lv_at hl 1 rfl) ?_
  refine va_get (D := (dC, dI)) (ci := 5) (v := .ref h1) (C := RX5) (T := TX5) (N := 2) hx hb hts in_X5 hown hK hP 0 rfl rfl 0 (by decide) (hts _ q_39) (fun _ h9 => h9) rfl dX5_restart_9 ?_
  refine va_get (D := (dC, dI)) (ci := 2) (v := .ref h3) (C := RX0) (T := TX0) (N := 4) hx hb hts in_X0 hown hK hP 1 rfl rfl 1 (by decide) (hts _ q_208) (fun _ h9 => h9) rfl dX5_restart_12 ?_
  have hM17 := k20_size l hl9 dC dI z h3 h7 H14.size 4 4
  obtain ⟨hF15, hC18⟩ := pc_M hM17 hP hD hK hS hX hT hA [3] [] rfl rfl rfl
  refine va_calli (va_runV (As := []) (rest := [.int 1]) ⟨hx, hb, hml, hown, hts⟩ hM17 (cwV 0 hts (gV q_209 q_77 q_78 q_12 q_75) rfl rfl rfl hV_Jx4a65c_size_8abf5 ⟨Nat.le_of_ble_eq_true rfl, Nat.le_of_ble_eq_true rfl⟩) ⟨pc_blind, va_recv hK hP (ci := 0) (q := (RJx4a65c, TJx4a65c, 3)) (q0 := 3) rfl rfl, fun U hU hW => ⟨rfl, hC18 U hU hW⟩⟩ rfl rfl hl.1 rfl (lv_room (Nat.le_of_ble_eq_true rfl)) dX5_restart_15 ⟨(Nat.le_of_ble_eq_true rfl), (Nat.le_of_ble_eq_true rfl)⟩) hS (fun q9 _ h9 => hF15 q9 h9) hF15 (fun r20 u19 t19 H19 L19 ht19 hvm19 hw19 hB19 hz19 hk19 hS => ?_)
  have hP := pq_keep hP hD [3] rfl hk19 hB19.1 ht19
  have hG : s.heap.size + 0 ≤ H19.size := Nat.le_trans hG hz19
  refine W.eq (g2 := F0 m 18 ls [.int 4, .int 1]) (by rw [hw19]) ?_
  refine lv_icmp_ge (tgt := 46) hx hb dX5_restart_18 (by decide) (fun cz => absurd cz (by decide)) (fun _ => ?_)
  refine lv_aload_n hx hb dX5_restart_21 rfl (lv_at hl 1 rfl) ?_
  refine va_get (D := (dC, dI)) (ci := 5) (v := .ref h1) (C := RX5) (T := TX5) (N := 2) hx hb hts in_X5 hown hK hP 0 rfl rfl 0 (by decide) (hts _ q_39) (fun _ h9 => h9) rfl dX5_restart_22 ?_
  refine va_get (D := (dC, dI)) (ci := 2) (v := .ref h3) (C := RX0) (T := TX0) (N := 4) hx hb hts in_X0 hown hK hP 1 rfl rfl 1 (by decide) (hts _ q_208) (fun _ h9 => h9) rfl dX5_restart_25 ?_
  refine lv_iload_n hx hb dX5_restart_28 rfl (lv_at hl 0 rfl) ?_
  have hM23 := k264_get l hl9 dC dI z h3 h7 h9 h10 h11 h12 H19.size kc1
  obtain ⟨hF21, hC24⟩ := pc_M hM23 hP hD hK hS hX hT hA [3, 7] [1] rfl rfl rfl
  refine va_callr (va_runV (As := [.int 1]) (rest := []) ⟨hx, hb, hml, hown, hts⟩ hM23 (cwV 1 hts (gV q_210 q_157 q_158 q_12 q_155) rfl rfl rfl hV_Jx4a65c_get_915e3 ⟨Nat.le_of_ble_eq_true rfl, Nat.le_of_ble_eq_true rfl⟩) ⟨pc_blind, va_recv hK hP (ci := 0) (q := (RJx4a65c, TJx4a65c, 3)) (q0 := 3) rfl rfl, fun U hU hW => ⟨rfl, hC24 U hU hW⟩⟩ rfl rfl hl.1 rfl (lv_room (Nat.le_of_ble_eq_true rfl)) dX5_restart_29 ⟨(Nat.le_of_ble_eq_true rfl), (Nat.le_of_ble_eq_true rfl)⟩) hS (fun q9 _ h9 => hF21 q9 h9) hF21 (fun u25 r26 t25 H25 L25 ht25 hvm25 hw25 hB25 hz25 hk25 hS => ?_)
  obtain ⟨hr25, hB25⟩ := hB25
  have hP := pq_keep hP hD [3, 7] rfl hk25 hB25.1 ht25
  have hG : s.heap.size + 0 ≤ H25.size := Nat.le_trans hG hz25
  refine W.eq (g2 := F0 m 32 ls [.ref h10]) (by rw [hr25]) ?_
  refine va_castE (nm := RX2) hx hb hown (hts _ q_211) (va_recv hK hP (ci := 3) (q := (RX2, TX2, 19)) (q0 := 10) rfl rfl) dX5_restart_32 ?_
  refine lv_bipush (v := 120) hx hb dX5_restart_35 (by decide) ?_
  refine va_put (D := (dC, dI)) (ci := 3) (v := .int 120) (ty := .char) (C := RX2) (T := TX2) (N := 19) hx hb hts in_X2 tyX2 tyX2_ok nmX2 hown hK hP hD (va_Sre hS) 10 rfl rfl 11 (by decide) (hts _ q_212) (fun _ h9 => h9) rfl (by decide +kernel) rfl rfl (Nat.le_of_ble_eq_true rfl) dX5_restart_37 (fun H27 _ hP hD hS' => ?_)
  have hG : s.heap.size + 0 ≤ H27.size := Nat.le_trans hG hS'.1
  have hS := va_Str hS hS'
  have hP : va_P (dC, dI) xCl [(h0, ce10 h1), (h1, ce7 h2 h3 h4 h5), (h2, ce147 h6), (h3, ce147 h7), (h4, ce3 z.1), (h5, ce167 h8), (h6, ce146 kc0 h9 h10 h11 h12), (h7, ce146 kc1 h9 h10 h11 h12), (h8, ce146 kc2 h9 h10 h11 h12), (h9, ce38 (z.2.1 0) o0 h9), (h10, ce77 (z.2.1 0) o1 h10), (h11, ce115 (z.2.1 0) o2 h11), (h12, ce165 (z.2.1 0) o3 h12)] H27 := hP
  have hD := vd_as hP hD rfl
  refine lv_iinc (v := 2) (lv' := [(1, .int 2), (0, .ref h0)]) hx hb dX5_restart_40 hl (k := 0) rfl (by decide) (by decide) rfl (fun ls hl => ?_)
  refine lv_goto (tgt := 7) hx hb dX5_restart_43 (by decide) ?_
  refine lv_iload_n hx hb dX5_restart_7 rfl (lv_at hl 0 rfl) ?_
  refine lv_aload_n hx hb dX5_restart_8 rfl (lv_at hl 1 rfl) ?_
  refine va_get (D := (dC, dI)) (ci := 5) (v := .ref h1) (C := RX5) (T := TX5) (N := 2) hx hb hts in_X5 hown hK hP 0 rfl rfl 0 (by decide) (hts _ q_39) (fun _ h9 => h9) rfl dX5_restart_9 ?_
  refine va_get (D := (dC, dI)) (ci := 2) (v := .ref h3) (C := RX0) (T := TX0) (N := 4) hx hb hts in_X0 hown hK hP 1 rfl rfl 1 (by decide) (hts _ q_208) (fun _ h9 => h9) rfl dX5_restart_12 ?_
  have hM30 := k20_size l hl9 dC dI z h3 h7 H27.size 4 4
  obtain ⟨hF28, hC31⟩ := pc_M hM30 hP hD hK hS hX hT hA [3] [] rfl rfl rfl
  refine va_calli (va_runV (As := []) (rest := [.int 2]) ⟨hx, hb, hml, hown, hts⟩ hM30 (cwV 0 hts (gV q_209 q_77 q_78 q_12 q_75) rfl rfl rfl hV_Jx4a65c_size_8abf5 ⟨Nat.le_of_ble_eq_true rfl, Nat.le_of_ble_eq_true rfl⟩) ⟨pc_blind, va_recv hK hP (ci := 0) (q := (RJx4a65c, TJx4a65c, 3)) (q0 := 3) rfl rfl, fun U hU hW => ⟨rfl, hC31 U hU hW⟩⟩ rfl rfl hl.1 rfl (lv_room (Nat.le_of_ble_eq_true rfl)) dX5_restart_15 ⟨(Nat.le_of_ble_eq_true rfl), (Nat.le_of_ble_eq_true rfl)⟩) hS (fun q9 _ h9 => hF28 q9 h9) hF28 (fun r33 u32 t32 H32 L32 ht32 hvm32 hw32 hB32 hz32 hk32 hS => ?_)
  have hP := pq_keep hP hD [3] rfl hk32 hB32.1 ht32
  have hG : s.heap.size + 0 ≤ H32.size := Nat.le_trans hG hz32
  refine W.eq (g2 := F0 m 18 ls [.int 4, .int 2]) (by rw [hw32]) ?_
  refine lv_icmp_ge (tgt := 46) hx hb dX5_restart_18 (by decide) (fun cz => absurd cz (by decide)) (fun _ => ?_)
  refine lv_aload_n hx hb dX5_restart_21 rfl (lv_at hl 1 rfl) ?_
  refine va_get (D := (dC, dI)) (ci := 5) (v := .ref h1) (C := RX5) (T := TX5) (N := 2) hx hb hts in_X5 hown hK hP 0 rfl rfl 0 (by decide) (hts _ q_39) (fun _ h9 => h9) rfl dX5_restart_22 ?_
  refine va_get (D := (dC, dI)) (ci := 2) (v := .ref h3) (C := RX0) (T := TX0) (N := 4) hx hb hts in_X0 hown hK hP 1 rfl rfl 1 (by decide) (hts _ q_208) (fun _ h9 => h9) rfl dX5_restart_25 ?_
  refine lv_iload_n hx hb dX5_restart_28 rfl (lv_at hl 0 rfl) ?_
  have hM36 := k268_get l hl9 dC dI z h3 h7 h9 h10 h11 h12 H32.size kc1
  obtain ⟨hF34, hC37⟩ := pc_M hM36 hP hD hK hS hX hT hA [3, 7] [1] rfl rfl rfl
  refine va_callr (va_runV (As := [.int 2]) (rest := []) ⟨hx, hb, hml, hown, hts⟩ hM36 (cwV 1 hts (gV q_210 q_157 q_158 q_12 q_155) rfl rfl rfl hV_Jx4a65c_get_915e3 ⟨Nat.le_of_ble_eq_true rfl, Nat.le_of_ble_eq_true rfl⟩) ⟨pc_blind, va_recv hK hP (ci := 0) (q := (RJx4a65c, TJx4a65c, 3)) (q0 := 3) rfl rfl, fun U hU hW => ⟨rfl, hC37 U hU hW⟩⟩ rfl rfl hl.1 rfl (lv_room (Nat.le_of_ble_eq_true rfl)) dX5_restart_29 ⟨(Nat.le_of_ble_eq_true rfl), (Nat.le_of_ble_eq_true rfl)⟩) hS (fun q9 _ h9 => hF34 q9 h9) hF34 (fun u38 r39 t38 H38 L38 ht38 hvm38 hw38 hB38 hz38 hk38 hS => ?_)
  obtain ⟨hr38, hB38⟩ := hB38
  have hP := pq_keep hP hD [3, 7] rfl hk38 hB38.1 ht38
  have hG : s.heap.size + 0 ≤ H38.size := Nat.le_trans hG hz38
  refine W.eq (g2 := F0 m 32 ls [.ref h11]) (by rw [hr38]) ?_
  refine va_castE (nm := RX2) hx hb hown (hts _ q_211) (va_recv hK hP (ci := 3) (q := (RX2, TX2, 19)) (q0 := 11) rfl rfl) dX5_restart_32 ?_
  refine lv_bipush (v := 120) hx hb dX5_restart_35 (by decide) ?_
  refine va_put (D := (dC, dI)) (ci := 3) (v := .int 120) (ty := .char) (C := RX2) (T := TX2) (N := 19) hx hb hts in_X2 tyX2 tyX2_ok nmX2 hown hK hP hD (va_Sre hS) 11 rfl rfl 11 (by decide) (hts _ q_212) (fun _ h9 => h9) rfl (by decide +kernel) rfl rfl (Nat.le_of_ble_eq_true rfl) dX5_restart_37 (fun H40 _ hP hD hS' => ?_)
  have hG : s.heap.size + 0 ≤ H40.size := Nat.le_trans hG hS'.1
  have hS := va_Str hS hS'
  have hP : va_P (dC, dI) xCl [(h0, ce10 h1), (h1, ce7 h2 h3 h4 h5), (h2, ce147 h6), (h3, ce147 h7), (h4, ce3 z.1), (h5, ce167 h8), (h6, ce146 kc0 h9 h10 h11 h12), (h7, ce146 kc1 h9 h10 h11 h12), (h8, ce146 kc2 h9 h10 h11 h12), (h9, ce38 (z.2.1 0) o0 h9), (h10, ce77 (z.2.1 0) o1 h10), (h11, ce115 (z.2.1 0) o2 h11), (h12, ce165 (z.2.1 0) o3 h12)] H40 := hP
  have hD := vd_as hP hD rfl
  refine lv_iinc (v := 3) (lv' := [(1, .int 3), (0, .ref h0)]) hx hb dX5_restart_40 hl (k := 0) rfl (by decide) (by decide) rfl (fun ls hl => ?_)
  refine lv_goto (tgt := 7) hx hb dX5_restart_43 (by decide) ?_
  refine lv_iload_n hx hb dX5_restart_7 rfl (lv_at hl 0 rfl) ?_
  refine lv_aload_n hx hb dX5_restart_8 rfl (lv_at hl 1 rfl) ?_
  refine va_get (D := (dC, dI)) (ci := 5) (v := .ref h1) (C := RX5) (T := TX5) (N := 2) hx hb hts in_X5 hown hK hP 0 rfl rfl 0 (by decide) (hts _ q_39) (fun _ h9 => h9) rfl dX5_restart_9 ?_
  refine va_get (D := (dC, dI)) (ci := 2) (v := .ref h3) (C := RX0) (T := TX0) (N := 4) hx hb hts in_X0 hown hK hP 1 rfl rfl 1 (by decide) (hts _ q_208) (fun _ h9 => h9) rfl dX5_restart_12 ?_
  have hM43 := k20_size l hl9 dC dI z h3 h7 H40.size 4 4
  obtain ⟨hF41, hC44⟩ := pc_M hM43 hP hD hK hS hX hT hA [3] [] rfl rfl rfl
  refine va_calli (va_runV (As := []) (rest := [.int 3]) ⟨hx, hb, hml, hown, hts⟩ hM43 (cwV 0 hts (gV q_209 q_77 q_78 q_12 q_75) rfl rfl rfl hV_Jx4a65c_size_8abf5 ⟨Nat.le_of_ble_eq_true rfl, Nat.le_of_ble_eq_true rfl⟩) ⟨pc_blind, va_recv hK hP (ci := 0) (q := (RJx4a65c, TJx4a65c, 3)) (q0 := 3) rfl rfl, fun U hU hW => ⟨rfl, hC44 U hU hW⟩⟩ rfl rfl hl.1 rfl (lv_room (Nat.le_of_ble_eq_true rfl)) dX5_restart_15 ⟨(Nat.le_of_ble_eq_true rfl), (Nat.le_of_ble_eq_true rfl)⟩) hS (fun q9 _ h9 => hF41 q9 h9) hF41 (fun r46 u45 t45 H45 L45 ht45 hvm45 hw45 hB45 hz45 hk45 hS => ?_)
  have hP := pq_keep hP hD [3] rfl hk45 hB45.1 ht45
  have hG : s.heap.size + 0 ≤ H45.size := Nat.le_trans hG hz45
  refine W.eq (g2 := F0 m 18 ls [.int 4, .int 3]) (by rw [hw45]) ?_
  refine lv_icmp_ge (tgt := 46) hx hb dX5_restart_18 (by decide) (fun cz => absurd cz (by decide)) (fun _ => ?_)
  refine lv_aload_n hx hb dX5_restart_21 rfl (lv_at hl 1 rfl) ?_
  refine va_get (D := (dC, dI)) (ci := 5) (v := .ref h1) (C := RX5) (T := TX5) (N := 2) hx hb hts in_X5 hown hK hP 0 rfl rfl 0 (by decide) (hts _ q_39) (fun _ h9 => h9) rfl dX5_restart_22 ?_
  refine va_get (D := (dC, dI)) (ci := 2) (v := .ref h3) (C := RX0) (T := TX0) (N := 4) hx hb hts in_X0 hown hK hP 1 rfl rfl 1 (by decide) (hts _ q_208) (fun _ h9 => h9) rfl dX5_restart_25 ?_
  refine lv_iload_n hx hb dX5_restart_28 rfl (lv_at hl 0 rfl) ?_
  have hM49 := k272_get l hl9 dC dI z h3 h7 h9 h10 h11 h12 H45.size kc1
  obtain ⟨hF47, hC50⟩ := pc_M hM49 hP hD hK hS hX hT hA [3, 7] [1] rfl rfl rfl
  refine va_callr (va_runV (As := [.int 3]) (rest := []) ⟨hx, hb, hml, hown, hts⟩ hM49 (cwV 1 hts (gV q_210 q_157 q_158 q_12 q_155) rfl rfl rfl hV_Jx4a65c_get_915e3 ⟨Nat.le_of_ble_eq_true rfl, Nat.le_of_ble_eq_true rfl⟩) ⟨pc_blind, va_recv hK hP (ci := 0) (q := (RJx4a65c, TJx4a65c, 3)) (q0 := 3) rfl rfl, fun U hU hW => ⟨rfl, hC50 U hU hW⟩⟩ rfl rfl hl.1 rfl (lv_room (Nat.le_of_ble_eq_true rfl)) dX5_restart_29 ⟨(Nat.le_of_ble_eq_true rfl), (Nat.le_of_ble_eq_true rfl)⟩) hS (fun q9 _ h9 => hF47 q9 h9) hF47 (fun u51 r52 t51 H51 L51 ht51 hvm51 hw51 hB51 hz51 hk51 hS => ?_)
  obtain ⟨hr51, hB51⟩ := hB51
  have hP := pq_keep hP hD [3, 7] rfl hk51 hB51.1 ht51
  have hG : s.heap.size + 0 ≤ H51.size := Nat.le_trans hG hz51
  refine W.eq (g2 := F0 m 32 ls [.ref h12]) (by rw [hr51]) ?_
  refine va_castE (nm := RX2) hx hb hown (hts _ q_211) (va_recv hK hP (ci := 3) (q := (RX2, TX2, 19)) (q0 := 12) rfl rfl) dX5_restart_32 ?_
  refine lv_bipush (v := 120) hx hb dX5_restart_35 (by decide) ?_
  refine va_put (D := (dC, dI)) (ci := 3) (v := .int 120) (ty := .char) (C := RX2) (T := TX2) (N := 19) hx hb hts in_X2 tyX2 tyX2_ok nmX2 hown hK hP hD (va_Sre hS) 12 rfl rfl 11 (by decide) (hts _ q_212) (fun _ h9 => h9) rfl (by decide +kernel) rfl rfl (Nat.le_of_ble_eq_true rfl) dX5_restart_37 (fun H53 _ hP hD hS' => ?_)
  have hG : s.heap.size + 0 ≤ H53.size := Nat.le_trans hG hS'.1
  have hS := va_Str hS hS'
  have hP : va_P (dC, dI) xCl [(h0, ce10 h1), (h1, ce7 h2 h3 h4 h5), (h2, ce147 h6), (h3, ce147 h7), (h4, ce3 z.1), (h5, ce167 h8), (h6, ce146 kc0 h9 h10 h11 h12), (h7, ce146 kc1 h9 h10 h11 h12), (h8, ce146 kc2 h9 h10 h11 h12), (h9, ce38 (z.2.1 0) o0 h9), (h10, ce77 (z.2.1 0) o1 h10), (h11, ce115 (z.2.1 0) o2 h11), (h12, ce165 (z.2.1 0) o3 h12)] H53 := hP
  have hD := vd_as hP hD rfl
  refine lv_iinc (v := 4) (lv' := [(1, .int 4), (0, .ref h0)]) hx hb dX5_restart_40 hl (k := 0) rfl (by decide) (by decide) rfl (fun ls hl => ?_)
  refine lv_goto (tgt := 7) hx hb dX5_restart_43 (by decide) ?_
  refine lv_iload_n hx hb dX5_restart_7 rfl (lv_at hl 0 rfl) ?_
  refine lv_aload_n hx hb dX5_restart_8 rfl (lv_at hl 1 rfl) ?_
  refine va_get (D := (dC, dI)) (ci := 5) (v := .ref h1) (C := RX5) (T := TX5) (N := 2) hx hb hts in_X5 hown hK hP 0 rfl rfl 0 (by decide) (hts _ q_39) (fun _ h9 => h9) rfl dX5_restart_9 ?_
  refine va_get (D := (dC, dI)) (ci := 2) (v := .ref h3) (C := RX0) (T := TX0) (N := 4) hx hb hts in_X0 hown hK hP 1 rfl rfl 1 (by decide) (hts _ q_208) (fun _ h9 => h9) rfl dX5_restart_12 ?_
  have hM56 := k20_size l hl9 dC dI z h3 h7 H53.size 4 4
  obtain ⟨hF54, hC57⟩ := pc_M hM56 hP hD hK hS hX hT hA [3] [] rfl rfl rfl
  refine va_calli (va_runV (As := []) (rest := [.int 4]) ⟨hx, hb, hml, hown, hts⟩ hM56 (cwV 0 hts (gV q_209 q_77 q_78 q_12 q_75) rfl rfl rfl hV_Jx4a65c_size_8abf5 ⟨Nat.le_of_ble_eq_true rfl, Nat.le_of_ble_eq_true rfl⟩) ⟨pc_blind, va_recv hK hP (ci := 0) (q := (RJx4a65c, TJx4a65c, 3)) (q0 := 3) rfl rfl, fun U hU hW => ⟨rfl, hC57 U hU hW⟩⟩ rfl rfl hl.1 rfl (lv_room (Nat.le_of_ble_eq_true rfl)) dX5_restart_15 ⟨(Nat.le_of_ble_eq_true rfl), (Nat.le_of_ble_eq_true rfl)⟩) hS (fun q9 _ h9 => hF54 q9 h9) hF54 (fun r59 u58 t58 H58 L58 ht58 hvm58 hw58 hB58 hz58 hk58 hS => ?_)
  have hP := pq_keep hP hD [3] rfl hk58 hB58.1 ht58
  have hG : s.heap.size + 0 ≤ H58.size := Nat.le_trans hG hz58
  refine W.eq (g2 := F0 m 18 ls [.int 4, .int 4]) (by rw [hw58]) ?_
  refine lv_icmp_ge (tgt := 46) hx hb dX5_restart_18 (by decide) (fun _ => ?_) (fun cz => absurd (by decide) cz)
  refine lv_aload_n hx hb dX5_restart_46 rfl (lv_at hl 1 rfl) ?_
  refine va_get (D := (dC, dI)) (ci := 5) (v := .ref h1) (C := RX5) (T := TX5) (N := 2) hx hb hts in_X5 hown hK hP 0 rfl rfl 0 (by decide) (hts _ q_39) (fun _ h9 => h9) rfl dX5_restart_47 ?_
  refine lv_null hx hb dX5_restart_50 ?_
  refine lv_bipush (v := 120) hx hb dX5_restart_51 (by decide) ?_
  have hM62 := k300_settle l hl9 dC dI z h1 h5 h8 h9 h10 h11 h12 h2 h3 h4 o0 o1 o2 o3 H58.size kc2
  obtain ⟨hF60, hC63⟩ := pc_M hM62 hP hD hK hS hX hT hA [1, 5, 8, 9, 10, 11, 12] [2] rfl rfl rfl
  refine va_callv (va_runV (As := [.null, .int 120]) (rest := []) ⟨hx, hb, hml, hown, hts⟩ hM62 (cwV 2 hts (gV q_214 q_215 q_216 q_8 q_213) rfl rfl rfl hV_X0_settle ⟨Nat.le_of_ble_eq_true rfl, Nat.le_of_ble_eq_true rfl⟩) ⟨pc_blind, va_recv hK hP (ci := 2) (q := (RX0, TX0, 4)) (q0 := 1) rfl rfl, fun U hU hW => ⟨rfl, hC63 U hU hW⟩⟩ rfl rfl hl.1 rfl (lv_room (Nat.le_of_ble_eq_true rfl)) dX5_restart_53 ⟨(Nat.le_of_ble_eq_true rfl), (Nat.le_of_ble_eq_true rfl)⟩) hS (fun q9 _ h9 => hF60 q9 h9) hF60 (fun u64 t64 H64 L64 ht64 hvm64 hw64 hB64 hz64 hk64 hS => ?_)
  have hP := pq_keep hP hD [1, 5, 8, 9, 10, 11, 12] rfl hk64 hB64.1 ht64
  have hG : s.heap.size + 0 ≤ H64.size := Nat.le_trans hG hz64
  refine lv_iconst (v := 0) hx hb dX5_restart_56 (by decide) ?_
  refine lv_istore_n (lv' := [(1, .int 0), (0, .ref h0)]) hx hb dX5_restart_57 rfl hl (by decide) rfl (fun ls hl => ?_)
  refine lv_iload_n hx hb dX5_restart_58 rfl (lv_at hl 0 rfl) ?_
  refine lv_aload_n hx hb dX5_restart_59 rfl (lv_at hl 1 rfl) ?_
  refine va_get (D := (dC, dI)) (ci := 5) (v := .ref h1) (C := RX5) (T := TX5) (N := 2) hx hb hts in_X5 hown hK hP 0 rfl rfl 0 (by decide) (hts _ q_39) (fun _ h9 => h9) rfl dX5_restart_60 ?_
  refine va_get (D := (dC, dI)) (ci := 2) (v := .ref h2) (C := RX0) (T := TX0) (N := 4) hx hb hts in_X0 hown hK hP 1 rfl rfl 0 (by decide) (hts _ q_217) (fun _ h9 => h9) rfl dX5_restart_63 ?_
  have hM68 := k20_size l hl9 dC dI z h2 h6 H64.size 4 4
  obtain ⟨hF66, hC69⟩ := pc_M hM68 hP hD hK hS hX hT hA [2] [] rfl rfl rfl
  refine va_calli (va_runV (As := []) (rest := [.int 0]) ⟨hx, hb, hml, hown, hts⟩ hM68 (cwV 0 hts (gV q_209 q_77 q_78 q_12 q_75) rfl rfl rfl hV_Jx4a65c_size_8abf5 ⟨Nat.le_of_ble_eq_true rfl, Nat.le_of_ble_eq_true rfl⟩) ⟨pc_blind, va_recv hK hP (ci := 0) (q := (RJx4a65c, TJx4a65c, 3)) (q0 := 2) rfl rfl, fun U hU hW => ⟨rfl, hC69 U hU hW⟩⟩ rfl rfl hl.1 rfl (lv_room (Nat.le_of_ble_eq_true rfl)) dX5_restart_66 ⟨(Nat.le_of_ble_eq_true rfl), (Nat.le_of_ble_eq_true rfl)⟩) hS (fun q9 _ h9 => hF66 q9 h9) hF66 (fun r71 u70 t70 H70 L70 ht70 hvm70 hw70 hB70 hz70 hk70 hS => ?_)
  have hP := pq_keep hP hD [2] rfl hk70 hB70.1 ht70
  have hG : s.heap.size + 0 ≤ H70.size := Nat.le_trans hG hz70
  refine W.eq (g2 := F0 m 69 ls [.int 4, .int 0]) (by rw [hw70]) ?_
  refine lv_icmp_ge (tgt := 95) hx hb dX5_restart_69 (by decide) (fun cz => absurd cz (by decide)) (fun _ => ?_)
  refine lv_aload_n hx hb dX5_restart_72 rfl (lv_at hl 1 rfl) ?_
  refine va_get (D := (dC, dI)) (ci := 5) (v := .ref h1) (C := RX5) (T := TX5) (N := 2) hx hb hts in_X5 hown hK hP 0 rfl rfl 0 (by decide) (hts _ q_39) (fun _ h9 => h9) rfl dX5_restart_73 ?_
  refine va_get (D := (dC, dI)) (ci := 2) (v := .ref h2) (C := RX0) (T := TX0) (N := 4) hx hb hts in_X0 hown hK hP 1 rfl rfl 0 (by decide) (hts _ q_217) (fun _ h9 => h9) rfl dX5_restart_76 ?_
  refine lv_iload_n hx hb dX5_restart_79 rfl (lv_at hl 0 rfl) ?_
  have hM74 := k260_get l hl9 dC dI z h2 h6 h9 h10 h11 h12 H70.size kc0
  obtain ⟨hF72, hC75⟩ := pc_M hM74 hP hD hK hS hX hT hA [2, 6] [0] rfl rfl rfl
  refine va_callr (va_runV (As := [.int 0]) (rest := []) ⟨hx, hb, hml, hown, hts⟩ hM74 (cwV 1 hts (gV q_210 q_157 q_158 q_12 q_155) rfl rfl rfl hV_Jx4a65c_get_915e3 ⟨Nat.le_of_ble_eq_true rfl, Nat.le_of_ble_eq_true rfl⟩) ⟨pc_blind, va_recv hK hP (ci := 0) (q := (RJx4a65c, TJx4a65c, 3)) (q0 := 2) rfl rfl, fun U hU hW => ⟨rfl, hC75 U hU hW⟩⟩ rfl rfl hl.1 rfl (lv_room (Nat.le_of_ble_eq_true rfl)) dX5_restart_80 ⟨(Nat.le_of_ble_eq_true rfl), (Nat.le_of_ble_eq_true rfl)⟩) hS (fun q9 _ h9 => hF72 q9 h9) hF72 (fun u76 r77 t76 H76 L76 ht76 hvm76 hw76 hB76 hz76 hk76 hS => ?_)
  obtain ⟨hr76, hB76⟩ := hB76
  have hP := pq_keep hP hD [2, 6] rfl hk76 hB76.1 ht76
  have hG : s.heap.size + 0 ≤ H76.size := Nat.le_trans hG hz76
  refine W.eq (g2 := F0 m 83 ls [.ref h9]) (by rw [hr76]) ?_
  refine va_castE (nm := RX2) hx hb hown (hts _ q_211) (va_recv hK hP (ci := 3) (q := (RX2, TX2, 19)) (q0 := 9) rfl rfl) dX5_restart_83 ?_
  have hM80 := k43_restart l hl9 dC dI z h9 o0 H76.size
  obtain ⟨hF78, hC81⟩ := pc_M hM80 hP hD hK hS hX hT hA [9] [] rfl rfl rfl
  refine va_callv (va_runV (As := []) (rest := []) ⟨hx, hb, hml, hown, hts⟩ hM80 (cwV 0 hts (gV q_222 q_223 q_224 q_91 q_221) rfl rfl rfl hV_X2_restart ⟨Nat.le_of_ble_eq_true rfl, Nat.le_of_ble_eq_true rfl⟩) ⟨pc_blind, va_recv hK hP (ci := 3) (q := (RX2, TX2, 19)) (q0 := 9) rfl rfl, fun U hU hW => ⟨rfl, hC81 U hU hW⟩⟩ rfl rfl hl.1 rfl (lv_room (Nat.le_of_ble_eq_true rfl)) dX5_restart_86 ⟨(Nat.le_of_ble_eq_true rfl), (Nat.le_of_ble_eq_true rfl)⟩) hS (fun q9 _ h9 => hF78 q9 h9) hF78 (fun u82 t82 H82 L82 ht82 hvm82 hw82 hB82 hz82 hk82 hS => ?_)
  have hP := pq_keep hP hD [9] rfl hk82 hB82.1 ht82
  have hG : s.heap.size + 0 ≤ H82.size := Nat.le_trans hG hz82
  refine lv_iinc (v := 1) (lv' := [(1, .int 1), (0, .ref h0)]) hx hb dX5_restart_89 hl (k := 0) rfl (by decide) (by decide) rfl (fun ls hl => ?_)
  refine lv_goto (tgt := 58) hx hb dX5_restart_92 (by decide) ?_
  refine lv_iload_n hx hb dX5_restart_58 rfl (lv_at hl 0 rfl) ?_
  refine lv_aload_n hx hb dX5_restart_59 rfl (lv_at hl 1 rfl) ?_
  refine va_get (D := (dC, dI)) (ci := 5) (v := .ref h1) (C := RX5) (T := TX5) (N := 2) hx hb hts in_X5 hown hK hP 0 rfl rfl 0 (by decide) (hts _ q_39) (fun _ h9 => h9) rfl dX5_restart_60 ?_
  refine va_get (D := (dC, dI)) (ci := 2) (v := .ref h2) (C := RX0) (T := TX0) (N := 4) hx hb hts in_X0 hown hK hP 1 rfl rfl 0 (by decide) (hts _ q_217) (fun _ h9 => h9) rfl dX5_restart_63 ?_
  have hM86 := k20_size l hl9 dC dI z h2 h6 H82.size 4 4
  obtain ⟨hF84, hC87⟩ := pc_M hM86 hP hD hK hS hX hT hA [2] [] rfl rfl rfl
  refine va_calli (va_runV (As := []) (rest := [.int 1]) ⟨hx, hb, hml, hown, hts⟩ hM86 (cwV 0 hts (gV q_209 q_77 q_78 q_12 q_75) rfl rfl rfl hV_Jx4a65c_size_8abf5 ⟨Nat.le_of_ble_eq_true rfl, Nat.le_of_ble_eq_true rfl⟩) ⟨pc_blind, va_recv hK hP (ci := 0) (q := (RJx4a65c, TJx4a65c, 3)) (q0 := 2) rfl rfl, fun U hU hW => ⟨rfl, hC87 U hU hW⟩⟩ rfl rfl hl.1 rfl (lv_room (Nat.le_of_ble_eq_true rfl)) dX5_restart_66 ⟨(Nat.le_of_ble_eq_true rfl), (Nat.le_of_ble_eq_true rfl)⟩) hS (fun q9 _ h9 => hF84 q9 h9) hF84 (fun r89 u88 t88 H88 L88 ht88 hvm88 hw88 hB88 hz88 hk88 hS => ?_)
  have hP := pq_keep hP hD [2] rfl hk88 hB88.1 ht88
  have hG : s.heap.size + 0 ≤ H88.size := Nat.le_trans hG hz88
  refine W.eq (g2 := F0 m 69 ls [.int 4, .int 1]) (by rw [hw88]) ?_
  refine lv_icmp_ge (tgt := 95) hx hb dX5_restart_69 (by decide) (fun cz => absurd cz (by decide)) (fun _ => ?_)
  refine lv_aload_n hx hb dX5_restart_72 rfl (lv_at hl 1 rfl) ?_
  refine va_get (D := (dC, dI)) (ci := 5) (v := .ref h1) (C := RX5) (T := TX5) (N := 2) hx hb hts in_X5 hown hK hP 0 rfl rfl 0 (by decide) (hts _ q_39) (fun _ h9 => h9) rfl dX5_restart_73 ?_
  refine va_get (D := (dC, dI)) (ci := 2) (v := .ref h2) (C := RX0) (T := TX0) (N := 4) hx hb hts in_X0 hown hK hP 1 rfl rfl 0 (by decide) (hts _ q_217) (fun _ h9 => h9) rfl dX5_restart_76 ?_
  refine lv_iload_n hx hb dX5_restart_79 rfl (lv_at hl 0 rfl) ?_
  have hM92 := k264_get l hl9 dC dI z h2 h6 h9 h10 h11 h12 H88.size kc0
  obtain ⟨hF90, hC93⟩ := pc_M hM92 hP hD hK hS hX hT hA [2, 6] [0] rfl rfl rfl
  refine va_callr (va_runV (As := [.int 1]) (rest := []) ⟨hx, hb, hml, hown, hts⟩ hM92 (cwV 1 hts (gV q_210 q_157 q_158 q_12 q_155) rfl rfl rfl hV_Jx4a65c_get_915e3 ⟨Nat.le_of_ble_eq_true rfl, Nat.le_of_ble_eq_true rfl⟩) ⟨pc_blind, va_recv hK hP (ci := 0) (q := (RJx4a65c, TJx4a65c, 3)) (q0 := 2) rfl rfl, fun U hU hW => ⟨rfl, hC93 U hU hW⟩⟩ rfl rfl hl.1 rfl (lv_room (Nat.le_of_ble_eq_true rfl)) dX5_restart_80 ⟨(Nat.le_of_ble_eq_true rfl), (Nat.le_of_ble_eq_true rfl)⟩) hS (fun q9 _ h9 => hF90 q9 h9) hF90 (fun u94 r95 t94 H94 L94 ht94 hvm94 hw94 hB94 hz94 hk94 hS => ?_)
  obtain ⟨hr94, hB94⟩ := hB94
  have hP := pq_keep hP hD [2, 6] rfl hk94 hB94.1 ht94
  have hG : s.heap.size + 0 ≤ H94.size := Nat.le_trans hG hz94
  refine W.eq (g2 := F0 m 83 ls [.ref h10]) (by rw [hr94]) ?_
  refine va_castE (nm := RX2) hx hb hown (hts _ q_211) (va_recv hK hP (ci := 3) (q := (RX2, TX2, 19)) (q0 := 10) rfl rfl) dX5_restart_83 ?_
  have hM98 := k116_restart l hl9 dC dI z h10 o1 H94.size
  obtain ⟨hF96, hC99⟩ := pc_M hM98 hP hD hK hS hX hT hA [10] [] rfl rfl rfl
  refine va_callv (va_runV (As := []) (rest := []) ⟨hx, hb, hml, hown, hts⟩ hM98 (cwV 0 hts (gV q_222 q_223 q_224 q_91 q_221) rfl rfl rfl hV_X2_restart ⟨Nat.le_of_ble_eq_true rfl, Nat.le_of_ble_eq_true rfl⟩) ⟨pc_blind, va_recv hK hP (ci := 3) (q := (RX2, TX2, 19)) (q0 := 10) rfl rfl, fun U hU hW => ⟨rfl, hC99 U hU hW⟩⟩ rfl rfl hl.1 rfl (lv_room (Nat.le_of_ble_eq_true rfl)) dX5_restart_86 ⟨(Nat.le_of_ble_eq_true rfl), (Nat.le_of_ble_eq_true rfl)⟩) hS (fun q9 _ h9 => hF96 q9 h9) hF96 (fun u100 t100 H100 L100 ht100 hvm100 hw100 hB100 hz100 hk100 hS => ?_)
  have hP := pq_keep hP hD [10] rfl hk100 hB100.1 ht100
  have hG : s.heap.size + 0 ≤ H100.size := Nat.le_trans hG hz100
  refine lv_iinc (v := 2) (lv' := [(1, .int 2), (0, .ref h0)]) hx hb dX5_restart_89 hl (k := 0) rfl (by decide) (by decide) rfl (fun ls hl => ?_)
  refine lv_goto (tgt := 58) hx hb dX5_restart_92 (by decide) ?_
  refine lv_iload_n hx hb dX5_restart_58 rfl (lv_at hl 0 rfl) ?_
  refine lv_aload_n hx hb dX5_restart_59 rfl (lv_at hl 1 rfl) ?_
  refine va_get (D := (dC, dI)) (ci := 5) (v := .ref h1) (C := RX5) (T := TX5) (N := 2) hx hb hts in_X5 hown hK hP 0 rfl rfl 0 (by decide) (hts _ q_39) (fun _ h9 => h9) rfl dX5_restart_60 ?_
  refine va_get (D := (dC, dI)) (ci := 2) (v := .ref h2) (C := RX0) (T := TX0) (N := 4) hx hb hts in_X0 hown hK hP 1 rfl rfl 0 (by decide) (hts _ q_217) (fun _ h9 => h9) rfl dX5_restart_63 ?_
  have hM104 := k20_size l hl9 dC dI z h2 h6 H100.size 4 4
  obtain ⟨hF102, hC105⟩ := pc_M hM104 hP hD hK hS hX hT hA [2] [] rfl rfl rfl
  refine va_calli (va_runV (As := []) (rest := [.int 2]) ⟨hx, hb, hml, hown, hts⟩ hM104 (cwV 0 hts (gV q_209 q_77 q_78 q_12 q_75) rfl rfl rfl hV_Jx4a65c_size_8abf5 ⟨Nat.le_of_ble_eq_true rfl, Nat.le_of_ble_eq_true rfl⟩) ⟨pc_blind, va_recv hK hP (ci := 0) (q := (RJx4a65c, TJx4a65c, 3)) (q0 := 2) rfl rfl, fun U hU hW => ⟨rfl, hC105 U hU hW⟩⟩ rfl rfl hl.1 rfl (lv_room (Nat.le_of_ble_eq_true rfl)) dX5_restart_66 ⟨(Nat.le_of_ble_eq_true rfl), (Nat.le_of_ble_eq_true rfl)⟩) hS (fun q9 _ h9 => hF102 q9 h9) hF102 (fun r107 u106 t106 H106 L106 ht106 hvm106 hw106 hB106 hz106 hk106 hS => ?_)
  have hP := pq_keep hP hD [2] rfl hk106 hB106.1 ht106
  have hG : s.heap.size + 0 ≤ H106.size := Nat.le_trans hG hz106
  refine W.eq (g2 := F0 m 69 ls [.int 4, .int 2]) (by rw [hw106]) ?_
  refine lv_icmp_ge (tgt := 95) hx hb dX5_restart_69 (by decide) (fun cz => absurd cz (by decide)) (fun _ => ?_)
  refine lv_aload_n hx hb dX5_restart_72 rfl (lv_at hl 1 rfl) ?_
  refine va_get (D := (dC, dI)) (ci := 5) (v := .ref h1) (C := RX5) (T := TX5) (N := 2) hx hb hts in_X5 hown hK hP 0 rfl rfl 0 (by decide) (hts _ q_39) (fun _ h9 => h9) rfl dX5_restart_73 ?_
  refine va_get (D := (dC, dI)) (ci := 2) (v := .ref h2) (C := RX0) (T := TX0) (N := 4) hx hb hts in_X0 hown hK hP 1 rfl rfl 0 (by decide) (hts _ q_217) (fun _ h9 => h9) rfl dX5_restart_76 ?_
  refine lv_iload_n hx hb dX5_restart_79 rfl (lv_at hl 0 rfl) ?_
  have hM110 := k268_get l hl9 dC dI z h2 h6 h9 h10 h11 h12 H106.size kc0
  obtain ⟨hF108, hC111⟩ := pc_M hM110 hP hD hK hS hX hT hA [2, 6] [0] rfl rfl rfl
  refine va_callr (va_runV (As := [.int 2]) (rest := []) ⟨hx, hb, hml, hown, hts⟩ hM110 (cwV 1 hts (gV q_210 q_157 q_158 q_12 q_155) rfl rfl rfl hV_Jx4a65c_get_915e3 ⟨Nat.le_of_ble_eq_true rfl, Nat.le_of_ble_eq_true rfl⟩) ⟨pc_blind, va_recv hK hP (ci := 0) (q := (RJx4a65c, TJx4a65c, 3)) (q0 := 2) rfl rfl, fun U hU hW => ⟨rfl, hC111 U hU hW⟩⟩ rfl rfl hl.1 rfl (lv_room (Nat.le_of_ble_eq_true rfl)) dX5_restart_80 ⟨(Nat.le_of_ble_eq_true rfl), (Nat.le_of_ble_eq_true rfl)⟩) hS (fun q9 _ h9 => hF108 q9 h9) hF108 (fun u112 r113 t112 H112 L112 ht112 hvm112 hw112 hB112 hz112 hk112 hS => ?_)
  obtain ⟨hr112, hB112⟩ := hB112
  have hP := pq_keep hP hD [2, 6] rfl hk112 hB112.1 ht112
  have hG : s.heap.size + 0 ≤ H112.size := Nat.le_trans hG hz112
  refine W.eq (g2 := F0 m 83 ls [.ref h11]) (by rw [hr112]) ?_
  refine va_castE (nm := RX2) hx hb hown (hts _ q_211) (va_recv hK hP (ci := 3) (q := (RX2, TX2, 19)) (q0 := 11) rfl rfl) dX5_restart_83 ?_
  have hM116 := k201_restart l hl9 dC dI z h11 o2 H112.size
  obtain ⟨hF114, hC117⟩ := pc_M hM116 hP hD hK hS hX hT hA [11] [] rfl rfl rfl
  refine va_callv (va_runV (As := []) (rest := []) ⟨hx, hb, hml, hown, hts⟩ hM116 (cwV 0 hts (gV q_222 q_223 q_224 q_91 q_221) rfl rfl rfl hV_X2_restart ⟨Nat.le_of_ble_eq_true rfl, Nat.le_of_ble_eq_true rfl⟩) ⟨pc_blind, va_recv hK hP (ci := 3) (q := (RX2, TX2, 19)) (q0 := 11) rfl rfl, fun U hU hW => ⟨rfl, hC117 U hU hW⟩⟩ rfl rfl hl.1 rfl (lv_room (Nat.le_of_ble_eq_true rfl)) dX5_restart_86 ⟨(Nat.le_of_ble_eq_true rfl), (Nat.le_of_ble_eq_true rfl)⟩) hS (fun q9 _ h9 => hF114 q9 h9) hF114 (fun u118 t118 H118 L118 ht118 hvm118 hw118 hB118 hz118 hk118 hS => ?_)
  have hP := pq_keep hP hD [11] rfl hk118 hB118.1 ht118
  have hG : s.heap.size + 0 ≤ H118.size := Nat.le_trans hG hz118
  refine lv_iinc (v := 3) (lv' := [(1, .int 3), (0, .ref h0)]) hx hb dX5_restart_89 hl (k := 0) rfl (by decide) (by decide) rfl (fun ls hl => ?_)
  refine lv_goto (tgt := 58) hx hb dX5_restart_92 (by decide) ?_
  refine lv_iload_n hx hb dX5_restart_58 rfl (lv_at hl 0 rfl) ?_
  refine lv_aload_n hx hb dX5_restart_59 rfl (lv_at hl 1 rfl) ?_
  refine va_get (D := (dC, dI)) (ci := 5) (v := .ref h1) (C := RX5) (T := TX5) (N := 2) hx hb hts in_X5 hown hK hP 0 rfl rfl 0 (by decide) (hts _ q_39) (fun _ h9 => h9) rfl dX5_restart_60 ?_
  refine va_get (D := (dC, dI)) (ci := 2) (v := .ref h2) (C := RX0) (T := TX0) (N := 4) hx hb hts in_X0 hown hK hP 1 rfl rfl 0 (by decide) (hts _ q_217) (fun _ h9 => h9) rfl dX5_restart_63 ?_
  have hM122 := k20_size l hl9 dC dI z h2 h6 H118.size 4 4
  obtain ⟨hF120, hC123⟩ := pc_M hM122 hP hD hK hS hX hT hA [2] [] rfl rfl rfl
  refine va_calli (va_runV (As := []) (rest := [.int 3]) ⟨hx, hb, hml, hown, hts⟩ hM122 (cwV 0 hts (gV q_209 q_77 q_78 q_12 q_75) rfl rfl rfl hV_Jx4a65c_size_8abf5 ⟨Nat.le_of_ble_eq_true rfl, Nat.le_of_ble_eq_true rfl⟩) ⟨pc_blind, va_recv hK hP (ci := 0) (q := (RJx4a65c, TJx4a65c, 3)) (q0 := 2) rfl rfl, fun U hU hW => ⟨rfl, hC123 U hU hW⟩⟩ rfl rfl hl.1 rfl (lv_room (Nat.le_of_ble_eq_true rfl)) dX5_restart_66 ⟨(Nat.le_of_ble_eq_true rfl), (Nat.le_of_ble_eq_true rfl)⟩) hS (fun q9 _ h9 => hF120 q9 h9) hF120 (fun r125 u124 t124 H124 L124 ht124 hvm124 hw124 hB124 hz124 hk124 hS => ?_)
  have hP := pq_keep hP hD [2] rfl hk124 hB124.1 ht124
  have hG : s.heap.size + 0 ≤ H124.size := Nat.le_trans hG hz124
  refine W.eq (g2 := F0 m 69 ls [.int 4, .int 3]) (by rw [hw124]) ?_
  refine lv_icmp_ge (tgt := 95) hx hb dX5_restart_69 (by decide) (fun cz => absurd cz (by decide)) (fun _ => ?_)
  refine lv_aload_n hx hb dX5_restart_72 rfl (lv_at hl 1 rfl) ?_
  refine va_get (D := (dC, dI)) (ci := 5) (v := .ref h1) (C := RX5) (T := TX5) (N := 2) hx hb hts in_X5 hown hK hP 0 rfl rfl 0 (by decide) (hts _ q_39) (fun _ h9 => h9) rfl dX5_restart_73 ?_
  refine va_get (D := (dC, dI)) (ci := 2) (v := .ref h2) (C := RX0) (T := TX0) (N := 4) hx hb hts in_X0 hown hK hP 1 rfl rfl 0 (by decide) (hts _ q_217) (fun _ h9 => h9) rfl dX5_restart_76 ?_
  refine lv_iload_n hx hb dX5_restart_79 rfl (lv_at hl 0 rfl) ?_
  have hM128 := k272_get l hl9 dC dI z h2 h6 h9 h10 h11 h12 H124.size kc0
  obtain ⟨hF126, hC129⟩ := pc_M hM128 hP hD hK hS hX hT hA [2, 6] [0] rfl rfl rfl
  refine va_callr (va_runV (As := [.int 3]) (rest := []) ⟨hx, hb, hml, hown, hts⟩ hM128 (cwV 1 hts (gV q_210 q_157 q_158 q_12 q_155) rfl rfl rfl hV_Jx4a65c_get_915e3 ⟨Nat.le_of_ble_eq_true rfl, Nat.le_of_ble_eq_true rfl⟩) ⟨pc_blind, va_recv hK hP (ci := 0) (q := (RJx4a65c, TJx4a65c, 3)) (q0 := 2) rfl rfl, fun U hU hW => ⟨rfl, hC129 U hU hW⟩⟩ rfl rfl hl.1 rfl (lv_room (Nat.le_of_ble_eq_true rfl)) dX5_restart_80 ⟨(Nat.le_of_ble_eq_true rfl), (Nat.le_of_ble_eq_true rfl)⟩) hS (fun q9 _ h9 => hF126 q9 h9) hF126 (fun u130 r131 t130 H130 L130 ht130 hvm130 hw130 hB130 hz130 hk130 hS => ?_)
  obtain ⟨hr130, hB130⟩ := hB130
  have hP := pq_keep hP hD [2, 6] rfl hk130 hB130.1 ht130
  have hG : s.heap.size + 0 ≤ H130.size := Nat.le_trans hG hz130
  refine W.eq (g2 := F0 m 83 ls [.ref h12]) (by rw [hr130]) ?_
  refine va_castE (nm := RX2) hx hb hown (hts _ q_211) (va_recv hK hP (ci := 3) (q := (RX2, TX2, 19)) (q0 := 12) rfl rfl) dX5_restart_83 ?_
  have hM134 := k301_restart l hl9 dC dI z h12 o3 H130.size
  obtain ⟨hF132, hC135⟩ := pc_M hM134 hP hD hK hS hX hT hA [12] [] rfl rfl rfl
  refine va_callv (va_runV (As := []) (rest := []) ⟨hx, hb, hml, hown, hts⟩ hM134 (cwV 0 hts (gV q_222 q_223 q_224 q_91 q_221) rfl rfl rfl hV_X2_restart ⟨Nat.le_of_ble_eq_true rfl, Nat.le_of_ble_eq_true rfl⟩) ⟨pc_blind, va_recv hK hP (ci := 3) (q := (RX2, TX2, 19)) (q0 := 12) rfl rfl, fun U hU hW => ⟨rfl, hC135 U hU hW⟩⟩ rfl rfl hl.1 rfl (lv_room (Nat.le_of_ble_eq_true rfl)) dX5_restart_86 ⟨(Nat.le_of_ble_eq_true rfl), (Nat.le_of_ble_eq_true rfl)⟩) hS (fun q9 _ h9 => hF132 q9 h9) hF132 (fun u136 t136 H136 L136 ht136 hvm136 hw136 hB136 hz136 hk136 hS => ?_)
  have hP := pq_keep hP hD [12] rfl hk136 hB136.1 ht136
  have hG : s.heap.size + 0 ≤ H136.size := Nat.le_trans hG hz136
  refine lv_iinc (v := 4) (lv' := [(1, .int 4), (0, .ref h0)]) hx hb dX5_restart_89 hl (k := 0) rfl (by decide) (by decide) rfl (fun ls hl => ?_)
  refine lv_goto (tgt := 58) hx hb dX5_restart_92 (by decide) ?_
  refine lv_iload_n hx hb dX5_restart_58 rfl (lv_at hl 0 rfl) ?_
  refine lv_aload_n hx hb dX5_restart_59 rfl (lv_at hl 1 rfl) ?_
  refine va_get (D := (dC, dI)) (ci := 5) (v := .ref h1) (C := RX5) (T := TX5) (N := 2) hx hb hts in_X5 hown hK hP 0 rfl rfl 0 (by decide) (hts _ q_39) (fun _ h9 => h9) rfl dX5_restart_60 ?_
  refine va_get (D := (dC, dI)) (ci := 2) (v := .ref h2) (C := RX0) (T := TX0) (N := 4) hx hb hts in_X0 hown hK hP 1 rfl rfl 0 (by decide) (hts _ q_217) (fun _ h9 => h9) rfl dX5_restart_63 ?_
  have hM140 := k20_size l hl9 dC dI z h2 h6 H136.size 4 4
  obtain ⟨hF138, hC141⟩ := pc_M hM140 hP hD hK hS hX hT hA [2] [] rfl rfl rfl
  refine va_calli (va_runV (As := []) (rest := [.int 4]) ⟨hx, hb, hml, hown, hts⟩ hM140 (cwV 0 hts (gV q_209 q_77 q_78 q_12 q_75) rfl rfl rfl hV_Jx4a65c_size_8abf5 ⟨Nat.le_of_ble_eq_true rfl, Nat.le_of_ble_eq_true rfl⟩) ⟨pc_blind, va_recv hK hP (ci := 0) (q := (RJx4a65c, TJx4a65c, 3)) (q0 := 2) rfl rfl, fun U hU hW => ⟨rfl, hC141 U hU hW⟩⟩ rfl rfl hl.1 rfl (lv_room (Nat.le_of_ble_eq_true rfl)) dX5_restart_66 ⟨(Nat.le_of_ble_eq_true rfl), (Nat.le_of_ble_eq_true rfl)⟩) hS (fun q9 _ h9 => hF138 q9 h9) hF138 (fun r143 u142 t142 H142 L142 ht142 hvm142 hw142 hB142 hz142 hk142 hS => ?_)
  have hP := pq_keep hP hD [2] rfl hk142 hB142.1 ht142
  have hG : s.heap.size + 0 ≤ H142.size := Nat.le_trans hG hz142
  refine W.eq (g2 := F0 m 69 ls [.int 4, .int 4]) (by rw [hw142]) ?_
  refine lv_icmp_ge (tgt := 95) hx hb dX5_restart_69 (by decide) (fun _ => ?_) (fun cz => absurd (by decide) cz)
  refine lv_iconst (v := 0) hx hb dX5_restart_95 (by decide) ?_
  refine lv_istore_n (lv' := [(1, .int 0), (0, .ref h0)]) hx hb dX5_restart_96 rfl hl (by decide) rfl (fun ls hl => ?_)
  refine lv_iload_n hx hb dX5_restart_97 rfl (lv_at hl 0 rfl) ?_
  refine lv_aload_n hx hb dX5_restart_98 rfl (lv_at hl 1 rfl) ?_
  refine va_get (D := (dC, dI)) (ci := 5) (v := .ref h1) (C := RX5) (T := TX5) (N := 2) hx hb hts in_X5 hown hK hP 0 rfl rfl 0 (by decide) (hts _ q_39) (fun _ h9 => h9) rfl dX5_restart_99 ?_
  refine va_get (D := (dC, dI)) (ci := 2) (v := .ref h4) (C := RX0) (T := TX0) (N := 4) hx hb hts in_X0 hown hK hP 1 rfl rfl 2 (by decide) (hts _ q_225) (fun _ h9 => h9) rfl dX5_restart_102 ?_
  have hM146 := k9_size l hl9 dC dI z h4 H142.size 0 0
  obtain ⟨hF144, hC147⟩ := pc_M hM146 hP hD hK hS hX hT hA [4] [] rfl rfl rfl
  refine va_calli (va_runV (As := []) (rest := [.int 0]) ⟨hx, hb, hml, hown, hts⟩ hM146 (cwV 0 hts (gV q_209 q_77 q_78 q_12 q_75) rfl rfl rfl hV_Jx4a65c_size_8abf5 ⟨Nat.le_of_ble_eq_true rfl, Nat.le_of_ble_eq_true rfl⟩) ⟨pc_blind, va_recv hK hP (ci := 0) (q := (RJx4a65c, TJx4a65c, 3)) (q0 := 4) rfl rfl, fun U hU hW => ⟨rfl, hC147 U hU hW⟩⟩ rfl rfl hl.1 rfl (lv_room (Nat.le_of_ble_eq_true rfl)) dX5_restart_105 ⟨(Nat.le_of_ble_eq_true rfl), (Nat.le_of_ble_eq_true rfl)⟩) hS (fun q9 _ h9 => hF144 q9 h9) hF144 (fun r149 u148 t148 H148 L148 ht148 hvm148 hw148 hB148 hz148 hk148 hS => ?_)
  have hP := pq_keep hP hD [4] rfl hk148 hB148.1 ht148
  have hG : s.heap.size + 0 ≤ H148.size := Nat.le_trans hG hz148
  refine W.eq (g2 := F0 m 108 ls [.int 0, .int 0]) (by rw [hw148]) ?_
  refine lv_icmp_ge (tgt := 134) hx hb dX5_restart_108 (by decide) (fun _ => ?_) (fun cz => absurd (by decide) cz)
  exact W.vret hx hb hr (fun t9 ht9 hW9 => ⟨⟨(), rfl, trivial, ⟨pq_mk2 hP hD hK [0, 1, 2, 3, 4, 5, 6, 7, 8, 9, 10, 11, 12] [0, 1, 2] rfl rfl rfl ht9 hW9, by rw [ht9]; exact Nat.le_trans (Nat.add_le_add_left (Nat.le_of_ble_eq_true rfl) _) hG⟩⟩, hS.F ht9⟩) hS.2.2 dX5_restart_134

set_option maxHeartbeats 4000000 in
set_option maxRecDepth 100000 in
theorem k303_startAnew (l : Launch) (hl9 : l.stackTraces = false) (dC : Nat → ClassId) (dI : Nat → Nat → Nat) (z : XZ) (h0 h1 h2 h3 h4 h5 h6 h7 h8 h9 h10 h11 h12 h13 h14 h15 h16 h17 : Nat) (o0 : Nat) (sz : Nat) (kc0 kc1 kc2 : ClassId) : Met l yX6_startAnew (.code yX6_startAnew cX6_startAnew 1 none :: wsL_law) ({ frames := 6, cells := 0, slots := 0, locals := 127 }) (va_Pc [.ref h0] (PC (dC, dI) [(h0, ce16 h1 h2 o0), (h1, ce7 h3 h4 h5 h6), (h2, ce10 h1), (h3, ce147 h7), (h4, ce147 h8), (h5, ce3 z.1), (h6, ce117 h9), (h7, ce146 kc0 h10 h11 h12 h13), (h8, ce146 kc1 h10 h11 h12 h13), (h9, ce101 kc2 h10 h11 h12), (h10, ce38 (z.2.1 0) h14 h10), (h11, ce77 (z.2.1 0) h15 h11), (h12, ce115 (z.2.1 0) h16 h12), (h13, ce144 (z.2.1 0) h17 h13), (h14, ce3 z.1), (h15, ce3 z.1), (h16, ce3 z.1), (h17, ce3 z.1)] [(kc0, .object "java/lang/Object"), (kc1, .object "java/lang/Object"), (kc2, .object "java/lang/Object")] sz z)) (va_Qv (fun (_ : Unit) => True) (fun (_ : Unit) (t : State) => PG (dC, dI) [(h0, ce16 h1 h2 o0), (h1, ce7 h3 h4 h5 h6), (h2, ce10 h1), (h3, ce147 h7), (h4, ce147 h8), (h5, ce3 z.1), (h6, ce167 h9), (h7, ce146 kc0 h10 h11 h12 h13), (h8, ce146 kc1 h10 h11 h12 h13), (h9, ce146 kc2 h10 h11 h12 h13), (h10, ce38 (z.2.1 0) h14 h10), (h11, ce77 (z.2.1 0) h15 h11), (h12, ce115 (z.2.1 0) h16 h12), (h13, ce165 (z.2.1 0) h17 h13), (h14, ce3 z.1), (h15, ce3 z.1), (h16, ce3 z.1), (h17, ce3 z.1)] [(kc0, .object "java/lang/Object"), (kc1, .object "java/lang/Object"), (kc2, .object "java/lang/Object")] (va_A [(h0, ce16 h1 h2 o0), (h1, ce7 h3 h4 h5 h6), (h2, ce10 h1), (h3, ce147 h7), (h4, ce147 h8), (h5, ce3 z.1), (h6, ce117 h9), (h7, ce146 kc0 h10 h11 h12 h13), (h8, ce146 kc1 h10 h11 h12 h13), (h9, ce101 kc2 h10 h11 h12), (h10, ce38 (z.2.1 0) h14 h10), (h11, ce77 (z.2.1 0) h15 h11), (h12, ce115 (z.2.1 0) h16 h12), (h13, ce144 (z.2.1 0) h17 h13), (h14, ce3 z.1), (h15, ce3 z.1), (h16, ce3 z.1), (h17, ce3 z.1)] sz) sz 0 t) (va_A [(h0, ce16 h1 h2 o0), (h1, ce7 h3 h4 h5 h6), (h2, ce10 h1), (h3, ce147 h7), (h4, ce147 h8), (h5, ce3 z.1), (h6, ce117 h9), (h7, ce146 kc0 h10 h11 h12 h13), (h8, ce146 kc1 h10 h11 h12 h13), (h9, ce101 kc2 h10 h11 h12), (h10, ce38 (z.2.1 0) h14 h10), (h11, ce77 (z.2.1 0) h15 h11), (h12, ce115 (z.2.1 0) h16 h12), (h13, ce144 (z.2.1 0) h17 h13), (h14, ce3 z.1), (h15, ce3 z.1), (h16, ce3 z.1), (h17, ce3 z.1)] sz)) 0 0 (va_A [(h0, ce16 h1 h2 o0), (h1, ce7 h3 h4 h5 h6), (h2, ce10 h1), (h3, ce147 h7), (h4, ce147 h8), (h5, ce3 z.1), (h6, ce117 h9), (h7, ce146 kc0 h10 h11 h12 h13), (h8, ce146 kc1 h10 h11 h12 h13), (h9, ce101 kc2 h10 h11 h12), (h10, ce38 (z.2.1 0) h14 h10), (h11, ce77 (z.2.1 0) h15 h11), (h12, ce115 (z.2.1 0) h16 h12), (h13, ce144 (z.2.1 0) h17 h13), (h14, ce3 z.1), (h15, ce3 z.1), (h16, ce3 z.1), (h17, ce3 z.1)] sz) := by
  refine Met.ofW (cc := cX6_startAnew) (maxL := 1) (ret := none) (by decide) rfl ?_
  intro p e s m args below meth c s₁ B hml hv
  obtain ⟨rfl, hsz, hP, hK, hD0, hX, hT⟩ := hv
  have hx := B.exec
  have hb := B.bytes
  have hr := B.returns
  have hts0 := atoms_spec (ws := .code yX6_startAnew cX6_startAnew 1 none :: wsL_law) B.pre
  have hts := xTail hts0
  have hown : s.vm.findClass RX6 = some m.cls := xown B.named rfl
  have hlocks := B.notSynchronized
  subst hsz
  have hD := hD0.self (sz := s.heap.size)
  generalize hAe : va_A [(h0, ce16 h1 h2 o0), (h1, ce7 h3 h4 h5 h6), (h2, ce10 h1), (h3, ce147 h7), (h4, ce147 h8), (h5, ce3 z.1), (h6, ce117 h9), (h7, ce146 kc0 h10 h11 h12 h13), (h8, ce146 kc1 h10 h11 h12 h13), (h9, ce101 kc2 h10 h11 h12), (h10, ce38 (z.2.1 0) h14 h10), (h11, ce77 (z.2.1 0) h15 h11), (h12, ce115 (z.2.1 0) h16 h12), (h13, ce144 (z.2.1 0) h17 h13), (h14, ce3 z.1), (h15, ce3 z.1), (h16, ce3 z.1), (h17, ce3 z.1)] s.heap.size = A at hD hX ⊢
  have hA : ∀ q : Nat, s.heap.size ≤ q → A q := fun q h => by rw [← hAe]; exact Or.inr h
  have hS : va_S A s.heap s.heap [] := va_S.rf
  have hG : s.heap.size + 0 ≤ s.heap.size := Nat.le_refl _
  have hl := lv_entry ([.ref h0]) (n := 1) (Nat.le_of_ble_eq_true rfl)
  rw [lg_entry_eq]
  generalize (lg_sl ([.ref h0]) ++ List.replicate (1 - (lg_sl ([.ref h0])).length) Slot.unset).toArray = ls at hl ⊢
  have hl : lv_has ls 1 [(0, .ref h0)] := hl
  refine lv_aload_n hx hb dX6_startAnew_0 rfl (lv_at hl 0 rfl) ?_
  refine va_get (D := (dC, dI)) (ci := 6) (v := .ref h1) (C := RX6) (T := TX6) (N := 3) hx hb hts in_X6 hown hK hP 0 rfl rfl 0 (by decide) (hts _ q_34) (fun _ h9 => h9) rfl dX6_startAnew_1 ?_
  have hM3 := k298_layOut l hl9 dC dI z h1 h3 h4 h5 h6 h7 h8 h9 h10 h11 h12 h13 h14 h15 h16 h17 s.heap.size kc0 kc1 kc2
  obtain ⟨hF1, hC4⟩ := pc_M hM3 hP hD hK hS hX hT hA [1, 3, 4, 5, 6, 7, 8, 9, 10, 11, 12, 13, 14, 15, 16, 17] [0, 1, 2] rfl rfl rfl
  refine va_callv (va_runV (As := []) (rest := []) ⟨hx, hb, hml, hown, hts⟩ hM3 (cwV 0 hts (gV q_204 q_205 q_206 q_8 q_203) rfl rfl rfl hV_X0_layOut ⟨Nat.le_of_ble_eq_true rfl, Nat.le_of_ble_eq_true rfl⟩) ⟨pc_blind, va_recv hK hP (ci := 2) (q := (RX0, TX0, 4)) (q0 := 1) rfl rfl, fun U hU hW => ⟨rfl, hC4 U hU hW⟩⟩ rfl rfl hl.1 rfl (lv_room (Nat.le_of_ble_eq_true rfl)) dX6_startAnew_4 ⟨(Nat.le_of_ble_eq_true rfl), (Nat.le_of_ble_eq_true rfl)⟩) hS (fun q9 _ h9 => hF1 q9 h9) hF1 (fun u5 t5 H5 L5 ht5 hvm5 hw5 hB5 hz5 hk5 hS => ?_)
  obtain ⟨hP, hD, hK⟩ := pq_jn (wz := [(h0, ce16 h1 h2 o0), (h2, ce10 h1), (h1, ce7 h3 h4 h5 h6), (h3, ce147 h7), (h4, ce147 h8), (h5, ce3 z.1), (h6, ce167 h9), (h7, ce146 kc0 h10 h11 h12 h13), (h8, ce146 kc1 h10 h11 h12 h13), (h9, ce146 kc2 h10 h11 h12 h13), (h10, ce38 (z.2.1 0) h14 h10), (h11, ce77 (z.2.1 0) h15 h11), (h12, ce115 (z.2.1 0) h16 h12), (h13, ce165 (z.2.1 0) h17 h13), (h14, ce3 z.1), (h15, ce3 z.1), (h16, ce3 z.1), (h17, ce3 z.1)]) (tz := [(kc0, .object "java/lang/Object"), (kc1, .object "java/lang/Object"), (kc2, .object "java/lang/Object")]) hP hD hK [1, 3, 4, 5, 6, 7, 8, 9, 10, 11, 12, 13, 14, 15, 16, 17] [] rfl hk5 hF1 hB5.1 ht5 hvm5 rfl rfl
  have hG : s.heap.size + 0 ≤ H5.size := Nat.le_trans hG hz5
  refine lv_aload_n hx hb dX6_startAnew_7 rfl (lv_at hl 0 rfl) ?_
  refine va_get (D := (dC, dI)) (ci := 6) (v := .ref h2) (C := RX6) (T := TX6) (N := 3) hx hb hts in_X6 hown hK hP 0 rfl rfl 1 (by decide) (hts _ q_43) (fun _ h9 => h9) rfl dX6_startAnew_8 ?_
  have hM9 := k302_restart l hl9 dC dI z h2 h1 h3 h4 h5 h6 h7 h8 h9 h10 h11 h12 h13 h14 h15 h16 h17 H5.size kc0 kc1 kc2
  obtain ⟨hF7, hC10⟩ := pc_M hM9 hP hD hK hS hX hT hA [1, 2, 3, 4, 5, 6, 7, 8, 9, 10, 11, 12, 13] [0, 1, 2] rfl rfl rfl
  refine va_callv (va_runV (As := []) (rest := []) ⟨hx, hb, hml, hown, hts⟩ hM9 (cwV 0 hts (gV q_227 q_228 q_229 q_37 q_226) rfl rfl rfl hV_X5_restart ⟨Nat.le_of_ble_eq_true rfl, Nat.le_of_ble_eq_true rfl⟩) ⟨pc_blind, va_recv hK hP (ci := 5) (q := (RX5, TX5, 2)) (q0 := 1) rfl rfl, fun U hU hW => ⟨rfl, hC10 U hU hW⟩⟩ rfl rfl hl.1 rfl (lv_room (Nat.le_of_ble_eq_true rfl)) dX6_startAnew_11 ⟨(Nat.le_of_ble_eq_true rfl), (Nat.le_of_ble_eq_true rfl)⟩) hS (fun q9 _ h9 => hF7 q9 h9) hF7 (fun u11 t11 H11 L11 ht11 hvm11 hw11 hB11 hz11 hk11 hS => ?_)
  have hP := pq_keep hP hD [1, 2, 3, 4, 5, 6, 7, 8, 9, 10, 11, 12, 13] rfl hk11 hB11.1 ht11
  have hG : s.heap.size + 0 ≤ H11.size := Nat.le_trans hG hz11
  exact W.vret hx hb hr (fun t9 ht9 hW9 => ⟨⟨(), rfl, trivial, ⟨pq_mk2 hP hD hK [0, 2, 1, 3, 4, 5, 6, 7, 8, 9, 10, 11, 12, 13, 14, 15, 16, 17] [0, 1, 2] rfl rfl rfl ht9 hW9, by rw [ht9]; exact Nat.le_trans (Nat.add_le_add_left (Nat.le_of_ble_eq_true rfl) _) hG⟩⟩, hS.F ht9⟩) hS.2.2 dX6_startAnew_14

set_option maxHeartbeats 4000000 in
set_option maxRecDepth 100000 in
theorem k304_addInput (l : Launch) (hl9 : l.stackTraces = false) (dC : Nat → ClassId) (dI : Nat → Nat → Nat) (z : XZ) (h0 h1 h2 h3 h4 h5 h6 h7 h8 h9 h10 h11 h12 h13 h14 h15 : Nat) (o0 : Nat) (sz : Nat) (kc0 kc1 kc2 : ClassId) : Met l yX6_addInput (.code yX6_addInput cX6_addInput 2 (some .int) :: wsL_law) ({ frames := 7, cells := 2, slots := 22, locals := 147 }) (va_Pc [.ref h0] (PC (dC, dI) [(h0, ce16 h1 h2 o0), (h1, ce7 h3 h4 h5 h6), (h2, ce10 h1), (h3, ce102 h7), (h4, ce102 h8), (h5, ce3 z.1), (h6, ce117 h9), (h7, ce101 kc0 h10 h11 h12), (h8, ce101 kc1 h10 h11 h12), (h9, ce101 kc2 h10 h11 h12), (h10, ce38 (z.2.1 0) h13 h10), (h11, ce77 (z.2.1 0) h14 h11), (h12, ce115 (z.2.1 0) h15 h12), (h13, ce3 z.1), (h14, ce3 z.1), (h15, ce3 z.1)] [(kc0, .object "java/lang/Object"), (kc1, .object "java/lang/Object"), (kc2, .object "java/lang/Object")] sz z)) (va_Qi (fun (r : Int32) (_ : Unit) => r = 3) (fun (_ : Unit) (t : State) => ∃ (n0 n1 : Nat), PG (dC, dI) [(h0, ce16 h1 h2 o0), (h1, ce7 h3 h4 h5 h6), (h2, ce10 h1), (h3, ce147 h7), (h4, ce147 h8), (h5, ce3 z.1), (h6, ce167 h9), (h7, ce146 kc0 h10 h11 h12 n0), (h8, ce146 kc1 h10 h11 h12 n0), (h9, ce146 kc2 h10 h11 h12 n0), (h10, ce38 (z.2.1 0) h13 h10), (h11, ce77 (z.2.1 0) h14 h11), (h12, ce115 (z.2.1 0) h15 h12), (h13, ce3 z.1), (h14, ce3 z.1), (h15, ce3 z.1), (n0, ce165 (z.2.1 0) n1 n0), (n1, ce3 z.1)] [(kc0, .object "java/lang/Object"), (kc1, .object "java/lang/Object"), (kc2, .object "java/lang/Object")] (va_A [(h0, ce16 h1 h2 o0), (h1, ce7 h3 h4 h5 h6), (h2, ce10 h1), (h3, ce102 h7), (h4, ce102 h8), (h5, ce3 z.1), (h6, ce117 h9), (h7, ce101 kc0 h10 h11 h12), (h8, ce101 kc1 h10 h11 h12), (h9, ce101 kc2 h10 h11 h12), (h10, ce38 (z.2.1 0) h13 h10), (h11, ce77 (z.2.1 0) h14 h11), (h12, ce115 (z.2.1 0) h15 h12), (h13, ce3 z.1), (h14, ce3 z.1), (h15, ce3 z.1)] sz) sz 2 t) (va_A [(h0, ce16 h1 h2 o0), (h1, ce7 h3 h4 h5 h6), (h2, ce10 h1), (h3, ce102 h7), (h4, ce102 h8), (h5, ce3 z.1), (h6, ce117 h9), (h7, ce101 kc0 h10 h11 h12), (h8, ce101 kc1 h10 h11 h12), (h9, ce101 kc2 h10 h11 h12), (h10, ce38 (z.2.1 0) h13 h10), (h11, ce77 (z.2.1 0) h14 h11), (h12, ce115 (z.2.1 0) h15 h12), (h13, ce3 z.1), (h14, ce3 z.1), (h15, ce3 z.1)] sz)) 2 22 (va_A [(h0, ce16 h1 h2 o0), (h1, ce7 h3 h4 h5 h6), (h2, ce10 h1), (h3, ce102 h7), (h4, ce102 h8), (h5, ce3 z.1), (h6, ce117 h9), (h7, ce101 kc0 h10 h11 h12), (h8, ce101 kc1 h10 h11 h12), (h9, ce101 kc2 h10 h11 h12), (h10, ce38 (z.2.1 0) h13 h10), (h11, ce77 (z.2.1 0) h14 h11), (h12, ce115 (z.2.1 0) h15 h12), (h13, ce3 z.1), (h14, ce3 z.1), (h15, ce3 z.1)] sz) := by
  refine Met.ofW (cc := cX6_addInput) (maxL := 2) (ret := (some .int)) (by decide) rfl ?_
  intro p e s m args below meth c s₁ B hml hv
  obtain ⟨rfl, hsz, hP, hK, hD0, hX, hT⟩ := hv
  have hx := B.exec
  have hb := B.bytes
  have hr := B.returns
  have hts0 := atoms_spec (ws := .code yX6_addInput cX6_addInput 2 (some .int) :: wsL_law) B.pre
  have hts := xTail hts0
  have hown : s.vm.findClass RX6 = some m.cls := xown B.named rfl
  have hlocks := B.notSynchronized
  subst hsz
  have hD := hD0.self (sz := s.heap.size)
  generalize hAe : va_A [(h0, ce16 h1 h2 o0), (h1, ce7 h3 h4 h5 h6), (h2, ce10 h1), (h3, ce102 h7), (h4, ce102 h8), (h5, ce3 z.1), (h6, ce117 h9), (h7, ce101 kc0 h10 h11 h12), (h8, ce101 kc1 h10 h11 h12), (h9, ce101 kc2 h10 h11 h12), (h10, ce38 (z.2.1 0) h13 h10), (h11, ce77 (z.2.1 0) h14 h11), (h12, ce115 (z.2.1 0) h15 h12), (h13, ce3 z.1), (h14, ce3 z.1), (h15, ce3 z.1)] s.heap.size = A at hD hX ⊢
  have hA : ∀ q : Nat, s.heap.size ≤ q → A q := fun q h => by rw [← hAe]; exact Or.inr h
  have hS : va_S A s.heap s.heap [] := va_S.rf
  have hG : s.heap.size + 0 ≤ s.heap.size := Nat.le_refl _
  have hl := lv_entry ([.ref h0]) (n := 2) (Nat.le_of_ble_eq_true rfl)
  rw [lg_entry_eq]
  generalize (lg_sl ([.ref h0]) ++ List.replicate (2 - (lg_sl ([.ref h0])).length) Slot.unset).toArray = ls at hl ⊢
  have hl : lv_has ls 2 [(0, .ref h0)] := hl
  refine lv_aload_n hx hb dX6_addInput_0 rfl (lv_at hl 0 rfl) ?_
  have hM3 := k249_requireRoomForSource l hl9 dC dI z h0 h1 h4 h2 o0 h3 h5 h6 h8 s.heap.size
  obtain ⟨hF1, hC4⟩ := pc_M hM3 hP hD hK hS hX hT hA [0, 1, 4] [] rfl rfl rfl
  refine va_callv (va_runV (As := []) (rest := []) ⟨hx, hb, hml, hown, hts⟩ hM3 (cwV 0 hts (gV q_80 q_81 q_82 q_2 q_79) rfl rfl rfl hV_X6_requireRoomForSource ⟨Nat.le_of_ble_eq_true rfl, Nat.le_of_ble_eq_true rfl⟩) ⟨pc_blind, va_recv hK hP (ci := 6) (q := (RX6, TX6, 3)) (q0 := 0) rfl rfl, fun U hU hW => ⟨rfl, hC4 U hU hW⟩⟩ rfl rfl hl.1 rfl (lv_room (Nat.le_of_ble_eq_true rfl)) dX6_addInput_1 ⟨(Nat.le_of_ble_eq_true rfl), (Nat.le_of_ble_eq_true rfl)⟩) hS (fun q9 _ h9 => hF1 q9 h9) hF1 (fun u5 t5 H5 L5 ht5 hvm5 hw5 hB5 hz5 hk5 hS => ?_)
  have hP := pq_keep hP hD [0, 1, 4] rfl hk5 hB5.1 ht5
  have hG : s.heap.size + 0 ≤ H5.size := Nat.le_trans hG hz5
  refine lv_aload_n hx hb dX6_addInput_4 rfl (lv_at hl 0 rfl) ?_
  have hM9 := k250_requireRoomForNet l hl9 dC dI z h0 h1 h3 h2 o0 h4 h5 h6 h7 H5.size
  obtain ⟨hF7, hC10⟩ := pc_M hM9 hP hD hK hS hX hT hA [0, 1, 3] [] rfl rfl rfl
  refine va_callv (va_runV (As := []) (rest := []) ⟨hx, hb, hml, hown, hts⟩ hM9 (cwV 0 hts (gV q_85 q_86 q_87 q_2 q_84) rfl rfl rfl hV_X6_requireRoomForNet ⟨Nat.le_of_ble_eq_true rfl, Nat.le_of_ble_eq_true rfl⟩) ⟨pc_blind, va_recv hK hP (ci := 6) (q := (RX6, TX6, 3)) (q0 := 0) rfl rfl, fun U hU hW => ⟨rfl, hC10 U hU hW⟩⟩ rfl rfl hl.1 rfl (lv_room (Nat.le_of_ble_eq_true rfl)) dX6_addInput_5 ⟨(Nat.le_of_ble_eq_true rfl), (Nat.le_of_ble_eq_true rfl)⟩) hS (fun q9 _ h9 => hF7 q9 h9) hF7 (fun u11 t11 H11 L11 ht11 hvm11 hw11 hB11 hz11 hk11 hS => ?_)
  have hP := pq_keep hP hD [0, 1, 3] rfl hk11 hB11.1 ht11
  have hG : s.heap.size + 0 ≤ H11.size := Nat.le_trans hG hz11
  refine lv_aload_n hx hb dX6_addInput_8 rfl (lv_at hl 0 rfl) ?_
  refine va_get (D := (dC, dI)) (ci := 6) (v := .ref h1) (C := RX6) (T := TX6) (N := 3) hx hb hts in_X6 hown hK hP 0 rfl rfl 0 (by decide) (hts _ q_34) (fun _ h9 => h9) rfl dX6_addInput_9 ?_
  refine va_gets (own := RX6) (ref := "Deltacycle$NetKind") hx hb (hX.2.1.1 0 (by decide)).1 hS hown (hts _ q_88) (fun _ h9 => h9) dX6_addInput_12 ?_
  have hM15 := k255_makeNet l hl9 dC dI z h1 h3 h4 h7 h8 h5 h6 h10 h11 h12 H11.size kc0 kc1
  obtain ⟨hF13, hC16⟩ := pc_M hM15 hP hD hK hS hX hT hA [1, 3, 4, 7, 8] [0, 1] rfl rfl rfl
  refine va_callr (va_runV (As := [.ref (z.2.1 0)]) (rest := []) ⟨hx, hb, hml, hown, hts⟩ hM15 (cwV 1 hts (gV q_136 q_137 q_138 q_8 q_135) rfl rfl rfl hV_X0_makeNet ⟨Nat.le_of_ble_eq_true rfl, Nat.le_of_ble_eq_true rfl⟩) ⟨pc_blind, va_recv hK hP (ci := 2) (q := (RX0, TX0, 4)) (q0 := 1) rfl rfl, fun U hU hW => ⟨rfl, hC16 U hU hW⟩⟩ rfl rfl hl.1 rfl (lv_room (Nat.le_of_ble_eq_true rfl)) dX6_addInput_15 ⟨(Nat.le_of_ble_eq_true rfl), (Nat.le_of_ble_eq_true rfl)⟩) hS (fun q9 _ h9 => hF13 q9 h9) hF13 (fun u17 r18 t17 H17 L17 ht17 hvm17 hw17 hB17 hz17 hk17 hS => ?_)
  obtain ⟨a19, a20, hr17, hB17⟩ := hB17
  obtain ⟨hP, hD, hK⟩ := pq_jn (wz := [(h0, ce16 h1 h2 o0), (h2, ce10 h1), (h5, ce3 z.1), (h6, ce117 h9), (h9, ce101 kc2 h10 h11 h12), (h10, ce38 (z.2.1 0) h13 h10), (h11, ce77 (z.2.1 0) h14 h11), (h12, ce115 (z.2.1 0) h15 h12), (h13, ce3 z.1), (h14, ce3 z.1), (h15, ce3 z.1), (h1, ce7 h3 h4 h5 h6), (h3, ce147 h7), (h4, ce147 h8), (h7, ce146 kc0 h10 h11 h12 a19), (h8, ce146 kc1 h10 h11 h12 a19), (a19, ce144 (z.2.1 0) a20 a19), (a20, ce3 z.1)]) (tz := [(kc2, .object "java/lang/Object"), (kc0, .object "java/lang/Object"), (kc1, .object "java/lang/Object")]) hP hD hK [1, 3, 4, 7, 8] [2] rfl hk17 hF13 hB17.1 ht17 hvm17 rfl rfl
  have hG : s.heap.size + 2 ≤ H17.size := va_gr (g := 0) (g1 := 2) hG (by rw [← ht17]; exact hB17.2)
  refine W.eq (g2 := F0 m 18 ls [.ref a19]) (by rw [hr17]) ?_
  refine W.widen (k := 2) (n := 22) (by decide) (by decide) ?_
  refine lv_astore_n (lv' := [(1, .ref a19), (0, .ref h0)]) hx hb dX6_addInput_18 rfl hl (by decide) rfl (fun ls hl => ?_)
  refine lv_aload_n hx hb dX6_addInput_19 rfl (lv_at hl 1 rfl) ?_
  have hM23 := k303_startAnew l hl9 dC dI z h0 h1 h2 h3 h4 h5 h6 h7 h8 h9 h10 h11 h12 a19 h13 h14 h15 a20 o0 H17.size kc0 kc1 kc2
  obtain ⟨hF21, hC24⟩ := pc_M hM23 hP hD hK hS hX hT hA [0, 11, 1, 12, 13, 2, 3, 14, 15, 4, 5, 6, 7, 16, 8, 9, 10, 17] [1, 2, 0] rfl rfl rfl
  refine va_callv (va_runV (As := []) (rest := []) ⟨hx, hb, hml, hown, hts⟩ hM23 (cwV 0 hts (gV q_231 q_232 q_233 q_2 q_230) rfl rfl rfl hV_X6_startAnew ⟨Nat.le_of_ble_eq_true rfl, Nat.le_of_ble_eq_true rfl⟩) ⟨pc_blind, va_recv hK hP (ci := 6) (q := (RX6, TX6, 3)) (q0 := 0) rfl rfl, fun U hU hW => ⟨rfl, hC24 U hU hW⟩⟩ rfl rfl hl.1 rfl (lv_room (Nat.le_of_ble_eq_true rfl)) dX6_addInput_20 ⟨(Nat.le_of_ble_eq_true rfl), (Nat.le_of_ble_eq_true rfl)⟩) hS (fun q9 _ h9 => hF21 q9 h9) hF21 (fun u25 t25 H25 L25 ht25 hvm25 hw25 hB25 hz25 hk25 hS => ?_)
  obtain ⟨hP, hD, hK⟩ := pq_jn (wz := [(h0, ce16 h1 h2 o0), (h1, ce7 h3 h4 h5 h6), (h2, ce10 h1), (h3, ce147 h7), (h4, ce147 h8), (h5, ce3 z.1), (h6, ce167 h9), (h7, ce146 kc0 h10 h11 h12 a19), (h8, ce146 kc1 h10 h11 h12 a19), (h9, ce146 kc2 h10 h11 h12 a19), (h10, ce38 (z.2.1 0) h13 h10), (h11, ce77 (z.2.1 0) h14 h11), (h12, ce115 (z.2.1 0) h15 h12), (a19, ce165 (z.2.1 0) a20 a19), (h13, ce3 z.1), (h14, ce3 z.1), (h15, ce3 z.1), (a20, ce3 z.1)]) (tz := [(kc0, .object "java/lang/Object"), (kc1, .object "java/lang/Object"), (kc2, .object "java/lang/Object")]) hP hD hK [0, 11, 1, 12, 13, 2, 3, 14, 15, 4, 5, 6, 7, 16, 8, 9, 10, 17] [] rfl hk25 hF21 hB25.1 ht25 hvm25 rfl rfl
  have hG : s.heap.size + 2 ≤ H25.size := Nat.le_trans hG hz25
  refine lv_aload_n hx hb dX6_addInput_23 rfl (lv_at hl 0 rfl) ?_
  refine va_get (D := (dC, dI)) (ci := 3) (v := .int 3) (C := RX2) (T := TX2) (N := 19) hx hb hts in_X2 hown hK hP 13 rfl rfl 0 (by decide) (hts _ q_234) (fun _ h9 => h9) rfl dX6_addInput_24 ?_
  exact W.iret (v := 3) hx hb hr (fun t9 ht9 hW9 => ⟨⟨3, (), rfl, rfl, ⟨a19, a20, ⟨pq_mk2 hP hD hK [0, 1, 2, 3, 4, 5, 6, 7, 8, 9, 10, 11, 12, 14, 15, 16, 13, 17] [0, 1, 2] rfl rfl rfl ht9 hW9, by rw [ht9]; exact Nat.le_trans (Nat.add_le_add_left (Nat.le_of_ble_eq_true rfl) _) hG⟩⟩⟩, hS.F ht9⟩) hS.2.2 dX6_addInput_27

set_option maxHeartbeats 4000000 in
set_option maxRecDepth 100000 in
theorem k305_addInput (l : Launch) (hl9 : l.stackTraces = false) (dC : Nat → ClassId) (dI : Nat → Nat → Nat) (z : XZ) (h0 h1 h2 h3 h4 h5 h6 h7 h8 h9 h10 h11 h12 h13 h14 h15 h16 : Nat) (o0 : Nat) (sz : Nat) (kc0 kc1 kc2 kc3 : ClassId) : Met l yL_addInput (.codeWith yL_addInput cL_addInput 3 (some .int) [(0, 8, 11, 13), (0, 8, 14, 15)] :: wsL_law) ({ frames := 8, cells := 2, slots := 22, locals := 168 }) (va_Pc [.ref h0, .ref h1] (PC (dC, dI) [(h0, ce16 h2 h3 o0), (h1, ce119 kc0), (h2, ce7 h4 h5 h6 h7), (h3, ce10 h2), (h4, ce102 h8), (h5, ce102 h9), (h6, ce3 z.1), (h7, ce117 h10), (h8, ce101 kc1 h11 h12 h13), (h9, ce101 kc2 h11 h12 h13), (h10, ce101 kc3 h11 h12 h13), (h11, ce38 (z.2.1 0) h14 h11), (h12, ce77 (z.2.1 0) h15 h12), (h13, ce115 (z.2.1 0) h16 h13), (h14, ce3 z.1), (h15, ce3 z.1), (h16, ce3 z.1)] [(kc0, .long), (kc1, .object "java/lang/Object"), (kc2, .object "java/lang/Object"), (kc3, .object "java/lang/Object")] sz z)) (va_Qi (fun (r : Int32) (_ : Unit) => r = 0) (fun (_ : Unit) (t : State) => ∃ (n0 n1 : Nat), PG (dC, dI) [(h0, ce16 h2 h3 o0), (h1, ce169 kc0), (h2, ce7 h4 h5 h6 h7), (h3, ce10 h2), (h4, ce147 h8), (h5, ce147 h9), (h6, ce3 z.1), (h7, ce167 h10), (h8, ce146 kc1 h11 h12 h13 n0), (h9, ce146 kc2 h11 h12 h13 n0), (h10, ce146 kc3 h11 h12 h13 n0), (h11, ce38 (z.2.1 0) h14 h11), (h12, ce77 (z.2.1 0) h15 h12), (h13, ce115 (z.2.1 0) h16 h13), (h14, ce3 z.1), (h15, ce3 z.1), (h16, ce3 z.1), (n0, ce165 (z.2.1 0) n1 n0), (n1, ce3 z.1)] [(kc0, .long), (kc1, .object "java/lang/Object"), (kc2, .object "java/lang/Object"), (kc3, .object "java/lang/Object")] (va_A [(h0, ce16 h2 h3 o0), (h1, ce119 kc0), (h2, ce7 h4 h5 h6 h7), (h3, ce10 h2), (h4, ce102 h8), (h5, ce102 h9), (h6, ce3 z.1), (h7, ce117 h10), (h8, ce101 kc1 h11 h12 h13), (h9, ce101 kc2 h11 h12 h13), (h10, ce101 kc3 h11 h12 h13), (h11, ce38 (z.2.1 0) h14 h11), (h12, ce77 (z.2.1 0) h15 h12), (h13, ce115 (z.2.1 0) h16 h13), (h14, ce3 z.1), (h15, ce3 z.1), (h16, ce3 z.1)] sz) sz 2 t) (va_A [(h0, ce16 h2 h3 o0), (h1, ce119 kc0), (h2, ce7 h4 h5 h6 h7), (h3, ce10 h2), (h4, ce102 h8), (h5, ce102 h9), (h6, ce3 z.1), (h7, ce117 h10), (h8, ce101 kc1 h11 h12 h13), (h9, ce101 kc2 h11 h12 h13), (h10, ce101 kc3 h11 h12 h13), (h11, ce38 (z.2.1 0) h14 h11), (h12, ce77 (z.2.1 0) h15 h12), (h13, ce115 (z.2.1 0) h16 h13), (h14, ce3 z.1), (h15, ce3 z.1), (h16, ce3 z.1)] sz)) 2 22 (va_A [(h0, ce16 h2 h3 o0), (h1, ce119 kc0), (h2, ce7 h4 h5 h6 h7), (h3, ce10 h2), (h4, ce102 h8), (h5, ce102 h9), (h6, ce3 z.1), (h7, ce117 h10), (h8, ce101 kc1 h11 h12 h13), (h9, ce101 kc2 h11 h12 h13), (h10, ce101 kc3 h11 h12 h13), (h11, ce38 (z.2.1 0) h14 h11), (h12, ce77 (z.2.1 0) h15 h12), (h13, ce115 (z.2.1 0) h16 h13), (h14, ce3 z.1), (h15, ce3 z.1), (h16, ce3 z.1)] sz) := by
  refine va_MetW (cc := cL_addInput) (maxL := 3) (ret := (some .int)) (hh := [(0, 8, 11, 13), (0, 8, 14, 15)]) (by decide) rfl ?_
  intro p e s m args below meth c s₁ B hml hv
  obtain ⟨rfl, hsz, hP, hK, hD0, hX, hT⟩ := hv
  have hx := B.exec
  have hb := B.bytes
  have hr := B.returns
  have hts0 := atoms_spec (ws := .codeWith yL_addInput cL_addInput 3 (some .int) [(0, 8, 11, 13), (0, 8, 14, 15)] :: wsL_law) B.pre
  have htab := vx_table (x := yL_addInput) B (hts0 _ List.mem_cons_self)
  have hts := xTail hts0
  have hown : s.vm.findClass RL = some m.cls := xown B.named rfl
  have hlocks := B.notSynchronized
  subst hsz
  have hD := hD0.self (sz := s.heap.size)
  generalize hAe : va_A [(h0, ce16 h2 h3 o0), (h1, ce119 kc0), (h2, ce7 h4 h5 h6 h7), (h3, ce10 h2), (h4, ce102 h8), (h5, ce102 h9), (h6, ce3 z.1), (h7, ce117 h10), (h8, ce101 kc1 h11 h12 h13), (h9, ce101 kc2 h11 h12 h13), (h10, ce101 kc3 h11 h12 h13), (h11, ce38 (z.2.1 0) h14 h11), (h12, ce77 (z.2.1 0) h15 h12), (h13, ce115 (z.2.1 0) h16 h13), (h14, ce3 z.1), (h15, ce3 z.1), (h16, ce3 z.1)] s.heap.size = A at hD hX ⊢
  have hA : ∀ q : Nat, s.heap.size ≤ q → A q := fun q h => by rw [← hAe]; exact Or.inr h
  have hS : va_S A s.heap s.heap [] := va_S.rf
  have hG : s.heap.size + 0 ≤ s.heap.size := Nat.le_refl _
  have hl := lv_entry ([.ref h0, .ref h1]) (n := 3) (Nat.le_of_ble_eq_true rfl)
  rw [lg_entry_eq]
  generalize (lg_sl ([.ref h0, .ref h1]) ++ List.replicate (3 - (lg_sl ([.ref h0, .ref h1])).length) Slot.unset).toArray = ls at hl ⊢
  have hl : lv_has ls 3 [(0, .ref h0), (1, .ref h1)] := hl
  refine lv_aload_n hx hb dL_addInput_0 rfl (lv_at hl 1 rfl) ?_
  refine lv_iconst (v := 0) hx hb dL_addInput_1 (by decide) ?_
  refine lv_aload_n hx hb dL_addInput_2 rfl (lv_at hl 0 rfl) ?_
  have hM3 := k304_addInput l hl9 dC dI z h0 h2 h3 h4 h5 h6 h7 h8 h9 h10 h11 h12 h13 h14 h15 h16 o0 s.heap.size kc1 kc2 kc3
  obtain ⟨hF1, hC4⟩ := pc_M hM3 hP hD hK hS hX hT hA [0, 2, 3, 4, 5, 6, 7, 8, 9, 10, 11, 12, 13, 14, 15, 16] [1, 2, 3] rfl rfl rfl
  refine va_calli (va_runV (As := []) (rest := [.int 0, .ref h1]) ⟨hx, hb, hml, hown, hts⟩ hM3 (cwV 0 hts (gV q_236 q_237 q_238 q_2 q_235) rfl rfl rfl hV_X6_addInput ⟨Nat.le_of_ble_eq_true rfl, Nat.le_of_ble_eq_true rfl⟩) ⟨pc_blind, va_recv hK hP (ci := 6) (q := (RX6, TX6, 3)) (q0 := 0) rfl rfl, fun U hU hW => ⟨rfl, hC4 U hU hW⟩⟩ rfl rfl hl.1 rfl (lv_room (Nat.le_of_ble_eq_true rfl)) dL_addInput_3 ⟨(Nat.le_of_ble_eq_true rfl), (Nat.le_of_ble_eq_true rfl)⟩) hS (fun q9 _ h9 => hF1 q9 h9) hF1 (fun r6 u5 t5 H5 L5 ht5 hvm5 hw5 hB5 hz5 hk5 hS => ?_)
  obtain ⟨a7, a8, hB5⟩ := hB5
  obtain ⟨hP, hD, hK⟩ := pq_jn (wz := [(h1, ce119 kc0), (h0, ce16 h2 h3 o0), (h2, ce7 h4 h5 h6 h7), (h3, ce10 h2), (h4, ce147 h8), (h5, ce147 h9), (h6, ce3 z.1), (h7, ce167 h10), (h8, ce146 kc1 h11 h12 h13 a7), (h9, ce146 kc2 h11 h12 h13 a7), (h10, ce146 kc3 h11 h12 h13 a7), (h11, ce38 (z.2.1 0) h14 h11), (h12, ce77 (z.2.1 0) h15 h12), (h13, ce115 (z.2.1 0) h16 h13), (h14, ce3 z.1), (h15, ce3 z.1), (h16, ce3 z.1), (a7, ce165 (z.2.1 0) a8 a7), (a8, ce3 z.1)]) (tz := [(kc0, .long), (kc1, .object "java/lang/Object"), (kc2, .object "java/lang/Object"), (kc3, .object "java/lang/Object")]) hP hD hK [0, 2, 3, 4, 5, 6, 7, 8, 9, 10, 11, 12, 13, 14, 15, 16] [0] rfl hk5 hF1 hB5.1 ht5 hvm5 rfl rfl
  have hG : s.heap.size + 2 ≤ H5.size := va_gr (g := 0) (g1 := 2) hG (by rw [← ht5]; exact hB5.2)
  refine W.eq (g2 := F0 m 6 ls [.int 3, .int 0, .ref h1]) (by rw [hw5]) ?_
  refine W.widen (k := 2) (n := 22) (by decide) (by decide) ?_
  refine lv_i2l (v := 3) hx hb dL_addInput_6 (by decide) ?_
  refine va_last hx hb hK hP hD (va_Sre hS) 0 0 rfl rfl (i := 0) (by unfold vp_in; decide) dL_addInput_7 (fun H9 _ hP hD hS' => ?_)
  have hG : s.heap.size + 2 ≤ H9.size := Nat.le_trans hG hS'.1
  have hS := va_Str hS hS'
  have hP : va_P (dC, dI) xCl [(h1, ce168 kc0), (h0, ce16 h2 h3 o0), (h2, ce7 h4 h5 h6 h7), (h3, ce10 h2), (h4, ce147 h8), (h5, ce147 h9), (h6, ce3 z.1), (h7, ce167 h10), (h8, ce146 kc1 h11 h12 h13 a7), (h9, ce146 kc2 h11 h12 h13 a7), (h10, ce146 kc3 h11 h12 h13 a7), (h11, ce38 (z.2.1 0) h14 h11), (h12, ce77 (z.2.1 0) h15 h12), (h13, ce115 (z.2.1 0) h16 h13), (h14, ce3 z.1), (h15, ce3 z.1), (h16, ce3 z.1), (a7, ce165 (z.2.1 0) a8 a7), (a8, ce3 z.1)] H9 := hP
  have hD := vd_as hP hD rfl
  refine lv_goto (tgt := 17) hx hb dL_addInput_8 (by decide) ?_
  refine lv_iconst (v := 0) hx hb dL_addInput_17 (by decide) ?_
  have ehu10 : (vp_updL (vp_updL (fun _ => 0) 0 2) 0 3) = (vp_updL (fun _ => 0) 0 3) := by funext j; by_cases g0 : j = 0; (subst g0; rfl); simp only [vp_updL, g0, if_false]
  have hu10 : (ce168 kc0 : va_E) = ce169 kc0 := (show (.inl (kc0, 1, .inr (.inl (vp_updL (vp_updL (fun _ => 0) 0 2) 0 3))) : va_E) = .inl (kc0, 1, .inr (.inl (vp_updL (fun _ => 0) 0 3))) by rw [ehu10])
  rw [hu10] at hP hD
  have hP : va_P (dC, dI) xCl [(h1, ce169 kc0), (h0, ce16 h2 h3 o0), (h2, ce7 h4 h5 h6 h7), (h3, ce10 h2), (h4, ce147 h8), (h5, ce147 h9), (h6, ce3 z.1), (h7, ce167 h10), (h8, ce146 kc1 h11 h12 h13 a7), (h9, ce146 kc2 h11 h12 h13 a7), (h10, ce146 kc3 h11 h12 h13 a7), (h11, ce38 (z.2.1 0) h14 h11), (h12, ce77 (z.2.1 0) h15 h12), (h13, ce115 (z.2.1 0) h16 h13), (h14, ce3 z.1), (h15, ce3 z.1), (h16, ce3 z.1), (a7, ce165 (z.2.1 0) a8 a7), (a8, ce3 z.1)] H9 := hP
  have hD := vd_as hP hD rfl
  exact W.iret (v := 0) hx hb hr (fun t9 ht9 hW9 => ⟨⟨0, (), rfl, rfl, ⟨a7, a8, ⟨pq_mk2 hP hD hK [1, 0, 2, 3, 4, 5, 6, 7, 8, 9, 10, 11, 12, 13, 14, 15, 16, 17, 18] [0, 1, 2, 3] rfl rfl rfl ht9 hW9, by rw [ht9]; exact Nat.le_trans (Nat.add_le_add_left (Nat.le_of_ble_eq_true rfl) _) hG⟩⟩⟩, hS.F ht9⟩) hS.2.2 dL_addInput_18

set_option maxHeartbeats 4000000 in
set_option maxRecDepth 100000 in
theorem k306_sources (l : Launch) (hl9 : l.stackTraces = false) (dC : Nat → ClassId) (dI : Nat → Nat → Nat) (z : XZ) (h0 h1 h2 h3 h4 h5 : Nat) (o0 o1 o2 : Nat) (sz : Nat) (kc0 : ClassId) : Met l yX9_sources (.code yX9_sources cX9_sources 4 (some .int) :: wsL_law) ({ frames := 3, cells := 1, slots := 4, locals := 57 }) (va_Pc [.ref h0] (PC (dC, dI) [(h0, ce21 h1 o0 o1 o2), (h1, ce102 h2), (h2, ce101 kc0 h3 h4 h5), (h3, ce49), (h4, ce49), (h5, ce49)] [(kc0, .object "java/lang/Object")] sz z)) (va_Qi (fun (r : Int32) (_ : Unit) => r = 3) (fun (_ : Unit) (t : State) => PG (dC, dI) [(h0, ce21 h1 o0 o1 o2), (h1, ce102 h2), (h2, ce101 kc0 h3 h4 h5), (h3, ce49), (h4, ce49), (h5, ce49)] [(kc0, .object "java/lang/Object")] (va_A [(h0, ce21 h1 o0 o1 o2), (h1, ce102 h2), (h2, ce101 kc0 h3 h4 h5), (h3, ce49), (h4, ce49), (h5, ce49)] sz) sz 1 t) (va_A [(h0, ce21 h1 o0 o1 o2), (h1, ce102 h2), (h2, ce101 kc0 h3 h4 h5), (h3, ce49), (h4, ce49), (h5, ce49)] sz)) 1 4 (va_A [(h0, ce21 h1 o0 o1 o2), (h1, ce102 h2), (h2, ce101 kc0 h3 h4 h5), (h3, ce49), (h4, ce49), (h5, ce49)] sz) := by
  refine Met.ofW (cc := cX9_sources) (maxL := 4) (ret := (some .int)) (by decide) rfl ?_
  intro p e s m args below meth c s₁ B hml hv
  obtain ⟨rfl, hsz, hP, hK, hD0, hX, hT⟩ := hv
  have hx := B.exec
  have hb := B.bytes
  have hr := B.returns
  have hts0 := atoms_spec (ws := .code yX9_sources cX9_sources 4 (some .int) :: wsL_law) B.pre
  have hts := xTail hts0
  have hown : s.vm.findClass RX9 = some m.cls := xown B.named rfl
  have hlocks := B.notSynchronized
  subst hsz
  have hD := hD0.self (sz := s.heap.size)
  generalize hAe : va_A [(h0, ce21 h1 o0 o1 o2), (h1, ce102 h2), (h2, ce101 kc0 h3 h4 h5), (h3, ce49), (h4, ce49), (h5, ce49)] s.heap.size = A at hD hX ⊢
  have hA : ∀ q : Nat, s.heap.size ≤ q → A q := fun q h => by rw [← hAe]; exact Or.inr h
  have hS : va_S A s.heap s.heap [] := va_S.rf
  have hG : s.heap.size + 0 ≤ s.heap.size := Nat.le_refl _
  have hl := lv_entry ([.ref h0]) (n := 4) (Nat.le_of_ble_eq_true rfl)
  rw [lg_entry_eq]
  generalize (lg_sl ([.ref h0]) ++ List.replicate (4 - (lg_sl ([.ref h0])).length) Slot.unset).toArray = ls at hl ⊢
  have hl : lv_has ls 4 [(0, .ref h0)] := hl
  refine lv_iconst (v := 0) hx hb dX9_sources_0 (by decide) ?_
  refine lv_istore_n (lv' := [(1, .int 0), (0, .ref h0)]) hx hb dX9_sources_1 rfl hl (by decide) rfl (fun ls hl => ?_)
  refine lv_aload_n hx hb dX9_sources_2 rfl (lv_at hl 1 rfl) ?_
  refine va_get (D := (dC, dI)) (ci := 8) (v := .ref h1) (C := RX9) (T := TX9) (N := 6) hx hb hts in_X9 hown hK hP 0 rfl rfl 1 (by decide) (hts _ q_64) (fun _ h9 => h9) rfl dX9_sources_3 ?_
  have hM3 := k220_iterator l hl9 dC dI z h1 h2 s.heap.size
  obtain ⟨hF1, hC4⟩ := pc_M hM3 hP hD hK hS hX hT hA [1] [] rfl rfl rfl
  refine va_callr (va_runV (As := []) (rest := []) ⟨hx, hb, hml, hown, hts⟩ hM3 (cwV 0 hts (gV q_256 q_257 q_258 q_12 q_255) rfl rfl rfl hV_Jx4a65c_iterator_32c93 ⟨Nat.le_of_ble_eq_true rfl, Nat.le_of_ble_eq_true rfl⟩) ⟨pc_blind, va_recv hK hP (ci := 0) (q := (RJx4a65c, TJx4a65c, 3)) (q0 := 1) rfl rfl, fun U hU hW => ⟨rfl, hC4 U hU hW⟩⟩ rfl rfl hl.1 rfl (lv_room (Nat.le_of_ble_eq_true rfl)) dX9_sources_6 ⟨(Nat.le_of_ble_eq_true rfl), (Nat.le_of_ble_eq_true rfl)⟩) hS (fun q9 _ h9 => hF1 q9 h9) hF1 (fun u5 r6 t5 H5 L5 ht5 hvm5 hw5 hB5 hz5 hk5 hS => ?_)
  obtain ⟨a7, hr5, hB5⟩ := hB5
  obtain ⟨hP, hD, hK⟩ := pq_jn (wz := [(h0, ce21 h1 o0 o1 o2), (h2, ce101 kc0 h3 h4 h5), (h3, ce49), (h4, ce49), (h5, ce49), (h1, ce102 h2), (a7, ce121 h1)]) (tz := [(kc0, .object "java/lang/Object")]) hP hD hK [1] [0] rfl hk5 hF1 hB5.1 ht5 hvm5 rfl rfl
  have hG : s.heap.size + 1 ≤ H5.size := va_gr (g := 0) (g1 := 1) hG (by rw [← ht5]; exact hB5.2)
  refine W.eq (g2 := F0 m 9 ls [.ref a7]) (by rw [hr5]) ?_
  refine W.widen (k := 1) (n := 4) (by decide) (by decide) ?_
  refine lv_astore_n (lv' := [(2, .ref a7), (1, .int 0), (0, .ref h0)]) hx hb dX9_sources_9 rfl hl (by decide) rfl (fun ls hl => ?_)
  refine lv_aload_n hx hb dX9_sources_10 rfl (lv_at hl 0 rfl) ?_
  have hM10 := k221_hasNext l hl9 dC dI z a7 h1 h2 H5.size
  obtain ⟨hF8, hC11⟩ := pc_M hM10 hP hD hK hS hX hT hA [6, 5] [] rfl rfl rfl
  refine va_callFi (va_runF (As := []) (rest := []) (hK.1 1 (RJx35411, TJx35411, 4) rfl).2 ⟨hx, hb, hml, hown, hts⟩ hM10 (va_cwF 0 hts (gF q_261 q_262 q_263 q_246 q_260) rfl rfl rfl hT.2.2.2.2.2.2.1 hF_xIh ⟨Nat.le_of_ble_eq_true rfl, Nat.le_of_ble_eq_true rfl⟩) ⟨pc_blind, va_recv hK hP (ci := 1) (q := (RJx35411, TJx35411, 4)) (q0 := 6) rfl rfl, fun U hU hW => ⟨rfl, hC11 U hU hW⟩⟩ rfl rfl hl.1 rfl (lv_room (Nat.le_of_ble_eq_true rfl)) dX9_sources_11 ⟨(Nat.le_of_ble_eq_true rfl), (Nat.le_of_ble_eq_true rfl)⟩) hS (fun q9 _ h9 => hF8 q9 h9) hF8 (fun r13 u12 t12 H12 L12 ht12 hvm12 hw12 hB12 hz12 hk12 hS => ?_)
  have hP := pq_keep hP hD [6, 5] rfl hk12 hB12.1 ht12
  have hG : s.heap.size + 1 ≤ H12.size := Nat.le_trans hG hz12
  refine W.eq (g2 := F0 m 16 ls [.int 1]) (by rw [hw12]) ?_
  refine lv_if_eq (tgt := 47) hx hb dX9_sources_16 (by decide) (fun cz => absurd cz (by decide)) (fun _ => ?_)
  refine lv_aload_n hx hb dX9_sources_19 rfl (lv_at hl 0 rfl) ?_
  have hM16 := k223_next l hl9 dC dI z a7 h1 h2 h3 h4 h5 H12.size kc0
  obtain ⟨hF14, hC17⟩ := pc_M hM16 hP hD hK hS hX hT hA [6, 5, 1] [0] rfl rfl rfl
  refine va_callFr (va_runF (As := []) (rest := []) (hK.1 1 (RJx35411, TJx35411, 4) rfl).2 ⟨hx, hb, hml, hown, hts⟩ hM16 (va_cwF 0 hts (gF q_308 q_309 q_310 q_246 q_307) rfl rfl rfl hT.2.2.2.2.2.2.2.1 hF_xIn ⟨Nat.le_of_ble_eq_true rfl, Nat.le_of_ble_eq_true rfl⟩) ⟨pc_blind, va_recv hK hP (ci := 1) (q := (RJx35411, TJx35411, 4)) (q0 := 6) rfl rfl, fun U hU hW => ⟨rfl, hC17 U hU hW⟩⟩ rfl rfl hl.1 rfl (lv_room (Nat.le_of_ble_eq_true rfl)) dX9_sources_20 ⟨(Nat.le_of_ble_eq_true rfl), (Nat.le_of_ble_eq_true rfl)⟩) hS (fun q9 _ h9 => hF14 q9 h9) hF14 (fun u18 r19 t18 H18 L18 ht18 hvm18 hw18 hB18 hz18 hk18 hS => ?_)
  obtain ⟨hr18, hB18⟩ := hB18
  obtain ⟨hP, hD, hK⟩ := pq_jn (wz := [(h0, ce21 h1 o0 o1 o2), (h3, ce49), (h4, ce49), (h5, ce49), (a7, ce123 h1), (h1, ce102 h2), (h2, ce101 kc0 h3 h4 h5)]) (tz := [(kc0, .object "java/lang/Object")]) hP hD hK [6, 5, 1] [] rfl hk18 hF14 hB18.1 ht18 hvm18 rfl rfl
  have hG : s.heap.size + 1 ≤ H18.size := Nat.le_trans hG hz18
  refine W.eq (g2 := F0 m 25 ls [.ref h3]) (by rw [hr18]) ?_
  refine va_castE (nm := RX8) hx hb hown (hts _ q_273) (va_recv hK hP (ci := 7) (q := (RX8, TX8, 6)) (q0 := 1) rfl rfl) dX9_sources_25 ?_
  refine lv_astore_n (lv' := [(3, .ref h3), (2, .ref a7), (1, .int 0), (0, .ref h0)]) hx hb dX9_sources_28 rfl hl (by decide) rfl (fun ls hl => ?_)
  refine lv_iload_n hx hb dX9_sources_29 rfl (lv_at hl 2 rfl) ?_
  refine lv_aload_n hx hb dX9_sources_30 rfl (lv_at hl 0 rfl) ?_
  have hM22 := k121_isSource l hl9 dC dI z h3 H18.size
  obtain ⟨hF20, hC23⟩ := pc_M hM22 hP hD hK hS hX hT hA [1] [] rfl rfl rfl
  refine va_calli (va_runV (As := []) (rest := [.int 0]) ⟨hx, hb, hml, hown, hts⟩ hM22 (cwV 0 hts (gV q_344 q_345 q_346 q_275 q_343) rfl rfl rfl hV_X8_isSource ⟨Nat.le_of_ble_eq_true rfl, Nat.le_of_ble_eq_true rfl⟩) ⟨pc_blind, va_recv hK hP (ci := 7) (q := (RX8, TX8, 6)) (q0 := 1) rfl rfl, fun U hU hW => ⟨rfl, hC23 U hU hW⟩⟩ rfl rfl hl.1 rfl (lv_room (Nat.le_of_ble_eq_true rfl)) dX9_sources_31 ⟨(Nat.le_of_ble_eq_true rfl), (Nat.le_of_ble_eq_true rfl)⟩) hS (fun q9 _ h9 => hF20 q9 h9) hF20 (fun r25 u24 t24 H24 L24 ht24 hvm24 hw24 hB24 hz24 hk24 hS => ?_)
  have hP := pq_keep hP hD [1] rfl hk24 hB24.1 ht24
  have hG : s.heap.size + 1 ≤ H24.size := Nat.le_trans hG hz24
  refine W.eq (g2 := F0 m 34 ls [.int 1, .int 0]) (by rw [hw24]) ?_
  refine lv_if_eq (tgt := 41) hx hb dX9_sources_34 (by decide) (fun cz => absurd cz (by decide)) (fun _ => ?_)
  refine lv_iconst (v := 1) hx hb dX9_sources_37 (by decide) ?_
  refine lv_goto (tgt := 42) hx hb dX9_sources_38 (by decide) ?_
  refine lv_iadd hx hb dX9_sources_42 ?_
  refine lv_topi (fun y26 ey26 => ?_)
  obtain rfl : y26 = 1 := ey26.trans (by decide)
  refine lv_istore_n (lv' := [(1, .int 1), (3, .ref h3), (2, .ref a7), (0, .ref h0)]) hx hb dX9_sources_43 rfl hl (by decide) rfl (fun ls hl => ?_)
  refine lv_goto (tgt := 10) hx hb dX9_sources_44 (by decide) ?_
  refine lv_aload_n hx hb dX9_sources_10 rfl (lv_at hl 2 rfl) ?_
  have hM29 := k224_hasNext l hl9 dC dI z a7 h1 h2 H24.size
  obtain ⟨hF27, hC30⟩ := pc_M hM29 hP hD hK hS hX hT hA [4, 5] [] rfl rfl rfl
  refine va_callFi (va_runF (As := []) (rest := []) (hK.1 1 (RJx35411, TJx35411, 4) rfl).2 ⟨hx, hb, hml, hown, hts⟩ hM29 (va_cwF 0 hts (gF q_261 q_262 q_263 q_246 q_260) rfl rfl rfl hT.2.2.2.2.2.2.1 hF_xIh ⟨Nat.le_of_ble_eq_true rfl, Nat.le_of_ble_eq_true rfl⟩) ⟨pc_blind, va_recv hK hP (ci := 1) (q := (RJx35411, TJx35411, 4)) (q0 := 4) rfl rfl, fun U hU hW => ⟨rfl, hC30 U hU hW⟩⟩ rfl rfl hl.1 rfl (lv_room (Nat.le_of_ble_eq_true rfl)) dX9_sources_11 ⟨(Nat.le_of_ble_eq_true rfl), (Nat.le_of_ble_eq_true rfl)⟩) hS (fun q9 _ h9 => hF27 q9 h9) hF27 (fun r32 u31 t31 H31 L31 ht31 hvm31 hw31 hB31 hz31 hk31 hS => ?_)
  have hP := pq_keep hP hD [4, 5] rfl hk31 hB31.1 ht31
  have hG : s.heap.size + 1 ≤ H31.size := Nat.le_trans hG hz31
  refine W.eq (g2 := F0 m 16 ls [.int 1]) (by rw [hw31]) ?_
  refine lv_if_eq (tgt := 47) hx hb dX9_sources_16 (by decide) (fun cz => absurd cz (by decide)) (fun _ => ?_)
  refine lv_aload_n hx hb dX9_sources_19 rfl (lv_at hl 2 rfl) ?_
  have hM35 := k226_next l hl9 dC dI z a7 h1 h2 h3 h4 h5 H31.size kc0
  obtain ⟨hF33, hC36⟩ := pc_M hM35 hP hD hK hS hX hT hA [4, 5, 6] [0] rfl rfl rfl
  refine va_callFr (va_runF (As := []) (rest := []) (hK.1 1 (RJx35411, TJx35411, 4) rfl).2 ⟨hx, hb, hml, hown, hts⟩ hM35 (va_cwF 0 hts (gF q_308 q_309 q_310 q_246 q_307) rfl rfl rfl hT.2.2.2.2.2.2.2.1 hF_xIn ⟨Nat.le_of_ble_eq_true rfl, Nat.le_of_ble_eq_true rfl⟩) ⟨pc_blind, va_recv hK hP (ci := 1) (q := (RJx35411, TJx35411, 4)) (q0 := 4) rfl rfl, fun U hU hW => ⟨rfl, hC36 U hU hW⟩⟩ rfl rfl hl.1 rfl (lv_room (Nat.le_of_ble_eq_true rfl)) dX9_sources_20 ⟨(Nat.le_of_ble_eq_true rfl), (Nat.le_of_ble_eq_true rfl)⟩) hS (fun q9 _ h9 => hF33 q9 h9) hF33 (fun u37 r38 t37 H37 L37 ht37 hvm37 hw37 hB37 hz37 hk37 hS => ?_)
  obtain ⟨hr37, hB37⟩ := hB37
  obtain ⟨hP, hD, hK⟩ := pq_jn (wz := [(h0, ce21 h1 o0 o1 o2), (h3, ce49), (h4, ce49), (h5, ce49), (a7, ce125 h1), (h1, ce102 h2), (h2, ce101 kc0 h3 h4 h5)]) (tz := [(kc0, .object "java/lang/Object")]) hP hD hK [4, 5, 6] [] rfl hk37 hF33 hB37.1 ht37 hvm37 rfl rfl
  have hG : s.heap.size + 1 ≤ H37.size := Nat.le_trans hG hz37
  refine W.eq (g2 := F0 m 25 ls [.ref h4]) (by rw [hr37]) ?_
  refine va_castE (nm := RX8) hx hb hown (hts _ q_273) (va_recv hK hP (ci := 7) (q := (RX8, TX8, 6)) (q0 := 2) rfl rfl) dX9_sources_25 ?_
  refine lv_astore_n (lv' := [(3, .ref h4), (1, .int 1), (2, .ref a7), (0, .ref h0)]) hx hb dX9_sources_28 rfl hl (by decide) rfl (fun ls hl => ?_)
  refine lv_iload_n hx hb dX9_sources_29 rfl (lv_at hl 1 rfl) ?_
  refine lv_aload_n hx hb dX9_sources_30 rfl (lv_at hl 0 rfl) ?_
  have hM41 := k121_isSource l hl9 dC dI z h4 H37.size
  obtain ⟨hF39, hC42⟩ := pc_M hM41 hP hD hK hS hX hT hA [2] [] rfl rfl rfl
  refine va_calli (va_runV (As := []) (rest := [.int 1]) ⟨hx, hb, hml, hown, hts⟩ hM41 (cwV 0 hts (gV q_344 q_345 q_346 q_275 q_343) rfl rfl rfl hV_X8_isSource ⟨Nat.le_of_ble_eq_true rfl, Nat.le_of_ble_eq_true rfl⟩) ⟨pc_blind, va_recv hK hP (ci := 7) (q := (RX8, TX8, 6)) (q0 := 2) rfl rfl, fun U hU hW => ⟨rfl, hC42 U hU hW⟩⟩ rfl rfl hl.1 rfl (lv_room (Nat.le_of_ble_eq_true rfl)) dX9_sources_31 ⟨(Nat.le_of_ble_eq_true rfl), (Nat.le_of_ble_eq_true rfl)⟩) hS (fun q9 _ h9 => hF39 q9 h9) hF39 (fun r44 u43 t43 H43 L43 ht43 hvm43 hw43 hB43 hz43 hk43 hS => ?_)
  have hP := pq_keep hP hD [2] rfl hk43 hB43.1 ht43
  have hG : s.heap.size + 1 ≤ H43.size := Nat.le_trans hG hz43
  refine W.eq (g2 := F0 m 34 ls [.int 1, .int 1]) (by rw [hw43]) ?_
  refine lv_if_eq (tgt := 41) hx hb dX9_sources_34 (by decide) (fun cz => absurd cz (by decide)) (fun _ => ?_)
  refine lv_iconst (v := 1) hx hb dX9_sources_37 (by decide) ?_
  refine lv_goto (tgt := 42) hx hb dX9_sources_38 (by decide) ?_
  refine lv_iadd hx hb dX9_sources_42 ?_
  refine lv_topi (fun y45 ey45 => ?_)
  obtain rfl : y45 = 2 := ey45.trans (by decide)
  refine lv_istore_n (lv' := [(1, .int 2), (3, .ref h4), (2, .ref a7), (0, .ref h0)]) hx hb dX9_sources_43 rfl hl (by decide) rfl (fun ls hl => ?_)
  refine lv_goto (tgt := 10) hx hb dX9_sources_44 (by decide) ?_
  refine lv_aload_n hx hb dX9_sources_10 rfl (lv_at hl 2 rfl) ?_
  have hM48 := k227_hasNext l hl9 dC dI z a7 h1 h2 H43.size
  obtain ⟨hF46, hC49⟩ := pc_M hM48 hP hD hK hS hX hT hA [4, 5] [] rfl rfl rfl
  refine va_callFi (va_runF (As := []) (rest := []) (hK.1 1 (RJx35411, TJx35411, 4) rfl).2 ⟨hx, hb, hml, hown, hts⟩ hM48 (va_cwF 0 hts (gF q_261 q_262 q_263 q_246 q_260) rfl rfl rfl hT.2.2.2.2.2.2.1 hF_xIh ⟨Nat.le_of_ble_eq_true rfl, Nat.le_of_ble_eq_true rfl⟩) ⟨pc_blind, va_recv hK hP (ci := 1) (q := (RJx35411, TJx35411, 4)) (q0 := 4) rfl rfl, fun U hU hW => ⟨rfl, hC49 U hU hW⟩⟩ rfl rfl hl.1 rfl (lv_room (Nat.le_of_ble_eq_true rfl)) dX9_sources_11 ⟨(Nat.le_of_ble_eq_true rfl), (Nat.le_of_ble_eq_true rfl)⟩) hS (fun q9 _ h9 => hF46 q9 h9) hF46 (fun r51 u50 t50 H50 L50 ht50 hvm50 hw50 hB50 hz50 hk50 hS => ?_)
  have hP := pq_keep hP hD [4, 5] rfl hk50 hB50.1 ht50
  have hG : s.heap.size + 1 ≤ H50.size := Nat.le_trans hG hz50
  refine W.eq (g2 := F0 m 16 ls [.int 1]) (by rw [hw50]) ?_
  refine lv_if_eq (tgt := 47) hx hb dX9_sources_16 (by decide) (fun cz => absurd cz (by decide)) (fun _ => ?_)
  refine lv_aload_n hx hb dX9_sources_19 rfl (lv_at hl 2 rfl) ?_
  have hM54 := k229_next l hl9 dC dI z a7 h1 h2 h3 h4 h5 H50.size kc0
  obtain ⟨hF52, hC55⟩ := pc_M hM54 hP hD hK hS hX hT hA [4, 5, 6] [0] rfl rfl rfl
  refine va_callFr (va_runF (As := []) (rest := []) (hK.1 1 (RJx35411, TJx35411, 4) rfl).2 ⟨hx, hb, hml, hown, hts⟩ hM54 (va_cwF 0 hts (gF q_308 q_309 q_310 q_246 q_307) rfl rfl rfl hT.2.2.2.2.2.2.2.1 hF_xIn ⟨Nat.le_of_ble_eq_true rfl, Nat.le_of_ble_eq_true rfl⟩) ⟨pc_blind, va_recv hK hP (ci := 1) (q := (RJx35411, TJx35411, 4)) (q0 := 4) rfl rfl, fun U hU hW => ⟨rfl, hC55 U hU hW⟩⟩ rfl rfl hl.1 rfl (lv_room (Nat.le_of_ble_eq_true rfl)) dX9_sources_20 ⟨(Nat.le_of_ble_eq_true rfl), (Nat.le_of_ble_eq_true rfl)⟩) hS (fun q9 _ h9 => hF52 q9 h9) hF52 (fun u56 r57 t56 H56 L56 ht56 hvm56 hw56 hB56 hz56 hk56 hS => ?_)
  obtain ⟨hr56, hB56⟩ := hB56
  obtain ⟨hP, hD, hK⟩ := pq_jn (wz := [(h0, ce21 h1 o0 o1 o2), (h3, ce49), (h4, ce49), (h5, ce49), (a7, ce127 h1), (h1, ce102 h2), (h2, ce101 kc0 h3 h4 h5)]) (tz := [(kc0, .object "java/lang/Object")]) hP hD hK [4, 5, 6] [] rfl hk56 hF52 hB56.1 ht56 hvm56 rfl rfl
  have hG : s.heap.size + 1 ≤ H56.size := Nat.le_trans hG hz56
  refine W.eq (g2 := F0 m 25 ls [.ref h5]) (by rw [hr56]) ?_
  refine va_castE (nm := RX8) hx hb hown (hts _ q_273) (va_recv hK hP (ci := 7) (q := (RX8, TX8, 6)) (q0 := 3) rfl rfl) dX9_sources_25 ?_
  refine lv_astore_n (lv' := [(3, .ref h5), (1, .int 2), (2, .ref a7), (0, .ref h0)]) hx hb dX9_sources_28 rfl hl (by decide) rfl (fun ls hl => ?_)
  refine lv_iload_n hx hb dX9_sources_29 rfl (lv_at hl 1 rfl) ?_
  refine lv_aload_n hx hb dX9_sources_30 rfl (lv_at hl 0 rfl) ?_
  have hM60 := k121_isSource l hl9 dC dI z h5 H56.size
  obtain ⟨hF58, hC61⟩ := pc_M hM60 hP hD hK hS hX hT hA [3] [] rfl rfl rfl
  refine va_calli (va_runV (As := []) (rest := [.int 2]) ⟨hx, hb, hml, hown, hts⟩ hM60 (cwV 0 hts (gV q_344 q_345 q_346 q_275 q_343) rfl rfl rfl hV_X8_isSource ⟨Nat.le_of_ble_eq_true rfl, Nat.le_of_ble_eq_true rfl⟩) ⟨pc_blind, va_recv hK hP (ci := 7) (q := (RX8, TX8, 6)) (q0 := 3) rfl rfl, fun U hU hW => ⟨rfl, hC61 U hU hW⟩⟩ rfl rfl hl.1 rfl (lv_room (Nat.le_of_ble_eq_true rfl)) dX9_sources_31 ⟨(Nat.le_of_ble_eq_true rfl), (Nat.le_of_ble_eq_true rfl)⟩) hS (fun q9 _ h9 => hF58 q9 h9) hF58 (fun r63 u62 t62 H62 L62 ht62 hvm62 hw62 hB62 hz62 hk62 hS => ?_)
  have hP := pq_keep hP hD [3] rfl hk62 hB62.1 ht62
  have hG : s.heap.size + 1 ≤ H62.size := Nat.le_trans hG hz62
  refine W.eq (g2 := F0 m 34 ls [.int 1, .int 2]) (by rw [hw62]) ?_
  refine lv_if_eq (tgt := 41) hx hb dX9_sources_34 (by decide) (fun cz => absurd cz (by decide)) (fun _ => ?_)
  refine lv_iconst (v := 1) hx hb dX9_sources_37 (by decide) ?_
  refine lv_goto (tgt := 42) hx hb dX9_sources_38 (by decide) ?_
  refine lv_iadd hx hb dX9_sources_42 ?_
  refine lv_topi (fun y64 ey64 => ?_)
  obtain rfl : y64 = 3 := ey64.trans (by decide)
  refine lv_istore_n (lv' := [(1, .int 3), (3, .ref h5), (2, .ref a7), (0, .ref h0)]) hx hb dX9_sources_43 rfl hl (by decide) rfl (fun ls hl => ?_)
  refine lv_goto (tgt := 10) hx hb dX9_sources_44 (by decide) ?_
  refine lv_aload_n hx hb dX9_sources_10 rfl (lv_at hl 2 rfl) ?_
  have hM67 := k230_hasNext l hl9 dC dI z a7 h1 h2 H62.size
  obtain ⟨hF65, hC68⟩ := pc_M hM67 hP hD hK hS hX hT hA [4, 5] [] rfl rfl rfl
  refine va_callFi (va_runF (As := []) (rest := []) (hK.1 1 (RJx35411, TJx35411, 4) rfl).2 ⟨hx, hb, hml, hown, hts⟩ hM67 (va_cwF 0 hts (gF q_261 q_262 q_263 q_246 q_260) rfl rfl rfl hT.2.2.2.2.2.2.1 hF_xIh ⟨Nat.le_of_ble_eq_true rfl, Nat.le_of_ble_eq_true rfl⟩) ⟨pc_blind, va_recv hK hP (ci := 1) (q := (RJx35411, TJx35411, 4)) (q0 := 4) rfl rfl, fun U hU hW => ⟨rfl, hC68 U hU hW⟩⟩ rfl rfl hl.1 rfl (lv_room (Nat.le_of_ble_eq_true rfl)) dX9_sources_11 ⟨(Nat.le_of_ble_eq_true rfl), (Nat.le_of_ble_eq_true rfl)⟩) hS (fun q9 _ h9 => hF65 q9 h9) hF65 (fun r70 u69 t69 H69 L69 ht69 hvm69 hw69 hB69 hz69 hk69 hS => ?_)
  have hP := pq_keep hP hD [4, 5] rfl hk69 hB69.1 ht69
  have hG : s.heap.size + 1 ≤ H69.size := Nat.le_trans hG hz69
  refine W.eq (g2 := F0 m 16 ls [.int 0]) (by rw [hw69]) ?_
  refine lv_if_eq (tgt := 47) hx hb dX9_sources_16 (by decide) (fun _ => ?_) (fun cz => absurd (by decide) cz)
  refine lv_iload_n hx hb dX9_sources_47 rfl (lv_at hl 0 rfl) ?_
  exact W.iret (v := 3) hx hb hr (fun t9 ht9 hW9 => ⟨⟨3, (), rfl, rfl, ⟨pq_mk2 hP hD hK [0, 5, 6, 1, 2, 3] [0] rfl rfl rfl ht9 hW9, by rw [ht9]; exact Nat.le_trans (Nat.add_le_add_left (Nat.le_of_ble_eq_true rfl) _) hG⟩⟩, hS.F ht9⟩) hS.2.2 dX9_sources_48

set_option maxHeartbeats 4000000 in
set_option maxRecDepth 100000 in
theorem k307_add (l : Launch) (hl9 : l.stackTraces = false) (dC : Nat → ClassId) (dI : Nat → Nat → Nat) (z : XZ) (h0 h1 h2 : Nat) (o0 o1 o2 : Nat) (sz : Nat) (kc0 : ClassId) : Met l yJx4a65c_add_72be8 (.code yJx4a65c_add_72be8 cJx4a65c_add_72be8 4 none :: wsL_law) ({ frames := 0, cells := 0, slots := 0, locals := 0 }) (va_Pc [.ref h0, .ref h1, .ref h2, .int 3] (PC (dC, dI) [(h0, ce145 h2), (h1, ce49), (h2, ce101 kc0 o0 o1 o2)] [(kc0, .object "java/lang/Object")] sz z)) (va_Qv (fun (_ : Unit) => True) (fun (_ : Unit) (t : State) => PG (dC, dI) [(h0, ce147 h2), (h1, ce49), (h2, ce146 kc0 o0 o1 o2 h1)] [(kc0, .object "java/lang/Object")] (va_A [(h0, ce145 h2), (h1, ce49), (h2, ce101 kc0 o0 o1 o2)] sz) sz 0 t) (va_A [(h0, ce145 h2), (h1, ce49), (h2, ce101 kc0 o0 o1 o2)] sz)) 0 0 (va_A [(h0, ce145 h2), (h1, ce49), (h2, ce101 kc0 o0 o1 o2)] sz) := by
  refine Met.ofW (cc := cJx4a65c_add_72be8) (maxL := 4) (ret := none) (by decide) rfl ?_
  intro p e s m args below meth c s₁ B hml hv
  obtain ⟨rfl, hsz, hP, hK, hD0, hX, hT⟩ := hv
  have hx := B.exec
  have hb := B.bytes
  have hr := B.returns
  have hts0 := atoms_spec (ws := .code yJx4a65c_add_72be8 cJx4a65c_add_72be8 4 none :: wsL_law) B.pre
  have hts := xTail hts0
  have hown : s.vm.findClass RJx4a65c = some m.cls := xown B.named rfl
  have hlocks := B.notSynchronized
  subst hsz
  have hD := hD0.self (sz := s.heap.size)
  generalize hAe : va_A [(h0, ce145 h2), (h1, ce49), (h2, ce101 kc0 o0 o1 o2)] s.heap.size = A at hD hX ⊢
  have hA : ∀ q : Nat, s.heap.size ≤ q → A q := fun q h => by rw [← hAe]; exact Or.inr h
  have hS : va_S A s.heap s.heap [] := va_S.rf
  have hG : s.heap.size + 0 ≤ s.heap.size := Nat.le_refl _
  have hl := lv_entry ([.ref h0, .ref h1, .ref h2, .int 3]) (n := 4) (Nat.le_of_ble_eq_true rfl)
  rw [lg_entry_eq]
  generalize (lg_sl ([.ref h0, .ref h1, .ref h2, .int 3]) ++ List.replicate (4 - (lg_sl ([.ref h0, .ref h1, .ref h2, .int 3])).length) Slot.unset).toArray = ls at hl ⊢
  have hl : lv_has ls 4 [(0, .ref h0), (1, .ref h1), (2, .ref h2), (3, .int 3)] := hl
  refine lv_iload_n hx hb dJx4a65c_add_72be8_0 rfl (lv_at hl 3 rfl) ?_
  refine lv_aload_n hx hb dJx4a65c_add_72be8_1 rfl (lv_at hl 2 rfl) ?_
  refine va_alen hx hb hK hP 2 0 rfl rfl (v := 10) rfl dJx4a65c_add_72be8_2 ?_
  refine lv_icmp_ne (tgt := 11) hx hb dJx4a65c_add_72be8_3 (by decide) (fun _ => ?_) (fun cz => absurd cz (by decide))
  refine lv_aload_n hx hb dJx4a65c_add_72be8_11 rfl (lv_at hl 2 rfl) ?_
  refine lv_iload_n hx hb dJx4a65c_add_72be8_12 rfl (lv_at hl 3 rfl) ?_
  refine lv_aload_n hx hb dJx4a65c_add_72be8_13 rfl (lv_at hl 1 rfl) ?_
  refine vb_astq (E := "java/lang/Object") (C := RX8) hx hb hK hP hD (va_Sre hS) 2 0 rfl rfl (va_recv hK hP (ci := 7) (q := (RX8, TX8, 6)) (q0 := 1) rfl rfl) (vb_asgC (hT.2.1.1 (RX8, "java/lang/Object") (by decide))) (i := 3) (by unfold vp_in; decide) dJx4a65c_add_72be8_14 (fun H1 _ hP hD hS' => ?_)
  have hG : s.heap.size + 0 ≤ H1.size := Nat.le_trans hG hS'.1
  have hS := va_Str hS hS'
  have hP : va_P (dC, dI) xCl [(h0, ce145 h2), (h1, ce49), (h2, ce146 kc0 o0 o1 o2 h1)] H1 := hP
  have hD := vd_as hP hD rfl
  refine lv_aload_n hx hb dJx4a65c_add_72be8_15 rfl (lv_at hl 0 rfl) ?_
  refine lv_iload_n hx hb dJx4a65c_add_72be8_16 rfl (lv_at hl 3 rfl) ?_
  refine lv_iconst (v := 1) hx hb dJx4a65c_add_72be8_17 (by decide) ?_
  refine lv_iadd hx hb dJx4a65c_add_72be8_18 ?_
  refine lv_topi (fun y2 ey2 => ?_)
  obtain rfl : y2 = 4 := ey2.trans (by decide)
  refine va_put (D := (dC, dI)) (ci := 0) (v := .int 4) (ty := .int) (C := RJx4a65c) (T := TJx4a65c) (N := 3) hx hb hts in_Jx4a65c tyJx4a65c tyJx4a65c_ok nmJx4a65c hown hK hP hD (va_Sre hS) 0 rfl rfl 2 (by decide) (hts _ q_74) (fun _ h9 => h9) rfl (by decide +kernel) rfl rfl (Nat.le_of_ble_eq_true rfl) dJx4a65c_add_72be8_19 (fun H3 _ hP hD hS' => ?_)
  have hG : s.heap.size + 0 ≤ H3.size := Nat.le_trans hG hS'.1
  have hS := va_Str hS hS'
  have hP : va_P (dC, dI) xCl [(h0, ce147 h2), (h1, ce49), (h2, ce146 kc0 o0 o1 o2 h1)] H3 := hP
  have hD := vd_as hP hD rfl
  exact W.vret hx hb hr (fun t9 ht9 hW9 => ⟨⟨(), rfl, trivial, ⟨pq_mk2 hP hD hK [0, 1, 2] [0] rfl rfl rfl ht9 hW9, by rw [ht9]; exact Nat.le_trans (Nat.add_le_add_left (Nat.le_of_ble_eq_true rfl) _) hG⟩⟩, hS.F ht9⟩) hS.2.2 dJx4a65c_add_72be8_22

set_option maxHeartbeats 4000000 in
set_option maxRecDepth 100000 in
theorem k308_add (l : Launch) (hl9 : l.stackTraces = false) (dC : Nat → ClassId) (dI : Nat → Nat → Nat) (z : XZ) (h0 h1 h2 : Nat) (o0 o1 o2 : Nat) (sz : Nat) (kc0 : ClassId) : Met l yJx4a65c_add_9ea2d (.code yJx4a65c_add_9ea2d cJx4a65c_add_9ea2d 2 (some .boolean) :: wsL_law) ({ frames := 1, cells := 0, slots := 0, locals := 23 }) (va_Pc [.ref h0, .ref h1] (PC (dC, dI) [(h0, ce102 h2), (h1, ce49), (h2, ce101 kc0 o0 o1 o2)] [(kc0, .object "java/lang/Object")] sz z)) (va_Qi (fun (r : Int32) (_ : Unit) => r = 1) (fun (_ : Unit) (t : State) => PG (dC, dI) [(h0, ce147 h2), (h1, ce49), (h2, ce146 kc0 o0 o1 o2 h1)] [(kc0, .object "java/lang/Object")] (va_A [(h0, ce102 h2), (h1, ce49), (h2, ce101 kc0 o0 o1 o2)] sz) sz 0 t) (va_A [(h0, ce102 h2), (h1, ce49), (h2, ce101 kc0 o0 o1 o2)] sz)) 0 0 (va_A [(h0, ce102 h2), (h1, ce49), (h2, ce101 kc0 o0 o1 o2)] sz) := by
  refine Met.ofW (cc := cJx4a65c_add_9ea2d) (maxL := 2) (ret := (some .boolean)) (by decide) rfl ?_
  intro p e s m args below meth c s₁ B hml hv
  obtain ⟨rfl, hsz, hP, hK, hD0, hX, hT⟩ := hv
  have hx := B.exec
  have hb := B.bytes
  have hr := B.returns
  have hts0 := atoms_spec (ws := .code yJx4a65c_add_9ea2d cJx4a65c_add_9ea2d 2 (some .boolean) :: wsL_law) B.pre
  have hts := xTail hts0
  have hown : s.vm.findClass RJx4a65c = some m.cls := xown B.named rfl
  have hlocks := B.notSynchronized
  subst hsz
  have hD := hD0.self (sz := s.heap.size)
  generalize hAe : va_A [(h0, ce102 h2), (h1, ce49), (h2, ce101 kc0 o0 o1 o2)] s.heap.size = A at hD hX ⊢
  have hA : ∀ q : Nat, s.heap.size ≤ q → A q := fun q h => by rw [← hAe]; exact Or.inr h
  have hS : va_S A s.heap s.heap [] := va_S.rf
  have hG : s.heap.size + 0 ≤ s.heap.size := Nat.le_refl _
  have hl := lv_entry ([.ref h0, .ref h1]) (n := 2) (Nat.le_of_ble_eq_true rfl)
  rw [lg_entry_eq]
  generalize (lg_sl ([.ref h0, .ref h1]) ++ List.replicate (2 - (lg_sl ([.ref h0, .ref h1])).length) Slot.unset).toArray = ls at hl ⊢
  have hl : lv_has ls 2 [(0, .ref h0), (1, .ref h1)] := hl
  refine lv_aload_n hx hb dJx4a65c_add_9ea2d_0 rfl (lv_at hl 0 rfl) ?_
  refine lv_dup hx hb dJx4a65c_add_9ea2d_1 rfl ?_
  refine va_get (D := (dC, dI)) (ci := 0) (v := .int 3) (C := RJx4a65c) (T := TJx4a65c) (N := 3) hx hb hts in_Jx4a65c hown hK hP 0 rfl rfl 0 (by decide) (hts _ q_108) (u_same (hts _ q_107)) rfl dJx4a65c_add_9ea2d_2 ?_
  refine lv_iconst (v := 1) hx hb dJx4a65c_add_9ea2d_5 (by decide) ?_
  refine lv_iadd hx hb dJx4a65c_add_9ea2d_6 ?_
  refine lv_topi (fun y1 ey1 => ?_)
  obtain rfl : y1 = 4 := ey1.trans (by decide)
  refine va_put (D := (dC, dI)) (ci := 0) (v := .int 4) (ty := .int) (C := RJx4a65c) (T := TJx4a65c) (N := 3) hx hb hts in_Jx4a65c tyJx4a65c tyJx4a65c_ok nmJx4a65c hown hK hP hD (va_Sre hS) 0 rfl rfl 0 (by decide) (hts _ q_108) (u_same (hts _ q_107)) rfl (by decide +kernel) rfl rfl (Nat.le_of_ble_eq_true rfl) dJx4a65c_add_9ea2d_7 (fun H2 _ hP hD hS' => ?_)
  have hG : s.heap.size + 0 ≤ H2.size := Nat.le_trans hG hS'.1
  have hS := va_Str hS hS'
  have hP : va_P (dC, dI) xCl [(h0, ce145 h2), (h1, ce49), (h2, ce101 kc0 o0 o1 o2)] H2 := hP
  have hD := vd_as hP hD rfl
  refine lv_aload_n hx hb dJx4a65c_add_9ea2d_10 rfl (lv_at hl 0 rfl) ?_
  refine lv_aload_n hx hb dJx4a65c_add_9ea2d_11 rfl (lv_at hl 1 rfl) ?_
  refine lv_aload_n hx hb dJx4a65c_add_9ea2d_12 rfl (lv_at hl 0 rfl) ?_
  refine va_get (D := (dC, dI)) (ci := 0) (v := .ref h2) (C := RJx4a65c) (T := TJx4a65c) (N := 3) hx hb hts in_Jx4a65c hown hK hP 0 rfl rfl 1 (by decide) (hts _ q_24) (fun _ h9 => h9) rfl dJx4a65c_add_9ea2d_13 ?_
  refine lv_aload_n hx hb dJx4a65c_add_9ea2d_16 rfl (lv_at hl 0 rfl) ?_
  refine va_get (D := (dC, dI)) (ci := 0) (v := .int 3) (C := RJx4a65c) (T := TJx4a65c) (N := 3) hx hb hts in_Jx4a65c hown hK hP 0 rfl rfl 2 (by decide) (hts _ q_74) (fun _ h9 => h9) rfl dJx4a65c_add_9ea2d_17 ?_
  have hM5 := k307_add l hl9 dC dI z h0 h1 h2 o0 o1 o2 H2.size kc0
  obtain ⟨hF3, hC6⟩ := pc_M hM5 hP hD hK hS hX hT hA [0, 1, 2] [0] rfl rfl rfl
  refine va_callv (va_runV (As := [.ref h1, .ref h2, .int 3]) (rest := []) ⟨hx, hb, hml, hown, hts⟩ hM5 (cwV 3 hts (gV q_123 q_124 q_125 q_12 q_122) rfl rfl rfl hV_Jx4a65c_add_72be8 ⟨Nat.le_of_ble_eq_true rfl, Nat.le_of_ble_eq_true rfl⟩) ⟨pc_blind, va_recv hK hP (ci := 0) (q := (RJx4a65c, TJx4a65c, 3)) (q0 := 0) rfl rfl, fun U hU hW => ⟨rfl, hC6 U hU hW⟩⟩ rfl rfl hl.1 rfl (lv_room (Nat.le_of_ble_eq_true rfl)) dJx4a65c_add_9ea2d_20 ⟨(Nat.le_of_ble_eq_true rfl), (Nat.le_of_ble_eq_true rfl)⟩) hS (fun q9 _ h9 => hF3 q9 h9) hF3 (fun u7 t7 H7 L7 ht7 hvm7 hw7 hB7 hz7 hk7 hS => ?_)
  obtain ⟨hP, hD, hK⟩ := pq_jn (wz := [(h0, ce147 h2), (h1, ce49), (h2, ce146 kc0 o0 o1 o2 h1)]) (tz := [(kc0, .object "java/lang/Object")]) hP hD hK [0, 1, 2] [] rfl hk7 hF3 hB7.1 ht7 hvm7 rfl rfl
  have hG : s.heap.size + 0 ≤ H7.size := Nat.le_trans hG hz7
  refine lv_iconst (v := 1) hx hb dJx4a65c_add_9ea2d_23 (by decide) ?_
  exact W.zret (v := 1) (ty := .boolean) hx hb hr rfl (fun t9 ht9 hW9 => ⟨⟨1, (), rfl, rfl, ⟨pq_mk2 hP hD hK [0, 1, 2] [0] rfl rfl rfl ht9 hW9, by rw [ht9]; exact Nat.le_trans (Nat.add_le_add_left (Nat.le_of_ble_eq_true rfl) _) hG⟩⟩, hS.F ht9⟩) hS.2.2 dJx4a65c_add_9ea2d_24

set_option maxHeartbeats 4000000 in
set_option maxRecDepth 100000 in
theorem k309_add (l : Launch) (hl9 : l.stackTraces = false) (dC : Nat → ClassId) (dI : Nat → Nat → Nat) (z : XZ) (h0 h1 h2 : Nat) (o0 o1 o2 o3 o4 o5 : Nat) (sz : Nat) (kc0 : ClassId) : Met l yX9_add (.code yX9_add cX9_add 2 (some .int) :: wsL_law) ({ frames := 2, cells := 1, slots := 6, locals := 44 }) (va_Pc [.ref h0, .int 105] (PC (dC, dI) [(h0, ce21 h1 o0 o1 o2), (h1, ce102 h2), (h2, ce101 kc0 o3 o4 o5)] [(kc0, .object "java/lang/Object")] sz z)) (va_Qi (fun (r : Int32) (_ : Unit) => r = 3) (fun (_ : Unit) (t : State) => ∃ (n0 : Nat), PG (dC, dI) [(h0, ce21 h1 o0 o1 o2), (h1, ce147 h2), (h2, ce146 kc0 o3 o4 o5 n0), (n0, ce49)] [(kc0, .object "java/lang/Object")] (va_A [(h0, ce21 h1 o0 o1 o2), (h1, ce102 h2), (h2, ce101 kc0 o3 o4 o5)] sz) sz 1 t) (va_A [(h0, ce21 h1 o0 o1 o2), (h1, ce102 h2), (h2, ce101 kc0 o3 o4 o5)] sz)) 1 6 (va_A [(h0, ce21 h1 o0 o1 o2), (h1, ce102 h2), (h2, ce101 kc0 o3 o4 o5)] sz) := by
  refine Met.ofW (cc := cX9_add) (maxL := 2) (ret := (some .int)) (by decide) rfl ?_
  intro p e s m args below meth c s₁ B hml hv
  obtain ⟨rfl, hsz, hP, hK, hD0, hX, hT⟩ := hv
  have hx := B.exec
  have hb := B.bytes
  have hr := B.returns
  have hts0 := atoms_spec (ws := .code yX9_add cX9_add 2 (some .int) :: wsL_law) B.pre
  have hts := xTail hts0
  have hown : s.vm.findClass RX9 = some m.cls := xown B.named rfl
  have hlocks := B.notSynchronized
  subst hsz
  have hD := hD0.self (sz := s.heap.size)
  generalize hAe : va_A [(h0, ce21 h1 o0 o1 o2), (h1, ce102 h2), (h2, ce101 kc0 o3 o4 o5)] s.heap.size = A at hD hX ⊢
  have hA : ∀ q : Nat, s.heap.size ≤ q → A q := fun q h => by rw [← hAe]; exact Or.inr h
  have hS : va_S A s.heap s.heap [] := va_S.rf
  have hG : s.heap.size + 0 ≤ s.heap.size := Nat.le_refl _
  have hl := lv_entry ([.ref h0, .int 105]) (n := 2) (Nat.le_of_ble_eq_true rfl)
  rw [lg_entry_eq]
  generalize (lg_sl ([.ref h0, .int 105]) ++ List.replicate (2 - (lg_sl ([.ref h0, .int 105])).length) Slot.unset).toArray = ls at hl ⊢
  have hl : lv_has ls 2 [(0, .ref h0), (1, .int 105)] := hl
  refine lv_aload_n hx hb dX9_add_0 rfl (lv_at hl 0 rfl) ?_
  refine va_get (D := (dC, dI)) (ci := 8) (v := .ref h1) (C := RX9) (T := TX9) (N := 6) hx hb hts in_X9 hown hK hP 0 rfl rfl 1 (by decide) (hts _ q_64) (fun _ h9 => h9) rfl dX9_add_1 ?_
  refine xa_new (ci := 7) (fs := [.int 0, .int 0, .int 0, .int 0, .int 0, .int 0]) (C := RX8) (T := TX8) (N := 6) hx hb hts in_X8 tyX8 tyX8_ok hown (hts _ q_273) (hts _ q_274) (hts _ q_275) hK hP hD hS hA rfl nf_X8 (Nat.le_of_ble_eq_true rfl) (Nat.le_of_ble_eq_true rfl) dX9_add_4 (fun a1 H2 hg8 hP hD hS => ?_)
  have hG : s.heap.size + 1 ≤ H2.size := by rw [hg8]; exact Nat.succ_le_succ hG
  have hP : va_P (dC, dI) xCl [(h0, ce21 h1 o0 o1 o2), (h1, ce102 h2), (h2, ce101 kc0 o3 o4 o5), (a1, ce45)] H2 := hP
  have hD := vd_as hP hD rfl
  refine W.widen (k := 1) (n := 6) (by decide) (by decide) ?_
  refine lv_dup hx hb dX9_add_7 rfl ?_
  refine lv_iload_n hx hb dX9_add_8 rfl (lv_at hl 1 rfl) ?_
  have hM5 := k54_init l hl9 dC dI z a1 H2.size
  obtain ⟨hF3, hC6⟩ := pc_M hM5 hP hD hK hS hX hT hA [3] [] rfl rfl rfl
  refine va_callv (va_runI (As := [.int 105]) (rest := [.ref a1, .ref h1]) ⟨hx, hb, hml, hown, hts⟩ hM5 (cwI 1 hts (gIL q_281) rfl rfl rfl (hts _ q_275) (hts _ q_282) (hts _ q_283) rfl hS_X8_init ⟨Nat.le_of_ble_eq_true rfl, Nat.le_of_ble_eq_true rfl⟩) ⟨pc_blind, fun U hU hW => ⟨rfl, hC6 U hU hW⟩⟩ rfl rfl hl.1 rfl (lv_room (Nat.le_of_ble_eq_true rfl)) dX9_add_9 ⟨(Nat.le_of_ble_eq_true rfl), (Nat.le_of_ble_eq_true rfl)⟩) hS (fun q9 _ h9 => hF3 q9 h9) hF3 (fun u7 t7 H7 L7 ht7 hvm7 hw7 hB7 hz7 hk7 hS => ?_)
  obtain ⟨hP, hD, hK⟩ := pq_jn (wz := [(h0, ce21 h1 o0 o1 o2), (h1, ce102 h2), (h2, ce101 kc0 o3 o4 o5), (a1, ce49)]) (tz := [(kc0, .object "java/lang/Object")]) hP hD hK [3] [0] rfl hk7 hF3 hB7.1 ht7 hvm7 rfl rfl
  have hG : s.heap.size + 1 ≤ H7.size := Nat.le_trans hG hz7
  have hM11 := k308_add l hl9 dC dI z h1 a1 h2 o3 o4 o5 H7.size kc0
  obtain ⟨hF9, hC12⟩ := pc_M hM11 hP hD hK hS hX hT hA [1, 3, 2] [0] rfl rfl rfl
  refine va_calli (va_runV (As := [.ref a1]) (rest := []) ⟨hx, hb, hml, hown, hts⟩ hM11 (cwV 1 hts (gV q_284 q_128 q_129 q_12 q_126) rfl rfl rfl hV_Jx4a65c_add_9ea2d ⟨Nat.le_of_ble_eq_true rfl, Nat.le_of_ble_eq_true rfl⟩) ⟨pc_blind, va_recv hK hP (ci := 0) (q := (RJx4a65c, TJx4a65c, 3)) (q0 := 1) rfl rfl, fun U hU hW => ⟨rfl, hC12 U hU hW⟩⟩ rfl rfl hl.1 rfl (lv_room (Nat.le_of_ble_eq_true rfl)) dX9_add_12 ⟨(Nat.le_of_ble_eq_true rfl), (Nat.le_of_ble_eq_true rfl)⟩) hS (fun q9 _ h9 => hF9 q9 h9) hF9 (fun r14 u13 t13 H13 L13 ht13 hvm13 hw13 hB13 hz13 hk13 hS => ?_)
  obtain ⟨hP, hD, hK⟩ := pq_jn (wz := [(h0, ce21 h1 o0 o1 o2), (h1, ce147 h2), (a1, ce49), (h2, ce146 kc0 o3 o4 o5 a1)]) (tz := [(kc0, .object "java/lang/Object")]) hP hD hK [1, 3, 2] [] rfl hk13 hF9 hB13.1 ht13 hvm13 rfl rfl
  have hG : s.heap.size + 1 ≤ H13.size := Nat.le_trans hG hz13
  refine W.eq (g2 := F0 m 15 ls [.int 1]) (by rw [hw13]) ?_
  refine lv_pop hx hb dX9_add_15 rfl ?_
  refine lv_aload_n hx hb dX9_add_16 rfl (lv_at hl 0 rfl) ?_
  refine va_get (D := (dC, dI)) (ci := 8) (v := .ref h1) (C := RX9) (T := TX9) (N := 6) hx hb hts in_X9 hown hK hP 0 rfl rfl 1 (by decide) (hts _ q_64) (fun _ h9 => h9) rfl dX9_add_17 ?_
  have hM17 := k20_size l hl9 dC dI z h1 h2 H13.size 4 4
  obtain ⟨hF15, hC18⟩ := pc_M hM17 hP hD hK hS hX hT hA [1] [] rfl rfl rfl
  refine va_calli (va_runV (As := []) (rest := []) ⟨hx, hb, hml, hown, hts⟩ hM17 (cwV 0 hts (gV q_272 q_77 q_78 q_12 q_75) rfl rfl rfl hV_Jx4a65c_size_8abf5 ⟨Nat.le_of_ble_eq_true rfl, Nat.le_of_ble_eq_true rfl⟩) ⟨pc_blind, va_recv hK hP (ci := 0) (q := (RJx4a65c, TJx4a65c, 3)) (q0 := 1) rfl rfl, fun U hU hW => ⟨rfl, hC18 U hU hW⟩⟩ rfl rfl hl.1 rfl (lv_room (Nat.le_of_ble_eq_true rfl)) dX9_add_20 ⟨(Nat.le_of_ble_eq_true rfl), (Nat.le_of_ble_eq_true rfl)⟩) hS (fun q9 _ h9 => hF15 q9 h9) hF15 (fun r20 u19 t19 H19 L19 ht19 hvm19 hw19 hB19 hz19 hk19 hS => ?_)
  have hP := pq_keep hP hD [1] rfl hk19 hB19.1 ht19
  have hG : s.heap.size + 1 ≤ H19.size := Nat.le_trans hG hz19
  refine W.eq (g2 := F0 m 23 ls [.int 4]) (by rw [hw19]) ?_
  refine lv_iconst (v := 1) hx hb dX9_add_23 (by decide) ?_
  refine lv_isub hx hb dX9_add_24 ?_
  refine lv_topi (fun y21 ey21 => ?_)
  obtain rfl : y21 = 3 := ey21.trans (by decide)
  exact W.iret (v := 3) hx hb hr (fun t9 ht9 hW9 => ⟨⟨3, (), rfl, rfl, ⟨a1, ⟨pq_mk2 hP hD hK [0, 1, 3, 2] [0] rfl rfl rfl ht9 hW9, by rw [ht9]; exact Nat.le_trans (Nat.add_le_add_left (Nat.le_of_ble_eq_true rfl) _) hG⟩⟩⟩, hS.F ht9⟩) hS.2.2 dX9_add_25

set_option maxHeartbeats 4000000 in
set_option maxRecDepth 100000 in
theorem k310_clear (l : Launch) (hl9 : l.stackTraces = false) (dC : Nat → ClassId) (dI : Nat → Nat → Nat) (z : XZ) (h0 h1 : Nat) (sz : Nat) (kc0 : ClassId) : Met l yJx4a65c_clear_da8c8 (.code yJx4a65c_clear_da8c8 cJx4a65c_clear_da8c8 4 none :: wsL_law) ({ frames := 0, cells := 0, slots := 0, locals := 0 }) (va_Pc [.ref h0] (PC (dC, dI) [(h0, ce117 h1), (h1, ce101 kc0 (z.2.2.1 128) (z.2.2.1 129) (z.2.2.1 130))] [(kc0, .object "java/lang/Object")] sz z)) (va_Qv (fun (_ : Unit) => True) (fun (_ : Unit) (t : State) => PG (dC, dI) [(h0, ce149 h1), (h1, ce153 kc0)] [(kc0, .object "java/lang/Object")] (va_A [(h0, ce117 h1), (h1, ce101 kc0 (z.2.2.1 128) (z.2.2.1 129) (z.2.2.1 130))] sz) sz 0 t) (va_A [(h0, ce117 h1), (h1, ce101 kc0 (z.2.2.1 128) (z.2.2.1 129) (z.2.2.1 130))] sz)) 0 0 (va_A [(h0, ce117 h1), (h1, ce101 kc0 (z.2.2.1 128) (z.2.2.1 129) (z.2.2.1 130))] sz) := by
  refine Met.ofW (cc := cJx4a65c_clear_da8c8) (maxL := 4) (ret := none) (by decide) rfl ?_
  intro p e s m args below meth c s₁ B hml hv
  obtain ⟨rfl, hsz, hP, hK, hD0, hX, hT⟩ := hv
  have hx := B.exec
  have hb := B.bytes
  have hr := B.returns
  have hts0 := atoms_spec (ws := .code yJx4a65c_clear_da8c8 cJx4a65c_clear_da8c8 4 none :: wsL_law) B.pre
  have hts := xTail hts0
  have hown : s.vm.findClass RJx4a65c = some m.cls := xown B.named rfl
  have hlocks := B.notSynchronized
  subst hsz
  have hD := hD0.self (sz := s.heap.size)
  generalize hAe : va_A [(h0, ce117 h1), (h1, ce101 kc0 (z.2.2.1 128) (z.2.2.1 129) (z.2.2.1 130))] s.heap.size = A at hD hX ⊢
  have hA : ∀ q : Nat, s.heap.size ≤ q → A q := fun q h => by rw [← hAe]; exact Or.inr h
  have hS : va_S A s.heap s.heap [] := va_S.rf
  have hG : s.heap.size + 0 ≤ s.heap.size := Nat.le_refl _
  have hl := lv_entry ([.ref h0]) (n := 4) (Nat.le_of_ble_eq_true rfl)
  rw [lg_entry_eq]
  generalize (lg_sl ([.ref h0]) ++ List.replicate (4 - (lg_sl ([.ref h0])).length) Slot.unset).toArray = ls at hl ⊢
  have hl : lv_has ls 4 [(0, .ref h0)] := hl
  refine lv_aload_n hx hb dJx4a65c_clear_da8c8_0 rfl (lv_at hl 0 rfl) ?_
  refine lv_dup hx hb dJx4a65c_clear_da8c8_1 rfl ?_
  refine va_get (D := (dC, dI)) (ci := 0) (v := .int 9) (C := RJx4a65c) (T := TJx4a65c) (N := 3) hx hb hts in_Jx4a65c hown hK hP 0 rfl rfl 0 (by decide) (hts _ q_108) (u_same (hts _ q_107)) rfl dJx4a65c_clear_da8c8_2 ?_
  refine lv_iconst (v := 1) hx hb dJx4a65c_clear_da8c8_5 (by decide) ?_
  refine lv_iadd hx hb dJx4a65c_clear_da8c8_6 ?_
  refine lv_topi (fun y1 ey1 => ?_)
  obtain rfl : y1 = 10 := ey1.trans (by decide)
  refine va_put (D := (dC, dI)) (ci := 0) (v := .int 10) (ty := .int) (C := RJx4a65c) (T := TJx4a65c) (N := 3) hx hb hts in_Jx4a65c tyJx4a65c tyJx4a65c_ok nmJx4a65c hown hK hP hD (va_Sre hS) 0 rfl rfl 0 (by decide) (hts _ q_108) (u_same (hts _ q_107)) rfl (by decide +kernel) rfl rfl (Nat.le_of_ble_eq_true rfl) dJx4a65c_clear_da8c8_7 (fun H2 _ hP hD hS' => ?_)
  have hG : s.heap.size + 0 ≤ H2.size := Nat.le_trans hG hS'.1
  have hS := va_Str hS hS'
  have hP : va_P (dC, dI) xCl [(h0, ce148 h1), (h1, ce101 kc0 (z.2.2.1 128) (z.2.2.1 129) (z.2.2.1 130))] H2 := hP
  have hD := vd_as hP hD rfl
  refine lv_aload_n hx hb dJx4a65c_clear_da8c8_10 rfl (lv_at hl 0 rfl) ?_
  refine va_get (D := (dC, dI)) (ci := 0) (v := .ref h1) (C := RJx4a65c) (T := TJx4a65c) (N := 3) hx hb hts in_Jx4a65c hown hK hP 0 rfl rfl 1 (by decide) (hts _ q_24) (fun _ h9 => h9) rfl dJx4a65c_clear_da8c8_11 ?_
  refine lv_astore_n (lv' := [(1, .ref h1), (0, .ref h0)]) hx hb dJx4a65c_clear_da8c8_14 rfl hl (by decide) rfl (fun ls hl => ?_)
  refine lv_aload_n hx hb dJx4a65c_clear_da8c8_15 rfl (lv_at hl 1 rfl) ?_
  refine va_get (D := (dC, dI)) (ci := 0) (v := .int 3) (C := RJx4a65c) (T := TJx4a65c) (N := 3) hx hb hts in_Jx4a65c hown hK hP 0 rfl rfl 2 (by decide) (hts _ q_74) (fun _ h9 => h9) rfl dJx4a65c_clear_da8c8_16 ?_
  refine lv_istore_n (lv' := [(2, .int 3), (1, .ref h1), (0, .ref h0)]) hx hb dJx4a65c_clear_da8c8_19 rfl hl (by decide) rfl (fun ls hl => ?_)
  refine lv_aload_n hx hb dJx4a65c_clear_da8c8_20 rfl (lv_at hl 2 rfl) ?_
  refine lv_iconst (v := 0) hx hb dJx4a65c_clear_da8c8_21 (by decide) ?_
  refine lv_dup_x1 hx hb dJx4a65c_clear_da8c8_22 rfl rfl ?_
  refine va_put (D := (dC, dI)) (ci := 0) (v := .int 0) (ty := .int) (C := RJx4a65c) (T := TJx4a65c) (N := 3) hx hb hts in_Jx4a65c tyJx4a65c tyJx4a65c_ok nmJx4a65c hown hK hP hD (va_Sre hS) 0 rfl rfl 2 (by decide) (hts _ q_74) (fun _ h9 => h9) rfl (by decide +kernel) rfl rfl (Nat.le_of_ble_eq_true rfl) dJx4a65c_clear_da8c8_23 (fun H3 _ hP hD hS' => ?_)
  have hG : s.heap.size + 0 ≤ H3.size := Nat.le_trans hG hS'.1
  have hS := va_Str hS hS'
  have hP : va_P (dC, dI) xCl [(h0, ce149 h1), (h1, ce101 kc0 (z.2.2.1 128) (z.2.2.1 129) (z.2.2.1 130))] H3 := hP
  have hD := vd_as hP hD rfl
  refine lv_istore_n (lv' := [(3, .int 0), (2, .int 3), (1, .ref h1), (0, .ref h0)]) hx hb dJx4a65c_clear_da8c8_26 rfl hl (by decide) rfl (fun ls hl => ?_)
  refine lv_iload_n hx hb dJx4a65c_clear_da8c8_27 rfl (lv_at hl 0 rfl) ?_
  refine lv_iload_n hx hb dJx4a65c_clear_da8c8_28 rfl (lv_at hl 1 rfl) ?_
  refine lv_icmp_ge (tgt := 42) hx hb dJx4a65c_clear_da8c8_29 (by decide) (fun cz => absurd cz (by decide)) (fun _ => ?_)
  refine lv_aload_n hx hb dJx4a65c_clear_da8c8_32 rfl (lv_at hl 2 rfl) ?_
  refine lv_iload_n hx hb dJx4a65c_clear_da8c8_33 rfl (lv_at hl 0 rfl) ?_
  refine lv_null hx hb dJx4a65c_clear_da8c8_34 ?_
  refine va_astqN hx hb hK hP hD (va_Sre hS) 1 0 rfl rfl (i := 0) (by unfold vp_in; decide) dJx4a65c_clear_da8c8_35 (fun H4 _ hP hD hS' => ?_)
  have hG : s.heap.size + 0 ≤ H4.size := Nat.le_trans hG hS'.1
  have hS := va_Str hS hS'
  have hP : va_P (dC, dI) xCl [(h0, ce149 h1), (h1, ce150 kc0 (z.2.2.1 128) (z.2.2.1 129) (z.2.2.1 130))] H4 := hP
  have hD := vd_as hP hD rfl
  refine lv_iinc (v := 1) (lv' := [(3, .int 1), (2, .int 3), (1, .ref h1), (0, .ref h0)]) hx hb dJx4a65c_clear_da8c8_36 hl (k := 0) rfl (by decide) (by decide) rfl (fun ls hl => ?_)
  refine lv_goto (tgt := 27) hx hb dJx4a65c_clear_da8c8_39 (by decide) ?_
  refine lv_iload_n hx hb dJx4a65c_clear_da8c8_27 rfl (lv_at hl 0 rfl) ?_
  refine lv_iload_n hx hb dJx4a65c_clear_da8c8_28 rfl (lv_at hl 1 rfl) ?_
  refine lv_icmp_ge (tgt := 42) hx hb dJx4a65c_clear_da8c8_29 (by decide) (fun cz => absurd cz (by decide)) (fun _ => ?_)
  refine lv_aload_n hx hb dJx4a65c_clear_da8c8_32 rfl (lv_at hl 2 rfl) ?_
  refine lv_iload_n hx hb dJx4a65c_clear_da8c8_33 rfl (lv_at hl 0 rfl) ?_
  refine lv_null hx hb dJx4a65c_clear_da8c8_34 ?_
  refine va_astqN hx hb hK hP hD (va_Sre hS) 1 0 rfl rfl (i := 1) (by unfold vp_in; decide) dJx4a65c_clear_da8c8_35 (fun H5 _ hP hD hS' => ?_)
  have hG : s.heap.size + 0 ≤ H5.size := Nat.le_trans hG hS'.1
  have hS := va_Str hS hS'
  have hP : va_P (dC, dI) xCl [(h0, ce149 h1), (h1, ce151 kc0 (z.2.2.1 128) (z.2.2.1 129) (z.2.2.1 130))] H5 := hP
  have hD := vd_as hP hD rfl
  refine lv_iinc (v := 2) (lv' := [(3, .int 2), (2, .int 3), (1, .ref h1), (0, .ref h0)]) hx hb dJx4a65c_clear_da8c8_36 hl (k := 0) rfl (by decide) (by decide) rfl (fun ls hl => ?_)
  refine lv_goto (tgt := 27) hx hb dJx4a65c_clear_da8c8_39 (by decide) ?_
  refine lv_iload_n hx hb dJx4a65c_clear_da8c8_27 rfl (lv_at hl 0 rfl) ?_
  refine lv_iload_n hx hb dJx4a65c_clear_da8c8_28 rfl (lv_at hl 1 rfl) ?_
  refine lv_icmp_ge (tgt := 42) hx hb dJx4a65c_clear_da8c8_29 (by decide) (fun cz => absurd cz (by decide)) (fun _ => ?_)
  refine lv_aload_n hx hb dJx4a65c_clear_da8c8_32 rfl (lv_at hl 2 rfl) ?_
  refine lv_iload_n hx hb dJx4a65c_clear_da8c8_33 rfl (lv_at hl 0 rfl) ?_
  refine lv_null hx hb dJx4a65c_clear_da8c8_34 ?_
  refine va_astqN hx hb hK hP hD (va_Sre hS) 1 0 rfl rfl (i := 2) (by unfold vp_in; decide) dJx4a65c_clear_da8c8_35 (fun H6 _ hP hD hS' => ?_)
  have hG : s.heap.size + 0 ≤ H6.size := Nat.le_trans hG hS'.1
  have hS := va_Str hS hS'
  have hP : va_P (dC, dI) xCl [(h0, ce149 h1), (h1, ce152 kc0 (z.2.2.1 128) (z.2.2.1 129) (z.2.2.1 130))] H6 := hP
  have hD := vd_as hP hD rfl
  refine lv_iinc (v := 3) (lv' := [(3, .int 3), (2, .int 3), (1, .ref h1), (0, .ref h0)]) hx hb dJx4a65c_clear_da8c8_36 hl (k := 0) rfl (by decide) (by decide) rfl (fun ls hl => ?_)
  refine lv_goto (tgt := 27) hx hb dJx4a65c_clear_da8c8_39 (by decide) ?_
  refine lv_iload_n hx hb dJx4a65c_clear_da8c8_27 rfl (lv_at hl 0 rfl) ?_
  refine lv_iload_n hx hb dJx4a65c_clear_da8c8_28 rfl (lv_at hl 1 rfl) ?_
  refine lv_icmp_ge (tgt := 42) hx hb dJx4a65c_clear_da8c8_29 (by decide) (fun _ => ?_) (fun cz => absurd (by decide) cz)
  have ehu7 : (va_up (va_up (va_up (va_up (va_up (va_up (fun _ => none) 0 (some (z.2.2.1 128))) 1 (some (z.2.2.1 129))) 2 (some (z.2.2.1 130))) 0 none) 1 none) 2 none) = (va_up (va_up (va_up (fun _ => none) 0 none) 1 none) 2 none) := by funext j; by_cases g0 : j = 0; (subst g0; rfl); by_cases g1 : j = 1; (subst g1; rfl); by_cases g2 : j = 2; (subst g2; rfl); simp only [va_up, g0, g1, g2, if_false]
  have hu7 : (ce152 kc0 (z.2.2.1 128) (z.2.2.1 129) (z.2.2.1 130) : va_E) = ce153 kc0 := (show (.inl (kc0, 10, .inr (.inr (.inr (.inr (va_up (va_up (va_up (va_up (va_up (va_up (fun _ => none) 0 (some (z.2.2.1 128))) 1 (some (z.2.2.1 129))) 2 (some (z.2.2.1 130))) 0 none) 1 none) 2 none))))) : va_E) = .inl (kc0, 10, .inr (.inr (.inr (.inr (va_up (va_up (va_up (fun _ => none) 0 none) 1 none) 2 none))))) by rw [ehu7])
  rw [hu7] at hP hD
  have hP : va_P (dC, dI) xCl [(h0, ce149 h1), (h1, ce153 kc0)] H6 := hP
  have hD := vd_as hP hD rfl
  exact W.vret hx hb hr (fun t9 ht9 hW9 => ⟨⟨(), rfl, trivial, ⟨pq_mk2 hP hD hK [0, 1] [0] rfl rfl rfl ht9 hW9, by rw [ht9]; exact Nat.le_trans (Nat.add_le_add_left (Nat.le_of_ble_eq_true rfl) _) hG⟩⟩, hS.F ht9⟩) hS.2.2 dJx4a65c_clear_da8c8_42

set_option maxHeartbeats 4000000 in
set_option maxRecDepth 100000 in
theorem k311_add (l : Launch) (hl9 : l.stackTraces = false) (dC : Nat → ClassId) (dI : Nat → Nat → Nat) (z : XZ) (h0 h1 : Nat) (sz : Nat) (kc0 : ClassId) : Met l yJx4a65c_add_72be8 (.code yJx4a65c_add_72be8 cJx4a65c_add_72be8 4 none :: wsL_law) ({ frames := 0, cells := 0, slots := 0, locals := 0 }) (va_Pc [.ref h0, .ref (z.2.2.1 128), .ref h1, .int 0] (PC (dC, dI) [(h0, ce154 h1), (h1, ce153 kc0)] [(kc0, .object "java/lang/Object")] sz z)) (va_Qv (fun (_ : Unit) => True) (fun (_ : Unit) (t : State) => PG (dC, dI) [(h0, ce156 h1), (h1, ce157 kc0 (z.2.2.1 128))] [(kc0, .object "java/lang/Object")] (va_A [(h0, ce154 h1), (h1, ce153 kc0)] sz) sz 0 t) (va_A [(h0, ce154 h1), (h1, ce153 kc0)] sz)) 0 0 (va_A [(h0, ce154 h1), (h1, ce153 kc0)] sz) := by
  refine Met.ofW (cc := cJx4a65c_add_72be8) (maxL := 4) (ret := none) (by decide) rfl ?_
  intro p e s m args below meth c s₁ B hml hv
  obtain ⟨rfl, hsz, hP, hK, hD0, hX, hT⟩ := hv
  have hx := B.exec
  have hb := B.bytes
  have hr := B.returns
  have hts0 := atoms_spec (ws := .code yJx4a65c_add_72be8 cJx4a65c_add_72be8 4 none :: wsL_law) B.pre
  have hts := xTail hts0
  have hown : s.vm.findClass RJx4a65c = some m.cls := xown B.named rfl
  have hlocks := B.notSynchronized
  subst hsz
  have hD := hD0.self (sz := s.heap.size)
  generalize hAe : va_A [(h0, ce154 h1), (h1, ce153 kc0)] s.heap.size = A at hD hX ⊢
  have hA : ∀ q : Nat, s.heap.size ≤ q → A q := fun q h => by rw [← hAe]; exact Or.inr h
  have hS : va_S A s.heap s.heap [] := va_S.rf
  have hG : s.heap.size + 0 ≤ s.heap.size := Nat.le_refl _
  have hl := lv_entry ([.ref h0, .ref (z.2.2.1 128), .ref h1, .int 0]) (n := 4) (Nat.le_of_ble_eq_true rfl)
  rw [lg_entry_eq]
  generalize (lg_sl ([.ref h0, .ref (z.2.2.1 128), .ref h1, .int 0]) ++ List.replicate (4 - (lg_sl ([.ref h0, .ref (z.2.2.1 128), .ref h1, .int 0])).length) Slot.unset).toArray = ls at hl ⊢
  have hl : lv_has ls 4 [(0, .ref h0), (1, .ref (z.2.2.1 128)), (2, .ref h1), (3, .int 0)] := hl
  refine lv_iload_n hx hb dJx4a65c_add_72be8_0 rfl (lv_at hl 3 rfl) ?_
  refine lv_aload_n hx hb dJx4a65c_add_72be8_1 rfl (lv_at hl 2 rfl) ?_
  refine va_alen hx hb hK hP 1 0 rfl rfl (v := 10) rfl dJx4a65c_add_72be8_2 ?_
  refine lv_icmp_ne (tgt := 11) hx hb dJx4a65c_add_72be8_3 (by decide) (fun _ => ?_) (fun cz => absurd cz (by decide))
  refine lv_aload_n hx hb dJx4a65c_add_72be8_11 rfl (lv_at hl 2 rfl) ?_
  refine lv_iload_n hx hb dJx4a65c_add_72be8_12 rfl (lv_at hl 3 rfl) ?_
  refine lv_aload_n hx hb dJx4a65c_add_72be8_13 rfl (lv_at hl 1 rfl) ?_
  refine vb_astq (E := "java/lang/Object") (C := "java/lang/Integer") hx hb hK hP hD (va_Sre hS) 1 0 rfl rfl (va_Orecv (hX.2.2.1.1.1 128 (by decide)) hS) (vb_asgC (hT.2.1.1 ("java/lang/Integer", "java/lang/Object") (by decide))) (i := 0) (by unfold vp_in; decide) dJx4a65c_add_72be8_14 (fun H1 _ hP hD hS' => ?_)
  have hG : s.heap.size + 0 ≤ H1.size := Nat.le_trans hG hS'.1
  have hS := va_Str hS hS'
  have hP : va_P (dC, dI) xCl [(h0, ce154 h1), (h1, ce155 kc0 (z.2.2.1 128))] H1 := hP
  have hD := vd_as hP hD rfl
  refine lv_aload_n hx hb dJx4a65c_add_72be8_15 rfl (lv_at hl 0 rfl) ?_
  refine lv_iload_n hx hb dJx4a65c_add_72be8_16 rfl (lv_at hl 3 rfl) ?_
  refine lv_iconst (v := 1) hx hb dJx4a65c_add_72be8_17 (by decide) ?_
  refine lv_iadd hx hb dJx4a65c_add_72be8_18 ?_
  refine lv_topi (fun y2 ey2 => ?_)
  obtain rfl : y2 = 1 := ey2.trans (by decide)
  refine va_put (D := (dC, dI)) (ci := 0) (v := .int 1) (ty := .int) (C := RJx4a65c) (T := TJx4a65c) (N := 3) hx hb hts in_Jx4a65c tyJx4a65c tyJx4a65c_ok nmJx4a65c hown hK hP hD (va_Sre hS) 0 rfl rfl 2 (by decide) (hts _ q_74) (fun _ h9 => h9) rfl (by decide +kernel) rfl rfl (Nat.le_of_ble_eq_true rfl) dJx4a65c_add_72be8_19 (fun H3 _ hP hD hS' => ?_)
  have hG : s.heap.size + 0 ≤ H3.size := Nat.le_trans hG hS'.1
  have hS := va_Str hS hS'
  have hP : va_P (dC, dI) xCl [(h0, ce156 h1), (h1, ce155 kc0 (z.2.2.1 128))] H3 := hP
  have hD := vd_as hP hD rfl
  have ehu4 : (va_up (va_up (va_up (va_up (fun _ => none) 0 none) 1 none) 2 none) 0 (some (z.2.2.1 128))) = (va_up (va_up (va_up (fun _ => none) 0 (some (z.2.2.1 128))) 1 none) 2 none) := by funext j; by_cases g0 : j = 0; (subst g0; rfl); by_cases g1 : j = 1; (subst g1; rfl); by_cases g2 : j = 2; (subst g2; rfl); simp only [va_up, g0, g1, g2, if_false]
  have hu4 : (ce155 kc0 (z.2.2.1 128) : va_E) = ce157 kc0 (z.2.2.1 128) := (show (.inl (kc0, 10, .inr (.inr (.inr (.inr (va_up (va_up (va_up (va_up (fun _ => none) 0 none) 1 none) 2 none) 0 (some (z.2.2.1 128))))))) : va_E) = .inl (kc0, 10, .inr (.inr (.inr (.inr (va_up (va_up (va_up (fun _ => none) 0 (some (z.2.2.1 128))) 1 none) 2 none))))) by rw [ehu4])
  rw [hu4] at hP hD
  have hP : va_P (dC, dI) xCl [(h0, ce156 h1), (h1, ce157 kc0 (z.2.2.1 128))] H3 := hP
  have hD := vd_as hP hD rfl
  exact W.vret hx hb hr (fun t9 ht9 hW9 => ⟨⟨(), rfl, trivial, ⟨pq_mk2 hP hD hK [0, 1] [0] rfl rfl rfl ht9 hW9, by rw [ht9]; exact Nat.le_trans (Nat.add_le_add_left (Nat.le_of_ble_eq_true rfl) _) hG⟩⟩, hS.F ht9⟩) hS.2.2 dJx4a65c_add_72be8_22

set_option maxHeartbeats 4000000 in
set_option maxRecDepth 100000 in
theorem k312_add (l : Launch) (hl9 : l.stackTraces = false) (dC : Nat → ClassId) (dI : Nat → Nat → Nat) (z : XZ) (h0 h1 : Nat) (sz : Nat) (kc0 : ClassId) : Met l yJx4a65c_add_9ea2d (.code yJx4a65c_add_9ea2d cJx4a65c_add_9ea2d 2 (some .boolean) :: wsL_law) ({ frames := 1, cells := 0, slots := 0, locals := 23 }) (va_Pc [.ref h0, .ref (z.2.2.1 128)] (PC (dC, dI) [(h0, ce149 h1), (h1, ce153 kc0)] [(kc0, .object "java/lang/Object")] sz z)) (va_Qi (fun (r : Int32) (_ : Unit) => r = 1) (fun (_ : Unit) (t : State) => PG (dC, dI) [(h0, ce156 h1), (h1, ce157 kc0 (z.2.2.1 128))] [(kc0, .object "java/lang/Object")] (va_A [(h0, ce149 h1), (h1, ce153 kc0)] sz) sz 0 t) (va_A [(h0, ce149 h1), (h1, ce153 kc0)] sz)) 0 0 (va_A [(h0, ce149 h1), (h1, ce153 kc0)] sz) := by
  refine Met.ofW (cc := cJx4a65c_add_9ea2d) (maxL := 2) (ret := (some .boolean)) (by decide) rfl ?_
  intro p e s m args below meth c s₁ B hml hv
  obtain ⟨rfl, hsz, hP, hK, hD0, hX, hT⟩ := hv
  have hx := B.exec
  have hb := B.bytes
  have hr := B.returns
  have hts0 := atoms_spec (ws := .code yJx4a65c_add_9ea2d cJx4a65c_add_9ea2d 2 (some .boolean) :: wsL_law) B.pre
  have hts := xTail hts0
  have hown : s.vm.findClass RJx4a65c = some m.cls := xown B.named rfl
  have hlocks := B.notSynchronized
  subst hsz
  have hD := hD0.self (sz := s.heap.size)
  generalize hAe : va_A [(h0, ce149 h1), (h1, ce153 kc0)] s.heap.size = A at hD hX ⊢
  have hA : ∀ q : Nat, s.heap.size ≤ q → A q := fun q h => by rw [← hAe]; exact Or.inr h
  have hS : va_S A s.heap s.heap [] := va_S.rf
  have hG : s.heap.size + 0 ≤ s.heap.size := Nat.le_refl _
  have hl := lv_entry ([.ref h0, .ref (z.2.2.1 128)]) (n := 2) (Nat.le_of_ble_eq_true rfl)
  rw [lg_entry_eq]
  generalize (lg_sl ([.ref h0, .ref (z.2.2.1 128)]) ++ List.replicate (2 - (lg_sl ([.ref h0, .ref (z.2.2.1 128)])).length) Slot.unset).toArray = ls at hl ⊢
  have hl : lv_has ls 2 [(0, .ref h0), (1, .ref (z.2.2.1 128))] := hl
  refine lv_aload_n hx hb dJx4a65c_add_9ea2d_0 rfl (lv_at hl 0 rfl) ?_
  refine lv_dup hx hb dJx4a65c_add_9ea2d_1 rfl ?_
  refine va_get (D := (dC, dI)) (ci := 0) (v := .int 10) (C := RJx4a65c) (T := TJx4a65c) (N := 3) hx hb hts in_Jx4a65c hown hK hP 0 rfl rfl 0 (by decide) (hts _ q_108) (u_same (hts _ q_107)) rfl dJx4a65c_add_9ea2d_2 ?_
  refine lv_iconst (v := 1) hx hb dJx4a65c_add_9ea2d_5 (by decide) ?_
  refine lv_iadd hx hb dJx4a65c_add_9ea2d_6 ?_
  refine lv_topi (fun y1 ey1 => ?_)
  obtain rfl : y1 = 11 := ey1.trans (by decide)
  refine va_put (D := (dC, dI)) (ci := 0) (v := .int 11) (ty := .int) (C := RJx4a65c) (T := TJx4a65c) (N := 3) hx hb hts in_Jx4a65c tyJx4a65c tyJx4a65c_ok nmJx4a65c hown hK hP hD (va_Sre hS) 0 rfl rfl 0 (by decide) (hts _ q_108) (u_same (hts _ q_107)) rfl (by decide +kernel) rfl rfl (Nat.le_of_ble_eq_true rfl) dJx4a65c_add_9ea2d_7 (fun H2 _ hP hD hS' => ?_)
  have hG : s.heap.size + 0 ≤ H2.size := Nat.le_trans hG hS'.1
  have hS := va_Str hS hS'
  have hP : va_P (dC, dI) xCl [(h0, ce154 h1), (h1, ce153 kc0)] H2 := hP
  have hD := vd_as hP hD rfl
  refine lv_aload_n hx hb dJx4a65c_add_9ea2d_10 rfl (lv_at hl 0 rfl) ?_
  refine lv_aload_n hx hb dJx4a65c_add_9ea2d_11 rfl (lv_at hl 1 rfl) ?_
  refine lv_aload_n hx hb dJx4a65c_add_9ea2d_12 rfl (lv_at hl 0 rfl) ?_
  refine va_get (D := (dC, dI)) (ci := 0) (v := .ref h1) (C := RJx4a65c) (T := TJx4a65c) (N := 3) hx hb hts in_Jx4a65c hown hK hP 0 rfl rfl 1 (by decide) (hts _ q_24) (fun _ h9 => h9) rfl dJx4a65c_add_9ea2d_13 ?_
  refine lv_aload_n hx hb dJx4a65c_add_9ea2d_16 rfl (lv_at hl 0 rfl) ?_
  refine va_get (D := (dC, dI)) (ci := 0) (v := .int 0) (C := RJx4a65c) (T := TJx4a65c) (N := 3) hx hb hts in_Jx4a65c hown hK hP 0 rfl rfl 2 (by decide) (hts _ q_74) (fun _ h9 => h9) rfl dJx4a65c_add_9ea2d_17 ?_
  have hM5 := k311_add l hl9 dC dI z h0 h1 H2.size kc0
  obtain ⟨hF3, hC6⟩ := pc_M hM5 hP hD hK hS hX hT hA [0, 1] [0] rfl rfl rfl
  refine va_callv (va_runV (As := [.ref (z.2.2.1 128), .ref h1, .int 0]) (rest := []) ⟨hx, hb, hml, hown, hts⟩ hM5 (cwV 3 hts (gV q_123 q_124 q_125 q_12 q_122) rfl rfl rfl hV_Jx4a65c_add_72be8 ⟨Nat.le_of_ble_eq_true rfl, Nat.le_of_ble_eq_true rfl⟩) ⟨pc_blind, va_recv hK hP (ci := 0) (q := (RJx4a65c, TJx4a65c, 3)) (q0 := 0) rfl rfl, fun U hU hW => ⟨rfl, hC6 U hU hW⟩⟩ rfl rfl hl.1 rfl (lv_room (Nat.le_of_ble_eq_true rfl)) dJx4a65c_add_9ea2d_20 ⟨(Nat.le_of_ble_eq_true rfl), (Nat.le_of_ble_eq_true rfl)⟩) hS (fun q9 _ h9 => hF3 q9 h9) hF3 (fun u7 t7 H7 L7 ht7 hvm7 hw7 hB7 hz7 hk7 hS => ?_)
  obtain ⟨hP, hD, hK⟩ := pq_jn (wz := [(h0, ce156 h1), (h1, ce157 kc0 (z.2.2.1 128))]) (tz := [(kc0, .object "java/lang/Object")]) hP hD hK [0, 1] [] rfl hk7 hF3 hB7.1 ht7 hvm7 rfl rfl
  have hG : s.heap.size + 0 ≤ H7.size := Nat.le_trans hG hz7
  refine lv_iconst (v := 1) hx hb dJx4a65c_add_9ea2d_23 (by decide) ?_
  exact W.zret (v := 1) (ty := .boolean) hx hb hr rfl (fun t9 ht9 hW9 => ⟨⟨1, (), rfl, rfl, ⟨pq_mk2 hP hD hK [0, 1] [0] rfl rfl rfl ht9 hW9, by rw [ht9]; exact Nat.le_trans (Nat.add_le_add_left (Nat.le_of_ble_eq_true rfl) _) hG⟩⟩, hS.F ht9⟩) hS.2.2 dJx4a65c_add_9ea2d_24

set_option maxHeartbeats 4000000 in
set_option maxRecDepth 100000 in
theorem k313_add (l : Launch) (hl9 : l.stackTraces = false) (dC : Nat → ClassId) (dI : Nat → Nat → Nat) (z : XZ) (h0 h1 : Nat) (sz : Nat) (kc0 : ClassId) : Met l yJx4a65c_add_72be8 (.code yJx4a65c_add_72be8 cJx4a65c_add_72be8 4 none :: wsL_law) ({ frames := 0, cells := 0, slots := 0, locals := 0 }) (va_Pc [.ref h0, .ref (z.2.2.1 129), .ref h1, .int 1] (PC (dC, dI) [(h0, ce158 h1), (h1, ce157 kc0 (z.2.2.1 128))] [(kc0, .object "java/lang/Object")] sz z)) (va_Qv (fun (_ : Unit) => True) (fun (_ : Unit) (t : State) => PG (dC, dI) [(h0, ce160 h1), (h1, ce161 kc0 (z.2.2.1 128) (z.2.2.1 129))] [(kc0, .object "java/lang/Object")] (va_A [(h0, ce158 h1), (h1, ce157 kc0 (z.2.2.1 128))] sz) sz 0 t) (va_A [(h0, ce158 h1), (h1, ce157 kc0 (z.2.2.1 128))] sz)) 0 0 (va_A [(h0, ce158 h1), (h1, ce157 kc0 (z.2.2.1 128))] sz) := by
  refine Met.ofW (cc := cJx4a65c_add_72be8) (maxL := 4) (ret := none) (by decide) rfl ?_
  intro p e s m args below meth c s₁ B hml hv
  obtain ⟨rfl, hsz, hP, hK, hD0, hX, hT⟩ := hv
  have hx := B.exec
  have hb := B.bytes
  have hr := B.returns
  have hts0 := atoms_spec (ws := .code yJx4a65c_add_72be8 cJx4a65c_add_72be8 4 none :: wsL_law) B.pre
  have hts := xTail hts0
  have hown : s.vm.findClass RJx4a65c = some m.cls := xown B.named rfl
  have hlocks := B.notSynchronized
  subst hsz
  have hD := hD0.self (sz := s.heap.size)
  generalize hAe : va_A [(h0, ce158 h1), (h1, ce157 kc0 (z.2.2.1 128))] s.heap.size = A at hD hX ⊢
  have hA : ∀ q : Nat, s.heap.size ≤ q → A q := fun q h => by rw [← hAe]; exact Or.inr h
  have hS : va_S A s.heap s.heap [] := va_S.rf
  have hG : s.heap.size + 0 ≤ s.heap.size := Nat.le_refl _
  have hl := lv_entry ([.ref h0, .ref (z.2.2.1 129), .ref h1, .int 1]) (n := 4) (Nat.le_of_ble_eq_true rfl)
  rw [lg_entry_eq]
  generalize (lg_sl ([.ref h0, .ref (z.2.2.1 129), .ref h1, .int 1]) ++ List.replicate (4 - (lg_sl ([.ref h0, .ref (z.2.2.1 129), .ref h1, .int 1])).length) Slot.unset).toArray = ls at hl ⊢
  have hl : lv_has ls 4 [(0, .ref h0), (1, .ref (z.2.2.1 129)), (2, .ref h1), (3, .int 1)] := hl
  refine lv_iload_n hx hb dJx4a65c_add_72be8_0 rfl (lv_at hl 3 rfl) ?_
  refine lv_aload_n hx hb dJx4a65c_add_72be8_1 rfl (lv_at hl 2 rfl) ?_
  refine va_alen hx hb hK hP 1 0 rfl rfl (v := 10) rfl dJx4a65c_add_72be8_2 ?_
  refine lv_icmp_ne (tgt := 11) hx hb dJx4a65c_add_72be8_3 (by decide) (fun _ => ?_) (fun cz => absurd cz (by decide))
  refine lv_aload_n hx hb dJx4a65c_add_72be8_11 rfl (lv_at hl 2 rfl) ?_
  refine lv_iload_n hx hb dJx4a65c_add_72be8_12 rfl (lv_at hl 3 rfl) ?_
  refine lv_aload_n hx hb dJx4a65c_add_72be8_13 rfl (lv_at hl 1 rfl) ?_
  refine vb_astq (E := "java/lang/Object") (C := "java/lang/Integer") hx hb hK hP hD (va_Sre hS) 1 0 rfl rfl (va_Orecv (hX.2.2.1.1.1 129 (by decide)) hS) (vb_asgC (hT.2.1.1 ("java/lang/Integer", "java/lang/Object") (by decide))) (i := 1) (by unfold vp_in; decide) dJx4a65c_add_72be8_14 (fun H1 _ hP hD hS' => ?_)
  have hG : s.heap.size + 0 ≤ H1.size := Nat.le_trans hG hS'.1
  have hS := va_Str hS hS'
  have hP : va_P (dC, dI) xCl [(h0, ce158 h1), (h1, ce159 kc0 (z.2.2.1 128) (z.2.2.1 129))] H1 := hP
  have hD := vd_as hP hD rfl
  refine lv_aload_n hx hb dJx4a65c_add_72be8_15 rfl (lv_at hl 0 rfl) ?_
  refine lv_iload_n hx hb dJx4a65c_add_72be8_16 rfl (lv_at hl 3 rfl) ?_
  refine lv_iconst (v := 1) hx hb dJx4a65c_add_72be8_17 (by decide) ?_
  refine lv_iadd hx hb dJx4a65c_add_72be8_18 ?_
  refine lv_topi (fun y2 ey2 => ?_)
  obtain rfl : y2 = 2 := ey2.trans (by decide)
  refine va_put (D := (dC, dI)) (ci := 0) (v := .int 2) (ty := .int) (C := RJx4a65c) (T := TJx4a65c) (N := 3) hx hb hts in_Jx4a65c tyJx4a65c tyJx4a65c_ok nmJx4a65c hown hK hP hD (va_Sre hS) 0 rfl rfl 2 (by decide) (hts _ q_74) (fun _ h9 => h9) rfl (by decide +kernel) rfl rfl (Nat.le_of_ble_eq_true rfl) dJx4a65c_add_72be8_19 (fun H3 _ hP hD hS' => ?_)
  have hG : s.heap.size + 0 ≤ H3.size := Nat.le_trans hG hS'.1
  have hS := va_Str hS hS'
  have hP : va_P (dC, dI) xCl [(h0, ce160 h1), (h1, ce159 kc0 (z.2.2.1 128) (z.2.2.1 129))] H3 := hP
  have hD := vd_as hP hD rfl
  have ehu4 : (va_up (va_up (va_up (va_up (fun _ => none) 0 (some (z.2.2.1 128))) 1 none) 2 none) 1 (some (z.2.2.1 129))) = (va_up (va_up (va_up (fun _ => none) 0 (some (z.2.2.1 128))) 1 (some (z.2.2.1 129))) 2 none) := by funext j; by_cases g0 : j = 0; (subst g0; rfl); by_cases g1 : j = 1; (subst g1; rfl); by_cases g2 : j = 2; (subst g2; rfl); simp only [va_up, g0, g1, g2, if_false]
  have hu4 : (ce159 kc0 (z.2.2.1 128) (z.2.2.1 129) : va_E) = ce161 kc0 (z.2.2.1 128) (z.2.2.1 129) := (show (.inl (kc0, 10, .inr (.inr (.inr (.inr (va_up (va_up (va_up (va_up (fun _ => none) 0 (some (z.2.2.1 128))) 1 none) 2 none) 1 (some (z.2.2.1 129))))))) : va_E) = .inl (kc0, 10, .inr (.inr (.inr (.inr (va_up (va_up (va_up (fun _ => none) 0 (some (z.2.2.1 128))) 1 (some (z.2.2.1 129))) 2 none))))) by rw [ehu4])
  rw [hu4] at hP hD
  have hP : va_P (dC, dI) xCl [(h0, ce160 h1), (h1, ce161 kc0 (z.2.2.1 128) (z.2.2.1 129))] H3 := hP
  have hD := vd_as hP hD rfl
  exact W.vret hx hb hr (fun t9 ht9 hW9 => ⟨⟨(), rfl, trivial, ⟨pq_mk2 hP hD hK [0, 1] [0] rfl rfl rfl ht9 hW9, by rw [ht9]; exact Nat.le_trans (Nat.add_le_add_left (Nat.le_of_ble_eq_true rfl) _) hG⟩⟩, hS.F ht9⟩) hS.2.2 dJx4a65c_add_72be8_22

set_option maxHeartbeats 4000000 in
set_option maxRecDepth 100000 in
theorem k314_add (l : Launch) (hl9 : l.stackTraces = false) (dC : Nat → ClassId) (dI : Nat → Nat → Nat) (z : XZ) (h0 h1 : Nat) (sz : Nat) (kc0 : ClassId) : Met l yJx4a65c_add_9ea2d (.code yJx4a65c_add_9ea2d cJx4a65c_add_9ea2d 2 (some .boolean) :: wsL_law) ({ frames := 1, cells := 0, slots := 0, locals := 23 }) (va_Pc [.ref h0, .ref (z.2.2.1 129)] (PC (dC, dI) [(h0, ce156 h1), (h1, ce157 kc0 (z.2.2.1 128))] [(kc0, .object "java/lang/Object")] sz z)) (va_Qi (fun (r : Int32) (_ : Unit) => r = 1) (fun (_ : Unit) (t : State) => PG (dC, dI) [(h0, ce160 h1), (h1, ce161 kc0 (z.2.2.1 128) (z.2.2.1 129))] [(kc0, .object "java/lang/Object")] (va_A [(h0, ce156 h1), (h1, ce157 kc0 (z.2.2.1 128))] sz) sz 0 t) (va_A [(h0, ce156 h1), (h1, ce157 kc0 (z.2.2.1 128))] sz)) 0 0 (va_A [(h0, ce156 h1), (h1, ce157 kc0 (z.2.2.1 128))] sz) := by
  refine Met.ofW (cc := cJx4a65c_add_9ea2d) (maxL := 2) (ret := (some .boolean)) (by decide) rfl ?_
  intro p e s m args below meth c s₁ B hml hv
  obtain ⟨rfl, hsz, hP, hK, hD0, hX, hT⟩ := hv
  have hx := B.exec
  have hb := B.bytes
  have hr := B.returns
  have hts0 := atoms_spec (ws := .code yJx4a65c_add_9ea2d cJx4a65c_add_9ea2d 2 (some .boolean) :: wsL_law) B.pre
  have hts := xTail hts0
  have hown : s.vm.findClass RJx4a65c = some m.cls := xown B.named rfl
  have hlocks := B.notSynchronized
  subst hsz
  have hD := hD0.self (sz := s.heap.size)
  generalize hAe : va_A [(h0, ce156 h1), (h1, ce157 kc0 (z.2.2.1 128))] s.heap.size = A at hD hX ⊢
  have hA : ∀ q : Nat, s.heap.size ≤ q → A q := fun q h => by rw [← hAe]; exact Or.inr h
  have hS : va_S A s.heap s.heap [] := va_S.rf
  have hG : s.heap.size + 0 ≤ s.heap.size := Nat.le_refl _
  have hl := lv_entry ([.ref h0, .ref (z.2.2.1 129)]) (n := 2) (Nat.le_of_ble_eq_true rfl)
  rw [lg_entry_eq]
  generalize (lg_sl ([.ref h0, .ref (z.2.2.1 129)]) ++ List.replicate (2 - (lg_sl ([.ref h0, .ref (z.2.2.1 129)])).length) Slot.unset).toArray = ls at hl ⊢
  have hl : lv_has ls 2 [(0, .ref h0), (1, .ref (z.2.2.1 129))] := hl
  refine lv_aload_n hx hb dJx4a65c_add_9ea2d_0 rfl (lv_at hl 0 rfl) ?_
  refine lv_dup hx hb dJx4a65c_add_9ea2d_1 rfl ?_
  refine va_get (D := (dC, dI)) (ci := 0) (v := .int 11) (C := RJx4a65c) (T := TJx4a65c) (N := 3) hx hb hts in_Jx4a65c hown hK hP 0 rfl rfl 0 (by decide) (hts _ q_108) (u_same (hts _ q_107)) rfl dJx4a65c_add_9ea2d_2 ?_
  refine lv_iconst (v := 1) hx hb dJx4a65c_add_9ea2d_5 (by decide) ?_
  refine lv_iadd hx hb dJx4a65c_add_9ea2d_6 ?_
  refine lv_topi (fun y1 ey1 => ?_)
  obtain rfl : y1 = 12 := ey1.trans (by decide)
  refine va_put (D := (dC, dI)) (ci := 0) (v := .int 12) (ty := .int) (C := RJx4a65c) (T := TJx4a65c) (N := 3) hx hb hts in_Jx4a65c tyJx4a65c tyJx4a65c_ok nmJx4a65c hown hK hP hD (va_Sre hS) 0 rfl rfl 0 (by decide) (hts _ q_108) (u_same (hts _ q_107)) rfl (by decide +kernel) rfl rfl (Nat.le_of_ble_eq_true rfl) dJx4a65c_add_9ea2d_7 (fun H2 _ hP hD hS' => ?_)
  have hG : s.heap.size + 0 ≤ H2.size := Nat.le_trans hG hS'.1
  have hS := va_Str hS hS'
  have hP : va_P (dC, dI) xCl [(h0, ce158 h1), (h1, ce157 kc0 (z.2.2.1 128))] H2 := hP
  have hD := vd_as hP hD rfl
  refine lv_aload_n hx hb dJx4a65c_add_9ea2d_10 rfl (lv_at hl 0 rfl) ?_
  refine lv_aload_n hx hb dJx4a65c_add_9ea2d_11 rfl (lv_at hl 1 rfl) ?_
  refine lv_aload_n hx hb dJx4a65c_add_9ea2d_12 rfl (lv_at hl 0 rfl) ?_
  refine va_get (D := (dC, dI)) (ci := 0) (v := .ref h1) (C := RJx4a65c) (T := TJx4a65c) (N := 3) hx hb hts in_Jx4a65c hown hK hP 0 rfl rfl 1 (by decide) (hts _ q_24) (fun _ h9 => h9) rfl dJx4a65c_add_9ea2d_13 ?_
  refine lv_aload_n hx hb dJx4a65c_add_9ea2d_16 rfl (lv_at hl 0 rfl) ?_
  refine va_get (D := (dC, dI)) (ci := 0) (v := .int 1) (C := RJx4a65c) (T := TJx4a65c) (N := 3) hx hb hts in_Jx4a65c hown hK hP 0 rfl rfl 2 (by decide) (hts _ q_74) (fun _ h9 => h9) rfl dJx4a65c_add_9ea2d_17 ?_
  have hM5 := k313_add l hl9 dC dI z h0 h1 H2.size kc0
  obtain ⟨hF3, hC6⟩ := pc_M hM5 hP hD hK hS hX hT hA [0, 1] [0] rfl rfl rfl
  refine va_callv (va_runV (As := [.ref (z.2.2.1 129), .ref h1, .int 1]) (rest := []) ⟨hx, hb, hml, hown, hts⟩ hM5 (cwV 3 hts (gV q_123 q_124 q_125 q_12 q_122) rfl rfl rfl hV_Jx4a65c_add_72be8 ⟨Nat.le_of_ble_eq_true rfl, Nat.le_of_ble_eq_true rfl⟩) ⟨pc_blind, va_recv hK hP (ci := 0) (q := (RJx4a65c, TJx4a65c, 3)) (q0 := 0) rfl rfl, fun U hU hW => ⟨rfl, hC6 U hU hW⟩⟩ rfl rfl hl.1 rfl (lv_room (Nat.le_of_ble_eq_true rfl)) dJx4a65c_add_9ea2d_20 ⟨(Nat.le_of_ble_eq_true rfl), (Nat.le_of_ble_eq_true rfl)⟩) hS (fun q9 _ h9 => hF3 q9 h9) hF3 (fun u7 t7 H7 L7 ht7 hvm7 hw7 hB7 hz7 hk7 hS => ?_)
  obtain ⟨hP, hD, hK⟩ := pq_jn (wz := [(h0, ce160 h1), (h1, ce161 kc0 (z.2.2.1 128) (z.2.2.1 129))]) (tz := [(kc0, .object "java/lang/Object")]) hP hD hK [0, 1] [] rfl hk7 hF3 hB7.1 ht7 hvm7 rfl rfl
  have hG : s.heap.size + 0 ≤ H7.size := Nat.le_trans hG hz7
  refine lv_iconst (v := 1) hx hb dJx4a65c_add_9ea2d_23 (by decide) ?_
  exact W.zret (v := 1) (ty := .boolean) hx hb hr rfl (fun t9 ht9 hW9 => ⟨⟨1, (), rfl, rfl, ⟨pq_mk2 hP hD hK [0, 1] [0] rfl rfl rfl ht9 hW9, by rw [ht9]; exact Nat.le_trans (Nat.add_le_add_left (Nat.le_of_ble_eq_true rfl) _) hG⟩⟩, hS.F ht9⟩) hS.2.2 dJx4a65c_add_9ea2d_24
