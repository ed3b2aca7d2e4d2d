set_option maxHeartbeats 4000000 in
set_option maxRecDepth 100000 in
theorem k691_reckonDelays (l : Launch) (hl9 : l.stackTraces = false) (dC : Nat → ClassId) (dI : Nat → Nat → Nat) (z : XZ) (h0 h1 h2 h3 h4 h5 h6 h7 h8 h9 h10 h11 h12 h13 h14 h15 h16 : Nat) (o0 o1 o2 : Nat) (sz : Nat) (kc0 : ClassId) : Met l yX0_reckonDelays (.code yX0_reckonDelays cX0_reckonDelays 3 none :: wsL_law) ({ frames := 3, cells := 0, slots := 0, locals := 64 }) (va_Pc [.ref h0] (PC (dC, dI) [(h0, ce7 o0 o1 o2 h1), (h1, ce366 h2), (h2, ce330 kc0 h3 h4 h5 h6 h7 h8 h9), (h3, ce38 (z.2.1 0) h10 h3), (h4, ce77 (z.2.1 0) h11 h4), (h5, ce115 (z.2.1 0) h12 h5), (h6, ce165 (z.2.1 0) h13 h6), (h7, ce224 (z.2.1 0) h14 h7), (h8, ce287 (z.2.1 0) h15 h8), (h9, ce364 (z.2.1 0) h16 h9), (h10, ce3 z.1), (h11, ce3 z.1), (h12, ce3 z.1), (h13, ce3 z.1), (h14, ce3 z.1), (h15, ce3 z.1), (h16, ce3 z.1)] [(kc0, .object "java/lang/Object")] sz z)) (va_Qv (fun (_ : Unit) => True) (fun (_ : Unit) (t : State) => PG (dC, dI) [(h0, ce7 o0 o1 o2 h1), (h1, ce366 h2), (h2, ce330 kc0 h3 h4 h5 h6 h7 h8 h9), (h3, ce38 (z.2.1 0) h10 h3), (h4, ce77 (z.2.1 0) h11 h4), (h5, ce115 (z.2.1 0) h12 h5), (h6, ce165 (z.2.1 0) h13 h6), (h7, ce224 (z.2.1 0) h14 h7), (h8, ce287 (z.2.1 0) h15 h8), (h9, ce364 (z.2.1 0) h16 h9), (h10, ce3 z.1), (h11, ce3 z.1), (h12, ce3 z.1), (h13, ce3 z.1), (h14, ce3 z.1), (h15, ce3 z.1), (h16, ce3 z.1)] [(kc0, .object "java/lang/Object")] (va_A [(h0, ce7 o0 o1 o2 h1), (h1, ce366 h2), (h2, ce330 kc0 h3 h4 h5 h6 h7 h8 h9), (h3, ce38 (z.2.1 0) h10 h3), (h4, ce77 (z.2.1 0) h11 h4), (h5, ce115 (z.2.1 0) h12 h5), (h6, ce165 (z.2.1 0) h13 h6), (h7, ce224 (z.2.1 0) h14 h7), (h8, ce287 (z.2.1 0) h15 h8), (h9, ce364 (z.2.1 0) h16 h9), (h10, ce3 z.1), (h11, ce3 z.1), (h12, ce3 z.1), (h13, ce3 z.1), (h14, ce3 z.1), (h15, ce3 z.1), (h16, ce3 z.1)] sz) sz 0 t) (va_A [(h0, ce7 o0 o1 o2 h1), (h1, ce366 h2), (h2, ce330 kc0 h3 h4 h5 h6 h7 h8 h9), (h3, ce38 (z.2.1 0) h10 h3), (h4, ce77 (z.2.1 0) h11 h4), (h5, ce115 (z.2.1 0) h12 h5), (h6, ce165 (z.2.1 0) h13 h6), (h7, ce224 (z.2.1 0) h14 h7), (h8, ce287 (z.2.1 0) h15 h8), (h9, ce364 (z.2.1 0) h16 h9), (h10, ce3 z.1), (h11, ce3 z.1), (h12, ce3 z.1), (h13, ce3 z.1), (h14, ce3 z.1), (h15, ce3 z.1), (h16, ce3 z.1)] sz)) 0 0 (va_A [(h0, ce7 o0 o1 o2 h1), (h1, ce366 h2), (h2, ce330 kc0 h3 h4 h5 h6 h7 h8 h9), (h3, ce38 (z.2.1 0) h10 h3), (h4, ce77 (z.2.1 0) h11 h4), (h5, ce115 (z.2.1 0) h12 h5), (h6, ce165 (z.2.1 0) h13 h6), (h7, ce224 (z.2.1 0) h14 h7), (h8, ce287 (z.2.1 0) h15 h8), (h9, ce364 (z.2.1 0) h16 h9), (h10, ce3 z.1), (h11, ce3 z.1), (h12, ce3 z.1), (h13, ce3 z.1), (h14, ce3 z.1), (h15, ce3 z.1), (h16, ce3 z.1)] sz) := by
  refine Met.ofW (cc := cX0_reckonDelays) (maxL := 3) (ret := none) (by decide) rfl ?_
  intro p e s m args below meth c s₁ B hml hv
  obtain ⟨rfl, hsz, hP, hK, hD0, hX, hT⟩ := hv
  have hx := B.exec
  have hb := B.bytes
  have hr := B.returns
  have hts0 := atoms_spec (ws := .code yX0_reckonDelays cX0_reckonDelays 3 none :: wsL_law) B.pre
  have hts := xTail hts0
  have hown : s.vm.findClass RX0 = some m.cls := xown B.named rfl
  have hlocks := B.notSynchronized
  subst hsz
  have hD := hD0.self (sz := s.heap.size)
  generalize hAe : va_A [(h0, ce7 o0 o1 o2 h1), (h1, ce366 h2), (h2, ce330 kc0 h3 h4 h5 h6 h7 h8 h9), (h3, ce38 (z.2.1 0) h10 h3), (h4, ce77 (z.2.1 0) h11 h4), (h5, ce115 (z.2.1 0) h12 h5), (h6, ce165 (z.2.1 0) h13 h6), (h7, ce224 (z.2.1 0) h14 h7), (h8, ce287 (z.2.1 0) h15 h8), (h9, ce364 (z.2.1 0) h16 h9), (h10, ce3 z.1), (h11, ce3 z.1), (h12, ce3 z.1), (h13, ce3 z.1), (h14, ce3 z.1), (h15, ce3 z.1), (h16, ce3 z.1)] s.heap.size = A at hD hX ⊢
  have hA : ∀ q : Nat, s.heap.size ≤ q → A q := fun q h => by rw [← hAe]; exact Or.inr h
  have hS : va_S A s.heap s.heap [] := va_S.rf
  have hG : s.heap.size + 0 ≤ s.heap.size := Nat.le_refl _
  have hl := lv_entry ([.ref h0]) (n := 3) (Nat.le_of_ble_eq_true rfl)
  rw [lg_entry_eq]
  generalize (lg_sl ([.ref h0]) ++ List.replicate (3 - (lg_sl ([.ref h0])).length) Slot.unset).toArray = ls at hl ⊢
  have hl : lv_has ls 3 [(0, .ref h0)] := hl
  refine lv_iconst (v := 0) hx hb dX0_reckonDelays_0 (by decide) ?_
  refine lv_istore_n (lv' := [(1, .int 0), (0, .ref h0)]) hx hb dX0_reckonDelays_1 rfl hl (by decide) rfl (fun ls hl => ?_)
  refine lv_iload_n hx hb dX0_reckonDelays_2 rfl (lv_at hl 0 rfl) ?_
  refine lv_aload_n hx hb dX0_reckonDelays_3 rfl (lv_at hl 1 rfl) ?_
  refine va_get (D := (dC, dI)) (ci := 2) (v := .ref h1) (C := RX0) (T := TX0) (N := 4) hx hb hts in_X0 hown hK hP 0 rfl rfl 3 (by decide) (hts _ q_31) (fun _ h9 => h9) rfl dX0_reckonDelays_4 ?_
  have hM3 := k20_size l hl9 dC dI z h1 h2 s.heap.size 35 7
  obtain ⟨hF1, hC4⟩ := pc_M hM3 hP hD hK hS hX hT hA [1] [] rfl rfl rfl
  refine va_calli (va_runV (As := []) (rest := [.int 0]) ⟨hx, hb, hml, hown, hts⟩ hM3 (cwV 0 hts (gV q_92 q_77 q_78 q_12 q_75) rfl rfl rfl hV_Jx4a65c_size_8abf5 ⟨Nat.le_of_ble_eq_true rfl, Nat.le_of_ble_eq_true rfl⟩) ⟨pc_blind, va_recv hK hP (ci := 0) (q := (RJx4a65c, TJx4a65c, 3)) (q0 := 1) rfl rfl, fun U hU hW => ⟨rfl, hC4 U hU hW⟩⟩ rfl rfl hl.1 rfl (lv_room (Nat.le_of_ble_eq_true rfl)) dX0_reckonDelays_7 ⟨(Nat.le_of_ble_eq_true rfl), (Nat.le_of_ble_eq_true rfl)⟩) hS (fun q9 _ h9 => hF1 q9 h9) hF1 (fun r6 u5 t5 H5 L5 ht5 hvm5 hw5 hB5 hz5 hk5 hS => ?_)
  have hP := pq_keep hP hD [1] rfl hk5 hB5.1 ht5
  have hG : s.heap.size + 0 ≤ H5.size := Nat.le_trans hG hz5
  refine W.eq (g2 := F0 m 10 ls [.int 7, .int 0]) (by rw [hw5]) ?_
  refine lv_icmp_ge (tgt := 44) hx hb dX0_reckonDelays_10 (by decide) (fun cz => absurd cz (by decide)) (fun _ => ?_)
  refine lv_aload_n hx hb dX0_reckonDelays_13 rfl (lv_at hl 1 rfl) ?_
  refine va_get (D := (dC, dI)) (ci := 2) (v := .ref h1) (C := RX0) (T := TX0) (N := 4) hx hb hts in_X0 hown hK hP 0 rfl rfl 3 (by decide) (hts _ q_31) (fun _ h9 => h9) rfl dX0_reckonDelays_14 ?_
  refine lv_iload_n hx hb dX0_reckonDelays_17 rfl (lv_at hl 0 rfl) ?_
  have hM9 := k676_get l hl9 dC dI z h1 h2 h3 h4 h5 h6 h7 h8 h9 H5.size kc0
  obtain ⟨hF7, hC10⟩ := pc_M hM9 hP hD hK hS hX hT hA [1, 2] [0] rfl rfl rfl
  refine va_callr (va_runV (As := [.int 0]) (rest := []) ⟨hx, hb, hml, hown, hts⟩ hM9 (cwV 1 hts (gV q_156 q_157 q_158 q_12 q_155) rfl rfl rfl hV_Jx4a65c_get_915e3 ⟨Nat.le_of_ble_eq_true rfl, Nat.le_of_ble_eq_true rfl⟩) ⟨pc_blind, va_recv hK hP (ci := 0) (q := (RJx4a65c, TJx4a65c, 3)) (q0 := 1) rfl rfl, fun U hU hW => ⟨rfl, hC10 U hU hW⟩⟩ rfl rfl hl.1 rfl (lv_room (Nat.le_of_ble_eq_true rfl)) dX0_reckonDelays_18 ⟨(Nat.le_of_ble_eq_true rfl), (Nat.le_of_ble_eq_true rfl)⟩) hS (fun q9 _ h9 => hF7 q9 h9) hF7 (fun u11 r12 t11 H11 L11 ht11 hvm11 hw11 hB11 hz11 hk11 hS => ?_)
  obtain ⟨hr11, hB11⟩ := hB11
  have hP := pq_keep hP hD [1, 2] rfl hk11 hB11.1 ht11
  have hG : s.heap.size + 0 ≤ H11.size := Nat.le_trans hG hz11
  refine W.eq (g2 := F0 m 21 ls [.ref h3]) (by rw [hr11]) ?_
  refine va_castE (nm := RX2) hx hb hown (hts _ q_89) (va_recv hK hP (ci := 3) (q := (RX2, TX2, 19)) (q0 := 3) rfl rfl) dX0_reckonDelays_21 ?_
  refine lv_astore_n (lv' := [(2, .ref h3), (1, .int 0), (0, .ref h0)]) hx hb dX0_reckonDelays_24 rfl hl (by decide) rfl (fun ls hl => ?_)
  refine lv_aload_n hx hb dX0_reckonDelays_25 rfl (lv_at hl 0 rfl) ?_
  refine lv_aload_n hx hb dX0_reckonDelays_26 rfl (lv_at hl 0 rfl) ?_
  have hM15 := k35_latestArrival l hl9 dC dI z h3 h10 H11.size
  obtain ⟨hF13, hC16⟩ := pc_M hM15 hP hD hK hS hX hT hA [3, 10] [] rfl rfl rfl
  refine va_calli (va_runV (As := []) (rest := [.ref h3]) ⟨hx, hb, hml, hown, hts⟩ hM15 (cwV 0 hts (gV q_179 q_180 q_181 q_91 q_178) rfl rfl rfl hV_X2_latestArrival ⟨Nat.le_of_ble_eq_true rfl, Nat.le_of_ble_eq_true rfl⟩) ⟨pc_blind, va_recv hK hP (ci := 3) (q := (RX2, TX2, 19)) (q0 := 3) rfl rfl, fun U hU hW => ⟨rfl, hC16 U hU hW⟩⟩ rfl rfl hl.1 rfl (lv_room (Nat.le_of_ble_eq_true rfl)) dX0_reckonDelays_27 ⟨(Nat.le_of_ble_eq_true rfl), (Nat.le_of_ble_eq_true rfl)⟩) hS (fun q9 _ h9 => hF13 q9 h9) hF13 (fun r18 u17 t17 H17 L17 ht17 hvm17 hw17 hB17 hz17 hk17 hS => ?_)
  have hP := pq_keep hP hD [3, 10] rfl hk17 hB17.1 ht17
  have hG : s.heap.size + 0 ≤ H17.size := Nat.le_trans hG hz17
  refine W.eq (g2 := F0 m 30 ls [.int 0, .ref h3]) (by rw [hw17]) ?_
  refine va_put (D := (dC, dI)) (ci := 3) (v := .int 0) (ty := .int) (C := RX2) (T := TX2) (N := 19) hx hb hts in_X2 tyX2 tyX2_ok nmX2 hown hK hP hD (va_Sre hS) 3 rfl rfl 14 (by decide) (hts _ q_182) (fun _ h9 => h9) rfl (by decide +kernel) rfl rfl (Nat.le_of_ble_eq_true rfl) dX0_reckonDelays_30 (fun H19 _ hP hD hS' => ?_)
  have hG : s.heap.size + 0 ≤ H19.size := Nat.le_trans hG hS'.1
  have hS := va_Str hS hS'
  have hP : va_P (dC, dI) xCl [(h0, ce7 o0 o1 o2 h1), (h1, ce366 h2), (h2, ce330 kc0 h3 h4 h5 h6 h7 h8 h9), (h3, ce38 (z.2.1 0) h10 h3), (h4, ce77 (z.2.1 0) h11 h4), (h5, ce115 (z.2.1 0) h12 h5), (h6, ce165 (z.2.1 0) h13 h6), (h7, ce224 (z.2.1 0) h14 h7), (h8, ce287 (z.2.1 0) h15 h8), (h9, ce364 (z.2.1 0) h16 h9), (h10, ce3 z.1), (h11, ce3 z.1), (h12, ce3 z.1), (h13, ce3 z.1), (h14, ce3 z.1), (h15, ce3 z.1), (h16, ce3 z.1)] H19 := hP
  have hD := vd_as hP hD rfl
  refine lv_aload_n hx hb dX0_reckonDelays_33 rfl (lv_at hl 0 rfl) ?_
  refine lv_iconst (v := 0) hx hb dX0_reckonDelays_34 (by decide) ?_
  refine va_put (D := (dC, dI)) (ci := 3) (v := .int 0) (ty := .int) (C := RX2) (T := TX2) (N := 19) hx hb hts in_X2 tyX2 tyX2_ok nmX2 hown hK hP hD (va_Sre hS) 3 rfl rfl 15 (by decide) (hts _ q_183) (fun _ h9 => h9) rfl (by decide +kernel) rfl rfl (Nat.le_of_ble_eq_true rfl) dX0_reckonDelays_35 (fun H20 _ hP hD hS' => ?_)
  have hG : s.heap.size + 0 ≤ H20.size := Nat.le_trans hG hS'.1
  have hS := va_Str hS hS'
  have hP : va_P (dC, dI) xCl [(h0, ce7 o0 o1 o2 h1), (h1, ce366 h2), (h2, ce330 kc0 h3 h4 h5 h6 h7 h8 h9), (h3, ce38 (z.2.1 0) h10 h3), (h4, ce77 (z.2.1 0) h11 h4), (h5, ce115 (z.2.1 0) h12 h5), (h6, ce165 (z.2.1 0) h13 h6), (h7, ce224 (z.2.1 0) h14 h7), (h8, ce287 (z.2.1 0) h15 h8), (h9, ce364 (z.2.1 0) h16 h9), (h10, ce3 z.1), (h11, ce3 z.1), (h12, ce3 z.1), (h13, ce3 z.1), (h14, ce3 z.1), (h15, ce3 z.1), (h16, ce3 z.1)] H20 := hP
  have hD := vd_as hP hD rfl
  refine lv_iinc (v := 1) (lv' := [(1, .int 1), (2, .ref h3), (0, .ref h0)]) hx hb dX0_reckonDelays_38 hl (k := 1) rfl (by decide) (by decide) rfl (fun ls hl => ?_)
  refine lv_goto (tgt := 2) hx hb dX0_reckonDelays_41 (by decide) ?_
  refine lv_iload_n hx hb dX0_reckonDelays_2 rfl (lv_at hl 0 rfl) ?_
  refine lv_aload_n hx hb dX0_reckonDelays_3 rfl (lv_at hl 2 rfl) ?_
  refine va_get (D := (dC, dI)) (ci := 2) (v := .ref h1) (C := RX0) (T := TX0) (N := 4) hx hb hts in_X0 hown hK hP 0 rfl rfl 3 (by decide) (hts _ q_31) (fun _ h9 => h9) rfl dX0_reckonDelays_4 ?_
  have hM23 := k20_size l hl9 dC dI z h1 h2 H20.size 35 7
  obtain ⟨hF21, hC24⟩ := pc_M hM23 hP hD hK hS hX hT hA [1] [] rfl rfl rfl
  refine va_calli (va_runV (As := []) (rest := [.int 1]) ⟨hx, hb, hml, hown, hts⟩ hM23 (cwV 0 hts (gV q_92 q_77 q_78 q_12 q_75) rfl rfl rfl hV_Jx4a65c_size_8abf5 ⟨Nat.le_of_ble_eq_true rfl, Nat.le_of_ble_eq_true rfl⟩) ⟨pc_blind, va_recv hK hP (ci := 0) (q := (RJx4a65c, TJx4a65c, 3)) (q0 := 1) rfl rfl, fun U hU hW => ⟨rfl, hC24 U hU hW⟩⟩ rfl rfl hl.1 rfl (lv_room (Nat.le_of_ble_eq_true rfl)) dX0_reckonDelays_7 ⟨(Nat.le_of_ble_eq_true rfl), (Nat.le_of_ble_eq_true rfl)⟩) hS (fun q9 _ h9 => hF21 q9 h9) hF21 (fun r26 u25 t25 H25 L25 ht25 hvm25 hw25 hB25 hz25 hk25 hS => ?_)
  have hP := pq_keep hP hD [1] rfl hk25 hB25.1 ht25
  have hG : s.heap.size + 0 ≤ H25.size := Nat.le_trans hG hz25
  refine W.eq (g2 := F0 m 10 ls [.int 7, .int 1]) (by rw [hw25]) ?_
  refine lv_icmp_ge (tgt := 44) hx hb dX0_reckonDelays_10 (by decide) (fun cz => absurd cz (by decide)) (fun _ => ?_)
  refine lv_aload_n hx hb dX0_reckonDelays_13 rfl (lv_at hl 2 rfl) ?_
  refine va_get (D := (dC, dI)) (ci := 2) (v := .ref h1) (C := RX0) (T := TX0) (N := 4) hx hb hts in_X0 hown hK hP 0 rfl rfl 3 (by decide) (hts _ q_31) (fun _ h9 => h9) rfl dX0_reckonDelays_14 ?_
  refine lv_iload_n hx hb dX0_reckonDelays_17 rfl (lv_at hl 0 rfl) ?_
  have hM29 := k678_get l hl9 dC dI z h1 h2 h3 h4 h5 h6 h7 h8 h9 H25.size kc0
  obtain ⟨hF27, hC30⟩ := pc_M hM29 hP hD hK hS hX hT hA [1, 2] [0] rfl rfl rfl
  refine va_callr (va_runV (As := [.int 1]) (rest := []) ⟨hx, hb, hml, hown, hts⟩ hM29 (cwV 1 hts (gV q_156 q_157 q_158 q_12 q_155) rfl rfl rfl hV_Jx4a65c_get_915e3 ⟨Nat.le_of_ble_eq_true rfl, Nat.le_of_ble_eq_true rfl⟩) ⟨pc_blind, va_recv hK hP (ci := 0) (q := (RJx4a65c, TJx4a65c, 3)) (q0 := 1) rfl rfl, fun U hU hW => ⟨rfl, hC30 U hU hW⟩⟩ rfl rfl hl.1 rfl (lv_room (Nat.le_of_ble_eq_true rfl)) dX0_reckonDelays_18 ⟨(Nat.le_of_ble_eq_true rfl), (Nat.le_of_ble_eq_true rfl)⟩) hS (fun q9 _ h9 => hF27 q9 h9) hF27 (fun u31 r32 t31 H31 L31 ht31 hvm31 hw31 hB31 hz31 hk31 hS => ?_)
  obtain ⟨hr31, hB31⟩ := hB31
  have hP := pq_keep hP hD [1, 2] rfl hk31 hB31.1 ht31
  have hG : s.heap.size + 0 ≤ H31.size := Nat.le_trans hG hz31
  refine W.eq (g2 := F0 m 21 ls [.ref h4]) (by rw [hr31]) ?_
  refine va_castE (nm := RX2) hx hb hown (hts _ q_89) (va_recv hK hP (ci := 3) (q := (RX2, TX2, 19)) (q0 := 4) rfl rfl) dX0_reckonDelays_21 ?_
  refine lv_astore_n (lv' := [(2, .ref h4), (1, .int 1), (0, .ref h0)]) hx hb dX0_reckonDelays_24 rfl hl (by decide) rfl (fun ls hl => ?_)
  refine lv_aload_n hx hb dX0_reckonDelays_25 rfl (lv_at hl 0 rfl) ?_
  refine lv_aload_n hx hb dX0_reckonDelays_26 rfl (lv_at hl 0 rfl) ?_
  have hM35 := k108_latestArrival l hl9 dC dI z h4 h11 H31.size
  obtain ⟨hF33, hC36⟩ := pc_M hM35 hP hD hK hS hX hT hA [4, 11] [] rfl rfl rfl
  refine va_calli (va_runV (As := []) (rest := [.ref h4]) ⟨hx, hb, hml, hown, hts⟩ hM35 (cwV 0 hts (gV q_179 q_180 q_181 q_91 q_178) rfl rfl rfl hV_X2_latestArrival ⟨Nat.le_of_ble_eq_true rfl, Nat.le_of_ble_eq_true rfl⟩) ⟨pc_blind, va_recv hK hP (ci := 3) (q := (RX2, TX2, 19)) (q0 := 4) rfl rfl, fun U hU hW => ⟨rfl, hC36 U hU hW⟩⟩ rfl rfl hl.1 rfl (lv_room (Nat.le_of_ble_eq_true rfl)) dX0_reckonDelays_27 ⟨(Nat.le_of_ble_eq_true rfl), (Nat.le_of_ble_eq_true rfl)⟩) hS (fun q9 _ h9 => hF33 q9 h9) hF33 (fun r38 u37 t37 H37 L37 ht37 hvm37 hw37 hB37 hz37 hk37 hS => ?_)
  have hP := pq_keep hP hD [4, 11] rfl hk37 hB37.1 ht37
  have hG : s.heap.size + 0 ≤ H37.size := Nat.le_trans hG hz37
  refine W.eq (g2 := F0 m 30 ls [.int 0, .ref h4]) (by rw [hw37]) ?_
  refine va_put (D := (dC, dI)) (ci := 3) (v := .int 0) (ty := .int) (C := RX2) (T := TX2) (N := 19) hx hb hts in_X2 tyX2 tyX2_ok nmX2 hown hK hP hD (va_Sre hS) 4 rfl rfl 14 (by decide) (hts _ q_182) (fun _ h9 => h9) rfl (by decide +kernel) rfl rfl (Nat.le_of_ble_eq_true rfl) dX0_reckonDelays_30 (fun H39 _ hP hD hS' => ?_)
  have hG : s.heap.size + 0 ≤ H39.size := Nat.le_trans hG hS'.1
  have hS := va_Str hS hS'
  have hP : va_P (dC, dI) xCl [(h0, ce7 o0 o1 o2 h1), (h1, ce366 h2), (h2, ce330 kc0 h3 h4 h5 h6 h7 h8 h9), (h3, ce38 (z.2.1 0) h10 h3), (h4, ce77 (z.2.1 0) h11 h4), (h5, ce115 (z.2.1 0) h12 h5), (h6, ce165 (z.2.1 0) h13 h6), (h7, ce224 (z.2.1 0) h14 h7), (h8, ce287 (z.2.1 0) h15 h8), (h9, ce364 (z.2.1 0) h16 h9), (h10, ce3 z.1), (h11, ce3 z.1), (h12, ce3 z.1), (h13, ce3 z.1), (h14, ce3 z.1), (h15, ce3 z.1), (h16, ce3 z.1)] H39 := hP
  have hD := vd_as hP hD rfl
  refine lv_aload_n hx hb dX0_reckonDelays_33 rfl (lv_at hl 0 rfl) ?_
  refine lv_iconst (v := 0) hx hb dX0_reckonDelays_34 (by decide) ?_
  refine va_put (D := (dC, dI)) (ci := 3) (v := .int 0) (ty := .int) (C := RX2) (T := TX2) (N := 19) hx hb hts in_X2 tyX2 tyX2_ok nmX2 hown hK hP hD (va_Sre hS) 4 rfl rfl 15 (by decide) (hts _ q_183) (fun _ h9 => h9) rfl (by decide +kernel) rfl rfl (Nat.le_of_ble_eq_true rfl) dX0_reckonDelays_35 (fun H40 _ hP hD hS' => ?_)
  have hG : s.heap.size + 0 ≤ H40.size := Nat.le_trans hG hS'.1
  have hS := va_Str hS hS'
  have hP : va_P (dC, dI) xCl [(h0, ce7 o0 o1 o2 h1), (h1, ce366 h2), (h2, ce330 kc0 h3 h4 h5 h6 h7 h8 h9), (h3, ce38 (z.2.1 0) h10 h3), (h4, ce77 (z.2.1 0) h11 h4), (h5, ce115 (z.2.1 0) h12 h5), (h6, ce165 (z.2.1 0) h13 h6), (h7, ce224 (z.2.1 0) h14 h7), (h8, ce287 (z.2.1 0) h15 h8), (h9, ce364 (z.2.1 0) h16 h9), (h10, ce3 z.1), (h11, ce3 z.1), (h12, ce3 z.1), (h13, ce3 z.1), (h14, ce3 z.1), (h15, ce3 z.1), (h16, ce3 z.1)] H40 := hP
  have hD := vd_as hP hD rfl
  refine lv_iinc (v := 2) (lv' := [(1, .int 2), (2, .ref h4), (0, .ref h0)]) hx hb dX0_reckonDelays_38 hl (k := 1) rfl (by decide) (by decide) rfl (fun ls hl => ?_)
  refine lv_goto (tgt := 2) hx hb dX0_reckonDelays_41 (by decide) ?_
  refine lv_iload_n hx hb dX0_reckonDelays_2 rfl (lv_at hl 0 rfl) ?_
  refine lv_aload_n hx hb dX0_reckonDelays_3 rfl (lv_at hl 2 rfl) ?_
  refine va_get (D := (dC, dI)) (ci := 2) (v := .ref h1) (C := RX0) (T := TX0) (N := 4) hx hb hts in_X0 hown hK hP 0 rfl rfl 3 (by decide) (hts _ q_31) (fun _ h9 => h9) rfl dX0_reckonDelays_4 ?_
  have hM43 := k20_size l hl9 dC dI z h1 h2 H40.size 35 7
  obtain ⟨hF41, hC44⟩ := pc_M hM43 hP hD hK hS hX hT hA [1] [] rfl rfl rfl
  refine va_calli (va_runV (As := []) (rest := [.int 2]) ⟨hx, hb, hml, hown, hts⟩ hM43 (cwV 0 hts (gV q_92 q_77 q_78 q_12 q_75) rfl rfl rfl hV_Jx4a65c_size_8abf5 ⟨Nat.le_of_ble_eq_true rfl, Nat.le_of_ble_eq_true rfl⟩) ⟨pc_blind, va_recv hK hP (ci := 0) (q := (RJx4a65c, TJx4a65c, 3)) (q0 := 1) rfl rfl, fun U hU hW => ⟨rfl, hC44 U hU hW⟩⟩ rfl rfl hl.1 rfl (lv_room (Nat.le_of_ble_eq_true rfl)) dX0_reckonDelays_7 ⟨(Nat.le_of_ble_eq_true rfl), (Nat.le_of_ble_eq_true rfl)⟩) hS (fun q9 _ h9 => hF41 q9 h9) hF41 (fun r46 u45 t45 H45 L45 ht45 hvm45 hw45 hB45 hz45 hk45 hS => ?_)
  have hP := pq_keep hP hD [1] rfl hk45 hB45.1 ht45
  have hG : s.heap.size + 0 ≤ H45.size := Nat.le_trans hG hz45
  refine W.eq (g2 := F0 m 10 ls [.int 7, .int 2]) (by rw [hw45]) ?_
  refine lv_icmp_ge (tgt := 44) hx hb dX0_reckonDelays_10 (by decide) (fun cz => absurd cz (by decide)) (fun _ => ?_)
  refine lv_aload_n hx hb dX0_reckonDelays_13 rfl (lv_at hl 2 rfl) ?_
  refine va_get (D := (dC, dI)) (ci := 2) (v := .ref h1) (C := RX0) (T := TX0) (N := 4) hx hb hts in_X0 hown hK hP 0 rfl rfl 3 (by decide) (hts _ q_31) (fun _ h9 => h9) rfl dX0_reckonDelays_14 ?_
  refine lv_iload_n hx hb dX0_reckonDelays_17 rfl (lv_at hl 0 rfl) ?_
  have hM49 := k680_get l hl9 dC dI z h1 h2 h3 h4 h5 h6 h7 h8 h9 H45.size kc0
  obtain ⟨hF47, hC50⟩ := pc_M hM49 hP hD hK hS hX hT hA [1, 2] [0] rfl rfl rfl
  refine va_callr (va_runV (As := [.int 2]) (rest := []) ⟨hx, hb, hml, hown, hts⟩ hM49 (cwV 1 hts (gV q_156 q_157 q_158 q_12 q_155) rfl rfl rfl hV_Jx4a65c_get_915e3 ⟨Nat.le_of_ble_eq_true rfl, Nat.le_of_ble_eq_true rfl⟩) ⟨pc_blind, va_recv hK hP (ci := 0) (q := (RJx4a65c, TJx4a65c, 3)) (q0 := 1) rfl rfl, fun U hU hW => ⟨rfl, hC50 U hU hW⟩⟩ rfl rfl hl.1 rfl (lv_room (Nat.le_of_ble_eq_true rfl)) dX0_reckonDelays_18 ⟨(Nat.le_of_ble_eq_true rfl), (Nat.le_of_ble_eq_true rfl)⟩) hS (fun q9 _ h9 => hF47 q9 h9) hF47 (fun u51 r52 t51 H51 L51 ht51 hvm51 hw51 hB51 hz51 hk51 hS => ?_)
  obtain ⟨hr51, hB51⟩ := hB51
  have hP := pq_keep hP hD [1, 2] rfl hk51 hB51.1 ht51
  have hG : s.heap.size + 0 ≤ H51.size := Nat.le_trans hG hz51
  refine W.eq (g2 := F0 m 21 ls [.ref h5]) (by rw [hr51]) ?_
  refine va_castE (nm := RX2) hx hb hown (hts _ q_89) (va_recv hK hP (ci := 3) (q := (RX2, TX2, 19)) (q0 := 5) rfl rfl) dX0_reckonDelays_21 ?_
  refine lv_astore_n (lv' := [(2, .ref h5), (1, .int 2), (0, .ref h0)]) hx hb dX0_reckonDelays_24 rfl hl (by decide) rfl (fun ls hl => ?_)
  refine lv_aload_n hx hb dX0_reckonDelays_25 rfl (lv_at hl 0 rfl) ?_
  refine lv_aload_n hx hb dX0_reckonDelays_26 rfl (lv_at hl 0 rfl) ?_
  have hM55 := k193_latestArrival l hl9 dC dI z h5 h12 H51.size
  obtain ⟨hF53, hC56⟩ := pc_M hM55 hP hD hK hS hX hT hA [5, 12] [] rfl rfl rfl
  refine va_calli (va_runV (As := []) (rest := [.ref h5]) ⟨hx, hb, hml, hown, hts⟩ hM55 (cwV 0 hts (gV q_179 q_180 q_181 q_91 q_178) rfl rfl rfl hV_X2_latestArrival ⟨Nat.le_of_ble_eq_true rfl, Nat.le_of_ble_eq_true rfl⟩) ⟨pc_blind, va_recv hK hP (ci := 3) (q := (RX2, TX2, 19)) (q0 := 5) rfl rfl, fun U hU hW => ⟨rfl, hC56 U hU hW⟩⟩ rfl rfl hl.1 rfl (lv_room (Nat.le_of_ble_eq_true rfl)) dX0_reckonDelays_27 ⟨(Nat.le_of_ble_eq_true rfl), (Nat.le_of_ble_eq_true rfl)⟩) hS (fun q9 _ h9 => hF53 q9 h9) hF53 (fun r58 u57 t57 H57 L57 ht57 hvm57 hw57 hB57 hz57 hk57 hS => ?_)
  have hP := pq_keep hP hD [5, 12] rfl hk57 hB57.1 ht57
  have hG : s.heap.size + 0 ≤ H57.size := Nat.le_trans hG hz57
  refine W.eq (g2 := F0 m 30 ls [.int 0, .ref h5]) (by rw [hw57]) ?_
  refine va_put (D := (dC, dI)) (ci := 3) (v := .int 0) (ty := .int) (C := RX2) (T := TX2) (N := 19) hx hb hts in_X2 tyX2 tyX2_ok nmX2 hown hK hP hD (va_Sre hS) 5 rfl rfl 14 (by decide) (hts _ q_182) (fun _ h9 => h9) rfl (by decide +kernel) rfl rfl (Nat.le_of_ble_eq_true rfl) dX0_reckonDelays_30 (fun H59 _ hP hD hS' => ?_)
  have hG : s.heap.size + 0 ≤ H59.size := Nat.le_trans hG hS'.1
  have hS := va_Str hS hS'
  have hP : va_P (dC, dI) xCl [(h0, ce7 o0 o1 o2 h1), (h1, ce366 h2), (h2, ce330 kc0 h3 h4 h5 h6 h7 h8 h9), (h3, ce38 (z.2.1 0) h10 h3), (h4, ce77 (z.2.1 0) h11 h4), (h5, ce115 (z.2.1 0) h12 h5), (h6, ce165 (z.2.1 0) h13 h6), (h7, ce224 (z.2.1 0) h14 h7), (h8, ce287 (z.2.1 0) h15 h8), (h9, ce364 (z.2.1 0) h16 h9), (h10, ce3 z.1), (h11, ce3 z.1), (h12, ce3 z.1), (h13, ce3 z.1), (h14, ce3 z.1), (h15, ce3 z.1), (h16, ce3 z.1)] H59 := hP
  have hD := vd_as hP hD rfl
  refine lv_aload_n hx hb dX0_reckonDelays_33 rfl (lv_at hl 0 rfl) ?_
  refine lv_iconst (v := 0) hx hb dX0_reckonDelays_34 (by decide) ?_
  refine va_put (D := (dC, dI)) (ci := 3) (v := .int 0) (ty := .int) (C := RX2) (T := TX2) (N := 19) hx hb hts in_X2 tyX2 tyX2_ok nmX2 hown hK hP hD (va_Sre hS) 5 rfl rfl 15 (by decide) (hts _ q_183) (fun _ h9 => h9) rfl (by decide +kernel) rfl rfl (Nat.le_of_ble_eq_true rfl) dX0_reckonDelays_35 (fun H60 _ hP hD hS' => ?_)
  have hG : s.heap.size + 0 ≤ H60.size := Nat.le_trans hG hS'.1
  have hS := va_Str hS hS'
  have hP : va_P (dC, dI) xCl [(h0, ce7 o0 o1 o2 h1), (h1, ce366 h2), (h2, ce330 kc0 h3 h4 h5 h6 h7 h8 h9), (h3, ce38 (z.2.1 0) h10 h3), (h4, ce77 (z.2.1 0) h11 h4), (h5, ce115 (z.2.1 0) h12 h5), (h6, ce165 (z.2.1 0) h13 h6), (h7, ce224 (z.2.1 0) h14 h7), (h8, ce287 (z.2.1 0) h15 h8), (h9, ce364 (z.2.1 0) h16 h9), (h10, ce3 z.1), (h11, ce3 z.1), (h12, ce3 z.1), (h13, ce3 z.1), (h14, ce3 z.1), (h15, ce3 z.1), (h16, ce3 z.1)] H60 := hP
  have hD := vd_as hP hD rfl
  refine lv_iinc (v := 3) (lv' := [(1, .int 3), (2, .ref h5), (0, .ref h0)]) hx hb dX0_reckonDelays_38 hl (k := 1) rfl (by decide) (by decide) rfl (fun ls hl => ?_)
  refine lv_goto (tgt := 2) hx hb dX0_reckonDelays_41 (by decide) ?_
  refine lv_iload_n hx hb dX0_reckonDelays_2 rfl (lv_at hl 0 rfl) ?_
  refine lv_aload_n hx hb dX0_reckonDelays_3 rfl (lv_at hl 2 rfl) ?_
  refine va_get (D := (dC, dI)) (ci := 2) (v := .ref h1) (C := RX0) (T := TX0) (N := 4) hx hb hts in_X0 hown hK hP 0 rfl rfl 3 (by decide) (hts _ q_31) (fun _ h9 => h9) rfl dX0_reckonDelays_4 ?_
  have hM63 := k20_size l hl9 dC dI z h1 h2 H60.size 35 7
  obtain ⟨hF61, hC64⟩ := pc_M hM63 hP hD hK hS hX hT hA [1] [] rfl rfl rfl
  refine va_calli (va_runV (As := []) (rest := [.int 3]) ⟨hx, hb, hml, hown, hts⟩ hM63 (cwV 0 hts (gV q_92 q_77 q_78 q_12 q_75) rfl rfl rfl hV_Jx4a65c_size_8abf5 ⟨Nat.le_of_ble_eq_true rfl, Nat.le_of_ble_eq_true rfl⟩) ⟨pc_blind, va_recv hK hP (ci := 0) (q := (RJx4a65c, TJx4a65c, 3)) (q0 := 1) rfl rfl, fun U hU hW => ⟨rfl, hC64 U hU hW⟩⟩ rfl rfl hl.1 rfl (lv_room (Nat.le_of_ble_eq_true rfl)) dX0_reckonDelays_7 ⟨(Nat.le_of_ble_eq_true rfl), (Nat.le_of_ble_eq_true rfl)⟩) hS (fun q9 _ h9 => hF61 q9 h9) hF61 (fun r66 u65 t65 H65 L65 ht65 hvm65 hw65 hB65 hz65 hk65 hS => ?_)
  have hP := pq_keep hP hD [1] rfl hk65 hB65.1 ht65
  have hG : s.heap.size + 0 ≤ H65.size := Nat.le_trans hG hz65
  refine W.eq (g2 := F0 m 10 ls [.int 7, .int 3]) (by rw [hw65]) ?_
  refine lv_icmp_ge (tgt := 44) hx hb dX0_reckonDelays_10 (by decide) (fun cz => absurd cz (by decide)) (fun _ => ?_)
  refine lv_aload_n hx hb dX0_reckonDelays_13 rfl (lv_at hl 2 rfl) ?_
  refine va_get (D := (dC, dI)) (ci := 2) (v := .ref h1) (C := RX0) (T := TX0) (N := 4) hx hb hts in_X0 hown hK hP 0 rfl rfl 3 (by decide) (hts _ q_31) (fun _ h9 => h9) rfl dX0_reckonDelays_14 ?_
  refine lv_iload_n hx hb dX0_reckonDelays_17 rfl (lv_at hl 0 rfl) ?_
  have hM69 := k682_get l hl9 dC dI z h1 h2 h3 h4 h5 h6 h7 h8 h9 H65.size kc0
  obtain ⟨hF67, hC70⟩ := pc_M hM69 hP hD hK hS hX hT hA [1, 2] [0] rfl rfl rfl
  refine va_callr (va_runV (As := [.int 3]) (rest := []) ⟨hx, hb, hml, hown, hts⟩ hM69 (cwV 1 hts (gV q_156 q_157 q_158 q_12 q_155) rfl rfl rfl hV_Jx4a65c_get_915e3 ⟨Nat.le_of_ble_eq_true rfl, Nat.le_of_ble_eq_true rfl⟩) ⟨pc_blind, va_recv hK hP (ci := 0) (q := (RJx4a65c, TJx4a65c, 3)) (q0 := 1) rfl rfl, fun U hU hW => ⟨rfl, hC70 U hU hW⟩⟩ rfl rfl hl.1 rfl (lv_room (Nat.le_of_ble_eq_true rfl)) dX0_reckonDelays_18 ⟨(Nat.le_of_ble_eq_true rfl), (Nat.le_of_ble_eq_true rfl)⟩) hS (fun q9 _ h9 => hF67 q9 h9) hF67 (fun u71 r72 t71 H71 L71 ht71 hvm71 hw71 hB71 hz71 hk71 hS => ?_)
  obtain ⟨hr71, hB71⟩ := hB71
  have hP := pq_keep hP hD [1, 2] rfl hk71 hB71.1 ht71
  have hG : s.heap.size + 0 ≤ H71.size := Nat.le_trans hG hz71
  refine W.eq (g2 := F0 m 21 ls [.ref h6]) (by rw [hr71]) ?_
  refine va_castE (nm := RX2) hx hb hown (hts _ q_89) (va_recv hK hP (ci := 3) (q := (RX2, TX2, 19)) (q0 := 6) rfl rfl) dX0_reckonDelays_21 ?_
  refine lv_astore_n (lv' := [(2, .ref h6), (1, .int 3), (0, .ref h0)]) hx hb dX0_reckonDelays_24 rfl hl (by decide) rfl (fun ls hl => ?_)
  refine lv_aload_n hx hb dX0_reckonDelays_25 rfl (lv_at hl 0 rfl) ?_
  refine lv_aload_n hx hb dX0_reckonDelays_26 rfl (lv_at hl 0 rfl) ?_
  have hM75 := k293_latestArrival l hl9 dC dI z h6 h13 H71.size
  obtain ⟨hF73, hC76⟩ := pc_M hM75 hP hD hK hS hX hT hA [6, 13] [] rfl rfl rfl
  refine va_calli (va_runV (As := []) (rest := [.ref h6]) ⟨hx, hb, hml, hown, hts⟩ hM75 (cwV 0 hts (gV q_179 q_180 q_181 q_91 q_178) rfl rfl rfl hV_X2_latestArrival ⟨Nat.le_of_ble_eq_true rfl, Nat.le_of_ble_eq_true rfl⟩) ⟨pc_blind, va_recv hK hP (ci := 3) (q := (RX2, TX2, 19)) (q0 := 6) rfl rfl, fun U hU hW => ⟨rfl, hC76 U hU hW⟩⟩ rfl rfl hl.1 rfl (lv_room (Nat.le_of_ble_eq_true rfl)) dX0_reckonDelays_27 ⟨(Nat.le_of_ble_eq_true rfl), (Nat.le_of_ble_eq_true rfl)⟩) hS (fun q9 _ h9 => hF73 q9 h9) hF73 (fun r78 u77 t77 H77 L77 ht77 hvm77 hw77 hB77 hz77 hk77 hS => ?_)
  have hP := pq_keep hP hD [6, 13] rfl hk77 hB77.1 ht77
  have hG : s.heap.size + 0 ≤ H77.size := Nat.le_trans hG hz77
  refine W.eq (g2 := F0 m 30 ls [.int 0, .ref h6]) (by rw [hw77]) ?_
  refine va_put (D := (dC, dI)) (ci := 3) (v := .int 0) (ty := .int) (C := RX2) (T := TX2) (N := 19) hx hb hts in_X2 tyX2 tyX2_ok nmX2 hown hK hP hD (va_Sre hS) 6 rfl rfl 14 (by decide) (hts _ q_182) (fun _ h9 => h9) rfl (by decide +kernel) rfl rfl (Nat.le_of_ble_eq_true rfl) dX0_reckonDelays_30 (fun H79 _ hP hD hS' => ?_)
  have hG : s.heap.size + 0 ≤ H79.size := Nat.le_trans hG hS'.1
  have hS := va_Str hS hS'
  have hP : va_P (dC, dI) xCl [(h0, ce7 o0 o1 o2 h1), (h1, ce366 h2), (h2, ce330 kc0 h3 h4 h5 h6 h7 h8 h9), (h3, ce38 (z.2.1 0) h10 h3), (h4, ce77 (z.2.1 0) h11 h4), (h5, ce115 (z.2.1 0) h12 h5), (h6, ce165 (z.2.1 0) h13 h6), (h7, ce224 (z.2.1 0) h14 h7), (h8, ce287 (z.2.1 0) h15 h8), (h9, ce364 (z.2.1 0) h16 h9), (h10, ce3 z.1), (h11, ce3 z.1), (h12, ce3 z.1), (h13, ce3 z.1), (h14, ce3 z.1), (h15, ce3 z.1), (h16, ce3 z.1)] H79 := hP
  have hD := vd_as hP hD rfl
  refine lv_aload_n hx hb dX0_reckonDelays_33 rfl (lv_at hl 0 rfl) ?_
  refine lv_iconst (v := 0) hx hb dX0_reckonDelays_34 (by decide) ?_
  refine va_put (D := (dC, dI)) (ci := 3) (v := .int 0) (ty := .int) (C := RX2) (T := TX2) (N := 19) hx hb hts in_X2 tyX2 tyX2_ok nmX2 hown hK hP hD (va_Sre hS) 6 rfl rfl 15 (by decide) (hts _ q_183) (fun _ h9 => h9) rfl (by decide +kernel) rfl rfl (Nat.le_of_ble_eq_true rfl) dX0_reckonDelays_35 (fun H80 _ hP hD hS' => ?_)
  have hG : s.heap.size + 0 ≤ H80.size := Nat.le_trans hG hS'.1
  have hS := va_Str hS hS'
  have hP : va_P (dC, dI) xCl [(h0, ce7 o0 o1 o2 h1), (h1, ce366 h2), (h2, ce330 kc0 h3 h4 h5 h6 h7 h8 h9), (h3, ce38 (z.2.1 0) h10 h3), (h4, ce77 (z.2.1 0) h11 h4), (h5, ce115 (z.2.1 0) h12 h5), (h6, ce165 (z.2.1 0) h13 h6), (h7, ce224 (z.2.1 0) h14 h7), (h8, ce287 (z.2.1 0) h15 h8), (h9, ce364 (z.2.1 0) h16 h9), (h10, ce3 z.1), (h11, ce3 z.1), (h12, ce3 z.1), (h13, ce3 z.1), (h14, ce3 z.1), (h15, ce3 z.1), (h16, ce3 z.1)] H80 := hP
  have hD := vd_as hP hD rfl
  refine lv_iinc (v := 4) (lv' := [(1, .int 4), (2, .ref h6), (0, .ref h0)]) hx hb dX0_reckonDelays_38 hl (k := 1) rfl (by decide) (by decide) rfl (fun ls hl => ?_)
  refine lv_goto (tgt := 2) hx hb dX0_reckonDelays_41 (by decide) ?_
  refine lv_iload_n hx hb dX0_reckonDelays_2 rfl (lv_at hl 0 rfl) ?_
  refine lv_aload_n hx hb dX0_reckonDelays_3 rfl (lv_at hl 2 rfl) ?_
  refine va_get (D := (dC, dI)) (ci := 2) (v := .ref h1) (C := RX0) (T := TX0) (N := 4) hx hb hts in_X0 hown hK hP 0 rfl rfl 3 (by decide) (hts _ q_31) (fun _ h9 => h9) rfl dX0_reckonDelays_4 ?_
  have hM83 := k20_size l hl9 dC dI z h1 h2 H80.size 35 7
  obtain ⟨hF81, hC84⟩ := pc_M hM83 hP hD hK hS hX hT hA [1] [] rfl rfl rfl
  refine va_calli (va_runV (As := []) (rest := [.int 4]) ⟨hx, hb, hml, hown, hts⟩ hM83 (cwV 0 hts (gV q_92 q_77 q_78 q_12 q_75) rfl rfl rfl hV_Jx4a65c_size_8abf5 ⟨Nat.le_of_ble_eq_true rfl, Nat.le_of_ble_eq_true rfl⟩) ⟨pc_blind, va_recv hK hP (ci := 0) (q := (RJx4a65c, TJx4a65c, 3)) (q0 := 1) rfl rfl, fun U hU hW => ⟨rfl, hC84 U hU hW⟩⟩ rfl rfl hl.1 rfl (lv_room (Nat.le_of_ble_eq_true rfl)) dX0_reckonDelays_7 ⟨(Nat.le_of_ble_eq_true rfl), (Nat.le_of_ble_eq_true rfl)⟩) hS (fun q9 _ h9 => hF81 q9 h9) hF81 (fun r86 u85 t85 H85 L85 ht85 hvm85 hw85 hB85 hz85 hk85 hS => ?_)
  have hP := pq_keep hP hD [1] rfl hk85 hB85.1 ht85
  have hG : s.heap.size + 0 ≤ H85.size := Nat.le_trans hG hz85
  refine W.eq (g2 := F0 m 10 ls [.int 7, .int 4]) (by rw [hw85]) ?_
  refine lv_icmp_ge (tgt := 44) hx hb dX0_reckonDelays_10 (by decide) (fun cz => absurd cz (by decide)) (fun _ => ?_)
  refine lv_aload_n hx hb dX0_reckonDelays_13 rfl (lv_at hl 2 rfl) ?_
  refine va_get (D := (dC, dI)) (ci := 2) (v := .ref h1) (C := RX0) (T := TX0) (N := 4) hx hb hts in_X0 hown hK hP 0 rfl rfl 3 (by decide) (hts _ q_31) (fun _ h9 => h9) rfl dX0_reckonDelays_14 ?_
  refine lv_iload_n hx hb dX0_reckonDelays_17 rfl (lv_at hl 0 rfl) ?_
  have hM89 := k684_get l hl9 dC dI z h1 h2 h3 h4 h5 h6 h7 h8 h9 H85.size kc0
  obtain ⟨hF87, hC90⟩ := pc_M hM89 hP hD hK hS hX hT hA [1, 2] [0] rfl rfl rfl
  refine va_callr (va_runV (As := [.int 4]) (rest := []) ⟨hx, hb, hml, hown, hts⟩ hM89 (cwV 1 hts (gV q_156 q_157 q_158 q_12 q_155) rfl rfl rfl hV_Jx4a65c_get_915e3 ⟨Nat.le_of_ble_eq_true rfl, Nat.le_of_ble_eq_true rfl⟩) ⟨pc_blind, va_recv hK hP (ci := 0) (q := (RJx4a65c, TJx4a65c, 3)) (q0 := 1) rfl rfl, fun U hU hW => ⟨rfl, hC90 U hU hW⟩⟩ rfl rfl hl.1 rfl (lv_room (Nat.le_of_ble_eq_true rfl)) dX0_reckonDelays_18 ⟨(Nat.le_of_ble_eq_true rfl), (Nat.le_of_ble_eq_true rfl)⟩) hS (fun q9 _ h9 => hF87 q9 h9) hF87 (fun u91 r92 t91 H91 L91 ht91 hvm91 hw91 hB91 hz91 hk91 hS => ?_)
  obtain ⟨hr91, hB91⟩ := hB91
  have hP := pq_keep hP hD [1, 2] rfl hk91 hB91.1 ht91
  have hG : s.heap.size + 0 ≤ H91.size := Nat.le_trans hG hz91
  refine W.eq (g2 := F0 m 21 ls [.ref h7]) (by rw [hr91]) ?_
  refine va_castE (nm := RX2) hx hb hown (hts _ q_89) (va_recv hK hP (ci := 3) (q := (RX2, TX2, 19)) (q0 := 7) rfl rfl) dX0_reckonDelays_21 ?_
  refine lv_astore_n (lv' := [(2, .ref h7), (1, .int 4), (0, .ref h0)]) hx hb dX0_reckonDelays_24 rfl hl (by decide) rfl (fun ls hl => ?_)
  refine lv_aload_n hx hb dX0_reckonDelays_25 rfl (lv_at hl 0 rfl) ?_
  refine lv_aload_n hx hb dX0_reckonDelays_26 rfl (lv_at hl 0 rfl) ?_
  have hM95 := k409_latestArrival l hl9 dC dI z h7 h14 H91.size
  obtain ⟨hF93, hC96⟩ := pc_M hM95 hP hD hK hS hX hT hA [7, 14] [] rfl rfl rfl
  refine va_calli (va_runV (As := []) (rest := [.ref h7]) ⟨hx, hb, hml, hown, hts⟩ hM95 (cwV 0 hts (gV q_179 q_180 q_181 q_91 q_178) rfl rfl rfl hV_X2_latestArrival ⟨Nat.le_of_ble_eq_true rfl, Nat.le_of_ble_eq_true rfl⟩) ⟨pc_blind, va_recv hK hP (ci := 3) (q := (RX2, TX2, 19)) (q0 := 7) rfl rfl, fun U hU hW => ⟨rfl, hC96 U hU hW⟩⟩ rfl rfl hl.1 rfl (lv_room (Nat.le_of_ble_eq_true rfl)) dX0_reckonDelays_27 ⟨(Nat.le_of_ble_eq_true rfl), (Nat.le_of_ble_eq_true rfl)⟩) hS (fun q9 _ h9 => hF93 q9 h9) hF93 (fun r98 u97 t97 H97 L97 ht97 hvm97 hw97 hB97 hz97 hk97 hS => ?_)
  have hP := pq_keep hP hD [7, 14] rfl hk97 hB97.1 ht97
  have hG : s.heap.size + 0 ≤ H97.size := Nat.le_trans hG hz97
  refine W.eq (g2 := F0 m 30 ls [.int 0, .ref h7]) (by rw [hw97]) ?_
  refine va_put (D := (dC, dI)) (ci := 3) (v := .int 0) (ty := .int) (C := RX2) (T := TX2) (N := 19) hx hb hts in_X2 tyX2 tyX2_ok nmX2 hown hK hP hD (va_Sre hS) 7 rfl rfl 14 (by decide) (hts _ q_182) (fun _ h9 => h9) rfl (by decide +kernel) rfl rfl (Nat.le_of_ble_eq_true rfl) dX0_reckonDelays_30 (fun H99 _ hP hD hS' => ?_)
  have hG : s.heap.size + 0 ≤ H99.size := Nat.le_trans hG hS'.1
  have hS := va_Str hS hS'
  have hP : va_P (dC, dI) xCl [(h0, ce7 o0 o1 o2 h1), (h1, ce366 h2), (h2, ce330 kc0 h3 h4 h5 h6 h7 h8 h9), (h3, ce38 (z.2.1 0) h10 h3), (h4, ce77 (z.2.1 0) h11 h4), (h5, ce115 (z.2.1 0) h12 h5), (h6, ce165 (z.2.1 0) h13 h6), (h7, ce224 (z.2.1 0) h14 h7), (h8, ce287 (z.2.1 0) h15 h8), (h9, ce364 (z.2.1 0) h16 h9), (h10, ce3 z.1), (h11, ce3 z.1), (h12, ce3 z.1), (h13, ce3 z.1), (h14, ce3 z.1), (h15, ce3 z.1), (h16, ce3 z.1)] H99 := hP
  have hD := vd_as hP hD rfl
  refine lv_aload_n hx hb dX0_reckonDelays_33 rfl (lv_at hl 0 rfl) ?_
  refine lv_iconst (v := 0) hx hb dX0_reckonDelays_34 (by decide) ?_
  refine va_put (D := (dC, dI)) (ci := 3) (v := .int 0) (ty := .int) (C := RX2) (T := TX2) (N := 19) hx hb hts in_X2 tyX2 tyX2_ok nmX2 hown hK hP hD (va_Sre hS) 7 rfl rfl 15 (by decide) (hts _ q_183) (fun _ h9 => h9) rfl (by decide +kernel) rfl rfl (Nat.le_of_ble_eq_true rfl) dX0_reckonDelays_35 (fun H100 _ hP hD hS' => ?_)
  have hG : s.heap.size + 0 ≤ H100.size := Nat.le_trans hG hS'.1
  have hS := va_Str hS hS'
  have hP : va_P (dC, dI) xCl [(h0, ce7 o0 o1 o2 h1), (h1, ce366 h2), (h2, ce330 kc0 h3 h4 h5 h6 h7 h8 h9), (h3, ce38 (z.2.1 0) h10 h3), (h4, ce77 (z.2.1 0) h11 h4), (h5, ce115 (z.2.1 0) h12 h5), (h6, ce165 (z.2.1 0) h13 h6), (h7, ce224 (z.2.1 0) h14 h7), (h8, ce287 (z.2.1 0) h15 h8), (h9, ce364 (z.2.1 0) h16 h9), (h10, ce3 z.1), (h11, ce3 z.1), (h12, ce3 z.1), (h13, ce3 z.1), (h14, ce3 z.1), (h15, ce3 z.1), (h16, ce3 z.1)] H100 := hP
  have hD := vd_as hP hD rfl
  refine lv_iinc (v := 5) (lv' := [(1, .int 5), (2, .ref h7), (0, .ref h0)]) hx hb dX0_reckonDelays_38 hl (k := 1) rfl (by decide) (by decide) rfl (fun ls hl => ?_)
  refine lv_goto (tgt := 2) hx hb dX0_reckonDelays_41 (by decide) ?_
  refine lv_iload_n hx hb dX0_reckonDelays_2 rfl (lv_at hl 0 rfl) ?_
  refine lv_aload_n hx hb dX0_reckonDelays_3 rfl (lv_at hl 2 rfl) ?_
  refine va_get (D := (dC, dI)) (ci := 2) (v := .ref h1) (C := RX0) (T := TX0) (N := 4) hx hb hts in_X0 hown hK hP 0 rfl rfl 3 (by decide) (hts _ q_31) (fun _ h9 => h9) rfl dX0_reckonDelays_4 ?_
  have hM103 := k20_size l hl9 dC dI z h1 h2 H100.size 35 7
  obtain ⟨hF101, hC104⟩ := pc_M hM103 hP hD hK hS hX hT hA [1] [] rfl rfl rfl
  refine va_calli (va_runV (As := []) (rest := [.int 5]) ⟨hx, hb, hml, hown, hts⟩ hM103 (cwV 0 hts (gV q_92 q_77 q_78 q_12 q_75) rfl rfl rfl hV_Jx4a65c_size_8abf5 ⟨Nat.le_of_ble_eq_true rfl, Nat.le_of_ble_eq_true rfl⟩) ⟨pc_blind, va_recv hK hP (ci := 0) (q := (RJx4a65c, TJx4a65c, 3)) (q0 := 1) rfl rfl, fun U hU hW => ⟨rfl, hC104 U hU hW⟩⟩ rfl rfl hl.1 rfl (lv_room (Nat.le_of_ble_eq_true rfl)) dX0_reckonDelays_7 ⟨(Nat.le_of_ble_eq_true rfl), (Nat.le_of_ble_eq_true rfl)⟩) hS (fun q9 _ h9 => hF101 q9 h9) hF101 (fun r106 u105 t105 H105 L105 ht105 hvm105 hw105 hB105 hz105 hk105 hS => ?_)
  have hP := pq_keep hP hD [1] rfl hk105 hB105.1 ht105
  have hG : s.heap.size + 0 ≤ H105.size := Nat.le_trans hG hz105
  refine W.eq (g2 := F0 m 10 ls [.int 7, .int 5]) (by rw [hw105]) ?_
  refine lv_icmp_ge (tgt := 44) hx hb dX0_reckonDelays_10 (by decide) (fun cz => absurd cz (by decide)) (fun _ => ?_)
  refine lv_aload_n hx hb dX0_reckonDelays_13 rfl (lv_at hl 2 rfl) ?_
  refine va_get (D := (dC, dI)) (ci := 2) (v := .ref h1) (C := RX0) (T := TX0) (N := 4) hx hb hts in_X0 hown hK hP 0 rfl rfl 3 (by decide) (hts _ q_31) (fun _ h9 => h9) rfl dX0_reckonDelays_14 ?_
  refine lv_iload_n hx hb dX0_reckonDelays_17 rfl (lv_at hl 0 rfl) ?_
  have hM109 := k686_get l hl9 dC dI z h1 h2 h3 h4 h5 h6 h7 h8 h9 H105.size kc0
  obtain ⟨hF107, hC110⟩ := pc_M hM109 hP hD hK hS hX hT hA [1, 2] [0] rfl rfl rfl
  refine va_callr (va_runV (As := [.int 5]) (rest := []) ⟨hx, hb, hml, hown, hts⟩ hM109 (cwV 1 hts (gV q_156 q_157 q_158 q_12 q_155) rfl rfl rfl hV_Jx4a65c_get_915e3 ⟨Nat.le_of_ble_eq_true rfl, Nat.le_of_ble_eq_true rfl⟩) ⟨pc_blind, va_recv hK hP (ci := 0) (q := (RJx4a65c, TJx4a65c, 3)) (q0 := 1) rfl rfl, fun U hU hW => ⟨rfl, hC110 U hU hW⟩⟩ rfl rfl hl.1 rfl (lv_room (Nat.le_of_ble_eq_true rfl)) dX0_reckonDelays_18 ⟨(Nat.le_of_ble_eq_true rfl), (Nat.le_of_ble_eq_true rfl)⟩) hS (fun q9 _ h9 => hF107 q9 h9) hF107 (fun u111 r112 t111 H111 L111 ht111 hvm111 hw111 hB111 hz111 hk111 hS => ?_)
  obtain ⟨hr111, hB111⟩ := hB111
  have hP := pq_keep hP hD [1, 2] rfl hk111 hB111.1 ht111
  have hG : s.heap.size + 0 ≤ H111.size := Nat.le_trans hG hz111
  refine W.eq (g2 := F0 m 21 ls [.ref h8]) (by rw [hr111]) ?_
  refine va_castE (nm := RX2) hx hb hown (hts _ q_89) (va_recv hK hP (ci := 3) (q := (RX2, TX2, 19)) (q0 := 8) rfl rfl) dX0_reckonDelays_21 ?_
  refine lv_astore_n (lv' := [(2, .ref h8), (1, .int 5), (0, .ref h0)]) hx hb dX0_reckonDelays_24 rfl hl (by decide) rfl (fun ls hl => ?_)
  refine lv_aload_n hx hb dX0_reckonDelays_25 rfl (lv_at hl 0 rfl) ?_
  refine lv_aload_n hx hb dX0_reckonDelays_26 rfl (lv_at hl 0 rfl) ?_
  have hM115 := k541_latestArrival l hl9 dC dI z h8 h15 H111.size
  obtain ⟨hF113, hC116⟩ := pc_M hM115 hP hD hK hS hX hT hA [8, 15] [] rfl rfl rfl
  refine va_calli (va_runV (As := []) (rest := [.ref h8]) ⟨hx, hb, hml, hown, hts⟩ hM115 (cwV 0 hts (gV q_179 q_180 q_181 q_91 q_178) rfl rfl rfl hV_X2_latestArrival ⟨Nat.le_of_ble_eq_true rfl, Nat.le_of_ble_eq_true rfl⟩) ⟨pc_blind, va_recv hK hP (ci := 3) (q := (RX2, TX2, 19)) (q0 := 8) rfl rfl, fun U hU hW => ⟨rfl, hC116 U hU hW⟩⟩ rfl rfl hl.1 rfl (lv_room (Nat.le_of_ble_eq_true rfl)) dX0_reckonDelays_27 ⟨(Nat.le_of_ble_eq_true rfl), (Nat.le_of_ble_eq_true rfl)⟩) hS (fun q9 _ h9 => hF113 q9 h9) hF113 (fun r118 u117 t117 H117 L117 ht117 hvm117 hw117 hB117 hz117 hk117 hS => ?_)
  have hP := pq_keep hP hD [8, 15] rfl hk117 hB117.1 ht117
  have hG : s.heap.size + 0 ≤ H117.size := Nat.le_trans hG hz117
  refine W.eq (g2 := F0 m 30 ls [.int 0, .ref h8]) (by rw [hw117]) ?_
  refine va_put (D := (dC, dI)) (ci := 3) (v := .int 0) (ty := .int) (C := RX2) (T := TX2) (N := 19) hx hb hts in_X2 tyX2 tyX2_ok nmX2 hown hK hP hD (va_Sre hS) 8 rfl rfl 14 (by decide) (hts _ q_182) (fun _ h9 => h9) rfl (by decide +kernel) rfl rfl (Nat.le_of_ble_eq_true rfl) dX0_reckonDelays_30 (fun H119 _ hP hD hS' => ?_)
  have hG : s.heap.size + 0 ≤ H119.size := Nat.le_trans hG hS'.1
  have hS := va_Str hS hS'
  have hP : va_P (dC, dI) xCl [(h0, ce7 o0 o1 o2 h1), (h1, ce366 h2), (h2, ce330 kc0 h3 h4 h5 h6 h7 h8 h9), (h3, ce38 (z.2.1 0) h10 h3), (h4, ce77 (z.2.1 0) h11 h4), (h5, ce115 (z.2.1 0) h12 h5), (h6, ce165 (z.2.1 0) h13 h6), (h7, ce224 (z.2.1 0) h14 h7), (h8, ce287 (z.2.1 0) h15 h8), (h9, ce364 (z.2.1 0) h16 h9), (h10, ce3 z.1), (h11, ce3 z.1), (h12, ce3 z.1), (h13, ce3 z.1), (h14, ce3 z.1), (h15, ce3 z.1), (h16, ce3 z.1)] H119 := hP
  have hD := vd_as hP hD rfl
  refine lv_aload_n hx hb dX0_reckonDelays_33 rfl (lv_at hl 0 rfl) ?_
  refine lv_iconst (v := 0) hx hb dX0_reckonDelays_34 (by decide) ?_
  refine va_put (D := (dC, dI)) (ci := 3) (v := .int 0) (ty := .int) (C := RX2) (T := TX2) (N := 19) hx hb hts in_X2 tyX2 tyX2_ok nmX2 hown hK hP hD (va_Sre hS) 8 rfl rfl 15 (by decide) (hts _ q_183) (fun _ h9 => h9) rfl (by decide +kernel) rfl rfl (Nat.le_of_ble_eq_true rfl) dX0_reckonDelays_35 (fun H120 _ hP hD hS' => ?_)
  have hG : s.heap.size + 0 ≤ H120.size := Nat.le_trans hG hS'.1
  have hS := va_Str hS hS'
  have hP : va_P (dC, dI) xCl [(h0, ce7 o0 o1 o2 h1), (h1, ce366 h2), (h2, ce330 kc0 h3 h4 h5 h6 h7 h8 h9), (h3, ce38 (z.2.1 0) h10 h3), (h4, ce77 (z.2.1 0) h11 h4), (h5, ce115 (z.2.1 0) h12 h5), (h6, ce165 (z.2.1 0) h13 h6), (h7, ce224 (z.2.1 0) h14 h7), (h8, ce287 (z.2.1 0) h15 h8), (h9, ce364 (z.2.1 0) h16 h9), (h10, ce3 z.1), (h11, ce3 z.1), (h12, ce3 z.1), (h13, ce3 z.1), (h14, ce3 z.1), (h15, ce3 z.1), (h16, ce3 z.1)] H120 := hP
  have hD := vd_as hP hD rfl
  refine lv_iinc (v := 6) (lv' := [(1, .int 6), (2, .ref h8), (0, .ref h0)]) hx hb dX0_reckonDelays_38 hl (k := 1) rfl (by decide) (by decide) rfl (fun ls hl => ?_)
  refine lv_goto (tgt := 2) hx hb dX0_reckonDelays_41 (by decide) ?_
  refine lv_iload_n hx hb dX0_reckonDelays_2 rfl (lv_at hl 0 rfl) ?_
  refine lv_aload_n hx hb dX0_reckonDelays_3 rfl (lv_at hl 2 rfl) ?_
  refine va_get (D := (dC, dI)) (ci := 2) (v := .ref h1) (C := RX0) (T := TX0) (N := 4) hx hb hts in_X0 hown hK hP 0 rfl rfl 3 (by decide) (hts _ q_31) (fun _ h9 => h9) rfl dX0_reckonDelays_4 ?_
  have hM123 := k20_size l hl9 dC dI z h1 h2 H120.size 35 7
  obtain ⟨hF121, hC124⟩ := pc_M hM123 hP hD hK hS hX hT hA [1] [] rfl rfl rfl
  refine va_calli (va_runV (As := []) (rest := [.int 6]) ⟨hx, hb, hml, hown, hts⟩ hM123 (cwV 0 hts (gV q_92 q_77 q_78 q_12 q_75) rfl rfl rfl hV_Jx4a65c_size_8abf5 ⟨Nat.le_of_ble_eq_true rfl, Nat.le_of_ble_eq_true rfl⟩) ⟨pc_blind, va_recv hK hP (ci := 0) (q := (RJx4a65c, TJx4a65c, 3)) (q0 := 1) rfl rfl, fun U hU hW => ⟨rfl, hC124 U hU hW⟩⟩ rfl rfl hl.1 rfl (lv_room (Nat.le_of_ble_eq_true rfl)) dX0_reckonDelays_7 ⟨(Nat.le_of_ble_eq_true rfl), (Nat.le_of_ble_eq_true rfl)⟩) hS (fun q9 _ h9 => hF121 q9 h9) hF121 (fun r126 u125 t125 H125 L125 ht125 hvm125 hw125 hB125 hz125 hk125 hS => ?_)
  have hP := pq_keep hP hD [1] rfl hk125 hB125.1 ht125
  have hG : s.heap.size + 0 ≤ H125.size := Nat.le_trans hG hz125
  refine W.eq (g2 := F0 m 10 ls [.int 7, .int 6]) (by rw [hw125]) ?_
  refine lv_icmp_ge (tgt := 44) hx hb dX0_reckonDelays_10 (by decide) (fun cz => absurd cz (by decide)) (fun _ => ?_)
  refine lv_aload_n hx hb dX0_reckonDelays_13 rfl (lv_at hl 2 rfl) ?_
  refine va_get (D := (dC, dI)) (ci := 2) (v := .ref h1) (C := RX0) (T := TX0) (N := 4) hx hb hts in_X0 hown hK hP 0 rfl rfl 3 (by decide) (hts _ q_31) (fun _ h9 => h9) rfl dX0_reckonDelays_14 ?_
  refine lv_iload_n hx hb dX0_reckonDelays_17 rfl (lv_at hl 0 rfl) ?_
  have hM129 := k688_get l hl9 dC dI z h1 h2 h3 h4 h5 h6 h7 h8 h9 H125.size kc0
  obtain ⟨hF127, hC130⟩ := pc_M hM129 hP hD hK hS hX hT hA [1, 2] [0] rfl rfl rfl
  refine va_callr (va_runV (As := [.int 6]) (rest := []) ⟨hx, hb, hml, hown, hts⟩ hM129 (cwV 1 hts (gV q_156 q_157 q_158 q_12 q_155) rfl rfl rfl hV_Jx4a65c_get_915e3 ⟨Nat.le_of_ble_eq_true rfl, Nat.le_of_ble_eq_true rfl⟩) ⟨pc_blind, va_recv hK hP (ci := 0) (q := (RJx4a65c, TJx4a65c, 3)) (q0 := 1) rfl rfl, fun U hU hW => ⟨rfl, hC130 U hU hW⟩⟩ rfl rfl hl.1 rfl (lv_room (Nat.le_of_ble_eq_true rfl)) dX0_reckonDelays_18 ⟨(Nat.le_of_ble_eq_true rfl), (Nat.le_of_ble_eq_true rfl)⟩) hS (fun q9 _ h9 => hF127 q9 h9) hF127 (fun u131 r132 t131 H131 L131 ht131 hvm131 hw131 hB131 hz131 hk131 hS => ?_)
  obtain ⟨hr131, hB131⟩ := hB131
  have hP := pq_keep hP hD [1, 2] rfl hk131 hB131.1 ht131
  have hG : s.heap.size + 0 ≤ H131.size := Nat.le_trans hG hz131
  refine W.eq (g2 := F0 m 21 ls [.ref h9]) (by rw [hr131]) ?_
  refine va_castE (nm := RX2) hx hb hown (hts _ q_89) (va_recv hK hP (ci := 3) (q := (RX2, TX2, 19)) (q0 := 9) rfl rfl) dX0_reckonDelays_21 ?_
  refine lv_astore_n (lv' := [(2, .ref h9), (1, .int 6), (0, .ref h0)]) hx hb dX0_reckonDelays_24 rfl hl (by decide) rfl (fun ls hl => ?_)
  refine lv_aload_n hx hb dX0_reckonDelays_25 rfl (lv_at hl 0 rfl) ?_
  refine lv_aload_n hx hb dX0_reckonDelays_26 rfl (lv_at hl 0 rfl) ?_
  have hM135 := k689_latestArrival l hl9 dC dI z h9 h16 H131.size
  obtain ⟨hF133, hC136⟩ := pc_M hM135 hP hD hK hS hX hT hA [9, 16] [] rfl rfl rfl
  refine va_calli (va_runV (As := []) (rest := [.ref h9]) ⟨hx, hb, hml, hown, hts⟩ hM135 (cwV 0 hts (gV q_179 q_180 q_181 q_91 q_178) rfl rfl rfl hV_X2_latestArrival ⟨Nat.le_of_ble_eq_true rfl, Nat.le_of_ble_eq_true rfl⟩) ⟨pc_blind, va_recv hK hP (ci := 3) (q := (RX2, TX2, 19)) (q0 := 9) rfl rfl, fun U hU hW => ⟨rfl, hC136 U hU hW⟩⟩ rfl rfl hl.1 rfl (lv_room (Nat.le_of_ble_eq_true rfl)) dX0_reckonDelays_27 ⟨(Nat.le_of_ble_eq_true rfl), (Nat.le_of_ble_eq_true rfl)⟩) hS (fun q9 _ h9 => hF133 q9 h9) hF133 (fun r138 u137 t137 H137 L137 ht137 hvm137 hw137 hB137 hz137 hk137 hS => ?_)
  have hP := pq_keep hP hD [9, 16] rfl hk137 hB137.1 ht137
  have hG : s.heap.size + 0 ≤ H137.size := Nat.le_trans hG hz137
  refine W.eq (g2 := F0 m 30 ls [.int 0, .ref h9]) (by rw [hw137]) ?_
  refine va_put (D := (dC, dI)) (ci := 3) (v := .int 0) (ty := .int) (C := RX2) (T := TX2) (N := 19) hx hb hts in_X2 tyX2 tyX2_ok nmX2 hown hK hP hD (va_Sre hS) 9 rfl rfl 14 (by decide) (hts _ q_182) (fun _ h9 => h9) rfl (by decide +kernel) rfl rfl (Nat.le_of_ble_eq_true rfl) dX0_reckonDelays_30 (fun H139 _ hP hD hS' => ?_)
  have hG : s.heap.size + 0 ≤ H139.size := Nat.le_trans hG hS'.1
  have hS := va_Str hS hS'
  have hP : va_P (dC, dI) xCl [(h0, ce7 o0 o1 o2 h1), (h1, ce366 h2), (h2, ce330 kc0 h3 h4 h5 h6 h7 h8 h9), (h3, ce38 (z.2.1 0) h10 h3), (h4, ce77 (z.2.1 0) h11 h4), (h5, ce115 (z.2.1 0) h12 h5), (h6, ce165 (z.2.1 0) h13 h6), (h7, ce224 (z.2.1 0) h14 h7), (h8, ce287 (z.2.1 0) h15 h8), (h9, ce364 (z.2.1 0) h16 h9), (h10, ce3 z.1), (h11, ce3 z.1), (h12, ce3 z.1), (h13, ce3 z.1), (h14, ce3 z.1), (h15, ce3 z.1), (h16, ce3 z.1)] H139 := hP
  have hD := vd_as hP hD rfl
  refine lv_aload_n hx hb dX0_reckonDelays_33 rfl (lv_at hl 0 rfl) ?_
  refine lv_iconst (v := 0) hx hb dX0_reckonDelays_34 (by decide) ?_
  refine va_put (D := (dC, dI)) (ci := 3) (v := .int 0) (ty := .int) (C := RX2) (T := TX2) (N := 19) hx hb hts in_X2 tyX2 tyX2_ok nmX2 hown hK hP hD (va_Sre hS) 9 rfl rfl 15 (by decide) (hts _ q_183) (fun _ h9 => h9) rfl (by decide +kernel) rfl rfl (Nat.le_of_ble_eq_true rfl) dX0_reckonDelays_35 (fun H140 _ hP hD hS' => ?_)
  have hG : s.heap.size + 0 ≤ H140.size := Nat.le_trans hG hS'.1
  have hS := va_Str hS hS'
  have hP : va_P (dC, dI) xCl [(h0, ce7 o0 o1 o2 h1), (h1, ce366 h2), (h2, ce330 kc0 h3 h4 h5 h6 h7 h8 h9), (h3, ce38 (z.2.1 0) h10 h3), (h4, ce77 (z.2.1 0) h11 h4), (h5, ce115 (z.2.1 0) h12 h5), (h6, ce165 (z.2.1 0) h13 h6), (h7, ce224 (z.2.1 0) h14 h7), (h8, ce287 (z.2.1 0) h15 h8), (h9, ce364 (z.2.1 0) h16 h9), (h10, ce3 z.1), (h11, ce3 z.1), (h12, ce3 z.1), (h13, ce3 z.1), (h14, ce3 z.1), (h15, ce3 z.1), (h16, ce3 z.1)] H140 := hP
  have hD := vd_as hP hD rfl
  refine lv_iinc (v := 7) (lv' := [(1, .int 7), (2, .ref h9), (0, .ref h0)]) hx hb dX0_reckonDelays_38 hl (k := 1) rfl (by decide) (by decide) rfl (fun ls hl => ?_)
  refine lv_goto (tgt := 2) hx hb dX0_reckonDelays_41 (by decide) ?_
  refine lv_iload_n hx hb dX0_reckonDelays_2 rfl (lv_at hl 0 rfl) ?_
  refine lv_aload_n hx hb dX0_reckonDelays_3 rfl (lv_at hl 2 rfl) ?_
  refine va_get (D := (dC, dI)) (ci := 2) (v := .ref h1) (C := RX0) (T := TX0) (N := 4) hx hb hts in_X0 hown hK hP 0 rfl rfl 3 (by decide) (hts _ q_31) (fun _ h9 => h9) rfl dX0_reckonDelays_4 ?_
  have hM143 := k20_size l hl9 dC dI z h1 h2 H140.size 35 7
  obtain ⟨hF141, hC144⟩ := pc_M hM143 hP hD hK hS hX hT hA [1] [] rfl rfl rfl
  refine va_calli (va_runV (As := []) (rest := [.int 7]) ⟨hx, hb, hml, hown, hts⟩ hM143 (cwV 0 hts (gV q_92 q_77 q_78 q_12 q_75) rfl rfl rfl hV_Jx4a65c_size_8abf5 ⟨Nat.le_of_ble_eq_true rfl, Nat.le_of_ble_eq_true rfl⟩) ⟨pc_blind, va_recv hK hP (ci := 0) (q := (RJx4a65c, TJx4a65c, 3)) (q0 := 1) rfl rfl, fun U hU hW => ⟨rfl, hC144 U hU hW⟩⟩ rfl rfl hl.1 rfl (lv_room (Nat.le_of_ble_eq_true rfl)) dX0_reckonDelays_7 ⟨(Nat.le_of_ble_eq_true rfl), (Nat.le_of_ble_eq_true rfl)⟩) hS (fun q9 _ h9 => hF141 q9 h9) hF141 (fun r146 u145 t145 H145 L145 ht145 hvm145 hw145 hB145 hz145 hk145 hS => ?_)
  have hP := pq_keep hP hD [1] rfl hk145 hB145.1 ht145
  have hG : s.heap.size + 0 ≤ H145.size := Nat.le_trans hG hz145
  refine W.eq (g2 := F0 m 10 ls [.int 7, .int 7]) (by rw [hw145]) ?_
  refine lv_icmp_ge (tgt := 44) hx hb dX0_reckonDelays_10 (by decide) (fun _ => ?_) (fun cz => absurd (by decide) cz)
  refine lv_aload_n hx hb dX0_reckonDelays_44 rfl (lv_at hl 2 rfl) ?_
  refine va_get (D := (dC, dI)) (ci := 2) (v := .ref h1) (C := RX0) (T := TX0) (N := 4) hx hb hts in_X0 hown hK hP 0 rfl rfl 3 (by decide) (hts _ q_31) (fun _ h9 => h9) rfl dX0_reckonDelays_45 ?_
  have hM149 := k20_size l hl9 dC dI z h1 h2 H145.size 35 7
  obtain ⟨hF147, hC150⟩ := pc_M hM149 hP hD hK hS hX hT hA [1] [] rfl rfl rfl
  refine va_calli (va_runV (As := []) (rest := []) ⟨hx, hb, hml, hown, hts⟩ hM149 (cwV 0 hts (gV q_92 q_77 q_78 q_12 q_75) rfl rfl rfl hV_Jx4a65c_size_8abf5 ⟨Nat.le_of_ble_eq_true rfl, Nat.le_of_ble_eq_true rfl⟩) ⟨pc_blind, va_recv hK hP (ci := 0) (q := (RJx4a65c, TJx4a65c, 3)) (q0 := 1) rfl rfl, fun U hU hW => ⟨rfl, hC150 U hU hW⟩⟩ rfl rfl hl.1 rfl (lv_room (Nat.le_of_ble_eq_true rfl)) dX0_reckonDelays_48 ⟨(Nat.le_of_ble_eq_true rfl), (Nat.le_of_ble_eq_true rfl)⟩) hS (fun q9 _ h9 => hF147 q9 h9) hF147 (fun r152 u151 t151 H151 L151 ht151 hvm151 hw151 hB151 hz151 hk151 hS => ?_)
  have hP := pq_keep hP hD [1] rfl hk151 hB151.1 ht151
  have hG : s.heap.size + 0 ≤ H151.size := Nat.le_trans hG hz151
  refine W.eq (g2 := F0 m 51 ls [.int 7]) (by rw [hw151]) ?_
  refine lv_iconst (v := 1) hx hb dX0_reckonDelays_51 (by decide) ?_
  refine lv_isub hx hb dX0_reckonDelays_52 ?_
  refine lv_topi (fun y153 ey153 => ?_)
  obtain rfl : y153 = 6 := ey153.trans (by decide)
  refine lv_istore_n (lv' := [(1, .int 6), (2, .ref h9), (0, .ref h0)]) hx hb dX0_reckonDelays_53 rfl hl (by decide) rfl (fun ls hl => ?_)
  refine lv_iload_n hx hb dX0_reckonDelays_54 rfl (lv_at hl 0 rfl) ?_
  refine lv_if_lt (tgt := 78) hx hb dX0_reckonDelays_55 (by decide) (fun cz => absurd cz (by decide)) (fun _ => ?_)
  refine lv_aload_n hx hb dX0_reckonDelays_58 rfl (lv_at hl 2 rfl) ?_
  refine va_get (D := (dC, dI)) (ci := 2) (v := .ref h1) (C := RX0) (T := TX0) (N := 4) hx hb hts in_X0 hown hK hP 0 rfl rfl 3 (by decide) (hts _ q_31) (fun _ h9 => h9) rfl dX0_reckonDelays_59 ?_
  refine lv_iload_n hx hb dX0_reckonDelays_62 rfl (lv_at hl 0 rfl) ?_
  have hM156 := k688_get l hl9 dC dI z h1 h2 h3 h4 h5 h6 h7 h8 h9 H151.size kc0
  obtain ⟨hF154, hC157⟩ := pc_M hM156 hP hD hK hS hX hT hA [1, 2] [0] rfl rfl rfl
  refine va_callr (va_runV (As := [.int 6]) (rest := []) ⟨hx, hb, hml, hown, hts⟩ hM156 (cwV 1 hts (gV q_156 q_157 q_158 q_12 q_155) rfl rfl rfl hV_Jx4a65c_get_915e3 ⟨Nat.le_of_ble_eq_true rfl, Nat.le_of_ble_eq_true rfl⟩) ⟨pc_blind, va_recv hK hP (ci := 0) (q := (RJx4a65c, TJx4a65c, 3)) (q0 := 1) rfl rfl, fun U hU hW => ⟨rfl, hC157 U hU hW⟩⟩ rfl rfl hl.1 rfl (lv_room (Nat.le_of_ble_eq_true rfl)) dX0_reckonDelays_63 ⟨(Nat.le_of_ble_eq_true rfl), (Nat.le_of_ble_eq_true rfl)⟩) hS (fun q9 _ h9 => hF154 q9 h9) hF154 (fun u158 r159 t158 H158 L158 ht158 hvm158 hw158 hB158 hz158 hk158 hS => ?_)
  obtain ⟨hr158, hB158⟩ := hB158
  have hP := pq_keep hP hD [1, 2] rfl hk158 hB158.1 ht158
  have hG : s.heap.size + 0 ≤ H158.size := Nat.le_trans hG hz158
  refine W.eq (g2 := F0 m 66 ls [.ref h9]) (by rw [hr158]) ?_
  refine va_castE (nm := RX2) hx hb hown (hts _ q_89) (va_recv hK hP (ci := 3) (q := (RX2, TX2, 19)) (q0 := 9) rfl rfl) dX0_reckonDelays_66 ?_
  have hM162 := k690_lengthenWaysOfRead l hl9 dC dI z h9 h16 H158.size
  obtain ⟨hF160, hC163⟩ := pc_M hM162 hP hD hK hS hX hT hA [9, 16] [] rfl rfl rfl
  refine va_callv (va_runV (As := []) (rest := []) ⟨hx, hb, hml, hown, hts⟩ hM162 (cwV 0 hts (gV q_185 q_186 q_187 q_91 q_184) rfl rfl rfl hV_X2_lengthenWaysOfRead ⟨Nat.le_of_ble_eq_true rfl, Nat.le_of_ble_eq_true rfl⟩) ⟨pc_blind, va_recv hK hP (ci := 3) (q := (RX2, TX2, 19)) (q0 := 9) rfl rfl, fun U hU hW => ⟨rfl, hC163 U hU hW⟩⟩ rfl rfl hl.1 rfl (lv_room (Nat.le_of_ble_eq_true rfl)) dX0_reckonDelays_69 ⟨(Nat.le_of_ble_eq_true rfl), (Nat.le_of_ble_eq_true rfl)⟩) hS (fun q9 _ h9 => hF160 q9 h9) hF160 (fun u164 t164 H164 L164 ht164 hvm164 hw164 hB164 hz164 hk164 hS => ?_)
  have hP := pq_keep hP hD [9, 16] rfl hk164 hB164.1 ht164
  have hG : s.heap.size + 0 ≤ H164.size := Nat.le_trans hG hz164
  refine lv_iinc (v := 5) (lv' := [(1, .int 5), (2, .ref h9), (0, .ref h0)]) hx hb dX0_reckonDelays_72 hl (k := 0) rfl (by decide) (by decide) rfl (fun ls hl => ?_)
  refine lv_goto (tgt := 54) hx hb dX0_reckonDelays_75 (by decide) ?_
  refine lv_iload_n hx hb dX0_reckonDelays_54 rfl (lv_at hl 0 rfl) ?_
  refine lv_if_lt (tgt := 78) hx hb dX0_reckonDelays_55 (by decide) (fun cz => absurd cz (by decide)) (fun _ => ?_)
  refine lv_aload_n hx hb dX0_reckonDelays_58 rfl (lv_at hl 2 rfl) ?_
  refine va_get (D := (dC, dI)) (ci := 2) (v := .ref h1) (C := RX0) (T := TX0) (N := 4) hx hb hts in_X0 hown hK hP 0 rfl rfl 3 (by decide) (hts _ q_31) (fun _ h9 => h9) rfl dX0_reckonDelays_59 ?_
  refine lv_iload_n hx hb dX0_reckonDelays_62 rfl (lv_at hl 0 rfl) ?_
  have hM168 := k686_get l hl9 dC dI z h1 h2 h3 h4 h5 h6 h7 h8 h9 H164.size kc0
  obtain ⟨hF166, hC169⟩ := pc_M hM168 hP hD hK hS hX hT hA [1, 2] [0] rfl rfl rfl
  refine va_callr (va_runV (As := [.int 5]) (rest := []) ⟨hx, hb, hml, hown, hts⟩ hM168 (cwV 1 hts (gV q_156 q_157 q_158 q_12 q_155) rfl rfl rfl hV_Jx4a65c_get_915e3 ⟨Nat.le_of_ble_eq_true rfl, Nat.le_of_ble_eq_true rfl⟩) ⟨pc_blind, va_recv hK hP (ci := 0) (q := (RJx4a65c, TJx4a65c, 3)) (q0 := 1) rfl rfl, fun U hU hW => ⟨rfl, hC169 U hU hW⟩⟩ rfl rfl hl.1 rfl (lv_room (Nat.le_of_ble_eq_true rfl)) dX0_reckonDelays_63 ⟨(Nat.le_of_ble_eq_true rfl), (Nat.le_of_ble_eq_true rfl)⟩) hS (fun q9 _ h9 => hF166 q9 h9) hF166 (fun u170 r171 t170 H170 L170 ht170 hvm170 hw170 hB170 hz170 hk170 hS => ?_)
  obtain ⟨hr170, hB170⟩ := hB170
  have hP := pq_keep hP hD [1, 2] rfl hk170 hB170.1 ht170
  have hG : s.heap.size + 0 ≤ H170.size := Nat.le_trans hG hz170
  refine W.eq (g2 := F0 m 66 ls [.ref h8]) (by rw [hr170]) ?_
  refine va_castE (nm := RX2) hx hb hown (hts _ q_89) (va_recv hK hP (ci := 3) (q := (RX2, TX2, 19)) (q0 := 8) rfl rfl) dX0_reckonDelays_66 ?_
  have hM174 := k542_lengthenWaysOfRead l hl9 dC dI z h8 h15 H170.size
  obtain ⟨hF172, hC175⟩ := pc_M hM174 hP hD hK hS hX hT hA [8, 15] [] rfl rfl rfl
  refine va_callv (va_runV (As := []) (rest := []) ⟨hx, hb, hml, hown, hts⟩ hM174 (cwV 0 hts (gV q_185 q_186 q_187 q_91 q_184) rfl rfl rfl hV_X2_lengthenWaysOfRead ⟨Nat.le_of_ble_eq_true rfl, Nat.le_of_ble_eq_true rfl⟩) ⟨pc_blind, va_recv hK hP (ci := 3) (q := (RX2, TX2, 19)) (q0 := 8) rfl rfl, fun U hU hW => ⟨rfl, hC175 U hU hW⟩⟩ rfl rfl hl.1 rfl (lv_room (Nat.le_of_ble_eq_true rfl)) dX0_reckonDelays_69 ⟨(Nat.le_of_ble_eq_true rfl), (Nat.le_of_ble_eq_true rfl)⟩) hS (fun q9 _ h9 => hF172 q9 h9) hF172 (fun u176 t176 H176 L176 ht176 hvm176 hw176 hB176 hz176 hk176 hS => ?_)
  have hP := pq_keep hP hD [8, 15] rfl hk176 hB176.1 ht176
  have hG : s.heap.size + 0 ≤ H176.size := Nat.le_trans hG hz176
  refine lv_iinc (v := 4) (lv' := [(1, .int 4), (2, .ref h9), (0, .ref h0)]) hx hb dX0_reckonDelays_72 hl (k := 0) rfl (by decide) (by decide) rfl (fun ls hl => ?_)
  refine lv_goto (tgt := 54) hx hb dX0_reckonDelays_75 (by decide) ?_
  refine lv_iload_n hx hb dX0_reckonDelays_54 rfl (lv_at hl 0 rfl) ?_
  refine lv_if_lt (tgt := 78) hx hb dX0_reckonDelays_55 (by decide) (fun cz => absurd cz (by decide)) (fun _ => ?_)
  refine lv_aload_n hx hb dX0_reckonDelays_58 rfl (lv_at hl 2 rfl) ?_
  refine va_get (D := (dC, dI)) (ci := 2) (v := .ref h1) (C := RX0) (T := TX0) (N := 4) hx hb hts in_X0 hown hK hP 0 rfl rfl 3 (by decide) (hts _ q_31) (fun _ h9 => h9) rfl dX0_reckonDelays_59 ?_
  refine lv_iload_n hx hb dX0_reckonDelays_62 rfl (lv_at hl 0 rfl) ?_
  have hM180 := k684_get l hl9 dC dI z h1 h2 h3 h4 h5 h6 h7 h8 h9 H176.size kc0
  obtain ⟨hF178, hC181⟩ := pc_M hM180 hP hD hK hS hX hT hA [1, 2] [0] rfl rfl rfl
  refine va_callr (va_runV (As := [.int 4]) (rest := []) ⟨hx, hb, hml, hown, hts⟩ hM180 (cwV 1 hts (gV q_156 q_157 q_158 q_12 q_155) rfl rfl rfl hV_Jx4a65c_get_915e3 ⟨Nat.le_of_ble_eq_true rfl, Nat.le_of_ble_eq_true rfl⟩) ⟨pc_blind, va_recv hK hP (ci := 0) (q := (RJx4a65c, TJx4a65c, 3)) (q0 := 1) rfl rfl, fun U hU hW => ⟨rfl, hC181 U hU hW⟩⟩ rfl rfl hl.1 rfl (lv_room (Nat.le_of_ble_eq_true rfl)) dX0_reckonDelays_63 ⟨(Nat.le_of_ble_eq_true rfl), (Nat.le_of_ble_eq_true rfl)⟩) hS (fun q9 _ h9 => hF178 q9 h9) hF178 (fun u182 r183 t182 H182 L182 ht182 hvm182 hw182 hB182 hz182 hk182 hS => ?_)
  obtain ⟨hr182, hB182⟩ := hB182
  have hP := pq_keep hP hD [1, 2] rfl hk182 hB182.1 ht182
  have hG : s.heap.size + 0 ≤ H182.size := Nat.le_trans hG hz182
  refine W.eq (g2 := F0 m 66 ls [.ref h7]) (by rw [hr182]) ?_
  refine va_castE (nm := RX2) hx hb hown (hts _ q_89) (va_recv hK hP (ci := 3) (q := (RX2, TX2, 19)) (q0 := 7) rfl rfl) dX0_reckonDelays_66 ?_
  have hM186 := k410_lengthenWaysOfRead l hl9 dC dI z h7 h14 H182.size
  obtain ⟨hF184, hC187⟩ := pc_M hM186 hP hD hK hS hX hT hA [7, 14] [] rfl rfl rfl
  refine va_callv (va_runV (As := []) (rest := []) ⟨hx, hb, hml, hown, hts⟩ hM186 (cwV 0 hts (gV q_185 q_186 q_187 q_91 q_184) rfl rfl rfl hV_X2_lengthenWaysOfRead ⟨Nat.le_of_ble_eq_true rfl, Nat.le_of_ble_eq_true rfl⟩) ⟨pc_blind, va_recv hK hP (ci := 3) (q := (RX2, TX2, 19)) (q0 := 7) rfl rfl, fun U hU hW => ⟨rfl, hC187 U hU hW⟩⟩ rfl rfl hl.1 rfl (lv_room (Nat.le_of_ble_eq_true rfl)) dX0_reckonDelays_69 ⟨(Nat.le_of_ble_eq_true rfl), (Nat.le_of_ble_eq_true rfl)⟩) hS (fun q9 _ h9 => hF184 q9 h9) hF184 (fun u188 t188 H188 L188 ht188 hvm188 hw188 hB188 hz188 hk188 hS => ?_)
  have hP := pq_keep hP hD [7, 14] rfl hk188 hB188.1 ht188
  have hG : s.heap.size + 0 ≤ H188.size := Nat.le_trans hG hz188
  refine lv_iinc (v := 3) (lv' := [(1, .int 3), (2, .ref h9), (0, .ref h0)]) hx hb dX0_reckonDelays_72 hl (k := 0) rfl (by decide) (by decide) rfl (fun ls hl => ?_)
  refine lv_goto (tgt := 54) hx hb dX0_reckonDelays_75 (by decide) ?_
  refine lv_iload_n hx hb dX0_reckonDelays_54 rfl (lv_at hl 0 rfl) ?_
  refine lv_if_lt (tgt := 78) hx hb dX0_reckonDelays_55 (by decide) (fun cz => absurd cz (by decide)) (fun _ => ?_)
  refine lv_aload_n hx hb dX0_reckonDelays_58 rfl (lv_at hl 2 rfl) ?_
  refine va_get (D := (dC, dI)) (ci := 2) (v := .ref h1) (C := RX0) (T := TX0) (N := 4) hx hb hts in_X0 hown hK hP 0 rfl rfl 3 (by decide) (hts _ q_31) (fun _ h9 => h9) rfl dX0_reckonDelays_59 ?_
  refine lv_iload_n hx hb dX0_reckonDelays_62 rfl (lv_at hl 0 rfl) ?_
  have hM192 := k682_get l hl9 dC dI z h1 h2 h3 h4 h5 h6 h7 h8 h9 H188.size kc0
  obtain ⟨hF190, hC193⟩ := pc_M hM192 hP hD hK hS hX hT hA [1, 2] [0] rfl rfl rfl
  refine va_callr (va_runV (As := [.int 3]) (rest := []) ⟨hx, hb, hml, hown, hts⟩ hM192 (cwV 1 hts (gV q_156 q_157 q_158 q_12 q_155) rfl rfl rfl hV_Jx4a65c_get_915e3 ⟨Nat.le_of_ble_eq_true rfl, Nat.le_of_ble_eq_true rfl⟩) ⟨pc_blind, va_recv hK hP (ci := 0) (q := (RJx4a65c, TJx4a65c, 3)) (q0 := 1) rfl rfl, fun U hU hW => ⟨rfl, hC193 U hU hW⟩⟩ rfl rfl hl.1 rfl (lv_room (Nat.le_of_ble_eq_true rfl)) dX0_reckonDelays_63 ⟨(Nat.le_of_ble_eq_true rfl), (Nat.le_of_ble_eq_true rfl)⟩) hS (fun q9 _ h9 => hF190 q9 h9) hF190 (fun u194 r195 t194 H194 L194 ht194 hvm194 hw194 hB194 hz194 hk194 hS => ?_)
  obtain ⟨hr194, hB194⟩ := hB194
  have hP := pq_keep hP hD [1, 2] rfl hk194 hB194.1 ht194
  have hG : s.heap.size + 0 ≤ H194.size := Nat.le_trans hG hz194
  refine W.eq (g2 := F0 m 66 ls [.ref h6]) (by rw [hr194]) ?_
  refine va_castE (nm := RX2) hx hb hown (hts _ q_89) (va_recv hK hP (ci := 3) (q := (RX2, TX2, 19)) (q0 := 6) rfl rfl) dX0_reckonDelays_66 ?_
  have hM198 := k294_lengthenWaysOfRead l hl9 dC dI z h6 h13 H194.size
  obtain ⟨hF196, hC199⟩ := pc_M hM198 hP hD hK hS hX hT hA [6, 13] [] rfl rfl rfl
  refine va_callv (va_runV (As := []) (rest := []) ⟨hx, hb, hml, hown, hts⟩ hM198 (cwV 0 hts (gV q_185 q_186 q_187 q_91 q_184) rfl rfl rfl hV_X2_lengthenWaysOfRead ⟨Nat.le_of_ble_eq_true rfl, Nat.le_of_ble_eq_true rfl⟩) ⟨pc_blind, va_recv hK hP (ci := 3) (q := (RX2, TX2, 19)) (q0 := 6) rfl rfl, fun U hU hW => ⟨rfl, hC199 U hU hW⟩⟩ rfl rfl hl.1 rfl (lv_room (Nat.le_of_ble_eq_true rfl)) dX0_reckonDelays_69 ⟨(Nat.le_of_ble_eq_true rfl), (Nat.le_of_ble_eq_true rfl)⟩) hS (fun q9 _ h9 => hF196 q9 h9) hF196 (fun u200 t200 H200 L200 ht200 hvm200 hw200 hB200 hz200 hk200 hS => ?_)
  have hP := pq_keep hP hD [6, 13] rfl hk200 hB200.1 ht200
  have hG : s.heap.size + 0 ≤ H200.size := Nat.le_trans hG hz200
  refine lv_iinc (v := 2) (lv' := [(1, .int 2), (2, .ref h9), (0, .ref h0)]) hx hb dX0_reckonDelays_72 hl (k := 0) rfl (by decide) (by decide) rfl (fun ls hl => ?_)
  refine lv_goto (tgt := 54) hx hb dX0_reckonDelays_75 (by decide) ?_
  refine lv_iload_n hx hb dX0_reckonDelays_54 rfl (lv_at hl 0 rfl) ?_
  refine lv_if_lt (tgt := 78) hx hb dX0_reckonDelays_55 (by decide) (fun cz => absurd cz (by decide)) (fun _ => ?_)
  refine lv_aload_n hx hb dX0_reckonDelays_58 rfl (lv_at hl 2 rfl) ?_
  refine va_get (D := (dC, dI)) (ci := 2) (v := .ref h1) (C := RX0) (T := TX0) (N := 4) hx hb hts in_X0 hown hK hP 0 rfl rfl 3 (by decide) (hts _ q_31) (fun _ h9 => h9) rfl dX0_reckonDelays_59 ?_
  refine lv_iload_n hx hb dX0_reckonDelays_62 rfl (lv_at hl 0 rfl) ?_
  have hM204 := k680_get l hl9 dC dI z h1 h2 h3 h4 h5 h6 h7 h8 h9 H200.size kc0
  obtain ⟨hF202, hC205⟩ := pc_M hM204 hP hD hK hS hX hT hA [1, 2] [0] rfl rfl rfl
  refine va_callr (va_runV (As := [.int 2]) (rest := []) ⟨hx, hb, hml, hown, hts⟩ hM204 (cwV 1 hts (gV q_156 q_157 q_158 q_12 q_155) rfl rfl rfl hV_Jx4a65c_get_915e3 ⟨Nat.le_of_ble_eq_true rfl, Nat.le_of_ble_eq_true rfl⟩) ⟨pc_blind, va_recv hK hP (ci := 0) (q := (RJx4a65c, TJx4a65c, 3)) (q0 := 1) rfl rfl, fun U hU hW => ⟨rfl, hC205 U hU hW⟩⟩ rfl rfl hl.1 rfl (lv_room (Nat.le_of_ble_eq_true rfl)) dX0_reckonDelays_63 ⟨(Nat.le_of_ble_eq_true rfl), (Nat.le_of_ble_eq_true rfl)⟩) hS (fun q9 _ h9 => hF202 q9 h9) hF202 (fun u206 r207 t206 H206 L206 ht206 hvm206 hw206 hB206 hz206 hk206 hS => ?_)
  obtain ⟨hr206, hB206⟩ := hB206
  have hP := pq_keep hP hD [1, 2] rfl hk206 hB206.1 ht206
  have hG : s.heap.size + 0 ≤ H206.size := Nat.le_trans hG hz206
  refine W.eq (g2 := F0 m 66 ls [.ref h5]) (by rw [hr206]) ?_
  refine va_castE (nm := RX2) hx hb hown (hts _ q_89) (va_recv hK hP (ci := 3) (q := (RX2, TX2, 19)) (q0 := 5) rfl rfl) dX0_reckonDelays_66 ?_
  have hM210 := k194_lengthenWaysOfRead l hl9 dC dI z h5 h12 H206.size
  obtain ⟨hF208, hC211⟩ := pc_M hM210 hP hD hK hS hX hT hA [5, 12] [] rfl rfl rfl
  refine va_callv (va_runV (As := []) (rest := []) ⟨hx, hb, hml, hown, hts⟩ hM210 (cwV 0 hts (gV q_185 q_186 q_187 q_91 q_184) rfl rfl rfl hV_X2_lengthenWaysOfRead ⟨Nat.le_of_ble_eq_true rfl, Nat.le_of_ble_eq_true rfl⟩) ⟨pc_blind, va_recv hK hP (ci := 3) (q := (RX2, TX2, 19)) (q0 := 5) rfl rfl, fun U hU hW => ⟨rfl, hC211 U hU hW⟩⟩ rfl rfl hl.1 rfl (lv_room (Nat.le_of_ble_eq_true rfl)) dX0_reckonDelays_69 ⟨(Nat.le_of_ble_eq_true rfl), (Nat.le_of_ble_eq_true rfl)⟩) hS (fun q9 _ h9 => hF208 q9 h9) hF208 (fun u212 t212 H212 L212 ht212 hvm212 hw212 hB212 hz212 hk212 hS => ?_)
  have hP := pq_keep hP hD [5, 12] rfl hk212 hB212.1 ht212
  have hG : s.heap.size + 0 ≤ H212.size := Nat.le_trans hG hz212
  refine lv_iinc (v := 1) (lv' := [(1, .int 1), (2, .ref h9), (0, .ref h0)]) hx hb dX0_reckonDelays_72 hl (k := 0) rfl (by decide) (by decide) rfl (fun ls hl => ?_)
  refine lv_goto (tgt := 54) hx hb dX0_reckonDelays_75 (by decide) ?_
  refine lv_iload_n hx hb dX0_reckonDelays_54 rfl (lv_at hl 0 rfl) ?_
  refine lv_if_lt (tgt := 78) hx hb dX0_reckonDelays_55 (by decide) (fun cz => absurd cz (by decide)) (fun _ => ?_)
  refine lv_aload_n hx hb dX0_reckonDelays_58 rfl (lv_at hl 2 rfl) ?_
  refine va_get (D := (dC, dI)) (ci := 2) (v := .ref h1) (C := RX0) (T := TX0) (N := 4) hx hb hts in_X0 hown hK hP 0 rfl rfl 3 (by decide) (hts _ q_31) (fun _ h9 => h9) rfl dX0_reckonDelays_59 ?_
  refine lv_iload_n hx hb dX0_reckonDelays_62 rfl (lv_at hl 0 rfl) ?_
  have hM216 := k678_get l hl9 dC dI z h1 h2 h3 h4 h5 h6 h7 h8 h9 H212.size kc0
  obtain ⟨hF214, hC217⟩ := pc_M hM216 hP hD hK hS hX hT hA [1, 2] [0] rfl rfl rfl
  refine va_callr (va_runV (As := [.int 1]) (rest := []) ⟨hx, hb, hml, hown, hts⟩ hM216 (cwV 1 hts (gV q_156 q_157 q_158 q_12 q_155) rfl rfl rfl hV_Jx4a65c_get_915e3 ⟨Nat.le_of_ble_eq_true rfl, Nat.le_of_ble_eq_true rfl⟩) ⟨pc_blind, va_recv hK hP (ci := 0) (q := (RJx4a65c, TJx4a65c, 3)) (q0 := 1) rfl rfl, fun U hU hW => ⟨rfl, hC217 U hU hW⟩⟩ rfl rfl hl.1 rfl (lv_room (Nat.le_of_ble_eq_true rfl)) dX0_reckonDelays_63 ⟨(Nat.le_of_ble_eq_true rfl), (Nat.le_of_ble_eq_true rfl)⟩) hS (fun q9 _ h9 => hF214 q9 h9) hF214 (fun u218 r219 t218 H218 L218 ht218 hvm218 hw218 hB218 hz218 hk218 hS => ?_)
  obtain ⟨hr218, hB218⟩ := hB218
  have hP := pq_keep hP hD [1, 2] rfl hk218 hB218.1 ht218
  have hG : s.heap.size + 0 ≤ H218.size := Nat.le_trans hG hz218
  refine W.eq (g2 := F0 m 66 ls [.ref h4]) (by rw [hr218]) ?_
  refine va_castE (nm := RX2) hx hb hown (hts _ q_89) (va_recv hK hP (ci := 3) (q := (RX2, TX2, 19)) (q0 := 4) rfl rfl) dX0_reckonDelays_66 ?_
  have hM222 := k109_lengthenWaysOfRead l hl9 dC dI z h4 h11 H218.size
  obtain ⟨hF220, hC223⟩ := pc_M hM222 hP hD hK hS hX hT hA [4, 11] [] rfl rfl rfl
  refine va_callv (va_runV (As := []) (rest := []) ⟨hx, hb, hml, hown, hts⟩ hM222 (cwV 0 hts (gV q_185 q_186 q_187 q_91 q_184) rfl rfl rfl hV_X2_lengthenWaysOfRead ⟨Nat.le_of_ble_eq_true rfl, Nat.le_of_ble_eq_true rfl⟩) ⟨pc_blind, va_recv hK hP (ci := 3) (q := (RX2, TX2, 19)) (q0 := 4) rfl rfl, fun U hU hW => ⟨rfl, hC223 U hU hW⟩⟩ rfl rfl hl.1 rfl (lv_room (Nat.le_of_ble_eq_true rfl)) dX0_reckonDelays_69 ⟨(Nat.le_of_ble_eq_true rfl), (Nat.le_of_ble_eq_true rfl)⟩) hS (fun q9 _ h9 => hF220 q9 h9) hF220 (fun u224 t224 H224 L224 ht224 hvm224 hw224 hB224 hz224 hk224 hS => ?_)
  have hP := pq_keep hP hD [4, 11] rfl hk224 hB224.1 ht224
  have hG : s.heap.size + 0 ≤ H224.size := Nat.le_trans hG hz224
  refine lv_iinc (v := 0) (lv' := [(1, .int 0), (2, .ref h9), (0, .ref h0)]) hx hb dX0_reckonDelays_72 hl (k := 0) rfl (by decide) (by decide) rfl (fun ls hl => ?_)
  refine lv_goto (tgt := 54) hx hb dX0_reckonDelays_75 (by decide) ?_
  refine lv_iload_n hx hb dX0_reckonDelays_54 rfl (lv_at hl 0 rfl) ?_
  refine lv_if_lt (tgt := 78) hx hb dX0_reckonDelays_55 (by decide) (fun cz => absurd cz (by decide)) (fun _ => ?_)
  refine lv_aload_n hx hb dX0_reckonDelays_58 rfl (lv_at hl 2 rfl) ?_
  refine va_get (D := (dC, dI)) (ci := 2) (v := .ref h1) (C := RX0) (T := TX0) (N := 4) hx hb hts in_X0 hown hK hP 0 rfl rfl 3 (by decide) (hts _ q_31) (fun _ h9 => h9) rfl dX0_reckonDelays_59 ?_
  refine lv_iload_n hx hb dX0_reckonDelays_62 rfl (lv_at hl 0 rfl) ?_
  have hM228 := k676_get l hl9 dC dI z h1 h2 h3 h4 h5 h6 h7 h8 h9 H224.size kc0
  obtain ⟨hF226, hC229⟩ := pc_M hM228 hP hD hK hS hX hT hA [1, 2] [0] rfl rfl rfl
  refine va_callr (va_runV (As := [.int 0]) (rest := []) ⟨hx, hb, hml, hown, hts⟩ hM228 (cwV 1 hts (gV q_156 q_157 q_158 q_12 q_155) rfl rfl rfl hV_Jx4a65c_get_915e3 ⟨Nat.le_of_ble_eq_true rfl, Nat.le_of_ble_eq_true rfl⟩) ⟨pc_blind, va_recv hK hP (ci := 0) (q := (RJx4a65c, TJx4a65c, 3)) (q0 := 1) rfl rfl, fun U hU hW => ⟨rfl, hC229 U hU hW⟩⟩ rfl rfl hl.1 rfl (lv_room (Nat.le_of_ble_eq_true rfl)) dX0_reckonDelays_63 ⟨(Nat.le_of_ble_eq_true rfl), (Nat.le_of_ble_eq_true rfl)⟩) hS (fun q9 _ h9 => hF226 q9 h9) hF226 (fun u230 r231 t230 H230 L230 ht230 hvm230 hw230 hB230 hz230 hk230 hS => ?_)
  obtain ⟨hr230, hB230⟩ := hB230
  have hP := pq_keep hP hD [1, 2] rfl hk230 hB230.1 ht230
  have hG : s.heap.size + 0 ≤ H230.size := Nat.le_trans hG hz230
  refine W.eq (g2 := F0 m 66 ls [.ref h3]) (by rw [hr230]) ?_
  refine va_castE (nm := RX2) hx hb hown (hts _ q_89) (va_recv hK hP (ci := 3) (q := (RX2, TX2, 19)) (q0 := 3) rfl rfl) dX0_reckonDelays_66 ?_
  have hM234 := k36_lengthenWaysOfRead l hl9 dC dI z h3 h10 H230.size
  obtain ⟨hF232, hC235⟩ := pc_M hM234 hP hD hK hS hX hT hA [3, 10] [] rfl rfl rfl
  refine va_callv (va_runV (As := []) (rest := []) ⟨hx, hb, hml, hown, hts⟩ hM234 (cwV 0 hts (gV q_185 q_186 q_187 q_91 q_184) rfl rfl rfl hV_X2_lengthenWaysOfRead ⟨Nat.le_of_ble_eq_true rfl, Nat.le_of_ble_eq_true rfl⟩) ⟨pc_blind, va_recv hK hP (ci := 3) (q := (RX2, TX2, 19)) (q0 := 3) rfl rfl, fun U hU hW => ⟨rfl, hC235 U hU hW⟩⟩ rfl rfl hl.1 rfl (lv_room (Nat.le_of_ble_eq_true rfl)) dX0_reckonDelays_69 ⟨(Nat.le_of_ble_eq_true rfl), (Nat.le_of_ble_eq_true rfl)⟩) hS (fun q9 _ h9 => hF232 q9 h9) hF232 (fun u236 t236 H236 L236 ht236 hvm236 hw236 hB236 hz236 hk236 hS => ?_)
  have hP := pq_keep hP hD [3, 10] rfl hk236 hB236.1 ht236
  have hG : s.heap.size + 0 ≤ H236.size := Nat.le_trans hG hz236
  refine lv_iinc (v := (-1)) (lv' := [(1, .int (-1)), (2, .ref h9), (0, .ref h0)]) hx hb dX0_reckonDelays_72 hl (k := 0) rfl (by decide) (by decide) rfl (fun ls hl => ?_)
  refine lv_goto (tgt := 54) hx hb dX0_reckonDelays_75 (by decide) ?_
  refine lv_iload_n hx hb dX0_reckonDelays_54 rfl (lv_at hl 0 rfl) ?_
  refine lv_if_lt (tgt := 78) hx hb dX0_reckonDelays_55 (by decide) (fun _ => ?_) (fun cz => absurd (by decide) cz)
  exact W.vret hx hb hr (fun t9 ht9 hW9 => ⟨⟨(), rfl, trivial, ⟨pq_mk2 hP hD hK [0, 1, 2, 3, 4, 5, 6, 7, 8, 9, 10, 11, 12, 13, 14, 15, 16] [0] rfl rfl rfl ht9 hW9, by rw [ht9]; exact Nat.le_trans (Nat.add_le_add_left (Nat.le_of_ble_eq_true rfl) _) hG⟩⟩, hS.F ht9⟩) hS.2.2 dX0_reckonDelays_78

set_option maxHeartbeats 4000000 in
set_option maxRecDepth 100000 in
theorem k692_findStandings (l : Launch) (hl9 : l.stackTraces = false) (dC : Nat → ClassId) (dI : Nat → Nat → Nat) (z : XZ) (h0 h1 h2 h3 h4 h5 h6 h7 h8 h9 h10 : Nat) (o0 o1 o2 o3 o4 o5 o6 o7 o8 : Nat) (sz : Nat) (kc0 : ClassId) : Met l yX0_findStandings (.code yX0_findStandings cX0_findStandings 5 none :: wsL_law) ({ frames := 3, cells := 0, slots := 0, locals := 64 }) (va_Pc [.ref h0] (PC (dC, dI) [(h0, ce7 h1 o0 h2 o1), (h1, ce331 h3), (h2, ce3 z.1), (h3, ce330 kc0 h4 h5 h6 h7 h8 h9 h10), (h4, ce38 (z.2.1 0) o2 h4), (h5, ce77 (z.2.1 0) o3 h5), (h6, ce115 (z.2.1 0) o4 h6), (h7, ce165 (z.2.1 0) o5 h7), (h8, ce224 (z.2.1 0) o6 h8), (h9, ce287 (z.2.1 0) o7 h9), (h10, ce364 (z.2.1 0) o8 h10)] [(kc0, .object "java/lang/Object")] sz z)) (va_Qv (fun (_ : Unit) => True) (fun (_ : Unit) (t : State) => PG (dC, dI) [(h0, ce7 h1 o0 h2 o1), (h1, ce331 h3), (h2, ce3 z.1), (h3, ce330 kc0 h4 h5 h6 h7 h8 h9 h10), (h4, ce38 (z.2.1 0) o2 h4), (h5, ce77 (z.2.1 0) o3 h5), (h6, ce115 (z.2.1 0) o4 h6), (h7, ce165 (z.2.1 0) o5 h7), (h8, ce224 (z.2.1 0) o6 h8), (h9, ce287 (z.2.1 0) o7 h9), (h10, ce364 (z.2.1 0) o8 h10)] [(kc0, .object "java/lang/Object")] (va_A [(h0, ce7 h1 o0 h2 o1), (h1, ce331 h3), (h2, ce3 z.1), (h3, ce330 kc0 h4 h5 h6 h7 h8 h9 h10), (h4, ce38 (z.2.1 0) o2 h4), (h5, ce77 (z.2.1 0) o3 h5), (h6, ce115 (z.2.1 0) o4 h6), (h7, ce165 (z.2.1 0) o5 h7), (h8, ce224 (z.2.1 0) o6 h8), (h9, ce287 (z.2.1 0) o7 h9), (h10, ce364 (z.2.1 0) o8 h10)] sz) sz 0 t) (va_A [(h0, ce7 h1 o0 h2 o1), (h1, ce331 h3), (h2, ce3 z.1), (h3, ce330 kc0 h4 h5 h6 h7 h8 h9 h10), (h4, ce38 (z.2.1 0) o2 h4), (h5, ce77 (z.2.1 0) o3 h5), (h6, ce115 (z.2.1 0) o4 h6), (h7, ce165 (z.2.1 0) o5 h7), (h8, ce224 (z.2.1 0) o6 h8), (h9, ce287 (z.2.1 0) o7 h9), (h10, ce364 (z.2.1 0) o8 h10)] sz)) 0 0 (va_A [(h0, ce7 h1 o0 h2 o1), (h1, ce331 h3), (h2, ce3 z.1), (h3, ce330 kc0 h4 h5 h6 h7 h8 h9 h10), (h4, ce38 (z.2.1 0) o2 h4), (h5, ce77 (z.2.1 0) o3 h5), (h6, ce115 (z.2.1 0) o4 h6), (h7, ce165 (z.2.1 0) o5 h7), (h8, ce224 (z.2.1 0) o6 h8), (h9, ce287 (z.2.1 0) o7 h9), (h10, ce364 (z.2.1 0) o8 h10)] sz) := by
  refine Met.ofW (cc := cX0_findStandings) (maxL := 5) (ret := none) (by decide) rfl ?_
  intro p e s m args below meth c s₁ B hml hv
  obtain ⟨rfl, hsz, hP, hK, hD0, hX, hT⟩ := hv
  have hx := B.exec
  have hb := B.bytes
  have hr := B.returns
  have hts0 := atoms_spec (ws := .code yX0_findStandings cX0_findStandings 5 none :: wsL_law) B.pre
  have hts := xTail hts0
  have hown : s.vm.findClass RX0 = some m.cls := xown B.named rfl
  have hlocks := B.notSynchronized
  subst hsz
  have hD := hD0.self (sz := s.heap.size)
  generalize hAe : va_A [(h0, ce7 h1 o0 h2 o1), (h1, ce331 h3), (h2, ce3 z.1), (h3, ce330 kc0 h4 h5 h6 h7 h8 h9 h10), (h4, ce38 (z.2.1 0) o2 h4), (h5, ce77 (z.2.1 0) o3 h5), (h6, ce115 (z.2.1 0) o4 h6), (h7, ce165 (z.2.1 0) o5 h7), (h8, ce224 (z.2.1 0) o6 h8), (h9, ce287 (z.2.1 0) o7 h9), (h10, ce364 (z.2.1 0) o8 h10)] s.heap.size = A at hD hX ⊢
  have hA : ∀ q : Nat, s.heap.size ≤ q → A q := fun q h => by rw [← hAe]; exact Or.inr h
  have hS : va_S A s.heap s.heap [] := va_S.rf
  have hG : s.heap.size + 0 ≤ s.heap.size := Nat.le_refl _
  have hl := lv_entry ([.ref h0]) (n := 5) (Nat.le_of_ble_eq_true rfl)
  rw [lg_entry_eq]
  generalize (lg_sl ([.ref h0]) ++ List.replicate (5 - (lg_sl ([.ref h0])).length) Slot.unset).toArray = ls at hl ⊢
  have hl : lv_has ls 5 [(0, .ref h0)] := hl
  refine lv_iconst (v := 0) hx hb dX0_findStandings_0 (by decide) ?_
  refine lv_istore_n (lv' := [(1, .int 0), (0, .ref h0)]) hx hb dX0_findStandings_1 rfl hl (by decide) rfl (fun ls hl => ?_)
  refine lv_iload_n hx hb dX0_findStandings_2 rfl (lv_at hl 0 rfl) ?_
  refine lv_aload_n hx hb dX0_findStandings_3 rfl (lv_at hl 1 rfl) ?_
  refine va_get (D := (dC, dI)) (ci := 2) (v := .ref h1) (C := RX0) (T := TX0) (N := 4) hx hb hts in_X0 hown hK hP 0 rfl rfl 0 (by decide) (hts _ q_28) (fun _ h9 => h9) rfl dX0_findStandings_4 ?_
  have hM3 := k20_size l hl9 dC dI z h1 h3 s.heap.size 7 7
  obtain ⟨hF1, hC4⟩ := pc_M hM3 hP hD hK hS hX hT hA [1] [] rfl rfl rfl
  refine va_calli (va_runV (As := []) (rest := [.int 0]) ⟨hx, hb, hml, hown, hts⟩ hM3 (cwV 0 hts (gV q_92 q_77 q_78 q_12 q_75) rfl rfl rfl hV_Jx4a65c_size_8abf5 ⟨Nat.le_of_ble_eq_true rfl, Nat.le_of_ble_eq_true rfl⟩) ⟨pc_blind, va_recv hK hP (ci := 0) (q := (RJx4a65c, TJx4a65c, 3)) (q0 := 1) rfl rfl, fun U hU hW => ⟨rfl, hC4 U hU hW⟩⟩ rfl rfl hl.1 rfl (lv_room (Nat.le_of_ble_eq_true rfl)) dX0_findStandings_7 ⟨(Nat.le_of_ble_eq_true rfl), (Nat.le_of_ble_eq_true rfl)⟩) hS (fun q9 _ h9 => hF1 q9 h9) hF1 (fun r6 u5 t5 H5 L5 ht5 hvm5 hw5 hB5 hz5 hk5 hS => ?_)
  have hP := pq_keep hP hD [1] rfl hk5 hB5.1 ht5
  have hG : s.heap.size + 0 ≤ H5.size := Nat.le_trans hG hz5
  refine W.eq (g2 := F0 m 10 ls [.int 7, .int 0]) (by rw [hw5]) ?_
  refine lv_icmp_ge (tgt := 44) hx hb dX0_findStandings_10 (by decide) (fun cz => absurd cz (by decide)) (fun _ => ?_)
  refine lv_aload_n hx hb dX0_findStandings_13 rfl (lv_at hl 1 rfl) ?_
  refine va_get (D := (dC, dI)) (ci := 2) (v := .ref h1) (C := RX0) (T := TX0) (N := 4) hx hb hts in_X0 hown hK hP 0 rfl rfl 0 (by decide) (hts _ q_28) (fun _ h9 => h9) rfl dX0_findStandings_14 ?_
  refine lv_iload_n hx hb dX0_findStandings_17 rfl (lv_at hl 0 rfl) ?_
  have hM9 := k632_get l hl9 dC dI z h1 h3 h4 h5 h6 h7 h8 h9 h10 H5.size kc0
  obtain ⟨hF7, hC10⟩ := pc_M hM9 hP hD hK hS hX hT hA [1, 3] [0] rfl rfl rfl
  refine va_callr (va_runV (As := [.int 0]) (rest := []) ⟨hx, hb, hml, hown, hts⟩ hM9 (cwV 1 hts (gV q_156 q_157 q_158 q_12 q_155) rfl rfl rfl hV_Jx4a65c_get_915e3 ⟨Nat.le_of_ble_eq_true rfl, Nat.le_of_ble_eq_true rfl⟩) ⟨pc_blind, va_recv hK hP (ci := 0) (q := (RJx4a65c, TJx4a65c, 3)) (q0 := 1) rfl rfl, fun U hU hW => ⟨rfl, hC10 U hU hW⟩⟩ rfl rfl hl.1 rfl (lv_room (Nat.le_of_ble_eq_true rfl)) dX0_findStandings_18 ⟨(Nat.le_of_ble_eq_true rfl), (Nat.le_of_ble_eq_true rfl)⟩) hS (fun q9 _ h9 => hF7 q9 h9) hF7 (fun u11 r12 t11 H11 L11 ht11 hvm11 hw11 hB11 hz11 hk11 hS => ?_)
  obtain ⟨hr11, hB11⟩ := hB11
  have hP := pq_keep hP hD [1, 3] rfl hk11 hB11.1 ht11
  have hG : s.heap.size + 0 ≤ H11.size := Nat.le_trans hG hz11
  refine W.eq (g2 := F0 m 21 ls [.ref h4]) (by rw [hr11]) ?_
  refine va_castE (nm := RX2) hx hb hown (hts _ q_89) (va_recv hK hP (ci := 3) (q := (RX2, TX2, 19)) (q0 := 4) rfl rfl) dX0_findStandings_21 ?_
  refine lv_aload_n hx hb dX0_findStandings_24 rfl (lv_at hl 1 rfl) ?_
  refine va_get (D := (dC, dI)) (ci := 2) (v := .ref h1) (C := RX0) (T := TX0) (N := 4) hx hb hts in_X0 hown hK hP 0 rfl rfl 0 (by decide) (hts _ q_28) (fun _ h9 => h9) rfl dX0_findStandings_25 ?_
  refine lv_iload_n hx hb dX0_findStandings_28 rfl (lv_at hl 0 rfl) ?_
  have hM15 := k632_get l hl9 dC dI z h1 h3 h4 h5 h6 h7 h8 h9 h10 H11.size kc0
  obtain ⟨hF13, hC16⟩ := pc_M hM15 hP hD hK hS hX hT hA [1, 3] [0] rfl rfl rfl
  refine va_callr (va_runV (As := [.int 0]) (rest := [.ref h4]) ⟨hx, hb, hml, hown, hts⟩ hM15 (cwV 1 hts (gV q_156 q_157 q_158 q_12 q_155) rfl rfl rfl hV_Jx4a65c_get_915e3 ⟨Nat.le_of_ble_eq_true rfl, Nat.le_of_ble_eq_true rfl⟩) ⟨pc_blind, va_recv hK hP (ci := 0) (q := (RJx4a65c, TJx4a65c, 3)) (q0 := 1) rfl rfl, fun U hU hW => ⟨rfl, hC16 U hU hW⟩⟩ rfl rfl hl.1 rfl (lv_room (Nat.le_of_ble_eq_true rfl)) dX0_findStandings_29 ⟨(Nat.le_of_ble_eq_true rfl), (Nat.le_of_ble_eq_true rfl)⟩) hS (fun q9 _ h9 => hF13 q9 h9) hF13 (fun u17 r18 t17 H17 L17 ht17 hvm17 hw17 hB17 hz17 hk17 hS => ?_)
  obtain ⟨hr17, hB17⟩ := hB17
  have hP := pq_keep hP hD [1, 3] rfl hk17 hB17.1 ht17
  have hG : s.heap.size + 0 ≤ H17.size := Nat.le_trans hG hz17
  refine W.eq (g2 := F0 m 32 ls [.ref h4, .ref h4]) (by rw [hr17]) ?_
  refine va_castE (nm := RX2) hx hb hown (hts _ q_89) (va_recv hK hP (ci := 3) (q := (RX2, TX2, 19)) (q0 := 4) rfl rfl) dX0_findStandings_32 ?_
  refine va_put (D := (dC, dI)) (ci := 3) (v := .ref h4) (ty := .object "Deltacycle$Net") (C := RX2) (T := TX2) (N := 19) hx hb hts in_X2 tyX2 tyX2_ok nmX2 hown hK hP hD (va_Sre hS) 4 rfl rfl 16 (by decide) (hts _ q_192) (fun _ h9 => h9) rfl (by decide +kernel) rfl rfl (Nat.le_of_ble_eq_true rfl) dX0_findStandings_35 (fun H19 _ hP hD hS' => ?_)
  have hG : s.heap.size + 0 ≤ H19.size := Nat.le_trans hG hS'.1
  have hS := va_Str hS hS'
  have hP : va_P (dC, dI) xCl [(h0, ce7 h1 o0 h2 o1), (h1, ce331 h3), (h2, ce3 z.1), (h3, ce330 kc0 h4 h5 h6 h7 h8 h9 h10), (h4, ce38 (z.2.1 0) o2 h4), (h5, ce77 (z.2.1 0) o3 h5), (h6, ce115 (z.2.1 0) o4 h6), (h7, ce165 (z.2.1 0) o5 h7), (h8, ce224 (z.2.1 0) o6 h8), (h9, ce287 (z.2.1 0) o7 h9), (h10, ce364 (z.2.1 0) o8 h10)] H19 := hP
  have hD := vd_as hP hD rfl
  refine lv_iinc (v := 1) (lv' := [(1, .int 1), (0, .ref h0)]) hx hb dX0_findStandings_38 hl (k := 0) rfl (by decide) (by decide) rfl (fun ls hl => ?_)
  refine lv_goto (tgt := 2) hx hb dX0_findStandings_41 (by decide) ?_
  refine lv_iload_n hx hb dX0_findStandings_2 rfl (lv_at hl 0 rfl) ?_
  refine lv_aload_n hx hb dX0_findStandings_3 rfl (lv_at hl 1 rfl) ?_
  refine va_get (D := (dC, dI)) (ci := 2) (v := .ref h1) (C := RX0) (T := TX0) (N := 4) hx hb hts in_X0 hown hK hP 0 rfl rfl 0 (by decide) (hts _ q_28) (fun _ h9 => h9) rfl dX0_findStandings_4 ?_
  have hM22 := k20_size l hl9 dC dI z h1 h3 H19.size 7 7
  obtain ⟨hF20, hC23⟩ := pc_M hM22 hP hD hK hS hX hT hA [1] [] rfl rfl rfl
  refine va_calli (va_runV (As := []) (rest := [.int 1]) ⟨hx, hb, hml, hown, hts⟩ hM22 (cwV 0 hts (gV q_92 q_77 q_78 q_12 q_75) rfl rfl rfl hV_Jx4a65c_size_8abf5 ⟨Nat.le_of_ble_eq_true rfl, Nat.le_of_ble_eq_true rfl⟩) ⟨pc_blind, va_recv hK hP (ci := 0) (q := (RJx4a65c, TJx4a65c, 3)) (q0 := 1) rfl rfl, fun U hU hW => ⟨rfl, hC23 U hU hW⟩⟩ rfl rfl hl.1 rfl (lv_room (Nat.le_of_ble_eq_true rfl)) dX0_findStandings_7 ⟨(Nat.le_of_ble_eq_true rfl), (Nat.le_of_ble_eq_true rfl)⟩) hS (fun q9 _ h9 => hF20 q9 h9) hF20 (fun r25 u24 t24 H24 L24 ht24 hvm24 hw24 hB24 hz24 hk24 hS => ?_)
  have hP := pq_keep hP hD [1] rfl hk24 hB24.1 ht24
  have hG : s.heap.size + 0 ≤ H24.size := Nat.le_trans hG hz24
  refine W.eq (g2 := F0 m 10 ls [.int 7, .int 1]) (by rw [hw24]) ?_
  refine lv_icmp_ge (tgt := 44) hx hb dX0_findStandings_10 (by decide) (fun cz => absurd cz (by decide)) (fun _ => ?_)
  refine lv_aload_n hx hb dX0_findStandings_13 rfl (lv_at hl 1 rfl) ?_
  refine va_get (D := (dC, dI)) (ci := 2) (v := .ref h1) (C := RX0) (T := TX0) (N := 4) hx hb hts in_X0 hown hK hP 0 rfl rfl 0 (by decide) (hts _ q_28) (fun _ h9 => h9) rfl dX0_findStandings_14 ?_
  refine lv_iload_n hx hb dX0_findStandings_17 rfl (lv_at hl 0 rfl) ?_
  have hM28 := k636_get l hl9 dC dI z h1 h3 h4 h5 h6 h7 h8 h9 h10 H24.size kc0
  obtain ⟨hF26, hC29⟩ := pc_M hM28 hP hD hK hS hX hT hA [1, 3] [0] rfl rfl rfl
  refine va_callr (va_runV (As := [.int 1]) (rest := []) ⟨hx, hb, hml, hown, hts⟩ hM28 (cwV 1 hts (gV q_156 q_157 q_158 q_12 q_155) rfl rfl rfl hV_Jx4a65c_get_915e3 ⟨Nat.le_of_ble_eq_true rfl, Nat.le_of_ble_eq_true rfl⟩) ⟨pc_blind, va_recv hK hP (ci := 0) (q := (RJx4a65c, TJx4a65c, 3)) (q0 := 1) rfl rfl, fun U hU hW => ⟨rfl, hC29 U hU hW⟩⟩ rfl rfl hl.1 rfl (lv_room (Nat.le_of_ble_eq_true rfl)) dX0_findStandings_18 ⟨(Nat.le_of_ble_eq_true rfl), (Nat.le_of_ble_eq_true rfl)⟩) hS (fun q9 _ h9 => hF26 q9 h9) hF26 (fun u30 r31 t30 H30 L30 ht30 hvm30 hw30 hB30 hz30 hk30 hS => ?_)
  obtain ⟨hr30, hB30⟩ := hB30
  have hP := pq_keep hP hD [1, 3] rfl hk30 hB30.1 ht30
  have hG : s.heap.size + 0 ≤ H30.size := Nat.le_trans hG hz30
  refine W.eq (g2 := F0 m 21 ls [.ref h5]) (by rw [hr30]) ?_
  refine va_castE (nm := RX2) hx hb hown (hts _ q_89) (va_recv hK hP (ci := 3) (q := (RX2, TX2, 19)) (q0 := 5) rfl rfl) dX0_findStandings_21 ?_
  refine lv_aload_n hx hb dX0_findStandings_24 rfl (lv_at hl 1 rfl) ?_
  refine va_get (D := (dC, dI)) (ci := 2) (v := .ref h1) (C := RX0) (T := TX0) (N := 4) hx hb hts in_X0 hown hK hP 0 rfl rfl 0 (by decide) (hts _ q_28) (fun _ h9 => h9) rfl dX0_findStandings_25 ?_
  refine lv_iload_n hx hb dX0_findStandings_28 rfl (lv_at hl 0 rfl) ?_
  have hM34 := k636_get l hl9 dC dI z h1 h3 h4 h5 h6 h7 h8 h9 h10 H30.size kc0
  obtain ⟨hF32, hC35⟩ := pc_M hM34 hP hD hK hS hX hT hA [1, 3] [0] rfl rfl rfl
  refine va_callr (va_runV (As := [.int 1]) (rest := [.ref h5]) ⟨hx, hb, hml, hown, hts⟩ hM34 (cwV 1 hts (gV q_156 q_157 q_158 q_12 q_155) rfl rfl rfl hV_Jx4a65c_get_915e3 ⟨Nat.le_of_ble_eq_true rfl, Nat.le_of_ble_eq_true rfl⟩) ⟨pc_blind, va_recv hK hP (ci := 0) (q := (RJx4a65c, TJx4a65c, 3)) (q0 := 1) rfl rfl, fun U hU hW => ⟨rfl, hC35 U hU hW⟩⟩ rfl rfl hl.1 rfl (lv_room (Nat.le_of_ble_eq_true rfl)) dX0_findStandings_29 ⟨(Nat.le_of_ble_eq_true rfl), (Nat.le_of_ble_eq_true rfl)⟩) hS (fun q9 _ h9 => hF32 q9 h9) hF32 (fun u36 r37 t36 H36 L36 ht36 hvm36 hw36 hB36 hz36 hk36 hS => ?_)
  obtain ⟨hr36, hB36⟩ := hB36
  have hP := pq_keep hP hD [1, 3] rfl hk36 hB36.1 ht36
  have hG : s.heap.size + 0 ≤ H36.size := Nat.le_trans hG hz36
  refine W.eq (g2 := F0 m 32 ls [.ref h5, .ref h5]) (by rw [hr36]) ?_
  refine va_castE (nm := RX2) hx hb hown (hts _ q_89) (va_recv hK hP (ci := 3) (q := (RX2, TX2, 19)) (q0 := 5) rfl rfl) dX0_findStandings_32 ?_
  refine va_put (D := (dC, dI)) (ci := 3) (v := .ref h5) (ty := .object "Deltacycle$Net") (C := RX2) (T := TX2) (N := 19) hx hb hts in_X2 tyX2 tyX2_ok nmX2 hown hK hP hD (va_Sre hS) 5 rfl rfl 16 (by decide) (hts _ q_192) (fun _ h9 => h9) rfl (by decide +kernel) rfl rfl (Nat.le_of_ble_eq_true rfl) dX0_findStandings_35 (fun H38 _ hP hD hS' => ?_)
  have hG : s.heap.size + 0 ≤ H38.size := Nat.le_trans hG hS'.1
  have hS := va_Str hS hS'
  have hP : va_P (dC, dI) xCl [(h0, ce7 h1 o0 h2 o1), (h1, ce331 h3), (h2, ce3 z.1), (h3, ce330 kc0 h4 h5 h6 h7 h8 h9 h10), (h4, ce38 (z.2.1 0) o2 h4), (h5, ce77 (z.2.1 0) o3 h5), (h6, ce115 (z.2.1 0) o4 h6), (h7, ce165 (z.2.1 0) o5 h7), (h8, ce224 (z.2.1 0) o6 h8), (h9, ce287 (z.2.1 0) o7 h9), (h10, ce364 (z.2.1 0) o8 h10)] H38 := hP
  have hD := vd_as hP hD rfl
  refine lv_iinc (v := 2) (lv' := [(1, .int 2), (0, .ref h0)]) hx hb dX0_findStandings_38 hl (k := 0) rfl (by decide) (by decide) rfl (fun ls hl => ?_)
  refine lv_goto (tgt := 2) hx hb dX0_findStandings_41 (by decide) ?_
  refine lv_iload_n hx hb dX0_findStandings_2 rfl (lv_at hl 0 rfl) ?_
  refine lv_aload_n hx hb dX0_findStandings_3 rfl (lv_at hl 1 rfl) ?_
  refine va_get (D := (dC, dI)) (ci := 2) (v := .ref h1) (C := RX0) (T := TX0) (N := 4) hx hb hts in_X0 hown hK hP 0 rfl rfl 0 (by decide) (hts _ q_28) (fun _ h9 => h9) rfl dX0_findStandings_4 ?_
  have hM41 := k20_size l hl9 dC dI z h1 h3 H38.size 7 7
  obtain ⟨hF39, hC42⟩ := pc_M hM41 hP hD hK hS hX hT hA [1] [] rfl rfl rfl
  refine va_calli (va_runV (As := []) (rest := [.int 2]) ⟨hx, hb, hml, hown, hts⟩ hM41 (cwV 0 hts (gV q_92 q_77 q_78 q_12 q_75) rfl rfl rfl hV_Jx4a65c_size_8abf5 ⟨Nat.le_of_ble_eq_true rfl, Nat.le_of_ble_eq_true rfl⟩) ⟨pc_blind, va_recv hK hP (ci := 0) (q := (RJx4a65c, TJx4a65c, 3)) (q0 := 1) rfl rfl, fun U hU hW => ⟨rfl, hC42 U hU hW⟩⟩ rfl rfl hl.1 rfl (lv_room (Nat.le_of_ble_eq_true rfl)) dX0_findStandings_7 ⟨(Nat.le_of_ble_eq_true rfl), (Nat.le_of_ble_eq_true rfl)⟩) hS (fun q9 _ h9 => hF39 q9 h9) hF39 (fun r44 u43 t43 H43 L43 ht43 hvm43 hw43 hB43 hz43 hk43 hS => ?_)
  have hP := pq_keep hP hD [1] rfl hk43 hB43.1 ht43
  have hG : s.heap.size + 0 ≤ H43.size := Nat.le_trans hG hz43
  refine W.eq (g2 := F0 m 10 ls [.int 7, .int 2]) (by rw [hw43]) ?_
  refine lv_icmp_ge (tgt := 44) hx hb dX0_findStandings_10 (by decide) (fun cz => absurd cz (by decide)) (fun _ => ?_)
  refine lv_aload_n hx hb dX0_findStandings_13 rfl (lv_at hl 1 rfl) ?_
  refine va_get (D := (dC, dI)) (ci := 2) (v := .ref h1) (C := RX0) (T := TX0) (N := 4) hx hb hts in_X0 hown hK hP 0 rfl rfl 0 (by decide) (hts _ q_28) (fun _ h9 => h9) rfl dX0_findStandings_14 ?_
  refine lv_iload_n hx hb dX0_findStandings_17 rfl (lv_at hl 0 rfl) ?_
  have hM47 := k640_get l hl9 dC dI z h1 h3 h4 h5 h6 h7 h8 h9 h10 H43.size kc0
  obtain ⟨hF45, hC48⟩ := pc_M hM47 hP hD hK hS hX hT hA [1, 3] [0] rfl rfl rfl
  refine va_callr (va_runV (As := [.int 2]) (rest := []) ⟨hx, hb, hml, hown, hts⟩ hM47 (cwV 1 hts (gV q_156 q_157 q_158 q_12 q_155) rfl rfl rfl hV_Jx4a65c_get_915e3 ⟨Nat.le_of_ble_eq_true rfl, Nat.le_of_ble_eq_true rfl⟩) ⟨pc_blind, va_recv hK hP (ci := 0) (q := (RJx4a65c, TJx4a65c, 3)) (q0 := 1) rfl rfl, fun U hU hW => ⟨rfl, hC48 U hU hW⟩⟩ rfl rfl hl.1 rfl (lv_room (Nat.le_of_ble_eq_true rfl)) dX0_findStandings_18 ⟨(Nat.le_of_ble_eq_true rfl), (Nat.le_of_ble_eq_true rfl)⟩) hS (fun q9 _ h9 => hF45 q9 h9) hF45 (fun u49 r50 t49 H49 L49 ht49 hvm49 hw49 hB49 hz49 hk49 hS => ?_)
  obtain ⟨hr49, hB49⟩ := hB49
  have hP := pq_keep hP hD [1, 3] rfl hk49 hB49.1 ht49
  have hG : s.heap.size + 0 ≤ H49.size := Nat.le_trans hG hz49
  refine W.eq (g2 := F0 m 21 ls [.ref h6]) (by rw [hr49]) ?_
  refine va_castE (nm := RX2) hx hb hown (hts _ q_89) (va_recv hK hP (ci := 3) (q := (RX2, TX2, 19)) (q0 := 6) rfl rfl) dX0_findStandings_21 ?_
  refine lv_aload_n hx hb dX0_findStandings_24 rfl (lv_at hl 1 rfl) ?_
  refine va_get (D := (dC, dI)) (ci := 2) (v := .ref h1) (C := RX0) (T := TX0) (N := 4) hx hb hts in_X0 hown hK hP 0 rfl rfl 0 (by decide) (hts _ q_28) (fun _ h9 => h9) rfl dX0_findStandings_25 ?_
  refine lv_iload_n hx hb dX0_findStandings_28 rfl (lv_at hl 0 rfl) ?_
  have hM53 := k640_get l hl9 dC dI z h1 h3 h4 h5 h6 h7 h8 h9 h10 H49.size kc0
  obtain ⟨hF51, hC54⟩ := pc_M hM53 hP hD hK hS hX hT hA [1, 3] [0] rfl rfl rfl
  refine va_callr (va_runV (As := [.int 2]) (rest := [.ref h6]) ⟨hx, hb, hml, hown, hts⟩ hM53 (cwV 1 hts (gV q_156 q_157 q_158 q_12 q_155) rfl rfl rfl hV_Jx4a65c_get_915e3 ⟨Nat.le_of_ble_eq_true rfl, Nat.le_of_ble_eq_true rfl⟩) ⟨pc_blind, va_recv hK hP (ci := 0) (q := (RJx4a65c, TJx4a65c, 3)) (q0 := 1) rfl rfl, fun U hU hW => ⟨rfl, hC54 U hU hW⟩⟩ rfl rfl hl.1 rfl (lv_room (Nat.le_of_ble_eq_true rfl)) dX0_findStandings_29 ⟨(Nat.le_of_ble_eq_true rfl), (Nat.le_of_ble_eq_true rfl)⟩) hS (fun q9 _ h9 => hF51 q9 h9) hF51 (fun u55 r56 t55 H55 L55 ht55 hvm55 hw55 hB55 hz55 hk55 hS => ?_)
  obtain ⟨hr55, hB55⟩ := hB55
  have hP := pq_keep hP hD [1, 3] rfl hk55 hB55.1 ht55
  have hG : s.heap.size + 0 ≤ H55.size := Nat.le_trans hG hz55
  refine W.eq (g2 := F0 m 32 ls [.ref h6, .ref h6]) (by rw [hr55]) ?_
  refine va_castE (nm := RX2) hx hb hown (hts _ q_89) (va_recv hK hP (ci := 3) (q := (RX2, TX2, 19)) (q0 := 6) rfl rfl) dX0_findStandings_32 ?_
  refine va_put (D := (dC, dI)) (ci := 3) (v := .ref h6) (ty := .object "Deltacycle$Net") (C := RX2) (T := TX2) (N := 19) hx hb hts in_X2 tyX2 tyX2_ok nmX2 hown hK hP hD (va_Sre hS) 6 rfl rfl 16 (by decide) (hts _ q_192) (fun _ h9 => h9) rfl (by decide +kernel) rfl rfl (Nat.le_of_ble_eq_true rfl) dX0_findStandings_35 (fun H57 _ hP hD hS' => ?_)
  have hG : s.heap.size + 0 ≤ H57.size := Nat.le_trans hG hS'.1
  have hS := va_Str hS hS'
  have hP : va_P (dC, dI) xCl [(h0, ce7 h1 o0 h2 o1), (h1, ce331 h3), (h2, ce3 z.1), (h3, ce330 kc0 h4 h5 h6 h7 h8 h9 h10), (h4, ce38 (z.2.1 0) o2 h4), (h5, ce77 (z.2.1 0) o3 h5), (h6, ce115 (z.2.1 0) o4 h6), (h7, ce165 (z.2.1 0) o5 h7), (h8, ce224 (z.2.1 0) o6 h8), (h9, ce287 (z.2.1 0) o7 h9), (h10, ce364 (z.2.1 0) o8 h10)] H57 := hP
  have hD := vd_as hP hD rfl
  refine lv_iinc (v := 3) (lv' := [(1, .int 3), (0, .ref h0)]) hx hb dX0_findStandings_38 hl (k := 0) rfl (by decide) (by decide) rfl (fun ls hl => ?_)
  refine lv_goto (tgt := 2) hx hb dX0_findStandings_41 (by decide) ?_
  refine lv_iload_n hx hb dX0_findStandings_2 rfl (lv_at hl 0 rfl) ?_
  refine lv_aload_n hx hb dX0_findStandings_3 rfl (lv_at hl 1 rfl) ?_
  refine va_get (D := (dC, dI)) (ci := 2) (v := .ref h1) (C := RX0) (T := TX0) (N := 4) hx hb hts in_X0 hown hK hP 0 rfl rfl 0 (by decide) (hts _ q_28) (fun _ h9 => h9) rfl dX0_findStandings_4 ?_
  have hM60 := k20_size l hl9 dC dI z h1 h3 H57.size 7 7
  obtain ⟨hF58, hC61⟩ := pc_M hM60 hP hD hK hS hX hT hA [1] [] rfl rfl rfl
  refine va_calli (va_runV (As := []) (rest := [.int 3]) ⟨hx, hb, hml, hown, hts⟩ hM60 (cwV 0 hts (gV q_92 q_77 q_78 q_12 q_75) rfl rfl rfl hV_Jx4a65c_size_8abf5 ⟨Nat.le_of_ble_eq_true rfl, Nat.le_of_ble_eq_true rfl⟩) ⟨pc_blind, va_recv hK hP (ci := 0) (q := (RJx4a65c, TJx4a65c, 3)) (q0 := 1) rfl rfl, fun U hU hW => ⟨rfl, hC61 U hU hW⟩⟩ rfl rfl hl.1 rfl (lv_room (Nat.le_of_ble_eq_true rfl)) dX0_findStandings_7 ⟨(Nat.le_of_ble_eq_true rfl), (Nat.le_of_ble_eq_true rfl)⟩) hS (fun q9 _ h9 => hF58 q9 h9) hF58 (fun r63 u62 t62 H62 L62 ht62 hvm62 hw62 hB62 hz62 hk62 hS => ?_)
  have hP := pq_keep hP hD [1] rfl hk62 hB62.1 ht62
  have hG : s.heap.size + 0 ≤ H62.size := Nat.le_trans hG hz62
  refine W.eq (g2 := F0 m 10 ls [.int 7, .int 3]) (by rw [hw62]) ?_
  refine lv_icmp_ge (tgt := 44) hx hb dX0_findStandings_10 (by decide) (fun cz => absurd cz (by decide)) (fun _ => ?_)
  refine lv_aload_n hx hb dX0_findStandings_13 rfl (lv_at hl 1 rfl) ?_
  refine va_get (D := (dC, dI)) (ci := 2) (v := .ref h1) (C := RX0) (T := TX0) (N := 4) hx hb hts in_X0 hown hK hP 0 rfl rfl 0 (by decide) (hts _ q_28) (fun _ h9 => h9) rfl dX0_findStandings_14 ?_
  refine lv_iload_n hx hb dX0_findStandings_17 rfl (lv_at hl 0 rfl) ?_
  have hM66 := k644_get l hl9 dC dI z h1 h3 h4 h5 h6 h7 h8 h9 h10 H62.size kc0
  obtain ⟨hF64, hC67⟩ := pc_M hM66 hP hD hK hS hX hT hA [1, 3] [0] rfl rfl rfl
  refine va_callr (va_runV (As := [.int 3]) (rest := []) ⟨hx, hb, hml, hown, hts⟩ hM66 (cwV 1 hts (gV q_156 q_157 q_158 q_12 q_155) rfl rfl rfl hV_Jx4a65c_get_915e3 ⟨Nat.le_of_ble_eq_true rfl, Nat.le_of_ble_eq_true rfl⟩) ⟨pc_blind, va_recv hK hP (ci := 0) (q := (RJx4a65c, TJx4a65c, 3)) (q0 := 1) rfl rfl, fun U hU hW => ⟨rfl, hC67 U hU hW⟩⟩ rfl rfl hl.1 rfl (lv_room (Nat.le_of_ble_eq_true rfl)) dX0_findStandings_18 ⟨(Nat.le_of_ble_eq_true rfl), (Nat.le_of_ble_eq_true rfl)⟩) hS (fun q9 _ h9 => hF64 q9 h9) hF64 (fun u68 r69 t68 H68 L68 ht68 hvm68 hw68 hB68 hz68 hk68 hS => ?_)
  obtain ⟨hr68, hB68⟩ := hB68
  have hP := pq_keep hP hD [1, 3] rfl hk68 hB68.1 ht68
  have hG : s.heap.size + 0 ≤ H68.size := Nat.le_trans hG hz68
  refine W.eq (g2 := F0 m 21 ls [.ref h7]) (by rw [hr68]) ?_
  refine va_castE (nm := RX2) hx hb hown (hts _ q_89) (va_recv hK hP (ci := 3) (q := (RX2, TX2, 19)) (q0 := 7) rfl rfl) dX0_findStandings_21 ?_
  refine lv_aload_n hx hb dX0_findStandings_24 rfl (lv_at hl 1 rfl) ?_
  refine va_get (D := (dC, dI)) (ci := 2) (v := .ref h1) (C := RX0) (T := TX0) (N := 4) hx hb hts in_X0 hown hK hP 0 rfl rfl 0 (by decide) (hts _ q_28) (fun _ h9 => h9) rfl dX0_findStandings_25 ?_
  refine lv_iload_n hx hb dX0_findStandings_28 rfl (lv_at hl 0 rfl) ?_
  have hM72 := k644_get l hl9 dC dI z h1 h3 h4 h5 h6 h7 h8 h9 h10 H68.size kc0
  obtain ⟨hF70, hC73⟩ := pc_M hM72 hP hD hK hS hX hT hA [1, 3] [0] rfl rfl rfl
  refine va_callr (va_runV (As := [.int 3]) (rest := [.ref h7]) ⟨hx, hb, hml, hown, hts⟩ hM72 (cwV 1 hts (gV q_156 q_157 q_158 q_12 q_155) rfl rfl rfl hV_Jx4a65c_get_915e3 ⟨Nat.le_of_ble_eq_true rfl, Nat.le_of_ble_eq_true rfl⟩) ⟨pc_blind, va_recv hK hP (ci := 0) (q := (RJx4a65c, TJx4a65c, 3)) (q0 := 1) rfl rfl, fun U hU hW => ⟨rfl, hC73 U hU hW⟩⟩ rfl rfl hl.1 rfl (lv_room (Nat.le_of_ble_eq_true rfl)) dX0_findStandings_29 ⟨(Nat.le_of_ble_eq_true rfl), (Nat.le_of_ble_eq_true rfl)⟩) hS (fun q9 _ h9 => hF70 q9 h9) hF70 (fun u74 r75 t74 H74 L74 ht74 hvm74 hw74 hB74 hz74 hk74 hS => ?_)
  obtain ⟨hr74, hB74⟩ := hB74
  have hP := pq_keep hP hD [1, 3] rfl hk74 hB74.1 ht74
  have hG : s.heap.size + 0 ≤ H74.size := Nat.le_trans hG hz74
  refine W.eq (g2 := F0 m 32 ls [.ref h7, .ref h7]) (by rw [hr74]) ?_
  refine va_castE (nm := RX2) hx hb hown (hts _ q_89) (va_recv hK hP (ci := 3) (q := (RX2, TX2, 19)) (q0 := 7) rfl rfl) dX0_findStandings_32 ?_
  refine va_put (D := (dC, dI)) (ci := 3) (v := .ref h7) (ty := .object "Deltacycle$Net") (C := RX2) (T := TX2) (N := 19) hx hb hts in_X2 tyX2 tyX2_ok nmX2 hown hK hP hD (va_Sre hS) 7 rfl rfl 16 (by decide) (hts _ q_192) (fun _ h9 => h9) rfl (by decide +kernel) rfl rfl (Nat.le_of_ble_eq_true rfl) dX0_findStandings_35 (fun H76 _ hP hD hS' => ?_)
  have hG : s.heap.size + 0 ≤ H76.size := Nat.le_trans hG hS'.1
  have hS := va_Str hS hS'
  have hP : va_P (dC, dI) xCl [(h0, ce7 h1 o0 h2 o1), (h1, ce331 h3), (h2, ce3 z.1), (h3, ce330 kc0 h4 h5 h6 h7 h8 h9 h10), (h4, ce38 (z.2.1 0) o2 h4), (h5, ce77 (z.2.1 0) o3 h5), (h6, ce115 (z.2.1 0) o4 h6), (h7, ce165 (z.2.1 0) o5 h7), (h8, ce224 (z.2.1 0) o6 h8), (h9, ce287 (z.2.1 0) o7 h9), (h10, ce364 (z.2.1 0) o8 h10)] H76 := hP
  have hD := vd_as hP hD rfl
  refine lv_iinc (v := 4) (lv' := [(1, .int 4), (0, .ref h0)]) hx hb dX0_findStandings_38 hl (k := 0) rfl (by decide) (by decide) rfl (fun ls hl => ?_)
  refine lv_goto (tgt := 2) hx hb dX0_findStandings_41 (by decide) ?_
  refine lv_iload_n hx hb dX0_findStandings_2 rfl (lv_at hl 0 rfl) ?_
  refine lv_aload_n hx hb dX0_findStandings_3 rfl (lv_at hl 1 rfl) ?_
  refine va_get (D := (dC, dI)) (ci := 2) (v := .ref h1) (C := RX0) (T := TX0) (N := 4) hx hb hts in_X0 hown hK hP 0 rfl rfl 0 (by decide) (hts _ q_28) (fun _ h9 => h9) rfl dX0_findStandings_4 ?_
  have hM79 := k20_size l hl9 dC dI z h1 h3 H76.size 7 7
  obtain ⟨hF77, hC80⟩ := pc_M hM79 hP hD hK hS hX hT hA [1] [] rfl rfl rfl
  refine va_calli (va_runV (As := []) (rest := [.int 4]) ⟨hx, hb, hml, hown, hts⟩ hM79 (cwV 0 hts (gV q_92 q_77 q_78 q_12 q_75) rfl rfl rfl hV_Jx4a65c_size_8abf5 ⟨Nat.le_of_ble_eq_true rfl, Nat.le_of_ble_eq_true rfl⟩) ⟨pc_blind, va_recv hK hP (ci := 0) (q := (RJx4a65c, TJx4a65c, 3)) (q0 := 1) rfl rfl, fun U hU hW => ⟨rfl, hC80 U hU hW⟩⟩ rfl rfl hl.1 rfl (lv_room (Nat.le_of_ble_eq_true rfl)) dX0_findStandings_7 ⟨(Nat.le_of_ble_eq_true rfl), (Nat.le_of_ble_eq_true rfl)⟩) hS (fun q9 _ h9 => hF77 q9 h9) hF77 (fun r82 u81 t81 H81 L81 ht81 hvm81 hw81 hB81 hz81 hk81 hS => ?_)
  have hP := pq_keep hP hD [1] rfl hk81 hB81.1 ht81
  have hG : s.heap.size + 0 ≤ H81.size := Nat.le_trans hG hz81
  refine W.eq (g2 := F0 m 10 ls [.int 7, .int 4]) (by rw [hw81]) ?_
  refine lv_icmp_ge (tgt := 44) hx hb dX0_findStandings_10 (by decide) (fun cz => absurd cz (by decide)) (fun _ => ?_)
  refine lv_aload_n hx hb dX0_findStandings_13 rfl (lv_at hl 1 rfl) ?_
  refine va_get (D := (dC, dI)) (ci := 2) (v := .ref h1) (C := RX0) (T := TX0) (N := 4) hx hb hts in_X0 hown hK hP 0 rfl rfl 0 (by decide) (hts _ q_28) (fun _ h9 => h9) rfl dX0_findStandings_14 ?_
  refine lv_iload_n hx hb dX0_findStandings_17 rfl (lv_at hl 0 rfl) ?_
  have hM85 := k648_get l hl9 dC dI z h1 h3 h4 h5 h6 h7 h8 h9 h10 H81.size kc0
  obtain ⟨hF83, hC86⟩ := pc_M hM85 hP hD hK hS hX hT hA [1, 3] [0] rfl rfl rfl
  refine va_callr (va_runV (As := [.int 4]) (rest := []) ⟨hx, hb, hml, hown, hts⟩ hM85 (cwV 1 hts (gV q_156 q_157 q_158 q_12 q_155) rfl rfl rfl hV_Jx4a65c_get_915e3 ⟨Nat.le_of_ble_eq_true rfl, Nat.le_of_ble_eq_true rfl⟩) ⟨pc_blind, va_recv hK hP (ci := 0) (q := (RJx4a65c, TJx4a65c, 3)) (q0 := 1) rfl rfl, fun U hU hW => ⟨rfl, hC86 U hU hW⟩⟩ rfl rfl hl.1 rfl (lv_room (Nat.le_of_ble_eq_true rfl)) dX0_findStandings_18 ⟨(Nat.le_of_ble_eq_true rfl), (Nat.le_of_ble_eq_true rfl)⟩) hS (fun q9 _ h9 => hF83 q9 h9) hF83 (fun u87 r88 t87 H87 L87 ht87 hvm87 hw87 hB87 hz87 hk87 hS => ?_)
  obtain ⟨hr87, hB87⟩ := hB87
  have hP := pq_keep hP hD [1, 3] rfl hk87 hB87.1 ht87
  have hG : s.heap.size + 0 ≤ H87.size := Nat.le_trans hG hz87
  refine W.eq (g2 := F0 m 21 ls [.ref h8]) (by rw [hr87]) ?_
  refine va_castE (nm := RX2) hx hb hown (hts _ q_89) (va_recv hK hP (ci := 3) (q := (RX2, TX2, 19)) (q0 := 8) rfl rfl) dX0_findStandings_21 ?_
  refine lv_aload_n hx hb dX0_findStandings_24 rfl (lv_at hl 1 rfl) ?_
  refine va_get (D := (dC, dI)) (ci := 2) (v := .ref h1) (C := RX0) (T := TX0) (N := 4) hx hb hts in_X0 hown hK hP 0 rfl rfl 0 (by decide) (hts _ q_28) (fun _ h9 => h9) rfl dX0_findStandings_25 ?_
  refine lv_iload_n hx hb dX0_findStandings_28 rfl (lv_at hl 0 rfl) ?_
  have hM91 := k648_get l hl9 dC dI z h1 h3 h4 h5 h6 h7 h8 h9 h10 H87.size kc0
  obtain ⟨hF89, hC92⟩ := pc_M hM91 hP hD hK hS hX hT hA [1, 3] [0] rfl rfl rfl
  refine va_callr (va_runV (As := [.int 4]) (rest := [.ref h8]) ⟨hx, hb, hml, hown, hts⟩ hM91 (cwV 1 hts (gV q_156 q_157 q_158 q_12 q_155) rfl rfl rfl hV_Jx4a65c_get_915e3 ⟨Nat.le_of_ble_eq_true rfl, Nat.le_of_ble_eq_true rfl⟩) ⟨pc_blind, va_recv hK hP (ci := 0) (q := (RJx4a65c, TJx4a65c, 3)) (q0 := 1) rfl rfl, fun U hU hW => ⟨rfl, hC92 U hU hW⟩⟩ rfl rfl hl.1 rfl (lv_room (Nat.le_of_ble_eq_true rfl)) dX0_findStandings_29 ⟨(Nat.le_of_ble_eq_true rfl), (Nat.le_of_ble_eq_true rfl)⟩) hS (fun q9 _ h9 => hF89 q9 h9) hF89 (fun u93 r94 t93 H93 L93 ht93 hvm93 hw93 hB93 hz93 hk93 hS => ?_)
  obtain ⟨hr93, hB93⟩ := hB93
  have hP := pq_keep hP hD [1, 3] rfl hk93 hB93.1 ht93
  have hG : s.heap.size + 0 ≤ H93.size := Nat.le_trans hG hz93
  refine W.eq (g2 := F0 m 32 ls [.ref h8, .ref h8]) (by rw [hr93]) ?_
  refine va_castE (nm := RX2) hx hb hown (hts _ q_89) (va_recv hK hP (ci := 3) (q := (RX2, TX2, 19)) (q0 := 8) rfl rfl) dX0_findStandings_32 ?_
  refine va_put (D := (dC, dI)) (ci := 3) (v := .ref h8) (ty := .object "Deltacycle$Net") (C := RX2) (T := TX2) (N := 19) hx hb hts in_X2 tyX2 tyX2_ok nmX2 hown hK hP hD (va_Sre hS) 8 rfl rfl 16 (by decide) (hts _ q_192) (fun _ h9 => h9) rfl (by decide +kernel) rfl rfl (Nat.le_of_ble_eq_true rfl) dX0_findStandings_35 (fun H95 _ hP hD hS' => ?_)
  have hG : s.heap.size + 0 ≤ H95.size := Nat.le_trans hG hS'.1
  have hS := va_Str hS hS'
  have hP : va_P (dC, dI) xCl [(h0, ce7 h1 o0 h2 o1), (h1, ce331 h3), (h2, ce3 z.1), (h3, ce330 kc0 h4 h5 h6 h7 h8 h9 h10), (h4, ce38 (z.2.1 0) o2 h4), (h5, ce77 (z.2.1 0) o3 h5), (h6, ce115 (z.2.1 0) o4 h6), (h7, ce165 (z.2.1 0) o5 h7), (h8, ce224 (z.2.1 0) o6 h8), (h9, ce287 (z.2.1 0) o7 h9), (h10, ce364 (z.2.1 0) o8 h10)] H95 := hP
  have hD := vd_as hP hD rfl
  refine lv_iinc (v := 5) (lv' := [(1, .int 5), (0, .ref h0)]) hx hb dX0_findStandings_38 hl (k := 0) rfl (by decide) (by decide) rfl (fun ls hl => ?_)
  refine lv_goto (tgt := 2) hx hb dX0_findStandings_41 (by decide) ?_
  refine lv_iload_n hx hb dX0_findStandings_2 rfl (lv_at hl 0 rfl) ?_
  refine lv_aload_n hx hb dX0_findStandings_3 rfl (lv_at hl 1 rfl) ?_
  refine va_get (D := (dC, dI)) (ci := 2) (v := .ref h1) (C := RX0) (T := TX0) (N := 4) hx hb hts in_X0 hown hK hP 0 rfl rfl 0 (by decide) (hts _ q_28) (fun _ h9 => h9) rfl dX0_findStandings_4 ?_
  have hM98 := k20_size l hl9 dC dI z h1 h3 H95.size 7 7
  obtain ⟨hF96, hC99⟩ := pc_M hM98 hP hD hK hS hX hT hA [1] [] rfl rfl rfl
  refine va_calli (va_runV (As := []) (rest := [.int 5]) ⟨hx, hb, hml, hown, hts⟩ hM98 (cwV 0 hts (gV q_92 q_77 q_78 q_12 q_75) rfl rfl rfl hV_Jx4a65c_size_8abf5 ⟨Nat.le_of_ble_eq_true rfl, Nat.le_of_ble_eq_true rfl⟩) ⟨pc_blind, va_recv hK hP (ci := 0) (q := (RJx4a65c, TJx4a65c, 3)) (q0 := 1) rfl rfl, fun U hU hW => ⟨rfl, hC99 U hU hW⟩⟩ rfl rfl hl.1 rfl (lv_room (Nat.le_of_ble_eq_true rfl)) dX0_findStandings_7 ⟨(Nat.le_of_ble_eq_true rfl), (Nat.le_of_ble_eq_true rfl)⟩) hS (fun q9 _ h9 => hF96 q9 h9) hF96 (fun r101 u100 t100 H100 L100 ht100 hvm100 hw100 hB100 hz100 hk100 hS => ?_)
  have hP := pq_keep hP hD [1] rfl hk100 hB100.1 ht100
  have hG : s.heap.size + 0 ≤ H100.size := Nat.le_trans hG hz100
  refine W.eq (g2 := F0 m 10 ls [.int 7, .int 5]) (by rw [hw100]) ?_
  refine lv_icmp_ge (tgt := 44) hx hb dX0_findStandings_10 (by decide) (fun cz => absurd cz (by decide)) (fun _ => ?_)
  refine lv_aload_n hx hb dX0_findStandings_13 rfl (lv_at hl 1 rfl) ?_
  refine va_get (D := (dC, dI)) (ci := 2) (v := .ref h1) (C := RX0) (T := TX0) (N := 4) hx hb hts in_X0 hown hK hP 0 rfl rfl 0 (by decide) (hts _ q_28) (fun _ h9 => h9) rfl dX0_findStandings_14 ?_
  refine lv_iload_n hx hb dX0_findStandings_17 rfl (lv_at hl 0 rfl) ?_
  have hM104 := k652_get l hl9 dC dI z h1 h3 h4 h5 h6 h7 h8 h9 h10 H100.size kc0
  obtain ⟨hF102, hC105⟩ := pc_M hM104 hP hD hK hS hX hT hA [1, 3] [0] rfl rfl rfl
  refine va_callr (va_runV (As := [.int 5]) (rest := []) ⟨hx, hb, hml, hown, hts⟩ hM104 (cwV 1 hts (gV q_156 q_157 q_158 q_12 q_155) rfl rfl rfl hV_Jx4a65c_get_915e3 ⟨Nat.le_of_ble_eq_true rfl, Nat.le_of_ble_eq_true rfl⟩) ⟨pc_blind, va_recv hK hP (ci := 0) (q := (RJx4a65c, TJx4a65c, 3)) (q0 := 1) rfl rfl, fun U hU hW => ⟨rfl, hC105 U hU hW⟩⟩ rfl rfl hl.1 rfl (lv_room (Nat.le_of_ble_eq_true rfl)) dX0_findStandings_18 ⟨(Nat.le_of_ble_eq_true rfl), (Nat.le_of_ble_eq_true rfl)⟩) hS (fun q9 _ h9 => hF102 q9 h9) hF102 (fun u106 r107 t106 H106 L106 ht106 hvm106 hw106 hB106 hz106 hk106 hS => ?_)
  obtain ⟨hr106, hB106⟩ := hB106
  have hP := pq_keep hP hD [1, 3] rfl hk106 hB106.1 ht106
  have hG : s.heap.size + 0 ≤ H106.size := Nat.le_trans hG hz106
  refine W.eq (g2 := F0 m 21 ls [.ref h9]) (by rw [hr106]) ?_
  refine va_castE (nm := RX2) hx hb hown (hts _ q_89) (va_recv hK hP (ci := 3) (q := (RX2, TX2, 19)) (q0 := 9) rfl rfl) dX0_findStandings_21 ?_
  refine lv_aload_n hx hb dX0_findStandings_24 rfl (lv_at hl 1 rfl) ?_
  refine va_get (D := (dC, dI)) (ci := 2) (v := .ref h1) (C := RX0) (T := TX0) (N := 4) hx hb hts in_X0 hown hK hP 0 rfl rfl 0 (by decide) (hts _ q_28) (fun _ h9 => h9) rfl dX0_findStandings_25 ?_
  refine lv_iload_n hx hb dX0_findStandings_28 rfl (lv_at hl 0 rfl) ?_
  have hM110 := k652_get l hl9 dC dI z h1 h3 h4 h5 h6 h7 h8 h9 h10 H106.size kc0
  obtain ⟨hF108, hC111⟩ := pc_M hM110 hP hD hK hS hX hT hA [1, 3] [0] rfl rfl rfl
  refine va_callr (va_runV (As := [.int 5]) (rest := [.ref h9]) ⟨hx, hb, hml, hown, hts⟩ hM110 (cwV 1 hts (gV q_156 q_157 q_158 q_12 q_155) rfl rfl rfl hV_Jx4a65c_get_915e3 ⟨Nat.le_of_ble_eq_true rfl, Nat.le_of_ble_eq_true rfl⟩) ⟨pc_blind, va_recv hK hP (ci := 0) (q := (RJx4a65c, TJx4a65c, 3)) (q0 := 1) rfl rfl, fun U hU hW => ⟨rfl, hC111 U hU hW⟩⟩ rfl rfl hl.1 rfl (lv_room (Nat.le_of_ble_eq_true rfl)) dX0_findStandings_29 ⟨(Nat.le_of_ble_eq_true rfl), (Nat.le_of_ble_eq_true rfl)⟩) hS (fun q9 _ h9 => hF108 q9 h9) hF108 (fun u112 r113 t112 H112 L112 ht112 hvm112 hw112 hB112 hz112 hk112 hS => ?_)
  obtain ⟨hr112, hB112⟩ := hB112
  have hP := pq_keep hP hD [1, 3] rfl hk112 hB112.1 ht112
  have hG : s.heap.size + 0 ≤ H112.size := Nat.le_trans hG hz112
  refine W.eq (g2 := F0 m 32 ls [.ref h9, .ref h9]) (by rw [hr112]) ?_
  refine va_castE (nm := RX2) hx hb hown (hts _ q_89) (va_recv hK hP (ci := 3) (q := (RX2, TX2, 19)) (q0 := 9) rfl rfl) dX0_findStandings_32 ?_
  refine va_put (D := (dC, dI)) (ci := 3) (v := .ref h9) (ty := .object "Deltacycle$Net") (C := RX2) (T := TX2) (N := 19) hx hb hts in_X2 tyX2 tyX2_ok nmX2 hown hK hP hD (va_Sre hS) 9 rfl rfl 16 (by decide) (hts _ q_192) (fun _ h9 => h9) rfl (by decide +kernel) rfl rfl (Nat.le_of_ble_eq_true rfl) dX0_findStandings_35 (fun H114 _ hP hD hS' => ?_)
  have hG : s.heap.size + 0 ≤ H114.size := Nat.le_trans hG hS'.1
  have hS := va_Str hS hS'
  have hP : va_P (dC, dI) xCl [(h0, ce7 h1 o0 h2 o1), (h1, ce331 h3), (h2, ce3 z.1), (h3, ce330 kc0 h4 h5 h6 h7 h8 h9 h10), (h4, ce38 (z.2.1 0) o2 h4), (h5, ce77 (z.2.1 0) o3 h5), (h6, ce115 (z.2.1 0) o4 h6), (h7, ce165 (z.2.1 0) o5 h7), (h8, ce224 (z.2.1 0) o6 h8), (h9, ce287 (z.2.1 0) o7 h9), (h10, ce364 (z.2.1 0) o8 h10)] H114 := hP
  have hD := vd_as hP hD rfl
  refine lv_iinc (v := 6) (lv' := [(1, .int 6), (0, .ref h0)]) hx hb dX0_findStandings_38 hl (k := 0) rfl (by decide) (by decide) rfl (fun ls hl => ?_)
  refine lv_goto (tgt := 2) hx hb dX0_findStandings_41 (by decide) ?_
  refine lv_iload_n hx hb dX0_findStandings_2 rfl (lv_at hl 0 rfl) ?_
  refine lv_aload_n hx hb dX0_findStandings_3 rfl (lv_at hl 1 rfl) ?_
  refine va_get (D := (dC, dI)) (ci := 2) (v := .ref h1) (C := RX0) (T := TX0) (N := 4) hx hb hts in_X0 hown hK hP 0 rfl rfl 0 (by decide) (hts _ q_28) (fun _ h9 => h9) rfl dX0_findStandings_4 ?_
  have hM117 := k20_size l hl9 dC dI z h1 h3 H114.size 7 7
  obtain ⟨hF115, hC118⟩ := pc_M hM117 hP hD hK hS hX hT hA [1] [] rfl rfl rfl
  refine va_calli (va_runV (As := []) (rest := [.int 6]) ⟨hx, hb, hml, hown, hts⟩ hM117 (cwV 0 hts (gV q_92 q_77 q_78 q_12 q_75) rfl rfl rfl hV_Jx4a65c_size_8abf5 ⟨Nat.le_of_ble_eq_true rfl, Nat.le_of_ble_eq_true rfl⟩) ⟨pc_blind, va_recv hK hP (ci := 0) (q := (RJx4a65c, TJx4a65c, 3)) (q0 := 1) rfl rfl, fun U hU hW => ⟨rfl, hC118 U hU hW⟩⟩ rfl rfl hl.1 rfl (lv_room (Nat.le_of_ble_eq_true rfl)) dX0_findStandings_7 ⟨(Nat.le_of_ble_eq_true rfl), (Nat.le_of_ble_eq_true rfl)⟩) hS (fun q9 _ h9 => hF115 q9 h9) hF115 (fun r120 u119 t119 H119 L119 ht119 hvm119 hw119 hB119 hz119 hk119 hS => ?_)
  have hP := pq_keep hP hD [1] rfl hk119 hB119.1 ht119
  have hG : s.heap.size + 0 ≤ H119.size := Nat.le_trans hG hz119
  refine W.eq (g2 := F0 m 10 ls [.int 7, .int 6]) (by rw [hw119]) ?_
  refine lv_icmp_ge (tgt := 44) hx hb dX0_findStandings_10 (by decide) (fun cz => absurd cz (by decide)) (fun _ => ?_)
  refine lv_aload_n hx hb dX0_findStandings_13 rfl (lv_at hl 1 rfl) ?_
  refine va_get (D := (dC, dI)) (ci := 2) (v := .ref h1) (C := RX0) (T := TX0) (N := 4) hx hb hts in_X0 hown hK hP 0 rfl rfl 0 (by decide) (hts _ q_28) (fun _ h9 => h9) rfl dX0_findStandings_14 ?_
  refine lv_iload_n hx hb dX0_findStandings_17 rfl (lv_at hl 0 rfl) ?_
  have hM123 := k656_get l hl9 dC dI z h1 h3 h4 h5 h6 h7 h8 h9 h10 H119.size kc0
  obtain ⟨hF121, hC124⟩ := pc_M hM123 hP hD hK hS hX hT hA [1, 3] [0] rfl rfl rfl
  refine va_callr (va_runV (As := [.int 6]) (rest := []) ⟨hx, hb, hml, hown, hts⟩ hM123 (cwV 1 hts (gV q_156 q_157 q_158 q_12 q_155) rfl rfl rfl hV_Jx4a65c_get_915e3 ⟨Nat.le_of_ble_eq_true rfl, Nat.le_of_ble_eq_true rfl⟩) ⟨pc_blind, va_recv hK hP (ci := 0) (q := (RJx4a65c, TJx4a65c, 3)) (q0 := 1) rfl rfl, fun U hU hW => ⟨rfl, hC124 U hU hW⟩⟩ rfl rfl hl.1 rfl (lv_room (Nat.le_of_ble_eq_true rfl)) dX0_findStandings_18 ⟨(Nat.le_of_ble_eq_true rfl), (Nat.le_of_ble_eq_true rfl)⟩) hS (fun q9 _ h9 => hF121 q9 h9) hF121 (fun u125 r126 t125 H125 L125 ht125 hvm125 hw125 hB125 hz125 hk125 hS => ?_)
  obtain ⟨hr125, hB125⟩ := hB125
  have hP := pq_keep hP hD [1, 3] rfl hk125 hB125.1 ht125
  have hG : s.heap.size + 0 ≤ H125.size := Nat.le_trans hG hz125
  refine W.eq (g2 := F0 m 21 ls [.ref h10]) (by rw [hr125]) ?_
  refine va_castE (nm := RX2) hx hb hown (hts _ q_89) (va_recv hK hP (ci := 3) (q := (RX2, TX2, 19)) (q0 := 10) rfl rfl) dX0_findStandings_21 ?_
  refine lv_aload_n hx hb dX0_findStandings_24 rfl (lv_at hl 1 rfl) ?_
  refine va_get (D := (dC, dI)) (ci := 2) (v := .ref h1) (C := RX0) (T := TX0) (N := 4) hx hb hts in_X0 hown hK hP 0 rfl rfl 0 (by decide) (hts _ q_28) (fun _ h9 => h9) rfl dX0_findStandings_25 ?_
  refine lv_iload_n hx hb dX0_findStandings_28 rfl (lv_at hl 0 rfl) ?_
  have hM129 := k656_get l hl9 dC dI z h1 h3 h4 h5 h6 h7 h8 h9 h10 H125.size kc0
  obtain ⟨hF127, hC130⟩ := pc_M hM129 hP hD hK hS hX hT hA [1, 3] [0] rfl rfl rfl
  refine va_callr (va_runV (As := [.int 6]) (rest := [.ref h10]) ⟨hx, hb, hml, hown, hts⟩ hM129 (cwV 1 hts (gV q_156 q_157 q_158 q_12 q_155) rfl rfl rfl hV_Jx4a65c_get_915e3 ⟨Nat.le_of_ble_eq_true rfl, Nat.le_of_ble_eq_true rfl⟩) ⟨pc_blind, va_recv hK hP (ci := 0) (q := (RJx4a65c, TJx4a65c, 3)) (q0 := 1) rfl rfl, fun U hU hW => ⟨rfl, hC130 U hU hW⟩⟩ rfl rfl hl.1 rfl (lv_room (Nat.le_of_ble_eq_true rfl)) dX0_findStandings_29 ⟨(Nat.le_of_ble_eq_true rfl), (Nat.le_of_ble_eq_true rfl)⟩) hS (fun q9 _ h9 => hF127 q9 h9) hF127 (fun u131 r132 t131 H131 L131 ht131 hvm131 hw131 hB131 hz131 hk131 hS => ?_)
  obtain ⟨hr131, hB131⟩ := hB131
  have hP := pq_keep hP hD [1, 3] rfl hk131 hB131.1 ht131
  have hG : s.heap.size + 0 ≤ H131.size := Nat.le_trans hG hz131
  refine W.eq (g2 := F0 m 32 ls [.ref h10, .ref h10]) (by rw [hr131]) ?_
  refine va_castE (nm := RX2) hx hb hown (hts _ q_89) (va_recv hK hP (ci := 3) (q := (RX2, TX2, 19)) (q0 := 10) rfl rfl) dX0_findStandings_32 ?_
  refine va_put (D := (dC, dI)) (ci := 3) (v := .ref h10) (ty := .object "Deltacycle$Net") (C := RX2) (T := TX2) (N := 19) hx hb hts in_X2 tyX2 tyX2_ok nmX2 hown hK hP hD (va_Sre hS) 10 rfl rfl 16 (by decide) (hts _ q_192) (fun _ h9 => h9) rfl (by decide +kernel) rfl rfl (Nat.le_of_ble_eq_true rfl) dX0_findStandings_35 (fun H133 _ hP hD hS' => ?_)
  have hG : s.heap.size + 0 ≤ H133.size := Nat.le_trans hG hS'.1
  have hS := va_Str hS hS'
  have hP : va_P (dC, dI) xCl [(h0, ce7 h1 o0 h2 o1), (h1, ce331 h3), (h2, ce3 z.1), (h3, ce330 kc0 h4 h5 h6 h7 h8 h9 h10), (h4, ce38 (z.2.1 0) o2 h4), (h5, ce77 (z.2.1 0) o3 h5), (h6, ce115 (z.2.1 0) o4 h6), (h7, ce165 (z.2.1 0) o5 h7), (h8, ce224 (z.2.1 0) o6 h8), (h9, ce287 (z.2.1 0) o7 h9), (h10, ce364 (z.2.1 0) o8 h10)] H133 := hP
  have hD := vd_as hP hD rfl
  refine lv_iinc (v := 7) (lv' := [(1, .int 7), (0, .ref h0)]) hx hb dX0_findStandings_38 hl (k := 0) rfl (by decide) (by decide) rfl (fun ls hl => ?_)
  refine lv_goto (tgt := 2) hx hb dX0_findStandings_41 (by decide) ?_
  refine lv_iload_n hx hb dX0_findStandings_2 rfl (lv_at hl 0 rfl) ?_
  refine lv_aload_n hx hb dX0_findStandings_3 rfl (lv_at hl 1 rfl) ?_
  refine va_get (D := (dC, dI)) (ci := 2) (v := .ref h1) (C := RX0) (T := TX0) (N := 4) hx hb hts in_X0 hown hK hP 0 rfl rfl 0 (by decide) (hts _ q_28) (fun _ h9 => h9) rfl dX0_findStandings_4 ?_
  have hM136 := k20_size l hl9 dC dI z h1 h3 H133.size 7 7
  obtain ⟨hF134, hC137⟩ := pc_M hM136 hP hD hK hS hX hT hA [1] [] rfl rfl rfl
  refine va_calli (va_runV (As := []) (rest := [.int 7]) ⟨hx, hb, hml, hown, hts⟩ hM136 (cwV 0 hts (gV q_92 q_77 q_78 q_12 q_75) rfl rfl rfl hV_Jx4a65c_size_8abf5 ⟨Nat.le_of_ble_eq_true rfl, Nat.le_of_ble_eq_true rfl⟩) ⟨pc_blind, va_recv hK hP (ci := 0) (q := (RJx4a65c, TJx4a65c, 3)) (q0 := 1) rfl rfl, fun U hU hW => ⟨rfl, hC137 U hU hW⟩⟩ rfl rfl hl.1 rfl (lv_room (Nat.le_of_ble_eq_true rfl)) dX0_findStandings_7 ⟨(Nat.le_of_ble_eq_true rfl), (Nat.le_of_ble_eq_true rfl)⟩) hS (fun q9 _ h9 => hF134 q9 h9) hF134 (fun r139 u138 t138 H138 L138 ht138 hvm138 hw138 hB138 hz138 hk138 hS => ?_)
  have hP := pq_keep hP hD [1] rfl hk138 hB138.1 ht138
  have hG : s.heap.size + 0 ≤ H138.size := Nat.le_trans hG hz138
  refine W.eq (g2 := F0 m 10 ls [.int 7, .int 7]) (by rw [hw138]) ?_
  refine lv_icmp_ge (tgt := 44) hx hb dX0_findStandings_10 (by decide) (fun _ => ?_) (fun cz => absurd (by decide) cz)
  refine lv_iconst (v := 0) hx hb dX0_findStandings_44 (by decide) ?_
  refine lv_istore_n (lv' := [(1, .int 0), (0, .ref h0)]) hx hb dX0_findStandings_45 rfl hl (by decide) rfl (fun ls hl => ?_)
  refine lv_iload_n hx hb dX0_findStandings_46 rfl (lv_at hl 0 rfl) ?_
  refine lv_aload_n hx hb dX0_findStandings_47 rfl (lv_at hl 1 rfl) ?_
  refine va_get (D := (dC, dI)) (ci := 2) (v := .ref h2) (C := RX0) (T := TX0) (N := 4) hx hb hts in_X0 hown hK hP 0 rfl rfl 2 (by decide) (hts _ q_30) (fun _ h9 => h9) rfl dX0_findStandings_48 ?_
  have hM142 := k9_size l hl9 dC dI z h2 H138.size 0 0
  obtain ⟨hF140, hC143⟩ := pc_M hM142 hP hD hK hS hX hT hA [2] [] rfl rfl rfl
  refine va_calli (va_runV (As := []) (rest := [.int 0]) ⟨hx, hb, hml, hown, hts⟩ hM142 (cwV 0 hts (gV q_92 q_77 q_78 q_12 q_75) rfl rfl rfl hV_Jx4a65c_size_8abf5 ⟨Nat.le_of_ble_eq_true rfl, Nat.le_of_ble_eq_true rfl⟩) ⟨pc_blind, va_recv hK hP (ci := 0) (q := (RJx4a65c, TJx4a65c, 3)) (q0 := 2) rfl rfl, fun U hU hW => ⟨rfl, hC143 U hU hW⟩⟩ rfl rfl hl.1 rfl (lv_room (Nat.le_of_ble_eq_true rfl)) dX0_findStandings_51 ⟨(Nat.le_of_ble_eq_true rfl), (Nat.le_of_ble_eq_true rfl)⟩) hS (fun q9 _ h9 => hF140 q9 h9) hF140 (fun r145 u144 t144 H144 L144 ht144 hvm144 hw144 hB144 hz144 hk144 hS => ?_)
  have hP := pq_keep hP hD [2] rfl hk144 hB144.1 ht144
  have hG : s.heap.size + 0 ≤ H144.size := Nat.le_trans hG hz144
  refine W.eq (g2 := F0 m 54 ls [.int 0, .int 0]) (by rw [hw144]) ?_
  refine lv_icmp_ge (tgt := 131) hx hb dX0_findStandings_54 (by decide) (fun _ => ?_) (fun cz => absurd (by decide) cz)
  exact W.vret hx hb hr (fun t9 ht9 hW9 => ⟨⟨(), rfl, trivial, ⟨pq_mk2 hP hD hK [0, 1, 2, 3, 4, 5, 6, 7, 8, 9, 10] [0] rfl rfl rfl ht9 hW9, by rw [ht9]; exact Nat.le_trans (Nat.add_le_add_left (Nat.le_of_ble_eq_true rfl) _) hG⟩⟩, hS.F ht9⟩) hS.2.2 dX0_findStandings_131

set_option maxHeartbeats 4000000 in
set_option maxRecDepth 100000 in
theorem k693_findTaken (l : Launch) (hl9 : l.stackTraces = false) (dC : Nat → ClassId) (dI : Nat → Nat → Nat) (z : XZ) (h0 h1 h2 h3 h4 h5 h6 h7 h8 h9 h10 h11 : Nat) (o0 o1 o2 o3 o4 o5 o6 o7 o8 : Nat) (sz : Nat) (kc0 kc1 : ClassId) : Met l yX0_findTaken (.code yX0_findTaken cX0_findTaken 3 none :: wsL_law) ({ frames := 3, cells := 0, slots := 0, locals := 64 }) (va_Pc [.ref h0] (PC (dC, dI) [(h0, ce7 h1 h2 o0 o1), (h1, ce331 h3), (h2, ce331 h4), (h3, ce330 kc0 h5 h6 h7 h8 h9 h10 h11), (h4, ce330 kc1 h5 h6 h7 h8 h9 h10 h11), (h5, ce38 (z.2.1 0) o2 h5), (h6, ce77 (z.2.1 0) o3 h6), (h7, ce115 (z.2.1 0) o4 h7), (h8, ce165 (z.2.1 0) o5 h8), (h9, ce224 (z.2.1 0) o6 h9), (h10, ce287 (z.2.1 0) o7 h10), (h11, ce364 (z.2.1 0) o8 h11)] [(kc0, .object "java/lang/Object"), (kc1, .object "java/lang/Object")] sz z)) (va_Qv (fun (_ : Unit) => True) (fun (_ : Unit) (t : State) => PG (dC, dI) [(h0, ce7 h1 h2 o0 o1), (h1, ce331 h3), (h2, ce331 h4), (h3, ce330 kc0 h5 h6 h7 h8 h9 h10 h11), (h4, ce330 kc1 h5 h6 h7 h8 h9 h10 h11), (h5, ce38 (z.2.1 0) o2 h5), (h6, ce77 (z.2.1 0) o3 h6), (h7, ce115 (z.2.1 0) o4 h7), (h8, ce165 (z.2.1 0) o5 h8), (h9, ce224 (z.2.1 0) o6 h9), (h10, ce287 (z.2.1 0) o7 h10), (h11, ce364 (z.2.1 0) o8 h11)] [(kc0, .object "java/lang/Object"), (kc1, .object "java/lang/Object")] (va_A [(h0, ce7 h1 h2 o0 o1), (h1, ce331 h3), (h2, ce331 h4), (h3, ce330 kc0 h5 h6 h7 h8 h9 h10 h11), (h4, ce330 kc1 h5 h6 h7 h8 h9 h10 h11), (h5, ce38 (z.2.1 0) o2 h5), (h6, ce77 (z.2.1 0) o3 h6), (h7, ce115 (z.2.1 0) o4 h7), (h8, ce165 (z.2.1 0) o5 h8), (h9, ce224 (z.2.1 0) o6 h9), (h10, ce287 (z.2.1 0) o7 h10), (h11, ce364 (z.2.1 0) o8 h11)] sz) sz 0 t) (va_A [(h0, ce7 h1 h2 o0 o1), (h1, ce331 h3), (h2, ce331 h4), (h3, ce330 kc0 h5 h6 h7 h8 h9 h10 h11), (h4, ce330 kc1 h5 h6 h7 h8 h9 h10 h11), (h5, ce38 (z.2.1 0) o2 h5), (h6, ce77 (z.2.1 0) o3 h6), (h7, ce115 (z.2.1 0) o4 h7), (h8, ce165 (z.2.1 0) o5 h8), (h9, ce224 (z.2.1 0) o6 h9), (h10, ce287 (z.2.1 0) o7 h10), (h11, ce364 (z.2.1 0) o8 h11)] sz)) 0 0 (va_A [(h0, ce7 h1 h2 o0 o1), (h1, ce331 h3), (h2, ce331 h4), (h3, ce330 kc0 h5 h6 h7 h8 h9 h10 h11), (h4, ce330 kc1 h5 h6 h7 h8 h9 h10 h11), (h5, ce38 (z.2.1 0) o2 h5), (h6, ce77 (z.2.1 0) o3 h6), (h7, ce115 (z.2.1 0) o4 h7), (h8, ce165 (z.2.1 0) o5 h8), (h9, ce224 (z.2.1 0) o6 h9), (h10, ce287 (z.2.1 0) o7 h10), (h11, ce364 (z.2.1 0) o8 h11)] sz) := by
  refine Met.ofW (cc := cX0_findTaken) (maxL := 3) (ret := none) (by decide) rfl ?_
  intro p e s m args below meth c s₁ B hml hv
  obtain ⟨rfl, hsz, hP, hK, hD0, hX, hT⟩ := hv
  have hx := B.exec
  have hb := B.bytes
  have hr := B.returns
  have hts0 := atoms_spec (ws := .code yX0_findTaken cX0_findTaken 3 none :: wsL_law) B.pre
  have hts := xTail hts0
  have hown : s.vm.findClass RX0 = some m.cls := xown B.named rfl
  have hlocks := B.notSynchronized
  subst hsz
  have hD := hD0.self (sz := s.heap.size)
  generalize hAe : va_A [(h0, ce7 h1 h2 o0 o1), (h1, ce331 h3), (h2, ce331 h4), (h3, ce330 kc0 h5 h6 h7 h8 h9 h10 h11), (h4, ce330 kc1 h5 h6 h7 h8 h9 h10 h11), (h5, ce38 (z.2.1 0) o2 h5), (h6, ce77 (z.2.1 0) o3 h6), (h7, ce115 (z.2.1 0) o4 h7), (h8, ce165 (z.2.1 0) o5 h8), (h9, ce224 (z.2.1 0) o6 h9), (h10, ce287 (z.2.1 0) o7 h10), (h11, ce364 (z.2.1 0) o8 h11)] s.heap.size = A at hD hX ⊢
  have hA : ∀ q : Nat, s.heap.size ≤ q → A q := fun q h => by rw [← hAe]; exact Or.inr h
  have hS : va_S A s.heap s.heap [] := va_S.rf
  have hG : s.heap.size + 0 ≤ s.heap.size := Nat.le_refl _
  have hl := lv_entry ([.ref h0]) (n := 3) (Nat.le_of_ble_eq_true rfl)
  rw [lg_entry_eq]
  generalize (lg_sl ([.ref h0]) ++ List.replicate (3 - (lg_sl ([.ref h0])).length) Slot.unset).toArray = ls at hl ⊢
  have hl : lv_has ls 3 [(0, .ref h0)] := hl
  refine lv_iconst (v := 0) hx hb dX0_findTaken_0 (by decide) ?_
  refine lv_istore_n (lv' := [(1, .int 0), (0, .ref h0)]) hx hb dX0_findTaken_1 rfl hl (by decide) rfl (fun ls hl => ?_)
  refine lv_iload_n hx hb dX0_findTaken_2 rfl (lv_at hl 0 rfl) ?_
  refine lv_aload_n hx hb dX0_findTaken_3 rfl (lv_at hl 1 rfl) ?_
  refine va_get (D := (dC, dI)) (ci := 2) (v := .ref h1) (C := RX0) (T := TX0) (N := 4) hx hb hts in_X0 hown hK hP 0 rfl rfl 0 (by decide) (hts _ q_28) (fun _ h9 => h9) rfl dX0_findTaken_4 ?_
  have hM3 := k20_size l hl9 dC dI z h1 h3 s.heap.size 7 7
  obtain ⟨hF1, hC4⟩ := pc_M hM3 hP hD hK hS hX hT hA [1] [] rfl rfl rfl
  refine va_calli (va_runV (As := []) (rest := [.int 0]) ⟨hx, hb, hml, hown, hts⟩ hM3 (cwV 0 hts (gV q_92 q_77 q_78 q_12 q_75) rfl rfl rfl hV_Jx4a65c_size_8abf5 ⟨Nat.le_of_ble_eq_true rfl, Nat.le_of_ble_eq_true rfl⟩) ⟨pc_blind, va_recv hK hP (ci := 0) (q := (RJx4a65c, TJx4a65c, 3)) (q0 := 1) rfl rfl, fun U hU hW => ⟨rfl, hC4 U hU hW⟩⟩ rfl rfl hl.1 rfl (lv_room (Nat.le_of_ble_eq_true rfl)) dX0_findTaken_7 ⟨(Nat.le_of_ble_eq_true rfl), (Nat.le_of_ble_eq_true rfl)⟩) hS (fun q9 _ h9 => hF1 q9 h9) hF1 (fun r6 u5 t5 H5 L5 ht5 hvm5 hw5 hB5 hz5 hk5 hS => ?_)
  have hP := pq_keep hP hD [1] rfl hk5 hB5.1 ht5
  have hG : s.heap.size + 0 ≤ H5.size := Nat.le_trans hG hz5
  refine W.eq (g2 := F0 m 10 ls [.int 7, .int 0]) (by rw [hw5]) ?_
  refine lv_icmp_ge (tgt := 34) hx hb dX0_findTaken_10 (by decide) (fun cz => absurd cz (by decide)) (fun _ => ?_)
  refine lv_aload_n hx hb dX0_findTaken_13 rfl (lv_at hl 1 rfl) ?_
  refine va_get (D := (dC, dI)) (ci := 2) (v := .ref h1) (C := RX0) (T := TX0) (N := 4) hx hb hts in_X0 hown hK hP 0 rfl rfl 0 (by decide) (hts _ q_28) (fun _ h9 => h9) rfl dX0_findTaken_14 ?_
  refine lv_iload_n hx hb dX0_findTaken_17 rfl (lv_at hl 0 rfl) ?_
  have hM9 := k632_get l hl9 dC dI z h1 h3 h5 h6 h7 h8 h9 h10 h11 H5.size kc0
  obtain ⟨hF7, hC10⟩ := pc_M hM9 hP hD hK hS hX hT hA [1, 3] [0] rfl rfl rfl
  refine va_callr (va_runV (As := [.int 0]) (rest := []) ⟨hx, hb, hml, hown, hts⟩ hM9 (cwV 1 hts (gV q_156 q_157 q_158 q_12 q_155) rfl rfl rfl hV_Jx4a65c_get_915e3 ⟨Nat.le_of_ble_eq_true rfl, Nat.le_of_ble_eq_true rfl⟩) ⟨pc_blind, va_recv hK hP (ci := 0) (q := (RJx4a65c, TJx4a65c, 3)) (q0 := 1) rfl rfl, fun U hU hW => ⟨rfl, hC10 U hU hW⟩⟩ rfl rfl hl.1 rfl (lv_room (Nat.le_of_ble_eq_true rfl)) dX0_findTaken_18 ⟨(Nat.le_of_ble_eq_true rfl), (Nat.le_of_ble_eq_true rfl)⟩) hS (fun q9 _ h9 => hF7 q9 h9) hF7 (fun u11 r12 t11 H11 L11 ht11 hvm11 hw11 hB11 hz11 hk11 hS => ?_)
  obtain ⟨hr11, hB11⟩ := hB11
  have hP := pq_keep hP hD [1, 3] rfl hk11 hB11.1 ht11
  have hG : s.heap.size + 0 ≤ H11.size := Nat.le_trans hG hz11
  refine W.eq (g2 := F0 m 21 ls [.ref h5]) (by rw [hr11]) ?_
  refine va_castE (nm := RX2) hx hb hown (hts _ q_89) (va_recv hK hP (ci := 3) (q := (RX2, TX2, 19)) (q0 := 5) rfl rfl) dX0_findTaken_21 ?_
  refine lv_iconst (v := 0) hx hb dX0_findTaken_24 (by decide) ?_
  refine va_put (D := (dC, dI)) (ci := 3) (v := .int 0) (ty := .boolean) (C := RX2) (T := TX2) (N := 19) hx hb hts in_X2 tyX2 tyX2_ok nmX2 hown hK hP hD (va_Sre hS) 5 rfl rfl 4 (by decide) (hts _ q_197) (fun _ h9 => h9) rfl (by decide +kernel) rfl rfl (Nat.le_of_ble_eq_true rfl) dX0_findTaken_25 (fun H13 _ hP hD hS' => ?_)
  have hG : s.heap.size + 0 ≤ H13.size := Nat.le_trans hG hS'.1
  have hS := va_Str hS hS'
  have hP : va_P (dC, dI) xCl [(h0, ce7 h1 h2 o0 o1), (h1, ce331 h3), (h2, ce331 h4), (h3, ce330 kc0 h5 h6 h7 h8 h9 h10 h11), (h4, ce330 kc1 h5 h6 h7 h8 h9 h10 h11), (h5, ce38 (z.2.1 0) o2 h5), (h6, ce77 (z.2.1 0) o3 h6), (h7, ce115 (z.2.1 0) o4 h7), (h8, ce165 (z.2.1 0) o5 h8), (h9, ce224 (z.2.1 0) o6 h9), (h10, ce287 (z.2.1 0) o7 h10), (h11, ce364 (z.2.1 0) o8 h11)] H13 := hP
  have hD := vd_as hP hD rfl
  refine lv_iinc (v := 1) (lv' := [(1, .int 1), (0, .ref h0)]) hx hb dX0_findTaken_28 hl (k := 0) rfl (by decide) (by decide) rfl (fun ls hl => ?_)
  refine lv_goto (tgt := 2) hx hb dX0_findTaken_31 (by decide) ?_
  refine lv_iload_n hx hb dX0_findTaken_2 rfl (lv_at hl 0 rfl) ?_
  refine lv_aload_n hx hb dX0_findTaken_3 rfl (lv_at hl 1 rfl) ?_
  refine va_get (D := (dC, dI)) (ci := 2) (v := .ref h1) (C := RX0) (T := TX0) (N := 4) hx hb hts in_X0 hown hK hP 0 rfl rfl 0 (by decide) (hts _ q_28) (fun _ h9 => h9) rfl dX0_findTaken_4 ?_
  have hM16 := k20_size l hl9 dC dI z h1 h3 H13.size 7 7
  obtain ⟨hF14, hC17⟩ := pc_M hM16 hP hD hK hS hX hT hA [1] [] rfl rfl rfl
  refine va_calli (va_runV (As := []) (rest := [.int 1]) ⟨hx, hb, hml, hown, hts⟩ hM16 (cwV 0 hts (gV q_92 q_77 q_78 q_12 q_75) rfl rfl rfl hV_Jx4a65c_size_8abf5 ⟨Nat.le_of_ble_eq_true rfl, Nat.le_of_ble_eq_true rfl⟩) ⟨pc_blind, va_recv hK hP (ci := 0) (q := (RJx4a65c, TJx4a65c, 3)) (q0 := 1) rfl rfl, fun U hU hW => ⟨rfl, hC17 U hU hW⟩⟩ rfl rfl hl.1 rfl (lv_room (Nat.le_of_ble_eq_true rfl)) dX0_findTaken_7 ⟨(Nat.le_of_ble_eq_true rfl), (Nat.le_of_ble_eq_true rfl)⟩) hS (fun q9 _ h9 => hF14 q9 h9) hF14 (fun r19 u18 t18 H18 L18 ht18 hvm18 hw18 hB18 hz18 hk18 hS => ?_)
  have hP := pq_keep hP hD [1] rfl hk18 hB18.1 ht18
  have hG : s.heap.size + 0 ≤ H18.size := Nat.le_trans hG hz18
  refine W.eq (g2 := F0 m 10 ls [.int 7, .int 1]) (by rw [hw18]) ?_
  refine lv_icmp_ge (tgt := 34) hx hb dX0_findTaken_10 (by decide) (fun cz => absurd cz (by decide)) (fun _ => ?_)
  refine lv_aload_n hx hb dX0_findTaken_13 rfl (lv_at hl 1 rfl) ?_
  refine va_get (D := (dC, dI)) (ci := 2) (v := .ref h1) (C := RX0) (T := TX0) (N := 4) hx hb hts in_X0 hown hK hP 0 rfl rfl 0 (by decide) (hts _ q_28) (fun _ h9 => h9) rfl dX0_findTaken_14 ?_
  refine lv_iload_n hx hb dX0_findTaken_17 rfl (lv_at hl 0 rfl) ?_
  have hM22 := k636_get l hl9 dC dI z h1 h3 h5 h6 h7 h8 h9 h10 h11 H18.size kc0
  obtain ⟨hF20, hC23⟩ := pc_M hM22 hP hD hK hS hX hT hA [1, 3] [0] rfl rfl rfl
  refine va_callr (va_runV (As := [.int 1]) (rest := []) ⟨hx, hb, hml, hown, hts⟩ hM22 (cwV 1 hts (gV q_156 q_157 q_158 q_12 q_155) rfl rfl rfl hV_Jx4a65c_get_915e3 ⟨Nat.le_of_ble_eq_true rfl, Nat.le_of_ble_eq_true rfl⟩) ⟨pc_blind, va_recv hK hP (ci := 0) (q := (RJx4a65c, TJx4a65c, 3)) (q0 := 1) rfl rfl, fun U hU hW => ⟨rfl, hC23 U hU hW⟩⟩ rfl rfl hl.1 rfl (lv_room (Nat.le_of_ble_eq_true rfl)) dX0_findTaken_18 ⟨(Nat.le_of_ble_eq_true rfl), (Nat.le_of_ble_eq_true rfl)⟩) hS (fun q9 _ h9 => hF20 q9 h9) hF20 (fun u24 r25 t24 H24 L24 ht24 hvm24 hw24 hB24 hz24 hk24 hS => ?_)
  obtain ⟨hr24, hB24⟩ := hB24
  have hP := pq_keep hP hD [1, 3] rfl hk24 hB24.1 ht24
  have hG : s.heap.size + 0 ≤ H24.size := Nat.le_trans hG hz24
  refine W.eq (g2 := F0 m 21 ls [.ref h6]) (by rw [hr24]) ?_
  refine va_castE (nm := RX2) hx hb hown (hts _ q_89) (va_recv hK hP (ci := 3) (q := (RX2, TX2, 19)) (q0 := 6) rfl rfl) dX0_findTaken_21 ?_
  refine lv_iconst (v := 0) hx hb dX0_findTaken_24 (by decide) ?_
  refine va_put (D := (dC, dI)) (ci := 3) (v := .int 0) (ty := .boolean) (C := RX2) (T := TX2) (N := 19) hx hb hts in_X2 tyX2 tyX2_ok nmX2 hown hK hP hD (va_Sre hS) 6 rfl rfl 4 (by decide) (hts _ q_197) (fun _ h9 => h9) rfl (by decide +kernel) rfl rfl (Nat.le_of_ble_eq_true rfl) dX0_findTaken_25 (fun H26 _ hP hD hS' => ?_)
  have hG : s.heap.size + 0 ≤ H26.size := Nat.le_trans hG hS'.1
  have hS := va_Str hS hS'
  have hP : va_P (dC, dI) xCl [(h0, ce7 h1 h2 o0 o1), (h1, ce331 h3), (h2, ce331 h4), (h3, ce330 kc0 h5 h6 h7 h8 h9 h10 h11), (h4, ce330 kc1 h5 h6 h7 h8 h9 h10 h11), (h5, ce38 (z.2.1 0) o2 h5), (h6, ce77 (z.2.1 0) o3 h6), (h7, ce115 (z.2.1 0) o4 h7), (h8, ce165 (z.2.1 0) o5 h8), (h9, ce224 (z.2.1 0) o6 h9), (h10, ce287 (z.2.1 0) o7 h10), (h11, ce364 (z.2.1 0) o8 h11)] H26 := hP
  have hD := vd_as hP hD rfl
  refine lv_iinc (v := 2) (lv' := [(1, .int 2), (0, .ref h0)]) hx hb dX0_findTaken_28 hl (k := 0) rfl (by decide) (by decide) rfl (fun ls hl => ?_)
  refine lv_goto (tgt := 2) hx hb dX0_findTaken_31 (by decide) ?_
  refine lv_iload_n hx hb dX0_findTaken_2 rfl (lv_at hl 0 rfl) ?_
  refine lv_aload_n hx hb dX0_findTaken_3 rfl (lv_at hl 1 rfl) ?_
  refine va_get (D := (dC, dI)) (ci := 2) (v := .ref h1) (C := RX0) (T := TX0) (N := 4) hx hb hts in_X0 hown hK hP 0 rfl rfl 0 (by decide) (hts _ q_28) (fun _ h9 => h9) rfl dX0_findTaken_4 ?_
  have hM29 := k20_size l hl9 dC dI z h1 h3 H26.size 7 7
  obtain ⟨hF27, hC30⟩ := pc_M hM29 hP hD hK hS hX hT hA [1] [] rfl rfl rfl
  refine va_calli (va_runV (As := []) (rest := [.int 2]) ⟨hx, hb, hml, hown, hts⟩ hM29 (cwV 0 hts (gV q_92 q_77 q_78 q_12 q_75) rfl rfl rfl hV_Jx4a65c_size_8abf5 ⟨Nat.le_of_ble_eq_true rfl, Nat.le_of_ble_eq_true rfl⟩) ⟨pc_blind, va_recv hK hP (ci := 0) (q := (RJx4a65c, TJx4a65c, 3)) (q0 := 1) rfl rfl, fun U hU hW => ⟨rfl, hC30 U hU hW⟩⟩ rfl rfl hl.1 rfl (lv_room (Nat.le_of_ble_eq_true rfl)) dX0_findTaken_7 ⟨(Nat.le_of_ble_eq_true rfl), (Nat.le_of_ble_eq_true rfl)⟩) hS (fun q9 _ h9 => hF27 q9 h9) hF27 (fun r32 u31 t31 H31 L31 ht31 hvm31 hw31 hB31 hz31 hk31 hS => ?_)
  have hP := pq_keep hP hD [1] rfl hk31 hB31.1 ht31
  have hG : s.heap.size + 0 ≤ H31.size := Nat.le_trans hG hz31
  refine W.eq (g2 := F0 m 10 ls [.int 7, .int 2]) (by rw [hw31]) ?_
  refine lv_icmp_ge (tgt := 34) hx hb dX0_findTaken_10 (by decide) (fun cz => absurd cz (by decide)) (fun _ => ?_)
  refine lv_aload_n hx hb dX0_findTaken_13 rfl (lv_at hl 1 rfl) ?_
  refine va_get (D := (dC, dI)) (ci := 2) (v := .ref h1) (C := RX0) (T := TX0) (N := 4) hx hb hts in_X0 hown hK hP 0 rfl rfl 0 (by decide) (hts _ q_28) (fun _ h9 => h9) rfl dX0_findTaken_14 ?_
  refine lv_iload_n hx hb dX0_findTaken_17 rfl (lv_at hl 0 rfl) ?_
  have hM35 := k640_get l hl9 dC dI z h1 h3 h5 h6 h7 h8 h9 h10 h11 H31.size kc0
  obtain ⟨hF33, hC36⟩ := pc_M hM35 hP hD hK hS hX hT hA [1, 3] [0] rfl rfl rfl
  refine va_callr (va_runV (As := [.int 2]) (rest := []) ⟨hx, hb, hml, hown, hts⟩ hM35 (cwV 1 hts (gV q_156 q_157 q_158 q_12 q_155) rfl rfl rfl hV_Jx4a65c_get_915e3 ⟨Nat.le_of_ble_eq_true rfl, Nat.le_of_ble_eq_true rfl⟩) ⟨pc_blind, va_recv hK hP (ci := 0) (q := (RJx4a65c, TJx4a65c, 3)) (q0 := 1) rfl rfl, fun U hU hW => ⟨rfl, hC36 U hU hW⟩⟩ rfl rfl hl.1 rfl (lv_room (Nat.le_of_ble_eq_true rfl)) dX0_findTaken_18 ⟨(Nat.le_of_ble_eq_true rfl), (Nat.le_of_ble_eq_true rfl)⟩) hS (fun q9 _ h9 => hF33 q9 h9) hF33 (fun u37 r38 t37 H37 L37 ht37 hvm37 hw37 hB37 hz37 hk37 hS => ?_)
  obtain ⟨hr37, hB37⟩ := hB37
  have hP := pq_keep hP hD [1, 3] rfl hk37 hB37.1 ht37
  have hG : s.heap.size + 0 ≤ H37.size := Nat.le_trans hG hz37
  refine W.eq (g2 := F0 m 21 ls [.ref h7]) (by rw [hr37]) ?_
  refine va_castE (nm := RX2) hx hb hown (hts _ q_89) (va_recv hK hP (ci := 3) (q := (RX2, TX2, 19)) (q0 := 7) rfl rfl) dX0_findTaken_21 ?_
  refine lv_iconst (v := 0) hx hb dX0_findTaken_24 (by decide) ?_
  refine va_put (D := (dC, dI)) (ci := 3) (v := .int 0) (ty := .boolean) (C := RX2) (T := TX2) (N := 19) hx hb hts in_X2 tyX2 tyX2_ok nmX2 hown hK hP hD (va_Sre hS) 7 rfl rfl 4 (by decide) (hts _ q_197) (fun _ h9 => h9) rfl (by decide +kernel) rfl rfl (Nat.le_of_ble_eq_true rfl) dX0_findTaken_25 (fun H39 _ hP hD hS' => ?_)
  have hG : s.heap.size + 0 ≤ H39.size := Nat.le_trans hG hS'.1
  have hS := va_Str hS hS'
  have hP : va_P (dC, dI) xCl [(h0, ce7 h1 h2 o0 o1), (h1, ce331 h3), (h2, ce331 h4), (h3, ce330 kc0 h5 h6 h7 h8 h9 h10 h11), (h4, ce330 kc1 h5 h6 h7 h8 h9 h10 h11), (h5, ce38 (z.2.1 0) o2 h5), (h6, ce77 (z.2.1 0) o3 h6), (h7, ce115 (z.2.1 0) o4 h7), (h8, ce165 (z.2.1 0) o5 h8), (h9, ce224 (z.2.1 0) o6 h9), (h10, ce287 (z.2.1 0) o7 h10), (h11, ce364 (z.2.1 0) o8 h11)] H39 := hP
  have hD := vd_as hP hD rfl
  refine lv_iinc (v := 3) (lv' := [(1, .int 3), (0, .ref h0)]) hx hb dX0_findTaken_28 hl (k := 0) rfl (by decide) (by decide) rfl (fun ls hl => ?_)
  refine lv_goto (tgt := 2) hx hb dX0_findTaken_31 (by decide) ?_
  refine lv_iload_n hx hb dX0_findTaken_2 rfl (lv_at hl 0 rfl) ?_
  refine lv_aload_n hx hb dX0_findTaken_3 rfl (lv_at hl 1 rfl) ?_
  refine va_get (D := (dC, dI)) (ci := 2) (v := .ref h1) (C := RX0) (T := TX0) (N := 4) hx hb hts in_X0 hown hK hP 0 rfl rfl 0 (by decide) (hts _ q_28) (fun _ h9 => h9) rfl dX0_findTaken_4 ?_
  have hM42 := k20_size l hl9 dC dI z h1 h3 H39.size 7 7
  obtain ⟨hF40, hC43⟩ := pc_M hM42 hP hD hK hS hX hT hA [1] [] rfl rfl rfl
  refine va_calli (va_runV (As := []) (rest := [.int 3]) ⟨hx, hb, hml, hown, hts⟩ hM42 (cwV 0 hts (gV q_92 q_77 q_78 q_12 q_75) rfl rfl rfl hV_Jx4a65c_size_8abf5 ⟨Nat.le_of_ble_eq_true rfl, Nat.le_of_ble_eq_true rfl⟩) ⟨pc_blind, va_recv hK hP (ci := 0) (q := (RJx4a65c, TJx4a65c, 3)) (q0 := 1) rfl rfl, fun U hU hW => ⟨rfl, hC43 U hU hW⟩⟩ rfl rfl hl.1 rfl (lv_room (Nat.le_of_ble_eq_true rfl)) dX0_findTaken_7 ⟨(Nat.le_of_ble_eq_true rfl), (Nat.le_of_ble_eq_true rfl)⟩) hS (fun q9 _ h9 => hF40 q9 h9) hF40 (fun r45 u44 t44 H44 L44 ht44 hvm44 hw44 hB44 hz44 hk44 hS => ?_)
  have hP := pq_keep hP hD [1] rfl hk44 hB44.1 ht44
  have hG : s.heap.size + 0 ≤ H44.size := Nat.le_trans hG hz44
  refine W.eq (g2 := F0 m 10 ls [.int 7, .int 3]) (by rw [hw44]) ?_
  refine lv_icmp_ge (tgt := 34) hx hb dX0_findTaken_10 (by decide) (fun cz => absurd cz (by decide)) (fun _ => ?_)
  refine lv_aload_n hx hb dX0_findTaken_13 rfl (lv_at hl 1 rfl) ?_
  refine va_get (D := (dC, dI)) (ci := 2) (v := .ref h1) (C := RX0) (T := TX0) (N := 4) hx hb hts in_X0 hown hK hP 0 rfl rfl 0 (by decide) (hts _ q_28) (fun _ h9 => h9) rfl dX0_findTaken_14 ?_
  refine lv_iload_n hx hb dX0_findTaken_17 rfl (lv_at hl 0 rfl) ?_
  have hM48 := k644_get l hl9 dC dI z h1 h3 h5 h6 h7 h8 h9 h10 h11 H44.size kc0
  obtain ⟨hF46, hC49⟩ := pc_M hM48 hP hD hK hS hX hT hA [1, 3] [0] rfl rfl rfl
  refine va_callr (va_runV (As := [.int 3]) (rest := []) ⟨hx, hb, hml, hown, hts⟩ hM48 (cwV 1 hts (gV q_156 q_157 q_158 q_12 q_155) rfl rfl rfl hV_Jx4a65c_get_915e3 ⟨Nat.le_of_ble_eq_true rfl, Nat.le_of_ble_eq_true rfl⟩) ⟨pc_blind, va_recv hK hP (ci := 0) (q := (RJx4a65c, TJx4a65c, 3)) (q0 := 1) rfl rfl, fun U hU hW => ⟨rfl, hC49 U hU hW⟩⟩ rfl rfl hl.1 rfl (lv_room (Nat.le_of_ble_eq_true rfl)) dX0_findTaken_18 ⟨(Nat.le_of_ble_eq_true rfl), (Nat.le_of_ble_eq_true rfl)⟩) hS (fun q9 _ h9 => hF46 q9 h9) hF46 (fun u50 r51 t50 H50 L50 ht50 hvm50 hw50 hB50 hz50 hk50 hS => ?_)
  obtain ⟨hr50, hB50⟩ := hB50
  have hP := pq_keep hP hD [1, 3] rfl hk50 hB50.1 ht50
  have hG : s.heap.size + 0 ≤ H50.size := Nat.le_trans hG hz50
  refine W.eq (g2 := F0 m 21 ls [.ref h8]) (by rw [hr50]) ?_
  refine va_castE (nm := RX2) hx hb hown (hts _ q_89) (va_recv hK hP (ci := 3) (q := (RX2, TX2, 19)) (q0 := 8) rfl rfl) dX0_findTaken_21 ?_
  refine lv_iconst (v := 0) hx hb dX0_findTaken_24 (by decide) ?_
  refine va_put (D := (dC, dI)) (ci := 3) (v := .int 0) (ty := .boolean) (C := RX2) (T := TX2) (N := 19) hx hb hts in_X2 tyX2 tyX2_ok nmX2 hown hK hP hD (va_Sre hS) 8 rfl rfl 4 (by decide) (hts _ q_197) (fun _ h9 => h9) rfl (by decide +kernel) rfl rfl (Nat.le_of_ble_eq_true rfl) dX0_findTaken_25 (fun H52 _ hP hD hS' => ?_)
  have hG : s.heap.size + 0 ≤ H52.size := Nat.le_trans hG hS'.1
  have hS := va_Str hS hS'
  have hP : va_P (dC, dI) xCl [(h0, ce7 h1 h2 o0 o1), (h1, ce331 h3), (h2, ce331 h4), (h3, ce330 kc0 h5 h6 h7 h8 h9 h10 h11), (h4, ce330 kc1 h5 h6 h7 h8 h9 h10 h11), (h5, ce38 (z.2.1 0) o2 h5), (h6, ce77 (z.2.1 0) o3 h6), (h7, ce115 (z.2.1 0) o4 h7), (h8, ce165 (z.2.1 0) o5 h8), (h9, ce224 (z.2.1 0) o6 h9), (h10, ce287 (z.2.1 0) o7 h10), (h11, ce364 (z.2.1 0) o8 h11)] H52 := hP
  have hD := vd_as hP hD rfl
  refine lv_iinc (v := 4) (lv' := [(1, .int 4), (0, .ref h0)]) hx hb dX0_findTaken_28 hl (k := 0) rfl (by decide) (by decide) rfl (fun ls hl => ?_)
  refine lv_goto (tgt := 2) hx hb dX0_findTaken_31 (by decide) ?_
  refine lv_iload_n hx hb dX0_findTaken_2 rfl (lv_at hl 0 rfl) ?_
  refine lv_aload_n hx hb dX0_findTaken_3 rfl (lv_at hl 1 rfl) ?_
  refine va_get (D := (dC, dI)) (ci := 2) (v := .ref h1) (C := RX0) (T := TX0) (N := 4) hx hb hts in_X0 hown hK hP 0 rfl rfl 0 (by decide) (hts _ q_28) (fun _ h9 => h9) rfl dX0_findTaken_4 ?_
  have hM55 := k20_size l hl9 dC dI z h1 h3 H52.size 7 7
  obtain ⟨hF53, hC56⟩ := pc_M hM55 hP hD hK hS hX hT hA [1] [] rfl rfl rfl
  refine va_calli (va_runV (As := []) (rest := [.int 4]) ⟨hx, hb, hml, hown, hts⟩ hM55 (cwV 0 hts (gV q_92 q_77 q_78 q_12 q_75) rfl rfl rfl hV_Jx4a65c_size_8abf5 ⟨Nat.le_of_ble_eq_true rfl, Nat.le_of_ble_eq_true rfl⟩) ⟨pc_blind, va_recv hK hP (ci := 0) (q := (RJx4a65c, TJx4a65c, 3)) (q0 := 1) rfl rfl, fun U hU hW => ⟨rfl, hC56 U hU hW⟩⟩ rfl rfl hl.1 rfl (lv_room (Nat.le_of_ble_eq_true rfl)) dX0_findTaken_7 ⟨(Nat.le_of_ble_eq_true rfl), (Nat.le_of_ble_eq_true rfl)⟩) hS (fun q9 _ h9 => hF53 q9 h9) hF53 (fun r58 u57 t57 H57 L57 ht57 hvm57 hw57 hB57 hz57 hk57 hS => ?_)
  have hP := pq_keep hP hD [1] rfl hk57 hB57.1 ht57
  have hG : s.heap.size + 0 ≤ H57.size := Nat.le_trans hG hz57
  refine W.eq (g2 := F0 m 10 ls [.int 7, .int 4]) (by rw [hw57]) ?_
  refine lv_icmp_ge (tgt := 34) hx hb dX0_findTaken_10 (by decide) (fun cz => absurd cz (by decide)) (fun _ => ?_)
  refine lv_aload_n hx hb dX0_findTaken_13 rfl (lv_at hl 1 rfl) ?_
  refine va_get (D := (dC, dI)) (ci := 2) (v := .ref h1) (C := RX0) (T := TX0) (N := 4) hx hb hts in_X0 hown hK hP 0 rfl rfl 0 (by decide) (hts _ q_28) (fun _ h9 => h9) rfl dX0_findTaken_14 ?_
  refine lv_iload_n hx hb dX0_findTaken_17 rfl (lv_at hl 0 rfl) ?_
  have hM61 := k648_get l hl9 dC dI z h1 h3 h5 h6 h7 h8 h9 h10 h11 H57.size kc0
  obtain ⟨hF59, hC62⟩ := pc_M hM61 hP hD hK hS hX hT hA [1, 3] [0] rfl rfl rfl
  refine va_callr (va_runV (As := [.int 4]) (rest := []) ⟨hx, hb, hml, hown, hts⟩ hM61 (cwV 1 hts (gV q_156 q_157 q_158 q_12 q_155) rfl rfl rfl hV_Jx4a65c_get_915e3 ⟨Nat.le_of_ble_eq_true rfl, Nat.le_of_ble_eq_true rfl⟩) ⟨pc_blind, va_recv hK hP (ci := 0) (q := (RJx4a65c, TJx4a65c, 3)) (q0 := 1) rfl rfl, fun U hU hW => ⟨rfl, hC62 U hU hW⟩⟩ rfl rfl hl.1 rfl (lv_room (Nat.le_of_ble_eq_true rfl)) dX0_findTaken_18 ⟨(Nat.le_of_ble_eq_true rfl), (Nat.le_of_ble_eq_true rfl)⟩) hS (fun q9 _ h9 => hF59 q9 h9) hF59 (fun u63 r64 t63 H63 L63 ht63 hvm63 hw63 hB63 hz63 hk63 hS => ?_)
  obtain ⟨hr63, hB63⟩ := hB63
  have hP := pq_keep hP hD [1, 3] rfl hk63 hB63.1 ht63
  have hG : s.heap.size + 0 ≤ H63.size := Nat.le_trans hG hz63
  refine W.eq (g2 := F0 m 21 ls [.ref h9]) (by rw [hr63]) ?_
  refine va_castE (nm := RX2) hx hb hown (hts _ q_89) (va_recv hK hP (ci := 3) (q := (RX2, TX2, 19)) (q0 := 9) rfl rfl) dX0_findTaken_21 ?_
  refine lv_iconst (v := 0) hx hb dX0_findTaken_24 (by decide) ?_
  refine va_put (D := (dC, dI)) (ci := 3) (v := .int 0) (ty := .boolean) (C := RX2) (T := TX2) (N := 19) hx hb hts in_X2 tyX2 tyX2_ok nmX2 hown hK hP hD (va_Sre hS) 9 rfl rfl 4 (by decide) (hts _ q_197) (fun _ h9 => h9) rfl (by decide +kernel) rfl rfl (Nat.le_of_ble_eq_true rfl) dX0_findTaken_25 (fun H65 _ hP hD hS' => ?_)
  have hG : s.heap.size + 0 ≤ H65.size := Nat.le_trans hG hS'.1
  have hS := va_Str hS hS'
  have hP : va_P (dC, dI) xCl [(h0, ce7 h1 h2 o0 o1), (h1, ce331 h3), (h2, ce331 h4), (h3, ce330 kc0 h5 h6 h7 h8 h9 h10 h11), (h4, ce330 kc1 h5 h6 h7 h8 h9 h10 h11), (h5, ce38 (z.2.1 0) o2 h5), (h6, ce77 (z.2.1 0) o3 h6), (h7, ce115 (z.2.1 0) o4 h7), (h8, ce165 (z.2.1 0) o5 h8), (h9, ce224 (z.2.1 0) o6 h9), (h10, ce287 (z.2.1 0) o7 h10), (h11, ce364 (z.2.1 0) o8 h11)] H65 := hP
  have hD := vd_as hP hD rfl
  refine lv_iinc (v := 5) (lv' := [(1, .int 5), (0, .ref h0)]) hx hb dX0_findTaken_28 hl (k := 0) rfl (by decide) (by decide) rfl (fun ls hl => ?_)
  refine lv_goto (tgt := 2) hx hb dX0_findTaken_31 (by decide) ?_
  refine lv_iload_n hx hb dX0_findTaken_2 rfl (lv_at hl 0 rfl) ?_
  refine lv_aload_n hx hb dX0_findTaken_3 rfl (lv_at hl 1 rfl) ?_
  refine va_get (D := (dC, dI)) (ci := 2) (v := .ref h1) (C := RX0) (T := TX0) (N := 4) hx hb hts in_X0 hown hK hP 0 rfl rfl 0 (by decide) (hts _ q_28) (fun _ h9 => h9) rfl dX0_findTaken_4 ?_
  have hM68 := k20_size l hl9 dC dI z h1 h3 H65.size 7 7
  obtain ⟨hF66, hC69⟩ := pc_M hM68 hP hD hK hS hX hT hA [1] [] rfl rfl rfl
  refine va_calli (va_runV (As := []) (rest := [.int 5]) ⟨hx, hb, hml, hown, hts⟩ hM68 (cwV 0 hts (gV q_92 q_77 q_78 q_12 q_75) rfl rfl rfl hV_Jx4a65c_size_8abf5 ⟨Nat.le_of_ble_eq_true rfl, Nat.le_of_ble_eq_true rfl⟩) ⟨pc_blind, va_recv hK hP (ci := 0) (q := (RJx4a65c, TJx4a65c, 3)) (q0 := 1) rfl rfl, fun U hU hW => ⟨rfl, hC69 U hU hW⟩⟩ rfl rfl hl.1 rfl (lv_room (Nat.le_of_ble_eq_true rfl)) dX0_findTaken_7 ⟨(Nat.le_of_ble_eq_true rfl), (Nat.le_of_ble_eq_true rfl)⟩) hS (fun q9 _ h9 => hF66 q9 h9) hF66 (fun r71 u70 t70 H70 L70 ht70 hvm70 hw70 hB70 hz70 hk70 hS => ?_)
  have hP := pq_keep hP hD [1] rfl hk70 hB70.1 ht70
  have hG : s.heap.size + 0 ≤ H70.size := Nat.le_trans hG hz70
  refine W.eq (g2 := F0 m 10 ls [.int 7, .int 5]) (by rw [hw70]) ?_
  refine lv_icmp_ge (tgt := 34) hx hb dX0_findTaken_10 (by decide) (fun cz => absurd cz (by decide)) (fun _ => ?_)
  refine lv_aload_n hx hb dX0_findTaken_13 rfl (lv_at hl 1 rfl) ?_
  refine va_get (D := (dC, dI)) (ci := 2) (v := .ref h1) (C := RX0) (T := TX0) (N := 4) hx hb hts in_X0 hown hK hP 0 rfl rfl 0 (by decide) (hts _ q_28) (fun _ h9 => h9) rfl dX0_findTaken_14 ?_
  refine lv_iload_n hx hb dX0_findTaken_17 rfl (lv_at hl 0 rfl) ?_
  have hM74 := k652_get l hl9 dC dI z h1 h3 h5 h6 h7 h8 h9 h10 h11 H70.size kc0
  obtain ⟨hF72, hC75⟩ := pc_M hM74 hP hD hK hS hX hT hA [1, 3] [0] rfl rfl rfl
  refine va_callr (va_runV (As := [.int 5]) (rest := []) ⟨hx, hb, hml, hown, hts⟩ hM74 (cwV 1 hts (gV q_156 q_157 q_158 q_12 q_155) rfl rfl rfl hV_Jx4a65c_get_915e3 ⟨Nat.le_of_ble_eq_true rfl, Nat.le_of_ble_eq_true rfl⟩) ⟨pc_blind, va_recv hK hP (ci := 0) (q := (RJx4a65c, TJx4a65c, 3)) (q0 := 1) rfl rfl, fun U hU hW => ⟨rfl, hC75 U hU hW⟩⟩ rfl rfl hl.1 rfl (lv_room (Nat.le_of_ble_eq_true rfl)) dX0_findTaken_18 ⟨(Nat.le_of_ble_eq_true rfl), (Nat.le_of_ble_eq_true rfl)⟩) hS (fun q9 _ h9 => hF72 q9 h9) hF72 (fun u76 r77 t76 H76 L76 ht76 hvm76 hw76 hB76 hz76 hk76 hS => ?_)
  obtain ⟨hr76, hB76⟩ := hB76
  have hP := pq_keep hP hD [1, 3] rfl hk76 hB76.1 ht76
  have hG : s.heap.size + 0 ≤ H76.size := Nat.le_trans hG hz76
  refine W.eq (g2 := F0 m 21 ls [.ref h10]) (by rw [hr76]) ?_
  refine va_castE (nm := RX2) hx hb hown (hts _ q_89) (va_recv hK hP (ci := 3) (q := (RX2, TX2, 19)) (q0 := 10) rfl rfl) dX0_findTaken_21 ?_
  refine lv_iconst (v := 0) hx hb dX0_findTaken_24 (by decide) ?_
  refine va_put (D := (dC, dI)) (ci := 3) (v := .int 0) (ty := .boolean) (C := RX2) (T := TX2) (N := 19) hx hb hts in_X2 tyX2 tyX2_ok nmX2 hown hK hP hD (va_Sre hS) 10 rfl rfl 4 (by decide) (hts _ q_197) (fun _ h9 => h9) rfl (by decide +kernel) rfl rfl (Nat.le_of_ble_eq_true rfl) dX0_findTaken_25 (fun H78 _ hP hD hS' => ?_)
  have hG : s.heap.size + 0 ≤ H78.size := Nat.le_trans hG hS'.1
  have hS := va_Str hS hS'
  have hP : va_P (dC, dI) xCl [(h0, ce7 h1 h2 o0 o1), (h1, ce331 h3), (h2, ce331 h4), (h3, ce330 kc0 h5 h6 h7 h8 h9 h10 h11), (h4, ce330 kc1 h5 h6 h7 h8 h9 h10 h11), (h5, ce38 (z.2.1 0) o2 h5), (h6, ce77 (z.2.1 0) o3 h6), (h7, ce115 (z.2.1 0) o4 h7), (h8, ce165 (z.2.1 0) o5 h8), (h9, ce224 (z.2.1 0) o6 h9), (h10, ce287 (z.2.1 0) o7 h10), (h11, ce364 (z.2.1 0) o8 h11)] H78 := hP
  have hD := vd_as hP hD rfl
  refine lv_iinc (v := 6) (lv' := [(1, .int 6), (0, .ref h0)]) hx hb dX0_findTaken_28 hl (k := 0) rfl (by decide) (by decide) rfl (fun ls hl => ?_)
  refine lv_goto (tgt := 2) hx hb dX0_findTaken_31 (by decide) ?_
  refine lv_iload_n hx hb dX0_findTaken_2 rfl (lv_at hl 0 rfl) ?_
  refine lv_aload_n hx hb dX0_findTaken_3 rfl (lv_at hl 1 rfl) ?_
  refine va_get (D := (dC, dI)) (ci := 2) (v := .ref h1) (C := RX0) (T := TX0) (N := 4) hx hb hts in_X0 hown hK hP 0 rfl rfl 0 (by decide) (hts _ q_28) (fun _ h9 => h9) rfl dX0_findTaken_4 ?_
  have hM81 := k20_size l hl9 dC dI z h1 h3 H78.size 7 7
  obtain ⟨hF79, hC82⟩ := pc_M hM81 hP hD hK hS hX hT hA [1] [] rfl rfl rfl
  refine va_calli (va_runV (As := []) (rest := [.int 6]) ⟨hx, hb, hml, hown, hts⟩ hM81 (cwV 0 hts (gV q_92 q_77 q_78 q_12 q_75) rfl rfl rfl hV_Jx4a65c_size_8abf5 ⟨Nat.le_of_ble_eq_true rfl, Nat.le_of_ble_eq_true rfl⟩) ⟨pc_blind, va_recv hK hP (ci := 0) (q := (RJx4a65c, TJx4a65c, 3)) (q0 := 1) rfl rfl, fun U hU hW => ⟨rfl, hC82 U hU hW⟩⟩ rfl rfl hl.1 rfl (lv_room (Nat.le_of_ble_eq_true rfl)) dX0_findTaken_7 ⟨(Nat.le_of_ble_eq_true rfl), (Nat.le_of_ble_eq_true rfl)⟩) hS (fun q9 _ h9 => hF79 q9 h9) hF79 (fun r84 u83 t83 H83 L83 ht83 hvm83 hw83 hB83 hz83 hk83 hS => ?_)
  have hP := pq_keep hP hD [1] rfl hk83 hB83.1 ht83
  have hG : s.heap.size + 0 ≤ H83.size := Nat.le_trans hG hz83
  refine W.eq (g2 := F0 m 10 ls [.int 7, .int 6]) (by rw [hw83]) ?_
  refine lv_icmp_ge (tgt := 34) hx hb dX0_findTaken_10 (by decide) (fun cz => absurd cz (by decide)) (fun _ => ?_)
  refine lv_aload_n hx hb dX0_findTaken_13 rfl (lv_at hl 1 rfl) ?_
  refine va_get (D := (dC, dI)) (ci := 2) (v := .ref h1) (C := RX0) (T := TX0) (N := 4) hx hb hts in_X0 hown hK hP 0 rfl rfl 0 (by decide) (hts _ q_28) (fun _ h9 => h9) rfl dX0_findTaken_14 ?_
  refine lv_iload_n hx hb dX0_findTaken_17 rfl (lv_at hl 0 rfl) ?_
  have hM87 := k656_get l hl9 dC dI z h1 h3 h5 h6 h7 h8 h9 h10 h11 H83.size kc0
  obtain ⟨hF85, hC88⟩ := pc_M hM87 hP hD hK hS hX hT hA [1, 3] [0] rfl rfl rfl
  refine va_callr (va_runV (As := [.int 6]) (rest := []) ⟨hx, hb, hml, hown, hts⟩ hM87 (cwV 1 hts (gV q_156 q_157 q_158 q_12 q_155) rfl rfl rfl hV_Jx4a65c_get_915e3 ⟨Nat.le_of_ble_eq_true rfl, Nat.le_of_ble_eq_true rfl⟩) ⟨pc_blind, va_recv hK hP (ci := 0) (q := (RJx4a65c, TJx4a65c, 3)) (q0 := 1) rfl rfl, fun U hU hW => ⟨rfl, hC88 U hU hW⟩⟩ rfl rfl hl.1 rfl (lv_room (Nat.le_of_ble_eq_true rfl)) dX0_findTaken_18 ⟨(Nat.le_of_ble_eq_true rfl), (Nat.le_of_ble_eq_true rfl)⟩) hS (fun q9 _ h9 => hF85 q9 h9) hF85 (fun u89 r90 t89 H89 L89 ht89 hvm89 hw89 hB89 hz89 hk89 hS => ?_)
  obtain ⟨hr89, hB89⟩ := hB89
  have hP := pq_keep hP hD [1, 3] rfl hk89 hB89.1 ht89
  have hG : s.heap.size + 0 ≤ H89.size := Nat.le_trans hG hz89
  refine W.eq (g2 := F0 m 21 ls [.ref h11]) (by rw [hr89]) ?_
  refine va_castE (nm := RX2) hx hb hown (hts _ q_89) (va_recv hK hP (ci := 3) (q := (RX2, TX2, 19)) (q0 := 11) rfl rfl) dX0_findTaken_21 ?_
  refine lv_iconst (v := 0) hx hb dX0_findTaken_24 (by decide) ?_
  refine va_put (D := (dC, dI)) (ci := 3) (v := .int 0) (ty := .boolean) (C := RX2) (T := TX2) (N := 19) hx hb hts in_X2 tyX2 tyX2_ok nmX2 hown hK hP hD (va_Sre hS) 11 rfl rfl 4 (by decide) (hts _ q_197) (fun _ h9 => h9) rfl (by decide +kernel) rfl rfl (Nat.le_of_ble_eq_true rfl) dX0_findTaken_25 (fun H91 _ hP hD hS' => ?_)
  have hG : s.heap.size + 0 ≤ H91.size := Nat.le_trans hG hS'.1
  have hS := va_Str hS hS'
  have hP : va_P (dC, dI) xCl [(h0, ce7 h1 h2 o0 o1), (h1, ce331 h3), (h2, ce331 h4), (h3, ce330 kc0 h5 h6 h7 h8 h9 h10 h11), (h4, ce330 kc1 h5 h6 h7 h8 h9 h10 h11), (h5, ce38 (z.2.1 0) o2 h5), (h6, ce77 (z.2.1 0) o3 h6), (h7, ce115 (z.2.1 0) o4 h7), (h8, ce165 (z.2.1 0) o5 h8), (h9, ce224 (z.2.1 0) o6 h9), (h10, ce287 (z.2.1 0) o7 h10), (h11, ce364 (z.2.1 0) o8 h11)] H91 := hP
  have hD := vd_as hP hD rfl
  refine lv_iinc (v := 7) (lv' := [(1, .int 7), (0, .ref h0)]) hx hb dX0_findTaken_28 hl (k := 0) rfl (by decide) (by decide) rfl (fun ls hl => ?_)
  refine lv_goto (tgt := 2) hx hb dX0_findTaken_31 (by decide) ?_
  refine lv_iload_n hx hb dX0_findTaken_2 rfl (lv_at hl 0 rfl) ?_
  refine lv_aload_n hx hb dX0_findTaken_3 rfl (lv_at hl 1 rfl) ?_
  refine va_get (D := (dC, dI)) (ci := 2) (v := .ref h1) (C := RX0) (T := TX0) (N := 4) hx hb hts in_X0 hown hK hP 0 rfl rfl 0 (by decide) (hts _ q_28) (fun _ h9 => h9) rfl dX0_findTaken_4 ?_
  have hM94 := k20_size l hl9 dC dI z h1 h3 H91.size 7 7
  obtain ⟨hF92, hC95⟩ := pc_M hM94 hP hD hK hS hX hT hA [1] [] rfl rfl rfl
  refine va_calli (va_runV (As := []) (rest := [.int 7]) ⟨hx, hb, hml, hown, hts⟩ hM94 (cwV 0 hts (gV q_92 q_77 q_78 q_12 q_75) rfl rfl rfl hV_Jx4a65c_size_8abf5 ⟨Nat.le_of_ble_eq_true rfl, Nat.le_of_ble_eq_true rfl⟩) ⟨pc_blind, va_recv hK hP (ci := 0) (q := (RJx4a65c, TJx4a65c, 3)) (q0 := 1) rfl rfl, fun U hU hW => ⟨rfl, hC95 U hU hW⟩⟩ rfl rfl hl.1 rfl (lv_room (Nat.le_of_ble_eq_true rfl)) dX0_findTaken_7 ⟨(Nat.le_of_ble_eq_true rfl), (Nat.le_of_ble_eq_true rfl)⟩) hS (fun q9 _ h9 => hF92 q9 h9) hF92 (fun r97 u96 t96 H96 L96 ht96 hvm96 hw96 hB96 hz96 hk96 hS => ?_)
  have hP := pq_keep hP hD [1] rfl hk96 hB96.1 ht96
  have hG : s.heap.size + 0 ≤ H96.size := Nat.le_trans hG hz96
  refine W.eq (g2 := F0 m 10 ls [.int 7, .int 7]) (by rw [hw96]) ?_
  refine lv_icmp_ge (tgt := 34) hx hb dX0_findTaken_10 (by decide) (fun _ => ?_) (fun cz => absurd (by decide) cz)
  refine lv_iconst (v := 0) hx hb dX0_findTaken_34 (by decide) ?_
  refine lv_istore_n (lv' := [(1, .int 0), (0, .ref h0)]) hx hb dX0_findTaken_35 rfl hl (by decide) rfl (fun ls hl => ?_)
  refine lv_iload_n hx hb dX0_findTaken_36 rfl (lv_at hl 0 rfl) ?_
  refine lv_aload_n hx hb dX0_findTaken_37 rfl (lv_at hl 1 rfl) ?_
  refine va_get (D := (dC, dI)) (ci := 2) (v := .ref h2) (C := RX0) (T := TX0) (N := 4) hx hb hts in_X0 hown hK hP 0 rfl rfl 1 (by decide) (hts _ q_29) (fun _ h9 => h9) rfl dX0_findTaken_38 ?_
  have hM100 := k20_size l hl9 dC dI z h2 h4 H96.size 7 7
  obtain ⟨hF98, hC101⟩ := pc_M hM100 hP hD hK hS hX hT hA [2] [] rfl rfl rfl
  refine va_calli (va_runV (As := []) (rest := [.int 0]) ⟨hx, hb, hml, hown, hts⟩ hM100 (cwV 0 hts (gV q_92 q_77 q_78 q_12 q_75) rfl rfl rfl hV_Jx4a65c_size_8abf5 ⟨Nat.le_of_ble_eq_true rfl, Nat.le_of_ble_eq_true rfl⟩) ⟨pc_blind, va_recv hK hP (ci := 0) (q := (RJx4a65c, TJx4a65c, 3)) (q0 := 2) rfl rfl, fun U hU hW => ⟨rfl, hC101 U hU hW⟩⟩ rfl rfl hl.1 rfl (lv_room (Nat.le_of_ble_eq_true rfl)) dX0_findTaken_41 ⟨(Nat.le_of_ble_eq_true rfl), (Nat.le_of_ble_eq_true rfl)⟩) hS (fun q9 _ h9 => hF98 q9 h9) hF98 (fun r103 u102 t102 H102 L102 ht102 hvm102 hw102 hB102 hz102 hk102 hS => ?_)
  have hP := pq_keep hP hD [2] rfl hk102 hB102.1 ht102
  have hG : s.heap.size + 0 ≤ H102.size := Nat.le_trans hG hz102
  refine W.eq (g2 := F0 m 44 ls [.int 7, .int 0]) (by rw [hw102]) ?_
  refine lv_icmp_ge (tgt := 77) hx hb dX0_findTaken_44 (by decide) (fun cz => absurd cz (by decide)) (fun _ => ?_)
  refine lv_aload_n hx hb dX0_findTaken_47 rfl (lv_at hl 1 rfl) ?_
  refine va_get (D := (dC, dI)) (ci := 2) (v := .ref h2) (C := RX0) (T := TX0) (N := 4) hx hb hts in_X0 hown hK hP 0 rfl rfl 1 (by decide) (hts _ q_29) (fun _ h9 => h9) rfl dX0_findTaken_48 ?_
  refine lv_iload_n hx hb dX0_findTaken_51 rfl (lv_at hl 0 rfl) ?_
  have hM106 := k632_get l hl9 dC dI z h2 h4 h5 h6 h7 h8 h9 h10 h11 H102.size kc1
  obtain ⟨hF104, hC107⟩ := pc_M hM106 hP hD hK hS hX hT hA [2, 4] [1] rfl rfl rfl
  refine va_callr (va_runV (As := [.int 0]) (rest := []) ⟨hx, hb, hml, hown, hts⟩ hM106 (cwV 1 hts (gV q_156 q_157 q_158 q_12 q_155) rfl rfl rfl hV_Jx4a65c_get_915e3 ⟨Nat.le_of_ble_eq_true rfl, Nat.le_of_ble_eq_true rfl⟩) ⟨pc_blind, va_recv hK hP (ci := 0) (q := (RJx4a65c, TJx4a65c, 3)) (q0 := 2) rfl rfl, fun U hU hW => ⟨rfl, hC107 U hU hW⟩⟩ rfl rfl hl.1 rfl (lv_room (Nat.le_of_ble_eq_true rfl)) dX0_findTaken_52 ⟨(Nat.le_of_ble_eq_true rfl), (Nat.le_of_ble_eq_true rfl)⟩) hS (fun q9 _ h9 => hF104 q9 h9) hF104 (fun u108 r109 t108 H108 L108 ht108 hvm108 hw108 hB108 hz108 hk108 hS => ?_)
  obtain ⟨hr108, hB108⟩ := hB108
  have hP := pq_keep hP hD [2, 4] rfl hk108 hB108.1 ht108
  have hG : s.heap.size + 0 ≤ H108.size := Nat.le_trans hG hz108
  refine W.eq (g2 := F0 m 55 ls [.ref h5]) (by rw [hr108]) ?_
  refine va_castE (nm := RX2) hx hb hown (hts _ q_89) (va_recv hK hP (ci := 3) (q := (RX2, TX2, 19)) (q0 := 5) rfl rfl) dX0_findTaken_55 ?_
  refine va_get (D := (dC, dI)) (ci := 3) (v := .null) (C := RX2) (T := TX2) (N := 19) hx hb hts in_X2 hown hK hP 5 rfl rfl 3 (by decide) (hts _ q_198) (fun _ h9 => h9) rfl dX0_findTaken_58 ?_
  refine lv_astore_nN (lv' := [(2, .null), (1, .int 0), (0, .ref h0)]) hx hb dX0_findTaken_61 rfl hl (by decide) rfl (fun ls hl => ?_)
  refine lv_aload_nN hx hb dX0_findTaken_62 rfl (lv_at hl 0 rfl) ?_
  refine lv_ifnullN (tgt := 71) hx hb dX0_findTaken_63 (by decide) ?_
  refine lv_iinc (v := 1) (lv' := [(1, .int 1), (2, .null), (0, .ref h0)]) hx hb dX0_findTaken_71 hl (k := 1) rfl (by decide) (by decide) rfl (fun ls hl => ?_)
  refine lv_goto (tgt := 36) hx hb dX0_findTaken_74 (by decide) ?_
  refine lv_iload_n hx hb dX0_findTaken_36 rfl (lv_at hl 0 rfl) ?_
  refine lv_aload_n hx hb dX0_findTaken_37 rfl (lv_at hl 2 rfl) ?_
  refine va_get (D := (dC, dI)) (ci := 2) (v := .ref h2) (C := RX0) (T := TX0) (N := 4) hx hb hts in_X0 hown hK hP 0 rfl rfl 1 (by decide) (hts _ q_29) (fun _ h9 => h9) rfl dX0_findTaken_38 ?_
  have hM112 := k20_size l hl9 dC dI z h2 h4 H108.size 7 7
  obtain ⟨hF110, hC113⟩ := pc_M hM112 hP hD hK hS hX hT hA [2] [] rfl rfl rfl
  refine va_calli (va_runV (As := []) (rest := [.int 1]) ⟨hx, hb, hml, hown, hts⟩ hM112 (cwV 0 hts (gV q_92 q_77 q_78 q_12 q_75) rfl rfl rfl hV_Jx4a65c_size_8abf5 ⟨Nat.le_of_ble_eq_true rfl, Nat.le_of_ble_eq_true rfl⟩) ⟨pc_blind, va_recv hK hP (ci := 0) (q := (RJx4a65c, TJx4a65c, 3)) (q0 := 2) rfl rfl, fun U hU hW => ⟨rfl, hC113 U hU hW⟩⟩ rfl rfl hl.1 rfl (lv_room (Nat.le_of_ble_eq_true rfl)) dX0_findTaken_41 ⟨(Nat.le_of_ble_eq_true rfl), (Nat.le_of_ble_eq_true rfl)⟩) hS (fun q9 _ h9 => hF110 q9 h9) hF110 (fun r115 u114 t114 H114 L114 ht114 hvm114 hw114 hB114 hz114 hk114 hS => ?_)
  have hP := pq_keep hP hD [2] rfl hk114 hB114.1 ht114
  have hG : s.heap.size + 0 ≤ H114.size := Nat.le_trans hG hz114
  refine W.eq (g2 := F0 m 44 ls [.int 7, .int 1]) (by rw [hw114]) ?_
  refine lv_icmp_ge (tgt := 77) hx hb dX0_findTaken_44 (by decide) (fun cz => absurd cz (by decide)) (fun _ => ?_)
  refine lv_aload_n hx hb dX0_findTaken_47 rfl (lv_at hl 2 rfl) ?_
  refine va_get (D := (dC, dI)) (ci := 2) (v := .ref h2) (C := RX0) (T := TX0) (N := 4) hx hb hts in_X0 hown hK hP 0 rfl rfl 1 (by decide) (hts _ q_29) (fun _ h9 => h9) rfl dX0_findTaken_48 ?_
  refine lv_iload_n hx hb dX0_findTaken_51 rfl (lv_at hl 0 rfl) ?_
  have hM118 := k636_get l hl9 dC dI z h2 h4 h5 h6 h7 h8 h9 h10 h11 H114.size kc1
  obtain ⟨hF116, hC119⟩ := pc_M hM118 hP hD hK hS hX hT hA [2, 4] [1] rfl rfl rfl
  refine va_callr (va_runV (As := [.int 1]) (rest := []) ⟨hx, hb, hml, hown, hts⟩ hM118 (cwV 1 hts (gV q_156 q_157 q_158 q_12 q_155) rfl rfl rfl hV_Jx4a65c_get_915e3 ⟨Nat.le_of_ble_eq_true rfl, Nat.le_of_ble_eq_true rfl⟩) ⟨pc_blind, va_recv hK hP (ci := 0) (q := (RJx4a65c, TJx4a65c, 3)) (q0 := 2) rfl rfl, fun U hU hW => ⟨rfl, hC119 U hU hW⟩⟩ rfl rfl hl.1 rfl (lv_room (Nat.le_of_ble_eq_true rfl)) dX0_findTaken_52 ⟨(Nat.le_of_ble_eq_true rfl), (Nat.le_of_ble_eq_true rfl)⟩) hS (fun q9 _ h9 => hF116 q9 h9) hF116 (fun u120 r121 t120 H120 L120 ht120 hvm120 hw120 hB120 hz120 hk120 hS => ?_)
  obtain ⟨hr120, hB120⟩ := hB120
  have hP := pq_keep hP hD [2, 4] rfl hk120 hB120.1 ht120
  have hG : s.heap.size + 0 ≤ H120.size := Nat.le_trans hG hz120
  refine W.eq (g2 := F0 m 55 ls [.ref h6]) (by rw [hr120]) ?_
  refine va_castE (nm := RX2) hx hb hown (hts _ q_89) (va_recv hK hP (ci := 3) (q := (RX2, TX2, 19)) (q0 := 6) rfl rfl) dX0_findTaken_55 ?_
  refine va_get (D := (dC, dI)) (ci := 3) (v := .null) (C := RX2) (T := TX2) (N := 19) hx hb hts in_X2 hown hK hP 6 rfl rfl 3 (by decide) (hts _ q_198) (fun _ h9 => h9) rfl dX0_findTaken_58 ?_
  refine lv_astore_nN (lv' := [(2, .null), (1, .int 1), (0, .ref h0)]) hx hb dX0_findTaken_61 rfl hl (by decide) rfl (fun ls hl => ?_)
  refine lv_aload_nN hx hb dX0_findTaken_62 rfl (lv_at hl 0 rfl) ?_
  refine lv_ifnullN (tgt := 71) hx hb dX0_findTaken_63 (by decide) ?_
  refine lv_iinc (v := 2) (lv' := [(1, .int 2), (2, .null), (0, .ref h0)]) hx hb dX0_findTaken_71 hl (k := 1) rfl (by decide) (by decide) rfl (fun ls hl => ?_)
  refine lv_goto (tgt := 36) hx hb dX0_findTaken_74 (by decide) ?_
  refine lv_iload_n hx hb dX0_findTaken_36 rfl (lv_at hl 0 rfl) ?_
  refine lv_aload_n hx hb dX0_findTaken_37 rfl (lv_at hl 2 rfl) ?_
  refine va_get (D := (dC, dI)) (ci := 2) (v := .ref h2) (C := RX0) (T := TX0) (N := 4) hx hb hts in_X0 hown hK hP 0 rfl rfl 1 (by decide) (hts _ q_29) (fun _ h9 => h9) rfl dX0_findTaken_38 ?_
  have hM124 := k20_size l hl9 dC dI z h2 h4 H120.size 7 7
  obtain ⟨hF122, hC125⟩ := pc_M hM124 hP hD hK hS hX hT hA [2] [] rfl rfl rfl
  refine va_calli (va_runV (As := []) (rest := [.int 2]) ⟨hx, hb, hml, hown, hts⟩ hM124 (cwV 0 hts (gV q_92 q_77 q_78 q_12 q_75) rfl rfl rfl hV_Jx4a65c_size_8abf5 ⟨Nat.le_of_ble_eq_true rfl, Nat.le_of_ble_eq_true rfl⟩) ⟨pc_blind, va_recv hK hP (ci := 0) (q := (RJx4a65c, TJx4a65c, 3)) (q0 := 2) rfl rfl, fun U hU hW => ⟨rfl, hC125 U hU hW⟩⟩ rfl rfl hl.1 rfl (lv_room (Nat.le_of_ble_eq_true rfl)) dX0_findTaken_41 ⟨(Nat.le_of_ble_eq_true rfl), (Nat.le_of_ble_eq_true rfl)⟩) hS (fun q9 _ h9 => hF122 q9 h9) hF122 (fun r127 u126 t126 H126 L126 ht126 hvm126 hw126 hB126 hz126 hk126 hS => ?_)
  have hP := pq_keep hP hD [2] rfl hk126 hB126.1 ht126
  have hG : s.heap.size + 0 ≤ H126.size := Nat.le_trans hG hz126
  refine W.eq (g2 := F0 m 44 ls [.int 7, .int 2]) (by rw [hw126]) ?_
  refine lv_icmp_ge (tgt := 77) hx hb dX0_findTaken_44 (by decide) (fun cz => absurd cz (by decide)) (fun _ => ?_)
  refine lv_aload_n hx hb dX0_findTaken_47 rfl (lv_at hl 2 rfl) ?_
  refine va_get (D := (dC, dI)) (ci := 2) (v := .ref h2) (C := RX0) (T := TX0) (N := 4) hx hb hts in_X0 hown hK hP 0 rfl rfl 1 (by decide) (hts _ q_29) (fun _ h9 => h9) rfl dX0_findTaken_48 ?_
  refine lv_iload_n hx hb dX0_findTaken_51 rfl (lv_at hl 0 rfl) ?_
  have hM130 := k640_get l hl9 dC dI z h2 h4 h5 h6 h7 h8 h9 h10 h11 H126.size kc1
  obtain ⟨hF128, hC131⟩ := pc_M hM130 hP hD hK hS hX hT hA [2, 4] [1] rfl rfl rfl
  refine va_callr (va_runV (As := [.int 2]) (rest := []) ⟨hx, hb, hml, hown, hts⟩ hM130 (cwV 1 hts (gV q_156 q_157 q_158 q_12 q_155) rfl rfl rfl hV_Jx4a65c_get_915e3 ⟨Nat.le_of_ble_eq_true rfl, Nat.le_of_ble_eq_true rfl⟩) ⟨pc_blind, va_recv hK hP (ci := 0) (q := (RJx4a65c, TJx4a65c, 3)) (q0 := 2) rfl rfl, fun U hU hW => ⟨rfl, hC131 U hU hW⟩⟩ rfl rfl hl.1 rfl (lv_room (Nat.le_of_ble_eq_true rfl)) dX0_findTaken_52 ⟨(Nat.le_of_ble_eq_true rfl), (Nat.le_of_ble_eq_true rfl)⟩) hS (fun q9 _ h9 => hF128 q9 h9) hF128 (fun u132 r133 t132 H132 L132 ht132 hvm132 hw132 hB132 hz132 hk132 hS => ?_)
  obtain ⟨hr132, hB132⟩ := hB132
  have hP := pq_keep hP hD [2, 4] rfl hk132 hB132.1 ht132
  have hG : s.heap.size + 0 ≤ H132.size := Nat.le_trans hG hz132
  refine W.eq (g2 := F0 m 55 ls [.ref h7]) (by rw [hr132]) ?_
  refine va_castE (nm := RX2) hx hb hown (hts _ q_89) (va_recv hK hP (ci := 3) (q := (RX2, TX2, 19)) (q0 := 7) rfl rfl) dX0_findTaken_55 ?_
  refine va_get (D := (dC, dI)) (ci := 3) (v := .null) (C := RX2) (T := TX2) (N := 19) hx hb hts in_X2 hown hK hP 7 rfl rfl 3 (by decide) (hts _ q_198) (fun _ h9 => h9) rfl dX0_findTaken_58 ?_
  refine lv_astore_nN (lv' := [(2, .null), (1, .int 2), (0, .ref h0)]) hx hb dX0_findTaken_61 rfl hl (by decide) rfl (fun ls hl => ?_)
  refine lv_aload_nN hx hb dX0_findTaken_62 rfl (lv_at hl 0 rfl) ?_
  refine lv_ifnullN (tgt := 71) hx hb dX0_findTaken_63 (by decide) ?_
  refine lv_iinc (v := 3) (lv' := [(1, .int 3), (2, .null), (0, .ref h0)]) hx hb dX0_findTaken_71 hl (k := 1) rfl (by decide) (by decide) rfl (fun ls hl => ?_)
  refine lv_goto (tgt := 36) hx hb dX0_findTaken_74 (by decide) ?_
  refine lv_iload_n hx hb dX0_findTaken_36 rfl (lv_at hl 0 rfl) ?_
  refine lv_aload_n hx hb dX0_findTaken_37 rfl (lv_at hl 2 rfl) ?_
  refine va_get (D := (dC, dI)) (ci := 2) (v := .ref h2) (C := RX0) (T := TX0) (N := 4) hx hb hts in_X0 hown hK hP 0 rfl rfl 1 (by decide) (hts _ q_29) (fun _ h9 => h9) rfl dX0_findTaken_38 ?_
  have hM136 := k20_size l hl9 dC dI z h2 h4 H132.size 7 7
  obtain ⟨hF134, hC137⟩ := pc_M hM136 hP hD hK hS hX hT hA [2] [] rfl rfl rfl
  refine va_calli (va_runV (As := []) (rest := [.int 3]) ⟨hx, hb, hml, hown, hts⟩ hM136 (cwV 0 hts (gV q_92 q_77 q_78 q_12 q_75) rfl rfl rfl hV_Jx4a65c_size_8abf5 ⟨Nat.le_of_ble_eq_true rfl, Nat.le_of_ble_eq_true rfl⟩) ⟨pc_blind, va_recv hK hP (ci := 0) (q := (RJx4a65c, TJx4a65c, 3)) (q0 := 2) rfl rfl, fun U hU hW => ⟨rfl, hC137 U hU hW⟩⟩ rfl rfl hl.1 rfl (lv_room (Nat.le_of_ble_eq_true rfl)) dX0_findTaken_41 ⟨(Nat.le_of_ble_eq_true rfl), (Nat.le_of_ble_eq_true rfl)⟩) hS (fun q9 _ h9 => hF134 q9 h9) hF134 (fun r139 u138 t138 H138 L138 ht138 hvm138 hw138 hB138 hz138 hk138 hS => ?_)
  have hP := pq_keep hP hD [2] rfl hk138 hB138.1 ht138
  have hG : s.heap.size + 0 ≤ H138.size := Nat.le_trans hG hz138
  refine W.eq (g2 := F0 m 44 ls [.int 7, .int 3]) (by rw [hw138]) ?_
  refine lv_icmp_ge (tgt := 77) hx hb dX0_findTaken_44 (by decide) (fun cz => absurd cz (by decide)) (fun _ => ?_)
  refine lv_aload_n hx hb dX0_findTaken_47 rfl (lv_at hl 2 rfl) ?_
  refine va_get (D := (dC, dI)) (ci := 2) (v := .ref h2) (C := RX0) (T := TX0) (N := 4) hx hb hts in_X0 hown hK hP 0 rfl rfl 1 (by decide) (hts _ q_29) (fun _ h9 => h9) rfl dX0_findTaken_48 ?_
  refine lv_iload_n hx hb dX0_findTaken_51 rfl (lv_at hl 0 rfl) ?_
  have hM142 := k644_get l hl9 dC dI z h2 h4 h5 h6 h7 h8 h9 h10 h11 H138.size kc1
  obtain ⟨hF140, hC143⟩ := pc_M hM142 hP hD hK hS hX hT hA [2, 4] [1] rfl rfl rfl
  refine va_callr (va_runV (As := [.int 3]) (rest := []) ⟨hx, hb, hml, hown, hts⟩ hM142 (cwV 1 hts (gV q_156 q_157 q_158 q_12 q_155) rfl rfl rfl hV_Jx4a65c_get_915e3 ⟨Nat.le_of_ble_eq_true rfl, Nat.le_of_ble_eq_true rfl⟩) ⟨pc_blind, va_recv hK hP (ci := 0) (q := (RJx4a65c, TJx4a65c, 3)) (q0 := 2) rfl rfl, fun U hU hW => ⟨rfl, hC143 U hU hW⟩⟩ rfl rfl hl.1 rfl (lv_room (Nat.le_of_ble_eq_true rfl)) dX0_findTaken_52 ⟨(Nat.le_of_ble_eq_true rfl), (Nat.le_of_ble_eq_true rfl)⟩) hS (fun q9 _ h9 => hF140 q9 h9) hF140 (fun u144 r145 t144 H144 L144 ht144 hvm144 hw144 hB144 hz144 hk144 hS => ?_)
  obtain ⟨hr144, hB144⟩ := hB144
  have hP := pq_keep hP hD [2, 4] rfl hk144 hB144.1 ht144
  have hG : s.heap.size + 0 ≤ H144.size := Nat.le_trans hG hz144
  refine W.eq (g2 := F0 m 55 ls [.ref h8]) (by rw [hr144]) ?_
  refine va_castE (nm := RX2) hx hb hown (hts _ q_89) (va_recv hK hP (ci := 3) (q := (RX2, TX2, 19)) (q0 := 8) rfl rfl) dX0_findTaken_55 ?_
  refine va_get (D := (dC, dI)) (ci := 3) (v := .null) (C := RX2) (T := TX2) (N := 19) hx hb hts in_X2 hown hK hP 8 rfl rfl 3 (by decide) (hts _ q_198) (fun _ h9 => h9) rfl dX0_findTaken_58 ?_
  refine lv_astore_nN (lv' := [(2, .null), (1, .int 3), (0, .ref h0)]) hx hb dX0_findTaken_61 rfl hl (by decide) rfl (fun ls hl => ?_)
  refine lv_aload_nN hx hb dX0_findTaken_62 rfl (lv_at hl 0 rfl) ?_
  refine lv_ifnullN (tgt := 71) hx hb dX0_findTaken_63 (by decide) ?_
  refine lv_iinc (v := 4) (lv' := [(1, .int 4), (2, .null), (0, .ref h0)]) hx hb dX0_findTaken_71 hl (k := 1) rfl (by decide) (by decide) rfl (fun ls hl => ?_)
  refine lv_goto (tgt := 36) hx hb dX0_findTaken_74 (by decide) ?_
  refine lv_iload_n hx hb dX0_findTaken_36 rfl (lv_at hl 0 rfl) ?_
  refine lv_aload_n hx hb dX0_findTaken_37 rfl (lv_at hl 2 rfl) ?_
  refine va_get (D := (dC, dI)) (ci := 2) (v := .ref h2) (C := RX0) (T := TX0) (N := 4) hx hb hts in_X0 hown hK hP 0 rfl rfl 1 (by decide) (hts _ q_29) (fun _ h9 => h9) rfl dX0_findTaken_38 ?_
  have hM148 := k20_size l hl9 dC dI z h2 h4 H144.size 7 7
  obtain ⟨hF146, hC149⟩ := pc_M hM148 hP hD hK hS hX hT hA [2] [] rfl rfl rfl
  refine va_calli (va_runV (As := []) (rest := [.int 4]) ⟨hx, hb, hml, hown, hts⟩ hM148 (cwV 0 hts (gV q_92 q_77 q_78 q_12 q_75) rfl rfl rfl hV_Jx4a65c_size_8abf5 ⟨Nat.le_of_ble_eq_true rfl, Nat.le_of_ble_eq_true rfl⟩) ⟨pc_blind, va_recv hK hP (ci := 0) (q := (RJx4a65c, TJx4a65c, 3)) (q0 := 2) rfl rfl, fun U hU hW => ⟨rfl, hC149 U hU hW⟩⟩ rfl rfl hl.1 rfl (lv_room (Nat.le_of_ble_eq_true rfl)) dX0_findTaken_41 ⟨(Nat.le_of_ble_eq_true rfl), (Nat.le_of_ble_eq_true rfl)⟩) hS (fun q9 _ h9 => hF146 q9 h9) hF146 (fun r151 u150 t150 H150 L150 ht150 hvm150 hw150 hB150 hz150 hk150 hS => ?_)
  have hP := pq_keep hP hD [2] rfl hk150 hB150.1 ht150
  have hG : s.heap.size + 0 ≤ H150.size := Nat.le_trans hG hz150
  refine W.eq (g2 := F0 m 44 ls [.int 7, .int 4]) (by rw [hw150]) ?_
  refine lv_icmp_ge (tgt := 77) hx hb dX0_findTaken_44 (by decide) (fun cz => absurd cz (by decide)) (fun _ => ?_)
  refine lv_aload_n hx hb dX0_findTaken_47 rfl (lv_at hl 2 rfl) ?_
  refine va_get (D := (dC, dI)) (ci := 2) (v := .ref h2) (C := RX0) (T := TX0) (N := 4) hx hb hts in_X0 hown hK hP 0 rfl rfl 1 (by decide) (hts _ q_29) (fun _ h9 => h9) rfl dX0_findTaken_48 ?_
  refine lv_iload_n hx hb dX0_findTaken_51 rfl (lv_at hl 0 rfl) ?_
  have hM154 := k648_get l hl9 dC dI z h2 h4 h5 h6 h7 h8 h9 h10 h11 H150.size kc1
  obtain ⟨hF152, hC155⟩ := pc_M hM154 hP hD hK hS hX hT hA [2, 4] [1] rfl rfl rfl
  refine va_callr (va_runV (As := [.int 4]) (rest := []) ⟨hx, hb, hml, hown, hts⟩ hM154 (cwV 1 hts (gV q_156 q_157 q_158 q_12 q_155) rfl rfl rfl hV_Jx4a65c_get_915e3 ⟨Nat.le_of_ble_eq_true rfl, Nat.le_of_ble_eq_true rfl⟩) ⟨pc_blind, va_recv hK hP (ci := 0) (q := (RJx4a65c, TJx4a65c, 3)) (q0 := 2) rfl rfl, fun U hU hW => ⟨rfl, hC155 U hU hW⟩⟩ rfl rfl hl.1 rfl (lv_room (Nat.le_of_ble_eq_true rfl)) dX0_findTaken_52 ⟨(Nat.le_of_ble_eq_true rfl), (Nat.le_of_ble_eq_true rfl)⟩) hS (fun q9 _ h9 => hF152 q9 h9) hF152 (fun u156 r157 t156 H156 L156 ht156 hvm156 hw156 hB156 hz156 hk156 hS => ?_)
  obtain ⟨hr156, hB156⟩ := hB156
  have hP := pq_keep hP hD [2, 4] rfl hk156 hB156.1 ht156
  have hG : s.heap.size + 0 ≤ H156.size := Nat.le_trans hG hz156
  refine W.eq (g2 := F0 m 55 ls [.ref h9]) (by rw [hr156]) ?_
  refine va_castE (nm := RX2) hx hb hown (hts _ q_89) (va_recv hK hP (ci := 3) (q := (RX2, TX2, 19)) (q0 := 9) rfl rfl) dX0_findTaken_55 ?_
  refine va_get (D := (dC, dI)) (ci := 3) (v := .null) (C := RX2) (T := TX2) (N := 19) hx hb hts in_X2 hown hK hP 9 rfl rfl 3 (by decide) (hts _ q_198) (fun _ h9 => h9) rfl dX0_findTaken_58 ?_
  refine lv_astore_nN (lv' := [(2, .null), (1, .int 4), (0, .ref h0)]) hx hb dX0_findTaken_61 rfl hl (by decide) rfl (fun ls hl => ?_)
  refine lv_aload_nN hx hb dX0_findTaken_62 rfl (lv_at hl 0 rfl) ?_
  refine lv_ifnullN (tgt := 71) hx hb dX0_findTaken_63 (by decide) ?_
  refine lv_iinc (v := 5) (lv' := [(1, .int 5), (2, .null), (0, .ref h0)]) hx hb dX0_findTaken_71 hl (k := 1) rfl (by decide) (by decide) rfl (fun ls hl => ?_)
  refine lv_goto (tgt := 36) hx hb dX0_findTaken_74 (by decide) ?_
  refine lv_iload_n hx hb dX0_findTaken_36 rfl (lv_at hl 0 rfl) ?_
  refine lv_aload_n hx hb dX0_findTaken_37 rfl (lv_at hl 2 rfl) ?_
  refine va_get (D := (dC, dI)) (ci := 2) (v := .ref h2) (C := RX0) (T := TX0) (N := 4) hx hb hts in_X0 hown hK hP 0 rfl rfl 1 (by decide) (hts _ q_29) (fun _ h9 => h9) rfl dX0_findTaken_38 ?_
  have hM160 := k20_size l hl9 dC dI z h2 h4 H156.size 7 7
  obtain ⟨hF158, hC161⟩ := pc_M hM160 hP hD hK hS hX hT hA [2] [] rfl rfl rfl
  refine va_calli (va_runV (As := []) (rest := [.int 5]) ⟨hx, hb, hml, hown, hts⟩ hM160 (cwV 0 hts (gV q_92 q_77 q_78 q_12 q_75) rfl rfl rfl hV_Jx4a65c_size_8abf5 ⟨Nat.le_of_ble_eq_true rfl, Nat.le_of_ble_eq_true rfl⟩) ⟨pc_blind, va_recv hK hP (ci := 0) (q := (RJx4a65c, TJx4a65c, 3)) (q0 := 2) rfl rfl, fun U hU hW => ⟨rfl, hC161 U hU hW⟩⟩ rfl rfl hl.1 rfl (lv_room (Nat.le_of_ble_eq_true rfl)) dX0_findTaken_41 ⟨(Nat.le_of_ble_eq_true rfl), (Nat.le_of_ble_eq_true rfl)⟩) hS (fun q9 _ h9 => hF158 q9 h9) hF158 (fun r163 u162 t162 H162 L162 ht162 hvm162 hw162 hB162 hz162 hk162 hS => ?_)
  have hP := pq_keep hP hD [2] rfl hk162 hB162.1 ht162
  have hG : s.heap.size + 0 ≤ H162.size := Nat.le_trans hG hz162
  refine W.eq (g2 := F0 m 44 ls [.int 7, .int 5]) (by rw [hw162]) ?_
  refine lv_icmp_ge (tgt := 77) hx hb dX0_findTaken_44 (by decide) (fun cz => absurd cz (by decide)) (fun _ => ?_)
  refine lv_aload_n hx hb dX0_findTaken_47 rfl (lv_at hl 2 rfl) ?_
  refine va_get (D := (dC, dI)) (ci := 2) (v := .ref h2) (C := RX0) (T := TX0) (N := 4) hx hb hts in_X0 hown hK hP 0 rfl rfl 1 (by decide) (hts _ q_29) (fun _ h9 => h9) rfl dX0_findTaken_48 ?_
  refine lv_iload_n hx hb dX0_findTaken_51 rfl (lv_at hl 0 rfl) ?_
  have hM166 := k652_get l hl9 dC dI z h2 h4 h5 h6 h7 h8 h9 h10 h11 H162.size kc1
  obtain ⟨hF164, hC167⟩ := pc_M hM166 hP hD hK hS hX hT hA [2, 4] [1] rfl rfl rfl
  refine va_callr (va_runV (As := [.int 5]) (rest := []) ⟨hx, hb, hml, hown, hts⟩ hM166 (cwV 1 hts (gV q_156 q_157 q_158 q_12 q_155) rfl rfl rfl hV_Jx4a65c_get_915e3 ⟨Nat.le_of_ble_eq_true rfl, Nat.le_of_ble_eq_true rfl⟩) ⟨pc_blind, va_recv hK hP (ci := 0) (q := (RJx4a65c, TJx4a65c, 3)) (q0 := 2) rfl rfl, fun U hU hW => ⟨rfl, hC167 U hU hW⟩⟩ rfl rfl hl.1 rfl (lv_room (Nat.le_of_ble_eq_true rfl)) dX0_findTaken_52 ⟨(Nat.le_of_ble_eq_true rfl), (Nat.le_of_ble_eq_true rfl)⟩) hS (fun q9 _ h9 => hF164 q9 h9) hF164 (fun u168 r169 t168 H168 L168 ht168 hvm168 hw168 hB168 hz168 hk168 hS => ?_)
  obtain ⟨hr168, hB168⟩ := hB168
  have hP := pq_keep hP hD [2, 4] rfl hk168 hB168.1 ht168
  have hG : s.heap.size + 0 ≤ H168.size := Nat.le_trans hG hz168
  refine W.eq (g2 := F0 m 55 ls [.ref h10]) (by rw [hr168]) ?_
  refine va_castE (nm := RX2) hx hb hown (hts _ q_89) (va_recv hK hP (ci := 3) (q := (RX2, TX2, 19)) (q0 := 10) rfl rfl) dX0_findTaken_55 ?_
  refine va_get (D := (dC, dI)) (ci := 3) (v := .null) (C := RX2) (T := TX2) (N := 19) hx hb hts in_X2 hown hK hP 10 rfl rfl 3 (by decide) (hts _ q_198) (fun _ h9 => h9) rfl dX0_findTaken_58 ?_
  refine lv_astore_nN (lv' := [(2, .null), (1, .int 5), (0, .ref h0)]) hx hb dX0_findTaken_61 rfl hl (by decide) rfl (fun ls hl => ?_)
  refine lv_aload_nN hx hb dX0_findTaken_62 rfl (lv_at hl 0 rfl) ?_
  refine lv_ifnullN (tgt := 71) hx hb dX0_findTaken_63 (by decide) ?_
  refine lv_iinc (v := 6) (lv' := [(1, .int 6), (2, .null), (0, .ref h0)]) hx hb dX0_findTaken_71 hl (k := 1) rfl (by decide) (by decide) rfl (fun ls hl => ?_)
  refine lv_goto (tgt := 36) hx hb dX0_findTaken_74 (by decide) ?_
  refine lv_iload_n hx hb dX0_findTaken_36 rfl (lv_at hl 0 rfl) ?_
  refine lv_aload_n hx hb dX0_findTaken_37 rfl (lv_at hl 2 rfl) ?_
  refine va_get (D := (dC, dI)) (ci := 2) (v := .ref h2) (C := RX0) (T := TX0) (N := 4) hx hb hts in_X0 hown hK hP 0 rfl rfl 1 (by decide) (hts _ q_29) (fun _ h9 => h9) rfl dX0_findTaken_38 ?_
  have hM172 := k20_size l hl9 dC dI z h2 h4 H168.size 7 7
  obtain ⟨hF170, hC173⟩ := pc_M hM172 hP hD hK hS hX hT hA [2] [] rfl rfl rfl
  refine va_calli (va_runV (As := []) (rest := [.int 6]) ⟨hx, hb, hml, hown, hts⟩ hM172 (cwV 0 hts (gV q_92 q_77 q_78 q_12 q_75) rfl rfl rfl hV_Jx4a65c_size_8abf5 ⟨Nat.le_of_ble_eq_true rfl, Nat.le_of_ble_eq_true rfl⟩) ⟨pc_blind, va_recv hK hP (ci := 0) (q := (RJx4a65c, TJx4a65c, 3)) (q0 := 2) rfl rfl, fun U hU hW => ⟨rfl, hC173 U hU hW⟩⟩ rfl rfl hl.1 rfl (lv_room (Nat.le_of_ble_eq_true rfl)) dX0_findTaken_41 ⟨(Nat.le_of_ble_eq_true rfl), (Nat.le_of_ble_eq_true rfl)⟩) hS (fun q9 _ h9 => hF170 q9 h9) hF170 (fun r175 u174 t174 H174 L174 ht174 hvm174 hw174 hB174 hz174 hk174 hS => ?_)
  have hP := pq_keep hP hD [2] rfl hk174 hB174.1 ht174
  have hG : s.heap.size + 0 ≤ H174.size := Nat.le_trans hG hz174
  refine W.eq (g2 := F0 m 44 ls [.int 7, .int 6]) (by rw [hw174]) ?_
  refine lv_icmp_ge (tgt := 77) hx hb dX0_findTaken_44 (by decide) (fun cz => absurd cz (by decide)) (fun _ => ?_)
  refine lv_aload_n hx hb dX0_findTaken_47 rfl (lv_at hl 2 rfl) ?_
  refine va_get (D := (dC, dI)) (ci := 2) (v := .ref h2) (C := RX0) (T := TX0) (N := 4) hx hb hts in_X0 hown hK hP 0 rfl rfl 1 (by decide) (hts _ q_29) (fun _ h9 => h9) rfl dX0_findTaken_48 ?_
  refine lv_iload_n hx hb dX0_findTaken_51 rfl (lv_at hl 0 rfl) ?_
  have hM178 := k656_get l hl9 dC dI z h2 h4 h5 h6 h7 h8 h9 h10 h11 H174.size kc1
  obtain ⟨hF176, hC179⟩ := pc_M hM178 hP hD hK hS hX hT hA [2, 4] [1] rfl rfl rfl
  refine va_callr (va_runV (As := [.int 6]) (rest := []) ⟨hx, hb, hml, hown, hts⟩ hM178 (cwV 1 hts (gV q_156 q_157 q_158 q_12 q_155) rfl rfl rfl hV_Jx4a65c_get_915e3 ⟨Nat.le_of_ble_eq_true rfl, Nat.le_of_ble_eq_true rfl⟩) ⟨pc_blind, va_recv hK hP (ci := 0) (q := (RJx4a65c, TJx4a65c, 3)) (q0 := 2) rfl rfl, fun U hU hW => ⟨rfl, hC179 U hU hW⟩⟩ rfl rfl hl.1 rfl (lv_room (Nat.le_of_ble_eq_true rfl)) dX0_findTaken_52 ⟨(Nat.le_of_ble_eq_true rfl), (Nat.le_of_ble_eq_true rfl)⟩) hS (fun q9 _ h9 => hF176 q9 h9) hF176 (fun u180 r181 t180 H180 L180 ht180 hvm180 hw180 hB180 hz180 hk180 hS => ?_)
  obtain ⟨hr180, hB180⟩ := hB180
  have hP := pq_keep hP hD [2, 4] rfl hk180 hB180.1 ht180
  have hG : s.heap.size + 0 ≤ H180.size := Nat.le_trans hG hz180
  refine W.eq (g2 := F0 m 55 ls [.ref h11]) (by rw [hr180]) ?_
  refine va_castE (nm := RX2) hx hb hown (hts _ q_89) (va_recv hK hP (ci := 3) (q := (RX2, TX2, 19)) (q0 := 11) rfl rfl) dX0_findTaken_55 ?_
  refine va_get (D := (dC, dI)) (ci := 3) (v := .null) (C := RX2) (T := TX2) (N := 19) hx hb hts in_X2 hown hK hP 11 rfl rfl 3 (by decide) (hts _ q_198) (fun _ h9 => h9) rfl dX0_findTaken_58 ?_
  refine lv_astore_nN (lv' := [(2, .null), (1, .int 6), (0, .ref h0)]) hx hb dX0_findTaken_61 rfl hl (by decide) rfl (fun ls hl => ?_)
  refine lv_aload_nN hx hb dX0_findTaken_62 rfl (lv_at hl 0 rfl) ?_
  refine lv_ifnullN (tgt := 71) hx hb dX0_findTaken_63 (by decide) ?_
  refine lv_iinc (v := 7) (lv' := [(1, .int 7), (2, .null), (0, .ref h0)]) hx hb dX0_findTaken_71 hl (k := 1) rfl (by decide) (by decide) rfl (fun ls hl => ?_)
  refine lv_goto (tgt := 36) hx hb dX0_findTaken_74 (by decide) ?_
  refine lv_iload_n hx hb dX0_findTaken_36 rfl (lv_at hl 0 rfl) ?_
  refine lv_aload_n hx hb dX0_findTaken_37 rfl (lv_at hl 2 rfl) ?_
  refine va_get (D := (dC, dI)) (ci := 2) (v := .ref h2) (C := RX0) (T := TX0) (N := 4) hx hb hts in_X0 hown hK hP 0 rfl rfl 1 (by decide) (hts _ q_29) (fun _ h9 => h9) rfl dX0_findTaken_38 ?_
  have hM184 := k20_size l hl9 dC dI z h2 h4 H180.size 7 7
  obtain ⟨hF182, hC185⟩ := pc_M hM184 hP hD hK hS hX hT hA [2] [] rfl rfl rfl
  refine va_calli (va_runV (As := []) (rest := [.int 7]) ⟨hx, hb, hml, hown, hts⟩ hM184 (cwV 0 hts (gV q_92 q_77 q_78 q_12 q_75) rfl rfl rfl hV_Jx4a65c_size_8abf5 ⟨Nat.le_of_ble_eq_true rfl, Nat.le_of_ble_eq_true rfl⟩) ⟨pc_blind, va_recv hK hP (ci := 0) (q := (RJx4a65c, TJx4a65c, 3)) (q0 := 2) rfl rfl, fun U hU hW => ⟨rfl, hC185 U hU hW⟩⟩ rfl rfl hl.1 rfl (lv_room (Nat.le_of_ble_eq_true rfl)) dX0_findTaken_41 ⟨(Nat.le_of_ble_eq_true rfl), (Nat.le_of_ble_eq_true rfl)⟩) hS (fun q9 _ h9 => hF182 q9 h9) hF182 (fun r187 u186 t186 H186 L186 ht186 hvm186 hw186 hB186 hz186 hk186 hS => ?_)
  have hP := pq_keep hP hD [2] rfl hk186 hB186.1 ht186
  have hG : s.heap.size + 0 ≤ H186.size := Nat.le_trans hG hz186
  refine W.eq (g2 := F0 m 44 ls [.int 7, .int 7]) (by rw [hw186]) ?_
  refine lv_icmp_ge (tgt := 77) hx hb dX0_findTaken_44 (by decide) (fun _ => ?_) (fun cz => absurd (by decide) cz)
  exact W.vret hx hb hr (fun t9 ht9 hW9 => ⟨⟨(), rfl, trivial, ⟨pq_mk2 hP hD hK [0, 1, 2, 3, 4, 5, 6, 7, 8, 9, 10, 11] [0, 1] rfl rfl rfl ht9 hW9, by rw [ht9]; exact Nat.le_trans (Nat.add_le_add_left (Nat.le_of_ble_eq_true rfl) _) hG⟩⟩, hS.F ht9⟩) hS.2.2 dX0_findTaken_77

set_option maxHeartbeats 4000000 in
set_option maxRecDepth 100000 in
theorem k694_layOut (l : Launch) (hl9 : l.stackTraces = false) (dC : Nat → ClassId) (dI : Nat → Nat → Nat) (z : XZ) (h0 h1 h2 h3 h4 h5 h6 h7 h8 h9 h10 h11 h12 h13 h14 h15 h16 h17 h18 h19 h20 h21 : Nat) (sz : Nat) (kc0 kc1 kc2 : ClassId) : Met l yX0_layOut (.code yX0_layOut cX0_layOut 1 none :: wsL_law) ({ frames := 5, cells := 0, slots := 0, locals := 107 }) (va_Pc [.ref h0] (PC (dC, dI) [(h0, ce7 h1 h2 h3 h4), (h1, ce331 h5), (h2, ce331 h6), (h3, ce3 z.1), (h4, ce289 h7), (h5, ce330 kc0 h8 h9 h10 h11 h12 h13 h14), (h6, ce330 kc1 h8 h9 h10 h11 h12 h13 h14), (h7, ce258 kc2 h8 h9 h10 h11 h12 h13), (h8, ce38 (z.2.1 0) h15 h8), (h9, ce77 (z.2.1 0) h16 h9), (h10, ce115 (z.2.1 0) h17 h10), (h11, ce165 (z.2.1 0) h18 h11), (h12, ce224 (z.2.1 0) h19 h12), (h13, ce287 (z.2.1 0) h20 h13), (h14, ce328 (z.2.1 0) h21 h14), (h15, ce3 z.1), (h16, ce3 z.1), (h17, ce3 z.1), (h18, ce3 z.1), (h19, ce3 z.1), (h20, ce3 z.1), (h21, ce3 z.1)] [(kc0, .object "java/lang/Object"), (kc1, .object "java/lang/Object"), (kc2, .object "java/lang/Object")] sz z)) (va_Qv (fun (_ : Unit) => True) (fun (_ : Unit) (t : State) => PG (dC, dI) [(h0, ce7 h1 h2 h3 h4), (h1, ce331 h5), (h2, ce331 h6), (h3, ce3 z.1), (h4, ce366 h7), (h5, ce330 kc0 h8 h9 h10 h11 h12 h13 h14), (h6, ce330 kc1 h8 h9 h10 h11 h12 h13 h14), (h7, ce330 kc2 h8 h9 h10 h11 h12 h13 h14), (h8, ce38 (z.2.1 0) h15 h8), (h9, ce77 (z.2.1 0) h16 h9), (h10, ce115 (z.2.1 0) h17 h10), (h11, ce165 (z.2.1 0) h18 h11), (h12, ce224 (z.2.1 0) h19 h12), (h13, ce287 (z.2.1 0) h20 h13), (h14, ce364 (z.2.1 0) h21 h14), (h15, ce3 z.1), (h16, ce3 z.1), (h17, ce3 z.1), (h18, ce3 z.1), (h19, ce3 z.1), (h20, ce3 z.1), (h21, ce3 z.1)] [(kc0, .object "java/lang/Object"), (kc1, .object "java/lang/Object"), (kc2, .object "java/lang/Object")] (va_A [(h0, ce7 h1 h2 h3 h4), (h1, ce331 h5), (h2, ce331 h6), (h3, ce3 z.1), (h4, ce289 h7), (h5, ce330 kc0 h8 h9 h10 h11 h12 h13 h14), (h6, ce330 kc1 h8 h9 h10 h11 h12 h13 h14), (h7, ce258 kc2 h8 h9 h10 h11 h12 h13), (h8, ce38 (z.2.1 0) h15 h8), (h9, ce77 (z.2.1 0) h16 h9), (h10, ce115 (z.2.1 0) h17 h10), (h11, ce165 (z.2.1 0) h18 h11), (h12, ce224 (z.2.1 0) h19 h12), (h13, ce287 (z.2.1 0) h20 h13), (h14, ce328 (z.2.1 0) h21 h14), (h15, ce3 z.1), (h16, ce3 z.1), (h17, ce3 z.1), (h18, ce3 z.1), (h19, ce3 z.1), (h20, ce3 z.1), (h21, ce3 z.1)] sz) sz 0 t) (va_A [(h0, ce7 h1 h2 h3 h4), (h1, ce331 h5), (h2, ce331 h6), (h3, ce3 z.1), (h4, ce289 h7), (h5, ce330 kc0 h8 h9 h10 h11 h12 h13 h14), (h6, ce330 kc1 h8 h9 h10 h11 h12 h13 h14), (h7, ce258 kc2 h8 h9 h10 h11 h12 h13), (h8, ce38 (z.2.1 0) h15 h8), (h9, ce77 (z.2.1 0) h16 h9), (h10, ce115 (z.2.1 0) h17 h10), (h11, ce165 (z.2.1 0) h18 h11), (h12, ce224 (z.2.1 0) h19 h12), (h13, ce287 (z.2.1 0) h20 h13), (h14, ce328 (z.2.1 0) h21 h14), (h15, ce3 z.1), (h16, ce3 z.1), (h17, ce3 z.1), (h18, ce3 z.1), (h19, ce3 z.1), (h20, ce3 z.1), (h21, ce3 z.1)] sz)) 0 0 (va_A [(h0, ce7 h1 h2 h3 h4), (h1, ce331 h5), (h2, ce331 h6), (h3, ce3 z.1), (h4, ce289 h7), (h5, ce330 kc0 h8 h9 h10 h11 h12 h13 h14), (h6, ce330 kc1 h8 h9 h10 h11 h12 h13 h14), (h7, ce258 kc2 h8 h9 h10 h11 h12 h13), (h8, ce38 (z.2.1 0) h15 h8), (h9, ce77 (z.2.1 0) h16 h9), (h10, ce115 (z.2.1 0) h17 h10), (h11, ce165 (z.2.1 0) h18 h11), (h12, ce224 (z.2.1 0) h19 h12), (h13, ce287 (z.2.1 0) h20 h13), (h14, ce328 (z.2.1 0) h21 h14), (h15, ce3 z.1), (h16, ce3 z.1), (h17, ce3 z.1), (h18, ce3 z.1), (h19, ce3 z.1), (h20, ce3 z.1), (h21, ce3 z.1)] sz) := by
  refine Met.ofW (cc := cX0_layOut) (maxL := 1) (ret := none) (by decide) rfl ?_
  intro p e s m args below meth c s₁ B hml hv
  obtain ⟨rfl, hsz, hP, hK, hD0, hX, hT⟩ := hv
  have hx := B.exec
  have hb := B.bytes
  have hr := B.returns
  have hts0 := atoms_spec (ws := .code yX0_layOut cX0_layOut 1 none :: wsL_law) B.pre
  have hts := xTail hts0
  have hown : s.vm.findClass RX0 = some m.cls := xown B.named rfl
  have hlocks := B.notSynchronized
  subst hsz
  have hD := hD0.self (sz := s.heap.size)
  generalize hAe : va_A [(h0, ce7 h1 h2 h3 h4), (h1, ce331 h5), (h2, ce331 h6), (h3, ce3 z.1), (h4, ce289 h7), (h5, ce330 kc0 h8 h9 h10 h11 h12 h13 h14), (h6, ce330 kc1 h8 h9 h10 h11 h12 h13 h14), (h7, ce258 kc2 h8 h9 h10 h11 h12 h13), (h8, ce38 (z.2.1 0) h15 h8), (h9, ce77 (z.2.1 0) h16 h9), (h10, ce115 (z.2.1 0) h17 h10), (h11, ce165 (z.2.1 0) h18 h11), (h12, ce224 (z.2.1 0) h19 h12), (h13, ce287 (z.2.1 0) h20 h13), (h14, ce328 (z.2.1 0) h21 h14), (h15, ce3 z.1), (h16, ce3 z.1), (h17, ce3 z.1), (h18, ce3 z.1), (h19, ce3 z.1), (h20, ce3 z.1), (h21, ce3 z.1)] s.heap.size = A at hD hX ⊢
  have hA : ∀ q : Nat, s.heap.size ≤ q → A q := fun q h => by rw [← hAe]; exact Or.inr h
  have hS : va_S A s.heap s.heap [] := va_S.rf
  have hG : s.heap.size + 0 ≤ s.heap.size := Nat.le_refl _
  have hl := lv_entry ([.ref h0]) (n := 1) (Nat.le_of_ble_eq_true rfl)
  rw [lg_entry_eq]
  generalize (lg_sl ([.ref h0]) ++ List.replicate (1 - (lg_sl ([.ref h0])).length) Slot.unset).toArray = ls at hl ⊢
  have hl : lv_has ls 1 [(0, .ref h0)] := hl
  refine lv_aload_n hx hb dX0_layOut_0 rfl (lv_at hl 0 rfl) ?_
  have hM3 := k673_putInOrder l hl9 dC dI z h0 h1 h4 h5 h7 h8 h9 h10 h11 h12 h13 h14 h15 h16 h17 h18 h19 h20 h21 h2 h3 s.heap.size kc0 kc2
  obtain ⟨hF1, hC4⟩ := pc_M hM3 hP hD hK hS hX hT hA [0, 1, 4, 5, 7, 8, 9, 10, 11, 12, 13, 14, 15, 16, 17, 18, 19, 20, 21] [0, 2] rfl rfl rfl
  refine va_callv (va_runV (As := []) (rest := []) ⟨hx, hb, hml, hown, hts⟩ hM3 (cwV 0 hts (gV q_170 q_171 q_172 q_8 q_169) rfl rfl rfl hV_X0_putInOrder ⟨Nat.le_of_ble_eq_true rfl, Nat.le_of_ble_eq_true rfl⟩) ⟨pc_blind, va_recv hK hP (ci := 2) (q := (RX0, TX0, 4)) (q0 := 0) rfl rfl, fun U hU hW => ⟨rfl, hC4 U hU hW⟩⟩ rfl rfl hl.1 rfl (lv_room (Nat.le_of_ble_eq_true rfl)) dX0_layOut_1 ⟨(Nat.le_of_ble_eq_true rfl), (Nat.le_of_ble_eq_true rfl)⟩) hS (fun q9 _ h9 => hF1 q9 h9) hF1 (fun u5 t5 H5 L5 ht5 hvm5 hw5 hB5 hz5 hk5 hS => ?_)
  obtain ⟨hP, hD, hK⟩ := pq_jn (wz := [(h2, ce331 h6), (h3, ce3 z.1), (h6, ce330 kc1 h8 h9 h10 h11 h12 h13 h14), (h0, ce7 h1 h2 h3 h4), (h1, ce331 h5), (h4, ce366 h7), (h5, ce330 kc0 h8 h9 h10 h11 h12 h13 h14), (h7, ce330 kc2 h8 h9 h10 h11 h12 h13 h14), (h8, ce38 (z.2.1 0) h15 h8), (h9, ce77 (z.2.1 0) h16 h9), (h10, ce115 (z.2.1 0) h17 h10), (h11, ce165 (z.2.1 0) h18 h11), (h12, ce224 (z.2.1 0) h19 h12), (h13, ce287 (z.2.1 0) h20 h13), (h14, ce364 (z.2.1 0) h21 h14), (h15, ce3 z.1), (h16, ce3 z.1), (h17, ce3 z.1), (h18, ce3 z.1), (h19, ce3 z.1), (h20, ce3 z.1), (h21, ce3 z.1)]) (tz := [(kc1, .object "java/lang/Object"), (kc0, .object "java/lang/Object"), (kc2, .object "java/lang/Object")]) hP hD hK [0, 1, 4, 5, 7, 8, 9, 10, 11, 12, 13, 14, 15, 16, 17, 18, 19, 20, 21] [1] rfl hk5 hF1 hB5.1 ht5 hvm5 rfl rfl
  have hG : s.heap.size + 0 ≤ H5.size := Nat.le_trans hG hz5
  refine lv_aload_n hx hb dX0_layOut_4 rfl (lv_at hl 0 rfl) ?_
  have hM9 := k674_countReaders l hl9 dC dI z h0 h1 h3 h5 h8 h9 h10 h11 h12 h13 h14 h2 h4 h15 h16 h17 h18 h19 h20 h21 H5.size kc0
  obtain ⟨hF7, hC10⟩ := pc_M hM9 hP hD hK hS hX hT hA [3, 4, 1, 6, 8, 9, 10, 11, 12, 13, 14] [1] rfl rfl rfl
  refine va_callv (va_runV (As := []) (rest := []) ⟨hx, hb, hml, hown, hts⟩ hM9 (cwV 0 hts (gV q_175 q_176 q_177 q_8 q_174) rfl rfl rfl hV_X0_countReaders ⟨Nat.le_of_ble_eq_true rfl, Nat.le_of_ble_eq_true rfl⟩) ⟨pc_blind, va_recv hK hP (ci := 2) (q := (RX0, TX0, 4)) (q0 := 3) rfl rfl, fun U hU hW => ⟨rfl, hC10 U hU hW⟩⟩ rfl rfl hl.1 rfl (lv_room (Nat.le_of_ble_eq_true rfl)) dX0_layOut_5 ⟨(Nat.le_of_ble_eq_true rfl), (Nat.le_of_ble_eq_true rfl)⟩) hS (fun q9 _ h9 => hF7 q9 h9) hF7 (fun u11 t11 H11 L11 ht11 hvm11 hw11 hB11 hz11 hk11 hS => ?_)
  have hP := pq_keep hP hD [3, 4, 1, 6, 8, 9, 10, 11, 12, 13, 14] rfl hk11 hB11.1 ht11
  have hG : s.heap.size + 0 ≤ H11.size := Nat.le_trans hG hz11
  refine lv_aload_n hx hb dX0_layOut_8 rfl (lv_at hl 0 rfl) ?_
  have hM15 := k691_reckonDelays l hl9 dC dI z h0 h4 h7 h8 h9 h10 h11 h12 h13 h14 h15 h16 h17 h18 h19 h20 h21 h1 h2 h3 H11.size kc2
  obtain ⟨hF13, hC16⟩ := pc_M hM15 hP hD hK hS hX hT hA [3, 5, 7, 8, 9, 10, 11, 12, 13, 14, 15, 16, 17, 18, 19, 20, 21] [2] rfl rfl rfl
  refine va_callv (va_runV (As := []) (rest := []) ⟨hx, hb, hml, hown, hts⟩ hM15 (cwV 0 hts (gV q_189 q_190 q_191 q_8 q_188) rfl rfl rfl hV_X0_reckonDelays ⟨Nat.le_of_ble_eq_true rfl, Nat.le_of_ble_eq_true rfl⟩) ⟨pc_blind, va_recv hK hP (ci := 2) (q := (RX0, TX0, 4)) (q0 := 3) rfl rfl, fun U hU hW => ⟨rfl, hC16 U hU hW⟩⟩ rfl rfl hl.1 rfl (lv_room (Nat.le_of_ble_eq_true rfl)) dX0_layOut_9 ⟨(Nat.le_of_ble_eq_true rfl), (Nat.le_of_ble_eq_true rfl)⟩) hS (fun q9 _ h9 => hF13 q9 h9) hF13 (fun u17 t17 H17 L17 ht17 hvm17 hw17 hB17 hz17 hk17 hS => ?_)
  have hP := pq_keep hP hD [3, 5, 7, 8, 9, 10, 11, 12, 13, 14, 15, 16, 17, 18, 19, 20, 21] rfl hk17 hB17.1 ht17
  have hG : s.heap.size + 0 ≤ H17.size := Nat.le_trans hG hz17
  refine lv_aload_n hx hb dX0_layOut_12 rfl (lv_at hl 0 rfl) ?_
  have hM21 := k692_findStandings l hl9 dC dI z h0 h1 h3 h5 h8 h9 h10 h11 h12 h13 h14 h2 h4 h15 h16 h17 h18 h19 h20 h21 H17.size kc0
  obtain ⟨hF19, hC22⟩ := pc_M hM21 hP hD hK hS hX hT hA [3, 4, 1, 6, 8, 9, 10, 11, 12, 13, 14] [1] rfl rfl rfl
  refine va_callv (va_runV (As := []) (rest := []) ⟨hx, hb, hml, hown, hts⟩ hM21 (cwV 0 hts (gV q_194 q_195 q_196 q_8 q_193) rfl rfl rfl hV_X0_findStandings ⟨Nat.le_of_ble_eq_true rfl, Nat.le_of_ble_eq_true rfl⟩) ⟨pc_blind, va_recv hK hP (ci := 2) (q := (RX0, TX0, 4)) (q0 := 3) rfl rfl, fun U hU hW => ⟨rfl, hC22 U hU hW⟩⟩ rfl rfl hl.1 rfl (lv_room (Nat.le_of_ble_eq_true rfl)) dX0_layOut_13 ⟨(Nat.le_of_ble_eq_true rfl), (Nat.le_of_ble_eq_true rfl)⟩) hS (fun q9 _ h9 => hF19 q9 h9) hF19 (fun u23 t23 H23 L23 ht23 hvm23 hw23 hB23 hz23 hk23 hS => ?_)
  have hP := pq_keep hP hD [3, 4, 1, 6, 8, 9, 10, 11, 12, 13, 14] rfl hk23 hB23.1 ht23
  have hG : s.heap.size + 0 ≤ H23.size := Nat.le_trans hG hz23
  refine lv_aload_n hx hb dX0_layOut_16 rfl (lv_at hl 0 rfl) ?_
  have hM27 := k693_findTaken l hl9 dC dI z h0 h1 h2 h5 h6 h8 h9 h10 h11 h12 h13 h14 h3 h4 h15 h16 h17 h18 h19 h20 h21 H23.size kc0 kc1
  obtain ⟨hF25, hC28⟩ := pc_M hM27 hP hD hK hS hX hT hA [3, 4, 0, 6, 2, 8, 9, 10, 11, 12, 13, 14] [1, 0] rfl rfl rfl
  refine va_callv (va_runV (As := []) (rest := []) ⟨hx, hb, hml, hown, hts⟩ hM27 (cwV 0 hts (gV q_200 q_201 q_202 q_8 q_199) rfl rfl rfl hV_X0_findTaken ⟨Nat.le_of_ble_eq_true rfl, Nat.le_of_ble_eq_true rfl⟩) ⟨pc_blind, va_recv hK hP (ci := 2) (q := (RX0, TX0, 4)) (q0 := 3) rfl rfl, fun U hU hW => ⟨rfl, hC28 U hU hW⟩⟩ rfl rfl hl.1 rfl (lv_room (Nat.le_of_ble_eq_true rfl)) dX0_layOut_17 ⟨(Nat.le_of_ble_eq_true rfl), (Nat.le_of_ble_eq_true rfl)⟩) hS (fun q9 _ h9 => hF25 q9 h9) hF25 (fun u29 t29 H29 L29 ht29 hvm29 hw29 hB29 hz29 hk29 hS => ?_)
  have hP := pq_keep hP hD [3, 4, 0, 6, 2, 8, 9, 10, 11, 12, 13, 14] rfl hk29 hB29.1 ht29
  have hG : s.heap.size + 0 ≤ H29.size := Nat.le_trans hG hz29
  exact W.vret hx hb hr (fun t9 ht9 hW9 => ⟨⟨(), rfl, trivial, ⟨pq_mk2 hP hD hK [3, 4, 0, 1, 5, 6, 2, 7, 8, 9, 10, 11, 12, 13, 14, 15, 16, 17, 18, 19, 20, 21] [1, 0, 2] rfl rfl rfl ht9 hW9, by rw [ht9]; exact Nat.le_trans (Nat.add_le_add_left (Nat.le_of_ble_eq_true rfl) _) hG⟩⟩, hS.F ht9⟩) hS.2.2 dX0_layOut_20

set_option maxHeartbeats 4000000 in
set_option maxRecDepth 100000 in
theorem k695_isSource (l : Launch) (hl9 : l.stackTraces = false) (dC : Nat → ClassId) (dI : Nat → Nat → Nat) (z : XZ) (h0 : Nat) (o0 : Nat) (sz : Nat) : Met l yX2_isSource (.code yX2_isSource cX2_isSource 1 (some .boolean) :: wsL_law) ({ frames := 0, cells := 0, slots := 0, locals := 0 }) (va_Pc [.ref h0] (PC (dC, dI) [(h0, ce364 (z.2.1 0) o0 h0)] [] sz z)) (va_Qi (fun (r : Int32) (_ : Unit) => r = 1) (fun (_ : Unit) (t : State) => PG (dC, dI) [(h0, ce364 (z.2.1 0) o0 h0)] [] (va_A [(h0, ce364 (z.2.1 0) o0 h0)] sz) sz 0 t) (va_A [(h0, ce364 (z.2.1 0) o0 h0)] sz)) 0 0 (va_A [(h0, ce364 (z.2.1 0) o0 h0)] sz) := by
  refine Met.ofW (cc := cX2_isSource) (maxL := 1) (ret := (some .boolean)) (by decide) rfl ?_
  intro p e s m args below meth c s₁ B hml hv
  obtain ⟨rfl, hsz, hP, hK, hD0, hX, hT⟩ := hv
  have hx := B.exec
  have hb := B.bytes
  have hr := B.returns
  have hts0 := atoms_spec (ws := .code yX2_isSource cX2_isSource 1 (some .boolean) :: wsL_law) B.pre
  have hts := xTail hts0
  have hown : s.vm.findClass RX2 = some m.cls := xown B.named rfl
  have hlocks := B.notSynchronized
  subst hsz
  have hD := hD0.self (sz := s.heap.size)
  generalize hAe : va_A [(h0, ce364 (z.2.1 0) o0 h0)] s.heap.size = A at hD hX ⊢
  have hA : ∀ q : Nat, s.heap.size ≤ q → A q := fun q h => by rw [← hAe]; exact Or.inr h
  have hS : va_S A s.heap s.heap [] := va_S.rf
  have hG : s.heap.size + 0 ≤ s.heap.size := Nat.le_refl _
  have hl := lv_entry ([.ref h0]) (n := 1) (Nat.le_of_ble_eq_true rfl)
  rw [lg_entry_eq]
  generalize (lg_sl ([.ref h0]) ++ List.replicate (1 - (lg_sl ([.ref h0])).length) Slot.unset).toArray = ls at hl ⊢
  have hl : lv_has ls 1 [(0, .ref h0)] := hl
  refine lv_aload_n hx hb dX2_isSource_0 rfl (lv_at hl 0 rfl) ?_
  refine va_get (D := (dC, dI)) (ci := 3) (v := .ref (z.2.1 0)) (C := RX2) (T := TX2) (N := 19) hx hb hts in_X2 hown hK hP 0 rfl rfl 1 (by decide) (hts _ q_98) (fun _ h9 => h9) rfl dX2_isSource_1 ?_
  refine va_gets (own := RX2) (ref := "Deltacycle$NetKind") hx hb (hX.2.1.1 0 (by decide)).1 hS hown (hts _ q_130) (fun _ h9 => h9) dX2_isSource_4 ?_
  refine lv_acmp_eq (rx := (some (z.2.1 0))) (ry := (some (z.2.1 0))) (tgt := 20) hx hb dX2_isSource_7 (by decide) (fun _ => ?_) (fun cz => absurd rfl cz)
  refine lv_iconst (v := 1) hx hb dX2_isSource_20 (by decide) ?_
  refine lv_goto (tgt := 25) hx hb dX2_isSource_21 (by decide) ?_
  exact W.zret (v := 1) (ty := .boolean) hx hb hr rfl (fun t9 ht9 hW9 => ⟨⟨1, (), rfl, rfl, ⟨pq_mk2 hP hD hK [0] [] rfl rfl rfl ht9 hW9, by rw [ht9]; exact Nat.le_trans (Nat.add_le_add_left (Nat.le_of_ble_eq_true rfl) _) hG⟩⟩, hS.F ht9⟩) hS.2.2 dX2_isSource_25

set_option maxHeartbeats 4000000 in
set_option maxRecDepth 100000 in
theorem k696_settle (l : Launch) (hl9 : l.stackTraces = false) (dC : Nat → ClassId) (dI : Nat → Nat → Nat) (z : XZ) (h0 h1 h2 h3 h4 h5 h6 h7 h8 h9 : Nat) (o0 o1 o2 o3 o4 o5 o6 o7 o8 o9 : Nat) (sz : Nat) (kc0 : ClassId) : Met l yX0_settle (.code yX0_settle cX0_settle 5 none :: wsL_law) ({ frames := 3, cells := 0, slots := 0, locals := 64 }) (va_Pc [.ref h0, .null, .int 120] (PC (dC, dI) [(h0, ce7 o0 o1 o2 h1), (h1, ce366 h2), (h2, ce330 kc0 h3 h4 h5 h6 h7 h8 h9), (h3, ce38 (z.2.1 0) o3 h3), (h4, ce77 (z.2.1 0) o4 h4), (h5, ce115 (z.2.1 0) o5 h5), (h6, ce165 (z.2.1 0) o6 h6), (h7, ce224 (z.2.1 0) o7 h7), (h8, ce287 (z.2.1 0) o8 h8), (h9, ce364 (z.2.1 0) o9 h9)] [(kc0, .object "java/lang/Object")] sz z)) (va_Qv (fun (_ : Unit) => True) (fun (_ : Unit) (t : State) => PG (dC, dI) [(h0, ce7 o0 o1 o2 h1), (h1, ce366 h2), (h2, ce330 kc0 h3 h4 h5 h6 h7 h8 h9), (h3, ce38 (z.2.1 0) o3 h3), (h4, ce77 (z.2.1 0) o4 h4), (h5, ce115 (z.2.1 0) o5 h5), (h6, ce165 (z.2.1 0) o6 h6), (h7, ce224 (z.2.1 0) o7 h7), (h8, ce287 (z.2.1 0) o8 h8), (h9, ce364 (z.2.1 0) o9 h9)] [(kc0, .object "java/lang/Object")] (va_A [(h0, ce7 o0 o1 o2 h1), (h1, ce366 h2), (h2, ce330 kc0 h3 h4 h5 h6 h7 h8 h9), (h3, ce38 (z.2.1 0) o3 h3), (h4, ce77 (z.2.1 0) o4 h4), (h5, ce115 (z.2.1 0) o5 h5), (h6, ce165 (z.2.1 0) o6 h6), (h7, ce224 (z.2.1 0) o7 h7), (h8, ce287 (z.2.1 0) o8 h8), (h9, ce364 (z.2.1 0) o9 h9)] sz) sz 0 t) (va_A [(h0, ce7 o0 o1 o2 h1), (h1, ce366 h2), (h2, ce330 kc0 h3 h4 h5 h6 h7 h8 h9), (h3, ce38 (z.2.1 0) o3 h3), (h4, ce77 (z.2.1 0) o4 h4), (h5, ce115 (z.2.1 0) o5 h5), (h6, ce165 (z.2.1 0) o6 h6), (h7, ce224 (z.2.1 0) o7 h7), (h8, ce287 (z.2.1 0) o8 h8), (h9, ce364 (z.2.1 0) o9 h9)] sz)) 0 0 (va_A [(h0, ce7 o0 o1 o2 h1), (h1, ce366 h2), (h2, ce330 kc0 h3 h4 h5 h6 h7 h8 h9), (h3, ce38 (z.2.1 0) o3 h3), (h4, ce77 (z.2.1 0) o4 h4), (h5, ce115 (z.2.1 0) o5 h5), (h6, ce165 (z.2.1 0) o6 h6), (h7, ce224 (z.2.1 0) o7 h7), (h8, ce287 (z.2.1 0) o8 h8), (h9, ce364 (z.2.1 0) o9 h9)] sz) := by
  refine Met.ofW (cc := cX0_settle) (maxL := 5) (ret := none) (by decide) rfl ?_
  intro p e s m args below meth c s₁ B hml hv
  obtain ⟨rfl, hsz, hP, hK, hD0, hX, hT⟩ := hv
  have hx := B.exec
  have hb := B.bytes
  have hr := B.returns
  have hts0 := atoms_spec (ws := .code yX0_settle cX0_settle 5 none :: wsL_law) B.pre
  have hts := xTail hts0
  have hown : s.vm.findClass RX0 = some m.cls := xown B.named rfl
  have hlocks := B.notSynchronized
  subst hsz
  have hD := hD0.self (sz := s.heap.size)
  generalize hAe : va_A [(h0, ce7 o0 o1 o2 h1), (h1, ce366 h2), (h2, ce330 kc0 h3 h4 h5 h6 h7 h8 h9), (h3, ce38 (z.2.1 0) o3 h3), (h4, ce77 (z.2.1 0) o4 h4), (h5, ce115 (z.2.1 0) o5 h5), (h6, ce165 (z.2.1 0) o6 h6), (h7, ce224 (z.2.1 0) o7 h7), (h8, ce287 (z.2.1 0) o8 h8), (h9, ce364 (z.2.1 0) o9 h9)] s.heap.size = A at hD hX ⊢
  have hA : ∀ q : Nat, s.heap.size ≤ q → A q := fun q h => by rw [← hAe]; exact Or.inr h
  have hS : va_S A s.heap s.heap [] := va_S.rf
  have hG : s.heap.size + 0 ≤ s.heap.size := Nat.le_refl _
  have hl := lv_entry ([.ref h0, .null, .int 120]) (n := 5) (Nat.le_of_ble_eq_true rfl)
  rw [lg_entry_eq]
  generalize (lg_sl ([.ref h0, .null, .int 120]) ++ List.replicate (5 - (lg_sl ([.ref h0, .null, .int 120])).length) Slot.unset).toArray = ls at hl ⊢
  have hl : lv_has ls 5 [(0, .ref h0), (1, .null), (2, .int 120)] := hl
  refine lv_iconst (v := 0) hx hb dX0_settle_0 (by decide) ?_
  refine lv_istore_n (lv' := [(3, .int 0), (0, .ref h0), (1, .null), (2, .int 120)]) hx hb dX0_settle_1 rfl hl (by decide) rfl (fun ls hl => ?_)
  refine lv_iload_n hx hb dX0_settle_2 rfl (lv_at hl 0 rfl) ?_
  refine lv_aload_n hx hb dX0_settle_3 rfl (lv_at hl 1 rfl) ?_
  refine va_get (D := (dC, dI)) (ci := 2) (v := .ref h1) (C := RX0) (T := TX0) (N := 4) hx hb hts in_X0 hown hK hP 0 rfl rfl 3 (by decide) (hts _ q_31) (fun _ h9 => h9) rfl dX0_settle_4 ?_
  have hM3 := k20_size l hl9 dC dI z h1 h2 s.heap.size 35 7
  obtain ⟨hF1, hC4⟩ := pc_M hM3 hP hD hK hS hX hT hA [1] [] rfl rfl rfl
  refine va_calli (va_runV (As := []) (rest := [.int 0]) ⟨hx, hb, hml, hown, hts⟩ hM3 (cwV 0 hts (gV q_92 q_77 q_78 q_12 q_75) rfl rfl rfl hV_Jx4a65c_size_8abf5 ⟨Nat.le_of_ble_eq_true rfl, Nat.le_of_ble_eq_true rfl⟩) ⟨pc_blind, va_recv hK hP (ci := 0) (q := (RJx4a65c, TJx4a65c, 3)) (q0 := 1) rfl rfl, fun U hU hW => ⟨rfl, hC4 U hU hW⟩⟩ rfl rfl hl.1 rfl (lv_room (Nat.le_of_ble_eq_true rfl)) dX0_settle_7 ⟨(Nat.le_of_ble_eq_true rfl), (Nat.le_of_ble_eq_true rfl)⟩) hS (fun q9 _ h9 => hF1 q9 h9) hF1 (fun r6 u5 t5 H5 L5 ht5 hvm5 hw5 hB5 hz5 hk5 hS => ?_)
  have hP := pq_keep hP hD [1] rfl hk5 hB5.1 ht5
  have hG : s.heap.size + 0 ≤ H5.size := Nat.le_trans hG hz5
  refine W.eq (g2 := F0 m 10 ls [.int 7, .int 0]) (by rw [hw5]) ?_
  refine lv_icmp_ge (tgt := 65) hx hb dX0_settle_10 (by decide) (fun cz => absurd cz (by decide)) (fun _ => ?_)
  refine lv_aload_n hx hb dX0_settle_13 rfl (lv_at hl 1 rfl) ?_
  refine va_get (D := (dC, dI)) (ci := 2) (v := .ref h1) (C := RX0) (T := TX0) (N := 4) hx hb hts in_X0 hown hK hP 0 rfl rfl 3 (by decide) (hts _ q_31) (fun _ h9 => h9) rfl dX0_settle_14 ?_
  refine lv_iload_n hx hb dX0_settle_17 rfl (lv_at hl 0 rfl) ?_
  have hM9 := k676_get l hl9 dC dI z h1 h2 h3 h4 h5 h6 h7 h8 h9 H5.size kc0
  obtain ⟨hF7, hC10⟩ := pc_M hM9 hP hD hK hS hX hT hA [1, 2] [0] rfl rfl rfl
  refine va_callr (va_runV (As := [.int 0]) (rest := []) ⟨hx, hb, hml, hown, hts⟩ hM9 (cwV 1 hts (gV q_156 q_157 q_158 q_12 q_155) rfl rfl rfl hV_Jx4a65c_get_915e3 ⟨Nat.le_of_ble_eq_true rfl, Nat.le_of_ble_eq_true rfl⟩) ⟨pc_blind, va_recv hK hP (ci := 0) (q := (RJx4a65c, TJx4a65c, 3)) (q0 := 1) rfl rfl, fun U hU hW => ⟨rfl, hC10 U hU hW⟩⟩ rfl rfl hl.1 rfl (lv_room (Nat.le_of_ble_eq_true rfl)) dX0_settle_18 ⟨(Nat.le_of_ble_eq_true rfl), (Nat.le_of_ble_eq_true rfl)⟩) hS (fun q9 _ h9 => hF7 q9 h9) hF7 (fun u11 r12 t11 H11 L11 ht11 hvm11 hw11 hB11 hz11 hk11 hS => ?_)
  obtain ⟨hr11, hB11⟩ := hB11
  have hP := pq_keep hP hD [1, 2] rfl hk11 hB11.1 ht11
  have hG : s.heap.size + 0 ≤ H11.size := Nat.le_trans hG hz11
  refine W.eq (g2 := F0 m 21 ls [.ref h3]) (by rw [hr11]) ?_
  refine va_castE (nm := RX2) hx hb hown (hts _ q_89) (va_recv hK hP (ci := 3) (q := (RX2, TX2, 19)) (q0 := 3) rfl rfl) dX0_settle_21 ?_
  refine lv_astore (lv' := [(4, .ref h3), (3, .int 0), (0, .ref h0), (1, .null), (2, .int 120)]) hx hb dX0_settle_24 hl (by decide) rfl (fun ls hl => ?_)
  refine lv_aload hx hb dX0_settle_26 (lv_at hl 0 rfl) ?_
  refine lv_aload_nN hx hb dX0_settle_28 rfl (lv_at hl 3 rfl) ?_
  refine lv_acmp_ne (rx := (some h3)) (ry := none) (tgt := 41) hx hb dX0_settle_29 (by decide) (fun _ => ?_) (fun cz => absurd cz (by simp))
  refine lv_aload hx hb dX0_settle_41 (lv_at hl 0 rfl) ?_
  have hM15 := k41_isSource l hl9 dC dI z h3 o3 H11.size
  obtain ⟨hF13, hC16⟩ := pc_M hM15 hP hD hK hS hX hT hA [3] [] rfl rfl rfl
  refine va_calli (va_runV (As := []) (rest := []) ⟨hx, hb, hml, hown, hts⟩ hM15 (cwV 0 hts (gV q_132 q_133 q_134 q_91 q_131) rfl rfl rfl hV_X2_isSource ⟨Nat.le_of_ble_eq_true rfl, Nat.le_of_ble_eq_true rfl⟩) ⟨pc_blind, va_recv hK hP (ci := 3) (q := (RX2, TX2, 19)) (q0 := 3) rfl rfl, fun U hU hW => ⟨rfl, hC16 U hU hW⟩⟩ rfl rfl hl.1 rfl (lv_room (Nat.le_of_ble_eq_true rfl)) dX0_settle_43 ⟨(Nat.le_of_ble_eq_true rfl), (Nat.le_of_ble_eq_true rfl)⟩) hS (fun q9 _ h9 => hF13 q9 h9) hF13 (fun r18 u17 t17 H17 L17 ht17 hvm17 hw17 hB17 hz17 hk17 hS => ?_)
  have hP := pq_keep hP hD [3] rfl hk17 hB17.1 ht17
  have hG : s.heap.size + 0 ≤ H17.size := Nat.le_trans hG hz17
  refine W.eq (g2 := F0 m 46 ls [.int 1]) (by rw [hw17]) ?_
  refine lv_if_ne (tgt := 59) hx hb dX0_settle_46 (by decide) (fun _ => ?_) (fun cz => absurd cz (by decide))
  refine lv_iinc (v := 1) (lv' := [(3, .int 1), (4, .ref h3), (0, .ref h0), (1, .null), (2, .int 120)]) hx hb dX0_settle_59 hl (k := 1) rfl (by decide) (by decide) rfl (fun ls hl => ?_)
  refine lv_goto (tgt := 2) hx hb dX0_settle_62 (by decide) ?_
  refine lv_iload_n hx hb dX0_settle_2 rfl (lv_at hl 0 rfl) ?_
  refine lv_aload_n hx hb dX0_settle_3 rfl (lv_at hl 2 rfl) ?_
  refine va_get (D := (dC, dI)) (ci := 2) (v := .ref h1) (C := RX0) (T := TX0) (N := 4) hx hb hts in_X0 hown hK hP 0 rfl rfl 3 (by decide) (hts _ q_31) (fun _ h9 => h9) rfl dX0_settle_4 ?_
  have hM21 := k20_size l hl9 dC dI z h1 h2 H17.size 35 7
  obtain ⟨hF19, hC22⟩ := pc_M hM21 hP hD hK hS hX hT hA [1] [] rfl rfl rfl
  refine va_calli (va_runV (As := []) (rest := [.int 1]) ⟨hx, hb, hml, hown, hts⟩ hM21 (cwV 0 hts (gV q_92 q_77 q_78 q_12 q_75) rfl rfl rfl hV_Jx4a65c_size_8abf5 ⟨Nat.le_of_ble_eq_true rfl, Nat.le_of_ble_eq_true rfl⟩) ⟨pc_blind, va_recv hK hP (ci := 0) (q := (RJx4a65c, TJx4a65c, 3)) (q0 := 1) rfl rfl, fun U hU hW => ⟨rfl, hC22 U hU hW⟩⟩ rfl rfl hl.1 rfl (lv_room (Nat.le_of_ble_eq_true rfl)) dX0_settle_7 ⟨(Nat.le_of_ble_eq_true rfl), (Nat.le_of_ble_eq_true rfl)⟩) hS (fun q9 _ h9 => hF19 q9 h9) hF19 (fun r24 u23 t23 H23 L23 ht23 hvm23 hw23 hB23 hz23 hk23 hS => ?_)
  have hP := pq_keep hP hD [1] rfl hk23 hB23.1 ht23
  have hG : s.heap.size + 0 ≤ H23.size := Nat.le_trans hG hz23
  refine W.eq (g2 := F0 m 10 ls [.int 7, .int 1]) (by rw [hw23]) ?_
  refine lv_icmp_ge (tgt := 65) hx hb dX0_settle_10 (by decide) (fun cz => absurd cz (by decide)) (fun _ => ?_)
  refine lv_aload_n hx hb dX0_settle_13 rfl (lv_at hl 2 rfl) ?_
  refine va_get (D := (dC, dI)) (ci := 2) (v := .ref h1) (C := RX0) (T := TX0) (N := 4) hx hb hts in_X0 hown hK hP 0 rfl rfl 3 (by decide) (hts _ q_31) (fun _ h9 => h9) rfl dX0_settle_14 ?_
  refine lv_iload_n hx hb dX0_settle_17 rfl (lv_at hl 0 rfl) ?_
  have hM27 := k678_get l hl9 dC dI z h1 h2 h3 h4 h5 h6 h7 h8 h9 H23.size kc0
  obtain ⟨hF25, hC28⟩ := pc_M hM27 hP hD hK hS hX hT hA [1, 2] [0] rfl rfl rfl
  refine va_callr (va_runV (As := [.int 1]) (rest := []) ⟨hx, hb, hml, hown, hts⟩ hM27 (cwV 1 hts (gV q_156 q_157 q_158 q_12 q_155) rfl rfl rfl hV_Jx4a65c_get_915e3 ⟨Nat.le_of_ble_eq_true rfl, Nat.le_of_ble_eq_true rfl⟩) ⟨pc_blind, va_recv hK hP (ci := 0) (q := (RJx4a65c, TJx4a65c, 3)) (q0 := 1) rfl rfl, fun U hU hW => ⟨rfl, hC28 U hU hW⟩⟩ rfl rfl hl.1 rfl (lv_room (Nat.le_of_ble_eq_true rfl)) dX0_settle_18 ⟨(Nat.le_of_ble_eq_true rfl), (Nat.le_of_ble_eq_true rfl)⟩) hS (fun q9 _ h9 => hF25 q9 h9) hF25 (fun u29 r30 t29 H29 L29 ht29 hvm29 hw29 hB29 hz29 hk29 hS => ?_)
  obtain ⟨hr29, hB29⟩ := hB29
  have hP := pq_keep hP hD [1, 2] rfl hk29 hB29.1 ht29
  have hG : s.heap.size + 0 ≤ H29.size := Nat.le_trans hG hz29
  refine W.eq (g2 := F0 m 21 ls [.ref h4]) (by rw [hr29]) ?_
  refine va_castE (nm := RX2) hx hb hown (hts _ q_89) (va_recv hK hP (ci := 3) (q := (RX2, TX2, 19)) (q0 := 4) rfl rfl) dX0_settle_21 ?_
  refine lv_astore (lv' := [(4, .ref h4), (3, .int 1), (0, .ref h0), (1, .null), (2, .int 120)]) hx hb dX0_settle_24 hl (by decide) rfl (fun ls hl => ?_)
  refine lv_aload hx hb dX0_settle_26 (lv_at hl 0 rfl) ?_
  refine lv_aload_nN hx hb dX0_settle_28 rfl (lv_at hl 3 rfl) ?_
  refine lv_acmp_ne (rx := (some h4)) (ry := none) (tgt := 41) hx hb dX0_settle_29 (by decide) (fun _ => ?_) (fun cz => absurd cz (by simp))
  refine lv_aload hx hb dX0_settle_41 (lv_at hl 0 rfl) ?_
  have hM33 := k114_isSource l hl9 dC dI z h4 o4 H29.size
  obtain ⟨hF31, hC34⟩ := pc_M hM33 hP hD hK hS hX hT hA [4] [] rfl rfl rfl
  refine va_calli (va_runV (As := []) (rest := []) ⟨hx, hb, hml, hown, hts⟩ hM33 (cwV 0 hts (gV q_132 q_133 q_134 q_91 q_131) rfl rfl rfl hV_X2_isSource ⟨Nat.le_of_ble_eq_true rfl, Nat.le_of_ble_eq_true rfl⟩) ⟨pc_blind, va_recv hK hP (ci := 3) (q := (RX2, TX2, 19)) (q0 := 4) rfl rfl, fun U hU hW => ⟨rfl, hC34 U hU hW⟩⟩ rfl rfl hl.1 rfl (lv_room (Nat.le_of_ble_eq_true rfl)) dX0_settle_43 ⟨(Nat.le_of_ble_eq_true rfl), (Nat.le_of_ble_eq_true rfl)⟩) hS (fun q9 _ h9 => hF31 q9 h9) hF31 (fun r36 u35 t35 H35 L35 ht35 hvm35 hw35 hB35 hz35 hk35 hS => ?_)
  have hP := pq_keep hP hD [4] rfl hk35 hB35.1 ht35
  have hG : s.heap.size + 0 ≤ H35.size := Nat.le_trans hG hz35
  refine W.eq (g2 := F0 m 46 ls [.int 1]) (by rw [hw35]) ?_
  refine lv_if_ne (tgt := 59) hx hb dX0_settle_46 (by decide) (fun _ => ?_) (fun cz => absurd cz (by decide))
  refine lv_iinc (v := 2) (lv' := [(3, .int 2), (4, .ref h4), (0, .ref h0), (1, .null), (2, .int 120)]) hx hb dX0_settle_59 hl (k := 1) rfl (by decide) (by decide) rfl (fun ls hl => ?_)
  refine lv_goto (tgt := 2) hx hb dX0_settle_62 (by decide) ?_
  refine lv_iload_n hx hb dX0_settle_2 rfl (lv_at hl 0 rfl) ?_
  refine lv_aload_n hx hb dX0_settle_3 rfl (lv_at hl 2 rfl) ?_
  refine va_get (D := (dC, dI)) (ci := 2) (v := .ref h1) (C := RX0) (T := TX0) (N := 4) hx hb hts in_X0 hown hK hP 0 rfl rfl 3 (by decide) (hts _ q_31) (fun _ h9 => h9) rfl dX0_settle_4 ?_
  have hM39 := k20_size l hl9 dC dI z h1 h2 H35.size 35 7
  obtain ⟨hF37, hC40⟩ := pc_M hM39 hP hD hK hS hX hT hA [1] [] rfl rfl rfl
  refine va_calli (va_runV (As := []) (rest := [.int 2]) ⟨hx, hb, hml, hown, hts⟩ hM39 (cwV 0 hts (gV q_92 q_77 q_78 q_12 q_75) rfl rfl rfl hV_Jx4a65c_size_8abf5 ⟨Nat.le_of_ble_eq_true rfl, Nat.le_of_ble_eq_true rfl⟩) ⟨pc_blind, va_recv hK hP (ci := 0) (q := (RJx4a65c, TJx4a65c, 3)) (q0 := 1) rfl rfl, fun U hU hW => ⟨rfl, hC40 U hU hW⟩⟩ rfl rfl hl.1 rfl (lv_room (Nat.le_of_ble_eq_true rfl)) dX0_settle_7 ⟨(Nat.le_of_ble_eq_true rfl), (Nat.le_of_ble_eq_true rfl)⟩) hS (fun q9 _ h9 => hF37 q9 h9) hF37 (fun r42 u41 t41 H41 L41 ht41 hvm41 hw41 hB41 hz41 hk41 hS => ?_)
  have hP := pq_keep hP hD [1] rfl hk41 hB41.1 ht41
  have hG : s.heap.size + 0 ≤ H41.size := Nat.le_trans hG hz41
  refine W.eq (g2 := F0 m 10 ls [.int 7, .int 2]) (by rw [hw41]) ?_
  refine lv_icmp_ge (tgt := 65) hx hb dX0_settle_10 (by decide) (fun cz => absurd cz (by decide)) (fun _ => ?_)
  refine lv_aload_n hx hb dX0_settle_13 rfl (lv_at hl 2 rfl) ?_
  refine va_get (D := (dC, dI)) (ci := 2) (v := .ref h1) (C := RX0) (T := TX0) (N := 4) hx hb hts in_X0 hown hK hP 0 rfl rfl 3 (by decide) (hts _ q_31) (fun _ h9 => h9) rfl dX0_settle_14 ?_
  refine lv_iload_n hx hb dX0_settle_17 rfl (lv_at hl 0 rfl) ?_
  have hM45 := k680_get l hl9 dC dI z h1 h2 h3 h4 h5 h6 h7 h8 h9 H41.size kc0
  obtain ⟨hF43, hC46⟩ := pc_M hM45 hP hD hK hS hX hT hA [1, 2] [0] rfl rfl rfl
  refine va_callr (va_runV (As := [.int 2]) (rest := []) ⟨hx, hb, hml, hown, hts⟩ hM45 (cwV 1 hts (gV q_156 q_157 q_158 q_12 q_155) rfl rfl rfl hV_Jx4a65c_get_915e3 ⟨Nat.le_of_ble_eq_true rfl, Nat.le_of_ble_eq_true rfl⟩) ⟨pc_blind, va_recv hK hP (ci := 0) (q := (RJx4a65c, TJx4a65c, 3)) (q0 := 1) rfl rfl, fun U hU hW => ⟨rfl, hC46 U hU hW⟩⟩ rfl rfl hl.1 rfl (lv_room (Nat.le_of_ble_eq_true rfl)) dX0_settle_18 ⟨(Nat.le_of_ble_eq_true rfl), (Nat.le_of_ble_eq_true rfl)⟩) hS (fun q9 _ h9 => hF43 q9 h9) hF43 (fun u47 r48 t47 H47 L47 ht47 hvm47 hw47 hB47 hz47 hk47 hS => ?_)
  obtain ⟨hr47, hB47⟩ := hB47
  have hP := pq_keep hP hD [1, 2] rfl hk47 hB47.1 ht47
  have hG : s.heap.size + 0 ≤ H47.size := Nat.le_trans hG hz47
  refine W.eq (g2 := F0 m 21 ls [.ref h5]) (by rw [hr47]) ?_
  refine va_castE (nm := RX2) hx hb hown (hts _ q_89) (va_recv hK hP (ci := 3) (q := (RX2, TX2, 19)) (q0 := 5) rfl rfl) dX0_settle_21 ?_
  refine lv_astore (lv' := [(4, .ref h5), (3, .int 2), (0, .ref h0), (1, .null), (2, .int 120)]) hx hb dX0_settle_24 hl (by decide) rfl (fun ls hl => ?_)
  refine lv_aload hx hb dX0_settle_26 (lv_at hl 0 rfl) ?_
  refine lv_aload_nN hx hb dX0_settle_28 rfl (lv_at hl 3 rfl) ?_
  refine lv_acmp_ne (rx := (some h5)) (ry := none) (tgt := 41) hx hb dX0_settle_29 (by decide) (fun _ => ?_) (fun cz => absurd cz (by simp))
  refine lv_aload hx hb dX0_settle_41 (lv_at hl 0 rfl) ?_
  have hM51 := k199_isSource l hl9 dC dI z h5 o5 H47.size
  obtain ⟨hF49, hC52⟩ := pc_M hM51 hP hD hK hS hX hT hA [5] [] rfl rfl rfl
  refine va_calli (va_runV (As := []) (rest := []) ⟨hx, hb, hml, hown, hts⟩ hM51 (cwV 0 hts (gV q_132 q_133 q_134 q_91 q_131) rfl rfl rfl hV_X2_isSource ⟨Nat.le_of_ble_eq_true rfl, Nat.le_of_ble_eq_true rfl⟩) ⟨pc_blind, va_recv hK hP (ci := 3) (q := (RX2, TX2, 19)) (q0 := 5) rfl rfl, fun U hU hW => ⟨rfl, hC52 U hU hW⟩⟩ rfl rfl hl.1 rfl (lv_room (Nat.le_of_ble_eq_true rfl)) dX0_settle_43 ⟨(Nat.le_of_ble_eq_true rfl), (Nat.le_of_ble_eq_true rfl)⟩) hS (fun q9 _ h9 => hF49 q9 h9) hF49 (fun r54 u53 t53 H53 L53 ht53 hvm53 hw53 hB53 hz53 hk53 hS => ?_)
  have hP := pq_keep hP hD [5] rfl hk53 hB53.1 ht53
  have hG : s.heap.size + 0 ≤ H53.size := Nat.le_trans hG hz53
  refine W.eq (g2 := F0 m 46 ls [.int 1]) (by rw [hw53]) ?_
  refine lv_if_ne (tgt := 59) hx hb dX0_settle_46 (by decide) (fun _ => ?_) (fun cz => absurd cz (by decide))
  refine lv_iinc (v := 3) (lv' := [(3, .int 3), (4, .ref h5), (0, .ref h0), (1, .null), (2, .int 120)]) hx hb dX0_settle_59 hl (k := 1) rfl (by decide) (by decide) rfl (fun ls hl => ?_)
  refine lv_goto (tgt := 2) hx hb dX0_settle_62 (by decide) ?_
  refine lv_iload_n hx hb dX0_settle_2 rfl (lv_at hl 0 rfl) ?_
  refine lv_aload_n hx hb dX0_settle_3 rfl (lv_at hl 2 rfl) ?_
  refine va_get (D := (dC, dI)) (ci := 2) (v := .ref h1) (C := RX0) (T := TX0) (N := 4) hx hb hts in_X0 hown hK hP 0 rfl rfl 3 (by decide) (hts _ q_31) (fun _ h9 => h9) rfl dX0_settle_4 ?_
  have hM57 := k20_size l hl9 dC dI z h1 h2 H53.size 35 7
  obtain ⟨hF55, hC58⟩ := pc_M hM57 hP hD hK hS hX hT hA [1] [] rfl rfl rfl
  refine va_calli (va_runV (As := []) (rest := [.int 3]) ⟨hx, hb, hml, hown, hts⟩ hM57 (cwV 0 hts (gV q_92 q_77 q_78 q_12 q_75) rfl rfl rfl hV_Jx4a65c_size_8abf5 ⟨Nat.le_of_ble_eq_true rfl, Nat.le_of_ble_eq_true rfl⟩) ⟨pc_blind, va_recv hK hP (ci := 0) (q := (RJx4a65c, TJx4a65c, 3)) (q0 := 1) rfl rfl, fun U hU hW => ⟨rfl, hC58 U hU hW⟩⟩ rfl rfl hl.1 rfl (lv_room (Nat.le_of_ble_eq_true rfl)) dX0_settle_7 ⟨(Nat.le_of_ble_eq_true rfl), (Nat.le_of_ble_eq_true rfl)⟩) hS (fun q9 _ h9 => hF55 q9 h9) hF55 (fun r60 u59 t59 H59 L59 ht59 hvm59 hw59 hB59 hz59 hk59 hS => ?_)
  have hP := pq_keep hP hD [1] rfl hk59 hB59.1 ht59
  have hG : s.heap.size + 0 ≤ H59.size := Nat.le_trans hG hz59
  refine W.eq (g2 := F0 m 10 ls [.int 7, .int 3]) (by rw [hw59]) ?_
  refine lv_icmp_ge (tgt := 65) hx hb dX0_settle_10 (by decide) (fun cz => absurd cz (by decide)) (fun _ => ?_)
  refine lv_aload_n hx hb dX0_settle_13 rfl (lv_at hl 2 rfl) ?_
  refine va_get (D := (dC, dI)) (ci := 2) (v := .ref h1) (C := RX0) (T := TX0) (N := 4) hx hb hts in_X0 hown hK hP 0 rfl rfl 3 (by decide) (hts _ q_31) (fun _ h9 => h9) rfl dX0_settle_14 ?_
  refine lv_iload_n hx hb dX0_settle_17 rfl (lv_at hl 0 rfl) ?_
  have hM63 := k682_get l hl9 dC dI z h1 h2 h3 h4 h5 h6 h7 h8 h9 H59.size kc0
  obtain ⟨hF61, hC64⟩ := pc_M hM63 hP hD hK hS hX hT hA [1, 2] [0] rfl rfl rfl
  refine va_callr (va_runV (As := [.int 3]) (rest := []) ⟨hx, hb, hml, hown, hts⟩ hM63 (cwV 1 hts (gV q_156 q_157 q_158 q_12 q_155) rfl rfl rfl hV_Jx4a65c_get_915e3 ⟨Nat.le_of_ble_eq_true rfl, Nat.le_of_ble_eq_true rfl⟩) ⟨pc_blind, va_recv hK hP (ci := 0) (q := (RJx4a65c, TJx4a65c, 3)) (q0 := 1) rfl rfl, fun U hU hW => ⟨rfl, hC64 U hU hW⟩⟩ rfl rfl hl.1 rfl (lv_room (Nat.le_of_ble_eq_true rfl)) dX0_settle_18 ⟨(Nat.le_of_ble_eq_true rfl), (Nat.le_of_ble_eq_true rfl)⟩) hS (fun q9 _ h9 => hF61 q9 h9) hF61 (fun u65 r66 t65 H65 L65 ht65 hvm65 hw65 hB65 hz65 hk65 hS => ?_)
  obtain ⟨hr65, hB65⟩ := hB65
  have hP := pq_keep hP hD [1, 2] rfl hk65 hB65.1 ht65
  have hG : s.heap.size + 0 ≤ H65.size := Nat.le_trans hG hz65
  refine W.eq (g2 := F0 m 21 ls [.ref h6]) (by rw [hr65]) ?_
  refine va_castE (nm := RX2) hx hb hown (hts _ q_89) (va_recv hK hP (ci := 3) (q := (RX2, TX2, 19)) (q0 := 6) rfl rfl) dX0_settle_21 ?_
  refine lv_astore (lv' := [(4, .ref h6), (3, .int 3), (0, .ref h0), (1, .null), (2, .int 120)]) hx hb dX0_settle_24 hl (by decide) rfl (fun ls hl => ?_)
  refine lv_aload hx hb dX0_settle_26 (lv_at hl 0 rfl) ?_
  refine lv_aload_nN hx hb dX0_settle_28 rfl (lv_at hl 3 rfl) ?_
  refine lv_acmp_ne (rx := (some h6)) (ry := none) (tgt := 41) hx hb dX0_settle_29 (by decide) (fun _ => ?_) (fun cz => absurd cz (by simp))
  refine lv_aload hx hb dX0_settle_41 (lv_at hl 0 rfl) ?_
  have hM69 := k299_isSource l hl9 dC dI z h6 o6 H65.size
  obtain ⟨hF67, hC70⟩ := pc_M hM69 hP hD hK hS hX hT hA [6] [] rfl rfl rfl
  refine va_calli (va_runV (As := []) (rest := []) ⟨hx, hb, hml, hown, hts⟩ hM69 (cwV 0 hts (gV q_132 q_133 q_134 q_91 q_131) rfl rfl rfl hV_X2_isSource ⟨Nat.le_of_ble_eq_true rfl, Nat.le_of_ble_eq_true rfl⟩) ⟨pc_blind, va_recv hK hP (ci := 3) (q := (RX2, TX2, 19)) (q0 := 6) rfl rfl, fun U hU hW => ⟨rfl, hC70 U hU hW⟩⟩ rfl rfl hl.1 rfl (lv_room (Nat.le_of_ble_eq_true rfl)) dX0_settle_43 ⟨(Nat.le_of_ble_eq_true rfl), (Nat.le_of_ble_eq_true rfl)⟩) hS (fun q9 _ h9 => hF67 q9 h9) hF67 (fun r72 u71 t71 H71 L71 ht71 hvm71 hw71 hB71 hz71 hk71 hS => ?_)
  have hP := pq_keep hP hD [6] rfl hk71 hB71.1 ht71
  have hG : s.heap.size + 0 ≤ H71.size := Nat.le_trans hG hz71
  refine W.eq (g2 := F0 m 46 ls [.int 1]) (by rw [hw71]) ?_
  refine lv_if_ne (tgt := 59) hx hb dX0_settle_46 (by decide) (fun _ => ?_) (fun cz => absurd cz (by decide))
  refine lv_iinc (v := 4) (lv' := [(3, .int 4), (4, .ref h6), (0, .ref h0), (1, .null), (2, .int 120)]) hx hb dX0_settle_59 hl (k := 1) rfl (by decide) (by decide) rfl (fun ls hl => ?_)
  refine lv_goto (tgt := 2) hx hb dX0_settle_62 (by decide) ?_
  refine lv_iload_n hx hb dX0_settle_2 rfl (lv_at hl 0 rfl) ?_
  refine lv_aload_n hx hb dX0_settle_3 rfl (lv_at hl 2 rfl) ?_
  refine va_get (D := (dC, dI)) (ci := 2) (v := .ref h1) (C := RX0) (T := TX0) (N := 4) hx hb hts in_X0 hown hK hP 0 rfl rfl 3 (by decide) (hts _ q_31) (fun _ h9 => h9) rfl dX0_settle_4 ?_
  have hM75 := k20_size l hl9 dC dI z h1 h2 H71.size 35 7
  obtain ⟨hF73, hC76⟩ := pc_M hM75 hP hD hK hS hX hT hA [1] [] rfl rfl rfl
  refine va_calli (va_runV (As := []) (rest := [.int 4]) ⟨hx, hb, hml, hown, hts⟩ hM75 (cwV 0 hts (gV q_92 q_77 q_78 q_12 q_75) rfl rfl rfl hV_Jx4a65c_size_8abf5 ⟨Nat.le_of_ble_eq_true rfl, Nat.le_of_ble_eq_true rfl⟩) ⟨pc_blind, va_recv hK hP (ci := 0) (q := (RJx4a65c, TJx4a65c, 3)) (q0 := 1) rfl rfl, fun U hU hW => ⟨rfl, hC76 U hU hW⟩⟩ rfl rfl hl.1 rfl (lv_room (Nat.le_of_ble_eq_true rfl)) dX0_settle_7 ⟨(Nat.le_of_ble_eq_true rfl), (Nat.le_of_ble_eq_true rfl)⟩) hS (fun q9 _ h9 => hF73 q9 h9) hF73 (fun r78 u77 t77 H77 L77 ht77 hvm77 hw77 hB77 hz77 hk77 hS => ?_)
  have hP := pq_keep hP hD [1] rfl hk77 hB77.1 ht77
  have hG : s.heap.size + 0 ≤ H77.size := Nat.le_trans hG hz77
  refine W.eq (g2 := F0 m 10 ls [.int 7, .int 4]) (by rw [hw77]) ?_
  refine lv_icmp_ge (tgt := 65) hx hb dX0_settle_10 (by decide) (fun cz => absurd cz (by decide)) (fun _ => ?_)
  refine lv_aload_n hx hb dX0_settle_13 rfl (lv_at hl 2 rfl) ?_
  refine va_get (D := (dC, dI)) (ci := 2) (v := .ref h1) (C := RX0) (T := TX0) (N := 4) hx hb hts in_X0 hown hK hP 0 rfl rfl 3 (by decide) (hts _ q_31) (fun _ h9 => h9) rfl dX0_settle_14 ?_
  refine lv_iload_n hx hb dX0_settle_17 rfl (lv_at hl 0 rfl) ?_
  have hM81 := k684_get l hl9 dC dI z h1 h2 h3 h4 h5 h6 h7 h8 h9 H77.size kc0
  obtain ⟨hF79, hC82⟩ := pc_M hM81 hP hD hK hS hX hT hA [1, 2] [0] rfl rfl rfl
  refine va_callr (va_runV (As := [.int 4]) (rest := []) ⟨hx, hb, hml, hown, hts⟩ hM81 (cwV 1 hts (gV q_156 q_157 q_158 q_12 q_155) rfl rfl rfl hV_Jx4a65c_get_915e3 ⟨Nat.le_of_ble_eq_true rfl, Nat.le_of_ble_eq_true rfl⟩) ⟨pc_blind, va_recv hK hP (ci := 0) (q := (RJx4a65c, TJx4a65c, 3)) (q0 := 1) rfl rfl, fun U hU hW => ⟨rfl, hC82 U hU hW⟩⟩ rfl rfl hl.1 rfl (lv_room (Nat.le_of_ble_eq_true rfl)) dX0_settle_18 ⟨(Nat.le_of_ble_eq_true rfl), (Nat.le_of_ble_eq_true rfl)⟩) hS (fun q9 _ h9 => hF79 q9 h9) hF79 (fun u83 r84 t83 H83 L83 ht83 hvm83 hw83 hB83 hz83 hk83 hS => ?_)
  obtain ⟨hr83, hB83⟩ := hB83
  have hP := pq_keep hP hD [1, 2] rfl hk83 hB83.1 ht83
  have hG : s.heap.size + 0 ≤ H83.size := Nat.le_trans hG hz83
  refine W.eq (g2 := F0 m 21 ls [.ref h7]) (by rw [hr83]) ?_
  refine va_castE (nm := RX2) hx hb hown (hts _ q_89) (va_recv hK hP (ci := 3) (q := (RX2, TX2, 19)) (q0 := 7) rfl rfl) dX0_settle_21 ?_
  refine lv_astore (lv' := [(4, .ref h7), (3, .int 4), (0, .ref h0), (1, .null), (2, .int 120)]) hx hb dX0_settle_24 hl (by decide) rfl (fun ls hl => ?_)
  refine lv_aload hx hb dX0_settle_26 (lv_at hl 0 rfl) ?_
  refine lv_aload_nN hx hb dX0_settle_28 rfl (lv_at hl 3 rfl) ?_
  refine lv_acmp_ne (rx := (some h7)) (ry := none) (tgt := 41) hx hb dX0_settle_29 (by decide) (fun _ => ?_) (fun cz => absurd cz (by simp))
  refine lv_aload hx hb dX0_settle_41 (lv_at hl 0 rfl) ?_
  have hM87 := k415_isSource l hl9 dC dI z h7 o7 H83.size
  obtain ⟨hF85, hC88⟩ := pc_M hM87 hP hD hK hS hX hT hA [7] [] rfl rfl rfl
  refine va_calli (va_runV (As := []) (rest := []) ⟨hx, hb, hml, hown, hts⟩ hM87 (cwV 0 hts (gV q_132 q_133 q_134 q_91 q_131) rfl rfl rfl hV_X2_isSource ⟨Nat.le_of_ble_eq_true rfl, Nat.le_of_ble_eq_true rfl⟩) ⟨pc_blind, va_recv hK hP (ci := 3) (q := (RX2, TX2, 19)) (q0 := 7) rfl rfl, fun U hU hW => ⟨rfl, hC88 U hU hW⟩⟩ rfl rfl hl.1 rfl (lv_room (Nat.le_of_ble_eq_true rfl)) dX0_settle_43 ⟨(Nat.le_of_ble_eq_true rfl), (Nat.le_of_ble_eq_true rfl)⟩) hS (fun q9 _ h9 => hF85 q9 h9) hF85 (fun r90 u89 t89 H89 L89 ht89 hvm89 hw89 hB89 hz89 hk89 hS => ?_)
  have hP := pq_keep hP hD [7] rfl hk89 hB89.1 ht89
  have hG : s.heap.size + 0 ≤ H89.size := Nat.le_trans hG hz89
  refine W.eq (g2 := F0 m 46 ls [.int 1]) (by rw [hw89]) ?_
  refine lv_if_ne (tgt := 59) hx hb dX0_settle_46 (by decide) (fun _ => ?_) (fun cz => absurd cz (by decide))
  refine lv_iinc (v := 5) (lv' := [(3, .int 5), (4, .ref h7), (0, .ref h0), (1, .null), (2, .int 120)]) hx hb dX0_settle_59 hl (k := 1) rfl (by decide) (by decide) rfl (fun ls hl => ?_)
  refine lv_goto (tgt := 2) hx hb dX0_settle_62 (by decide) ?_
  refine lv_iload_n hx hb dX0_settle_2 rfl (lv_at hl 0 rfl) ?_
  refine lv_aload_n hx hb dX0_settle_3 rfl (lv_at hl 2 rfl) ?_
  refine va_get (D := (dC, dI)) (ci := 2) (v := .ref h1) (C := RX0) (T := TX0) (N := 4) hx hb hts in_X0 hown hK hP 0 rfl rfl 3 (by decide) (hts _ q_31) (fun _ h9 => h9) rfl dX0_settle_4 ?_
  have hM93 := k20_size l hl9 dC dI z h1 h2 H89.size 35 7
  obtain ⟨hF91, hC94⟩ := pc_M hM93 hP hD hK hS hX hT hA [1] [] rfl rfl rfl
  refine va_calli (va_runV (As := []) (rest := [.int 5]) ⟨hx, hb, hml, hown, hts⟩ hM93 (cwV 0 hts (gV q_92 q_77 q_78 q_12 q_75) rfl rfl rfl hV_Jx4a65c_size_8abf5 ⟨Nat.le_of_ble_eq_true rfl, Nat.le_of_ble_eq_true rfl⟩) ⟨pc_blind, va_recv hK hP (ci := 0) (q := (RJx4a65c, TJx4a65c, 3)) (q0 := 1) rfl rfl, fun U hU hW => ⟨rfl, hC94 U hU hW⟩⟩ rfl rfl hl.1 rfl (lv_room (Nat.le_of_ble_eq_true rfl)) dX0_settle_7 ⟨(Nat.le_of_ble_eq_true rfl), (Nat.le_of_ble_eq_true rfl)⟩) hS (fun q9 _ h9 => hF91 q9 h9) hF91 (fun r96 u95 t95 H95 L95 ht95 hvm95 hw95 hB95 hz95 hk95 hS => ?_)
  have hP := pq_keep hP hD [1] rfl hk95 hB95.1 ht95
  have hG : s.heap.size + 0 ≤ H95.size := Nat.le_trans hG hz95
  refine W.eq (g2 := F0 m 10 ls [.int 7, .int 5]) (by rw [hw95]) ?_
  refine lv_icmp_ge (tgt := 65) hx hb dX0_settle_10 (by decide) (fun cz => absurd cz (by decide)) (fun _ => ?_)
  refine lv_aload_n hx hb dX0_settle_13 rfl (lv_at hl 2 rfl) ?_
  refine va_get (D := (dC, dI)) (ci := 2) (v := .ref h1) (C := RX0) (T := TX0) (N := 4) hx hb hts in_X0 hown hK hP 0 rfl rfl 3 (by decide) (hts _ q_31) (fun _ h9 => h9) rfl dX0_settle_14 ?_
  refine lv_iload_n hx hb dX0_settle_17 rfl (lv_at hl 0 rfl) ?_
  have hM99 := k686_get l hl9 dC dI z h1 h2 h3 h4 h5 h6 h7 h8 h9 H95.size kc0
  obtain ⟨hF97, hC100⟩ := pc_M hM99 hP hD hK hS hX hT hA [1, 2] [0] rfl rfl rfl
  refine va_callr (va_runV (As := [.int 5]) (rest := []) ⟨hx, hb, hml, hown, hts⟩ hM99 (cwV 1 hts (gV q_156 q_157 q_158 q_12 q_155) rfl rfl rfl hV_Jx4a65c_get_915e3 ⟨Nat.le_of_ble_eq_true rfl, Nat.le_of_ble_eq_true rfl⟩) ⟨pc_blind, va_recv hK hP (ci := 0) (q := (RJx4a65c, TJx4a65c, 3)) (q0 := 1) rfl rfl, fun U hU hW => ⟨rfl, hC100 U hU hW⟩⟩ rfl rfl hl.1 rfl (lv_room (Nat.le_of_ble_eq_true rfl)) dX0_settle_18 ⟨(Nat.le_of_ble_eq_true rfl), (Nat.le_of_ble_eq_true rfl)⟩) hS (fun q9 _ h9 => hF97 q9 h9) hF97 (fun u101 r102 t101 H101 L101 ht101 hvm101 hw101 hB101 hz101 hk101 hS => ?_)
  obtain ⟨hr101, hB101⟩ := hB101
  have hP := pq_keep hP hD [1, 2] rfl hk101 hB101.1 ht101
  have hG : s.heap.size + 0 ≤ H101.size := Nat.le_trans hG hz101
  refine W.eq (g2 := F0 m 21 ls [.ref h8]) (by rw [hr101]) ?_
  refine va_castE (nm := RX2) hx hb hown (hts _ q_89) (va_recv hK hP (ci := 3) (q := (RX2, TX2, 19)) (q0 := 8) rfl rfl) dX0_settle_21 ?_
  refine lv_astore (lv' := [(4, .ref h8), (3, .int 5), (0, .ref h0), (1, .null), (2, .int 120)]) hx hb dX0_settle_24 hl (by decide) rfl (fun ls hl => ?_)
  refine lv_aload hx hb dX0_settle_26 (lv_at hl 0 rfl) ?_
  refine lv_aload_nN hx hb dX0_settle_28 rfl (lv_at hl 3 rfl) ?_
  refine lv_acmp_ne (rx := (some h8)) (ry := none) (tgt := 41) hx hb dX0_settle_29 (by decide) (fun _ => ?_) (fun cz => absurd cz (by simp))
  refine lv_aload hx hb dX0_settle_41 (lv_at hl 0 rfl) ?_
  have hM105 := k547_isSource l hl9 dC dI z h8 o8 H101.size
  obtain ⟨hF103, hC106⟩ := pc_M hM105 hP hD hK hS hX hT hA [8] [] rfl rfl rfl
  refine va_calli (va_runV (As := []) (rest := []) ⟨hx, hb, hml, hown, hts⟩ hM105 (cwV 0 hts (gV q_132 q_133 q_134 q_91 q_131) rfl rfl rfl hV_X2_isSource ⟨Nat.le_of_ble_eq_true rfl, Nat.le_of_ble_eq_true rfl⟩) ⟨pc_blind, va_recv hK hP (ci := 3) (q := (RX2, TX2, 19)) (q0 := 8) rfl rfl, fun U hU hW => ⟨rfl, hC106 U hU hW⟩⟩ rfl rfl hl.1 rfl (lv_room (Nat.le_of_ble_eq_true rfl)) dX0_settle_43 ⟨(Nat.le_of_ble_eq_true rfl), (Nat.le_of_ble_eq_true rfl)⟩) hS (fun q9 _ h9 => hF103 q9 h9) hF103 (fun r108 u107 t107 H107 L107 ht107 hvm107 hw107 hB107 hz107 hk107 hS => ?_)
  have hP := pq_keep hP hD [8] rfl hk107 hB107.1 ht107
  have hG : s.heap.size + 0 ≤ H107.size := Nat.le_trans hG hz107
  refine W.eq (g2 := F0 m 46 ls [.int 1]) (by rw [hw107]) ?_
  refine lv_if_ne (tgt := 59) hx hb dX0_settle_46 (by decide) (fun _ => ?_) (fun cz => absurd cz (by decide))
  refine lv_iinc (v := 6) (lv' := [(3, .int 6), (4, .ref h8), (0, .ref h0), (1, .null), (2, .int 120)]) hx hb dX0_settle_59 hl (k := 1) rfl (by decide) (by decide) rfl (fun ls hl => ?_)
  refine lv_goto (tgt := 2) hx hb dX0_settle_62 (by decide) ?_
  refine lv_iload_n hx hb dX0_settle_2 rfl (lv_at hl 0 rfl) ?_
  refine lv_aload_n hx hb dX0_settle_3 rfl (lv_at hl 2 rfl) ?_
  refine va_get (D := (dC, dI)) (ci := 2) (v := .ref h1) (C := RX0) (T := TX0) (N := 4) hx hb hts in_X0 hown hK hP 0 rfl rfl 3 (by decide) (hts _ q_31) (fun _ h9 => h9) rfl dX0_settle_4 ?_
  have hM111 := k20_size l hl9 dC dI z h1 h2 H107.size 35 7
  obtain ⟨hF109, hC112⟩ := pc_M hM111 hP hD hK hS hX hT hA [1] [] rfl rfl rfl
  refine va_calli (va_runV (As := []) (rest := [.int 6]) ⟨hx, hb, hml, hown, hts⟩ hM111 (cwV 0 hts (gV q_92 q_77 q_78 q_12 q_75) rfl rfl rfl hV_Jx4a65c_size_8abf5 ⟨Nat.le_of_ble_eq_true rfl, Nat.le_of_ble_eq_true rfl⟩) ⟨pc_blind, va_recv hK hP (ci := 0) (q := (RJx4a65c, TJx4a65c, 3)) (q0 := 1) rfl rfl, fun U hU hW => ⟨rfl, hC112 U hU hW⟩⟩ rfl rfl hl.1 rfl (lv_room (Nat.le_of_ble_eq_true rfl)) dX0_settle_7 ⟨(Nat.le_of_ble_eq_true rfl), (Nat.le_of_ble_eq_true rfl)⟩) hS (fun q9 _ h9 => hF109 q9 h9) hF109 (fun r114 u113 t113 H113 L113 ht113 hvm113 hw113 hB113 hz113 hk113 hS => ?_)
  have hP := pq_keep hP hD [1] rfl hk113 hB113.1 ht113
  have hG : s.heap.size + 0 ≤ H113.size := Nat.le_trans hG hz113
  refine W.eq (g2 := F0 m 10 ls [.int 7, .int 6]) (by rw [hw113]) ?_
  refine lv_icmp_ge (tgt := 65) hx hb dX0_settle_10 (by decide) (fun cz => absurd cz (by decide)) (fun _ => ?_)
  refine lv_aload_n hx hb dX0_settle_13 rfl (lv_at hl 2 rfl) ?_
  refine va_get (D := (dC, dI)) (ci := 2) (v := .ref h1) (C := RX0) (T := TX0) (N := 4) hx hb hts in_X0 hown hK hP 0 rfl rfl 3 (by decide) (hts _ q_31) (fun _ h9 => h9) rfl dX0_settle_14 ?_
  refine lv_iload_n hx hb dX0_settle_17 rfl (lv_at hl 0 rfl) ?_
  have hM117 := k688_get l hl9 dC dI z h1 h2 h3 h4 h5 h6 h7 h8 h9 H113.size kc0
  obtain ⟨hF115, hC118⟩ := pc_M hM117 hP hD hK hS hX hT hA [1, 2] [0] rfl rfl rfl
  refine va_callr (va_runV (As := [.int 6]) (rest := []) ⟨hx, hb, hml, hown, hts⟩ hM117 (cwV 1 hts (gV q_156 q_157 q_158 q_12 q_155) rfl rfl rfl hV_Jx4a65c_get_915e3 ⟨Nat.le_of_ble_eq_true rfl, Nat.le_of_ble_eq_true rfl⟩) ⟨pc_blind, va_recv hK hP (ci := 0) (q := (RJx4a65c, TJx4a65c, 3)) (q0 := 1) rfl rfl, fun U hU hW => ⟨rfl, hC118 U hU hW⟩⟩ rfl rfl hl.1 rfl (lv_room (Nat.le_of_ble_eq_true rfl)) dX0_settle_18 ⟨(Nat.le_of_ble_eq_true rfl), (Nat.le_of_ble_eq_true rfl)⟩) hS (fun q9 _ h9 => hF115 q9 h9) hF115 (fun u119 r120 t119 H119 L119 ht119 hvm119 hw119 hB119 hz119 hk119 hS => ?_)
  obtain ⟨hr119, hB119⟩ := hB119
  have hP := pq_keep hP hD [1, 2] rfl hk119 hB119.1 ht119
  have hG : s.heap.size + 0 ≤ H119.size := Nat.le_trans hG hz119
  refine W.eq (g2 := F0 m 21 ls [.ref h9]) (by rw [hr119]) ?_
  refine va_castE (nm := RX2) hx hb hown (hts _ q_89) (va_recv hK hP (ci := 3) (q := (RX2, TX2, 19)) (q0 := 9) rfl rfl) dX0_settle_21 ?_
  refine lv_astore (lv' := [(4, .ref h9), (3, .int 6), (0, .ref h0), (1, .null), (2, .int 120)]) hx hb dX0_settle_24 hl (by decide) rfl (fun ls hl => ?_)
  refine lv_aload hx hb dX0_settle_26 (lv_at hl 0 rfl) ?_
  refine lv_aload_nN hx hb dX0_settle_28 rfl (lv_at hl 3 rfl) ?_
  refine lv_acmp_ne (rx := (some h9)) (ry := none) (tgt := 41) hx hb dX0_settle_29 (by decide) (fun _ => ?_) (fun cz => absurd cz (by simp))
  refine lv_aload hx hb dX0_settle_41 (lv_at hl 0 rfl) ?_
  have hM123 := k695_isSource l hl9 dC dI z h9 o9 H119.size
  obtain ⟨hF121, hC124⟩ := pc_M hM123 hP hD hK hS hX hT hA [9] [] rfl rfl rfl
  refine va_calli (va_runV (As := []) (rest := []) ⟨hx, hb, hml, hown, hts⟩ hM123 (cwV 0 hts (gV q_132 q_133 q_134 q_91 q_131) rfl rfl rfl hV_X2_isSource ⟨Nat.le_of_ble_eq_true rfl, Nat.le_of_ble_eq_true rfl⟩) ⟨pc_blind, va_recv hK hP (ci := 3) (q := (RX2, TX2, 19)) (q0 := 9) rfl rfl, fun U hU hW => ⟨rfl, hC124 U hU hW⟩⟩ rfl rfl hl.1 rfl (lv_room (Nat.le_of_ble_eq_true rfl)) dX0_settle_43 ⟨(Nat.le_of_ble_eq_true rfl), (Nat.le_of_ble_eq_true rfl)⟩) hS (fun q9 _ h9 => hF121 q9 h9) hF121 (fun r126 u125 t125 H125 L125 ht125 hvm125 hw125 hB125 hz125 hk125 hS => ?_)
  have hP := pq_keep hP hD [9] rfl hk125 hB125.1 ht125
  have hG : s.heap.size + 0 ≤ H125.size := Nat.le_trans hG hz125
  refine W.eq (g2 := F0 m 46 ls [.int 1]) (by rw [hw125]) ?_
  refine lv_if_ne (tgt := 59) hx hb dX0_settle_46 (by decide) (fun _ => ?_) (fun cz => absurd cz (by decide))
  refine lv_iinc (v := 7) (lv' := [(3, .int 7), (4, .ref h9), (0, .ref h0), (1, .null), (2, .int 120)]) hx hb dX0_settle_59 hl (k := 1) rfl (by decide) (by decide) rfl (fun ls hl => ?_)
  refine lv_goto (tgt := 2) hx hb dX0_settle_62 (by decide) ?_
  refine lv_iload_n hx hb dX0_settle_2 rfl (lv_at hl 0 rfl) ?_
  refine lv_aload_n hx hb dX0_settle_3 rfl (lv_at hl 2 rfl) ?_
  refine va_get (D := (dC, dI)) (ci := 2) (v := .ref h1) (C := RX0) (T := TX0) (N := 4) hx hb hts in_X0 hown hK hP 0 rfl rfl 3 (by decide) (hts _ q_31) (fun _ h9 => h9) rfl dX0_settle_4 ?_
  have hM129 := k20_size l hl9 dC dI z h1 h2 H125.size 35 7
  obtain ⟨hF127, hC130⟩ := pc_M hM129 hP hD hK hS hX hT hA [1] [] rfl rfl rfl
  refine va_calli (va_runV (As := []) (rest := [.int 7]) ⟨hx, hb, hml, hown, hts⟩ hM129 (cwV 0 hts (gV q_92 q_77 q_78 q_12 q_75) rfl rfl rfl hV_Jx4a65c_size_8abf5 ⟨Nat.le_of_ble_eq_true rfl, Nat.le_of_ble_eq_true rfl⟩) ⟨pc_blind, va_recv hK hP (ci := 0) (q := (RJx4a65c, TJx4a65c, 3)) (q0 := 1) rfl rfl, fun U hU hW => ⟨rfl, hC130 U hU hW⟩⟩ rfl rfl hl.1 rfl (lv_room (Nat.le_of_ble_eq_true rfl)) dX0_settle_7 ⟨(Nat.le_of_ble_eq_true rfl), (Nat.le_of_ble_eq_true rfl)⟩) hS (fun q9 _ h9 => hF127 q9 h9) hF127 (fun r132 u131 t131 H131 L131 ht131 hvm131 hw131 hB131 hz131 hk131 hS => ?_)
  have hP := pq_keep hP hD [1] rfl hk131 hB131.1 ht131
  have hG : s.heap.size + 0 ≤ H131.size := Nat.le_trans hG hz131
  refine W.eq (g2 := F0 m 10 ls [.int 7, .int 7]) (by rw [hw131]) ?_
  refine lv_icmp_ge (tgt := 65) hx hb dX0_settle_10 (by decide) (fun _ => ?_) (fun cz => absurd (by decide) cz)
  exact W.vret hx hb hr (fun t9 ht9 hW9 => ⟨⟨(), rfl, trivial, ⟨pq_mk2 hP hD hK [0, 1, 2, 3, 4, 5, 6, 7, 8, 9] [0] rfl rfl rfl ht9 hW9, by rw [ht9]; exact Nat.le_trans (Nat.add_le_add_left (Nat.le_of_ble_eq_true rfl) _) hG⟩⟩, hS.F ht9⟩) hS.2.2 dX0_settle_65

set_option maxHeartbeats 4000000 in
set_option maxRecDepth 100000 in
theorem k697_restart (l : Launch) (hl9 : l.stackTraces = false) (dC : Nat → ClassId) (dI : Nat → Nat → Nat) (z : XZ) (h0 : Nat) (o0 : Nat) (sz : Nat) : Met l yX2_restart (.code yX2_restart cX2_restart 1 none :: wsL_law) ({ frames := 0, cells := 0, slots := 0, locals := 0 }) (va_Pc [.ref h0] (PC (dC, dI) [(h0, ce364 (z.2.1 0) o0 h0)] [] sz z)) (va_Qv (fun (_ : Unit) => True) (fun (_ : Unit) (t : State) => PG (dC, dI) [(h0, ce364 (z.2.1 0) o0 h0)] [] (va_A [(h0, ce364 (z.2.1 0) o0 h0)] sz) sz 0 t) (va_A [(h0, ce364 (z.2.1 0) o0 h0)] sz)) 0 0 (va_A [(h0, ce364 (z.2.1 0) o0 h0)] sz) := by
  refine Met.ofW (cc := cX2_restart) (maxL := 1) (ret := none) (by decide) rfl ?_
  intro p e s m args below meth c s₁ B hml hv
  obtain ⟨rfl, hsz, hP, hK, hD0, hX, hT⟩ := hv
  have hx := B.exec
  have hb := B.bytes
  have hr := B.returns
  have hts0 := atoms_spec (ws := .code yX2_restart cX2_restart 1 none :: wsL_law) B.pre
  have hts := xTail hts0
  have hown : s.vm.findClass RX2 = some m.cls := xown B.named rfl
  have hlocks := B.notSynchronized
  subst hsz
  have hD := hD0.self (sz := s.heap.size)
  generalize hAe : va_A [(h0, ce364 (z.2.1 0) o0 h0)] s.heap.size = A at hD hX ⊢
  have hA : ∀ q : Nat, s.heap.size ≤ q → A q := fun q h => by rw [← hAe]; exact Or.inr h
  have hS : va_S A s.heap s.heap [] := va_S.rf
  have hG : s.heap.size + 0 ≤ s.heap.size := Nat.le_refl _
  have hl := lv_entry ([.ref h0]) (n := 1) (Nat.le_of_ble_eq_true rfl)
  rw [lg_entry_eq]
  generalize (lg_sl ([.ref h0]) ++ List.replicate (1 - (lg_sl ([.ref h0])).length) Slot.unset).toArray = ls at hl ⊢
  have hl : lv_has ls 1 [(0, .ref h0)] := hl
  refine lv_aload_n hx hb dX2_restart_0 rfl (lv_at hl 0 rfl) ?_
  refine lv_aload_n hx hb dX2_restart_1 rfl (lv_at hl 0 rfl) ?_
  refine va_get (D := (dC, dI)) (ci := 3) (v := .int 120) (C := RX2) (T := TX2) (N := 19) hx hb hts in_X2 hown hK hP 0 rfl rfl 11 (by decide) (hts _ q_101) (fun _ h9 => h9) rfl dX2_restart_2 ?_
  refine va_put (D := (dC, dI)) (ci := 3) (v := .int 120) (ty := .char) (C := RX2) (T := TX2) (N := 19) hx hb hts in_X2 tyX2 tyX2_ok nmX2 hown hK hP hD (va_Sre hS) 0 rfl rfl 6 (by decide) (hts _ q_99) (fun _ h9 => h9) rfl (by decide +kernel) rfl rfl (Nat.le_of_ble_eq_true rfl) dX2_restart_5 (fun H1 _ hP hD hS' => ?_)
  have hG : s.heap.size + 0 ≤ H1.size := Nat.le_trans hG hS'.1
  have hS := va_Str hS hS'
  have hP : va_P (dC, dI) xCl [(h0, ce364 (z.2.1 0) o0 h0)] H1 := hP
  have hD := vd_as hP hD rfl
  refine lv_aload_n hx hb dX2_restart_8 rfl (lv_at hl 0 rfl) ?_
  refine lv_iconst (v := 0) hx hb dX2_restart_9 (by decide) ?_
  refine va_put (D := (dC, dI)) (ci := 3) (v := .int 0) (ty := .int) (C := RX2) (T := TX2) (N := 19) hx hb hts in_X2 tyX2 tyX2_ok nmX2 hown hK hP hD (va_Sre hS) 0 rfl rfl 8 (by decide) (hts _ q_218) (fun _ h9 => h9) rfl (by decide +kernel) rfl rfl (Nat.le_of_ble_eq_true rfl) dX2_restart_10 (fun H2 _ hP hD hS' => ?_)
  have hG : s.heap.size + 0 ≤ H2.size := Nat.le_trans hG hS'.1
  have hS := va_Str hS hS'
  have hP : va_P (dC, dI) xCl [(h0, ce364 (z.2.1 0) o0 h0)] H2 := hP
  have hD := vd_as hP hD rfl
  refine lv_aload_n hx hb dX2_restart_13 rfl (lv_at hl 0 rfl) ?_
  refine lv_iconst (v := 0) hx hb dX2_restart_14 (by decide) ?_
  refine va_put (D := (dC, dI)) (ci := 3) (v := .int 0) (ty := .int) (C := RX2) (T := TX2) (N := 19) hx hb hts in_X2 tyX2 tyX2_ok nmX2 hown hK hP hD (va_Sre hS) 0 rfl rfl 9 (by decide) (hts _ q_219) (fun _ h9 => h9) rfl (by decide +kernel) rfl rfl (Nat.le_of_ble_eq_true rfl) dX2_restart_15 (fun H3 _ hP hD hS' => ?_)
  have hG : s.heap.size + 0 ≤ H3.size := Nat.le_trans hG hS'.1
  have hS := va_Str hS hS'
  have hP : va_P (dC, dI) xCl [(h0, ce364 (z.2.1 0) o0 h0)] H3 := hP
  have hD := vd_as hP hD rfl
  refine lv_aload_n hx hb dX2_restart_18 rfl (lv_at hl 0 rfl) ?_
  refine lv_iconst (v := 0) hx hb dX2_restart_19 (by decide) ?_
  refine va_put (D := (dC, dI)) (ci := 3) (v := .int 0) (ty := .boolean) (C := RX2) (T := TX2) (N := 19) hx hb hts in_X2 tyX2 tyX2_ok nmX2 hown hK hP hD (va_Sre hS) 0 rfl rfl 10 (by decide) (hts _ q_220) (fun _ h9 => h9) rfl (by decide +kernel) rfl rfl (Nat.le_of_ble_eq_true rfl) dX2_restart_20 (fun H4 _ hP hD hS' => ?_)
  have hG : s.heap.size + 0 ≤ H4.size := Nat.le_trans hG hS'.1
  have hS := va_Str hS hS'
  have hP : va_P (dC, dI) xCl [(h0, ce364 (z.2.1 0) o0 h0)] H4 := hP
  have hD := vd_as hP hD rfl
  exact W.vret hx hb hr (fun t9 ht9 hW9 => ⟨⟨(), rfl, trivial, ⟨pq_mk2 hP hD hK [0] [] rfl rfl rfl ht9 hW9, by rw [ht9]; exact Nat.le_trans (Nat.add_le_add_left (Nat.le_of_ble_eq_true rfl) _) hG⟩⟩, hS.F ht9⟩) hS.2.2 dX2_restart_23
