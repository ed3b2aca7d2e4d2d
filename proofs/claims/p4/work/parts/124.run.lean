set_option maxHeartbeats 4000000 in
set_option maxRecDepth 100000 in
theorem k613_isStuckShown (l : Launch) (hl9 : l.stackTraces = false) (dC : Nat → ClassId) (dI : Nat → Nat → Nat) (z : XZ) (h0 h1 h2 h3 h4 h5 h6 h7 h8 h9 h10 h11 h12 : Nat) (o0 o1 o2 o3 o4 o5 o6 : Nat) (sz : Nat) (kc0 kc1 kc2 : ClassId) : Met l yX4_isStuckShown (.code yX4_isStuckShown cX4_isStuckShown 6 (some .boolean) :: wsL_law) ({ frames := 5, cells := 0, slots := 0, locals := 112 }) (va_Pc [.ref h0, .ref h1, .int 49, .int 0] (PC (dC, dI) [(h0, ce271 h2 o0), (h1, ce286 (z.2.1 0) o1 h1), (h2, ce7 h3 h4 o2 h5), (h3, ce201 h6), (h4, ce201 h7), (h5, ce226 h8), (h6, ce200 kc0 h9 h10 h11 h12 h1), (h7, ce200 kc1 h9 h10 h11 h12 h1), (h8, ce200 kc2 h9 h10 h11 h12 h1), (h9, ce282 (z.2.1 0) o3 h9), (h10, ce283 (z.2.1 0) o4 h10), (h11, ce284 (z.2.1 0) o5 h11), (h12, ce285 (z.2.1 0) o6 h12)] [(kc0, .object "java/lang/Object"), (kc1, .object "java/lang/Object"), (kc2, .object "java/lang/Object")] sz z)) (va_Qi (fun (r : Int32) (_ : Unit) => r = 0) (fun (_ : Unit) (t : State) => PG (dC, dI) [(h0, ce271 h2 o0), (h1, ce291 (z.2.1 0) o1 h1), (h2, ce7 h3 h4 o2 h5), (h3, ce201 h6), (h4, ce201 h7), (h5, ce226 h8), (h6, ce200 kc0 h9 h10 h11 h12 h1), (h7, ce200 kc1 h9 h10 h11 h12 h1), (h8, ce200 kc2 h9 h10 h11 h12 h1), (h9, ce282 (z.2.1 0) o3 h9), (h10, ce283 (z.2.1 0) o4 h10), (h11, ce284 (z.2.1 0) o5 h11), (h12, ce285 (z.2.1 0) o6 h12)] [(kc0, .object "java/lang/Object"), (kc1, .object "java/lang/Object"), (kc2, .object "java/lang/Object")] (va_A [(h0, ce271 h2 o0), (h1, ce286 (z.2.1 0) o1 h1), (h2, ce7 h3 h4 o2 h5), (h3, ce201 h6), (h4, ce201 h7), (h5, ce226 h8), (h6, ce200 kc0 h9 h10 h11 h12 h1), (h7, ce200 kc1 h9 h10 h11 h12 h1), (h8, ce200 kc2 h9 h10 h11 h12 h1), (h9, ce282 (z.2.1 0) o3 h9), (h10, ce283 (z.2.1 0) o4 h10), (h11, ce284 (z.2.1 0) o5 h11), (h12, ce285 (z.2.1 0) o6 h12)] sz) sz 0 t) (va_A [(h0, ce271 h2 o0), (h1, ce286 (z.2.1 0) o1 h1), (h2, ce7 h3 h4 o2 h5), (h3, ce201 h6), (h4, ce201 h7), (h5, ce226 h8), (h6, ce200 kc0 h9 h10 h11 h12 h1), (h7, ce200 kc1 h9 h10 h11 h12 h1), (h8, ce200 kc2 h9 h10 h11 h12 h1), (h9, ce282 (z.2.1 0) o3 h9), (h10, ce283 (z.2.1 0) o4 h10), (h11, ce284 (z.2.1 0) o5 h11), (h12, ce285 (z.2.1 0) o6 h12)] sz)) 0 0 (va_A [(h0, ce271 h2 o0), (h1, ce286 (z.2.1 0) o1 h1), (h2, ce7 h3 h4 o2 h5), (h3, ce201 h6), (h4, ce201 h7), (h5, ce226 h8), (h6, ce200 kc0 h9 h10 h11 h12 h1), (h7, ce200 kc1 h9 h10 h11 h12 h1), (h8, ce200 kc2 h9 h10 h11 h12 h1), (h9, ce282 (z.2.1 0) o3 h9), (h10, ce283 (z.2.1 0) o4 h10), (h11, ce284 (z.2.1 0) o5 h11), (h12, ce285 (z.2.1 0) o6 h12)] sz) := by
  refine Met.ofW (cc := cX4_isStuckShown) (maxL := 6) (ret := (some .boolean)) (by decide) rfl ?_
  intro p e s m args below meth c s₁ B hml hv
  obtain ⟨rfl, hsz, hP, hK, hD0, hX, hT⟩ := hv
  have hx := B.exec
  have hb := B.bytes
  have hr := B.returns
  have hts0 := atoms_spec (ws := .code yX4_isStuckShown cX4_isStuckShown 6 (some .boolean) :: wsL_law) B.pre
  have hts := xTail hts0
  have hown : s.vm.findClass RX4 = some m.cls := findClass_of_methodNamed B.named
  have hlocks := B.notSynchronized
  subst hsz
  have hD := hD0.self (sz := s.heap.size)
  generalize hAe : va_A [(h0, ce271 h2 o0), (h1, ce286 (z.2.1 0) o1 h1), (h2, ce7 h3 h4 o2 h5), (h3, ce201 h6), (h4, ce201 h7), (h5, ce226 h8), (h6, ce200 kc0 h9 h10 h11 h12 h1), (h7, ce200 kc1 h9 h10 h11 h12 h1), (h8, ce200 kc2 h9 h10 h11 h12 h1), (h9, ce282 (z.2.1 0) o3 h9), (h10, ce283 (z.2.1 0) o4 h10), (h11, ce284 (z.2.1 0) o5 h11), (h12, ce285 (z.2.1 0) o6 h12)] s.heap.size = A at hD hX ⊢
  have hA : ∀ q : Nat, s.heap.size ≤ q → A q := fun q h => by rw [← hAe]; exact Or.inr h
  have hS : va_S A s.heap s.heap [] := va_S.rf
  have hG : s.heap.size + 0 ≤ s.heap.size := Nat.le_refl _
  have hl := lv_entry ([.ref h0, .ref h1, .int 49, .int 0]) (n := 6) (Nat.le_of_ble_eq_true rfl)
  rw [lg_entry_eq]
  generalize (lg_sl ([.ref h0, .ref h1, .int 49, .int 0]) ++ List.replicate (6 - (lg_sl ([.ref h0, .ref h1, .int 49, .int 0])).length) Slot.unset).toArray = ls at hl ⊢
  have hl : lv_has ls 6 [(0, .ref h0), (1, .ref h1), (2, .int 49), (3, .int 0)] := hl
  refine lv_aload_n hx hb dX4_isStuckShown_0 rfl (lv_at hl 0 rfl) ?_
  refine lv_iload_n hx hb dX4_isStuckShown_1 rfl (lv_at hl 3 rfl) ?_
  refine lv_null hx hb dX4_isStuckShown_2 ?_
  refine lv_bipush (v := 120) hx hb dX4_isStuckShown_3 (by decide) ?_
  have hM3 := k572_tryRow l hl9 dC dI z h0 h2 h4 h5 h7 h8 h9 h10 h11 h12 h1 o0 h3 o2 o3 o4 o5 o6 o1 s.heap.size kc1 kc2
  obtain ⟨hF1, hC4⟩ := pc_M hM3 hP hD hK hS hX hT hA [0, 2, 4, 5, 7, 8, 9, 10, 11, 12, 1] [1, 2] rfl rfl rfl
  refine va_callv (va_runV (As := [.int 0, .null, .int 120]) (rest := []) ⟨hx, hb, hml, hown, hts⟩ hM3 (cwV 3 hts (gV q_388 q_389 q_390 q_46 q_387) rfl rfl rfl hV_X4_tryRow ⟨Nat.le_of_ble_eq_true rfl, Nat.le_of_ble_eq_true rfl⟩) ⟨pc_blind, va_recv hK hP (ci := 4) (q0 := 0) rfl rfl, fun U hU hW => ⟨rfl, hC4 U hU hW⟩⟩ rfl rfl hl.1 rfl (lv_room (Nat.le_of_ble_eq_true rfl)) dX4_isStuckShown_5 ⟨(Nat.le_of_ble_eq_true rfl), (Nat.le_of_ble_eq_true rfl)⟩) hS (fun q9 _ h9 => hF1 q9 h9) hF1 (fun u5 t5 H5 L5 ht5 hvm5 hw5 hB5 hz5 hk5 hS => ?_)
  have hP := pq_keep hP hD [0, 2, 4, 5, 7, 8, 9, 10, 11, 12, 1] rfl hk5 hB5.1 ht5
  have hG : s.heap.size + 0 ≤ H5.size := Nat.le_trans hG hz5
  refine lv_aload_n hx hb dX4_isStuckShown_8 rfl (lv_at hl 1 rfl) ?_
  refine va_get (D := (dC, dI)) (ci := 3) (v := .int 48) (C := RX2) (T := TX2) (N := 19) hx hb hts in_X2 hown hK hP 1 rfl rfl 11 (by decide) (hts _ q_385) (fun _ h9 => h9) rfl dX4_isStuckShown_9 ?_
  refine lv_iload_n hx hb dX4_isStuckShown_12 rfl (lv_at hl 2 rfl) ?_
  refine lv_icmp_ne (tgt := 18) hx hb dX4_isStuckShown_13 (by decide) (fun _ => ?_) (fun cz => absurd cz (by decide))
  refine lv_iconst (v := 0) hx hb dX4_isStuckShown_18 (by decide) ?_
  refine lv_istore (lv' := [(4, .int 0), (0, .ref h0), (1, .ref h1), (2, .int 49), (3, .int 0)]) hx hb dX4_isStuckShown_19 hl (by decide) rfl (fun ls hl => ?_)
  refine lv_iload hx hb dX4_isStuckShown_21 (lv_at hl 0 rfl) ?_
  refine lv_aload_n hx hb dX4_isStuckShown_23 rfl (lv_at hl 1 rfl) ?_
  refine va_get (D := (dC, dI)) (ci := 4) (v := .ref h2) (C := RX4) (T := TX4) (N := 3) hx hb hts in_X4 hown hK hP 0 rfl rfl 0 (by decide) (hts _ q_50) (fun _ h9 => h9) rfl dX4_isStuckShown_24 ?_
  refine va_get (D := (dC, dI)) (ci := 2) (v := .ref h3) (C := RX0) (T := TX0) (N := 4) hx hb hts in_X0 hown hK hP 2 rfl rfl 0 (by decide) (hts _ q_399) (fun _ h9 => h9) rfl dX4_isStuckShown_27 ?_
  have hM9 := k20_size l hl9 dC dI z h3 h6 H5.size 5 5
  obtain ⟨hF7, hC10⟩ := pc_M hM9 hP hD hK hS hX hT hA [3] [] rfl rfl rfl
  refine va_calli (va_runV (As := []) (rest := [.int 0]) ⟨hx, hb, hml, hown, hts⟩ hM9 (cwV 0 hts (gV q_348 q_77 q_78 q_12 q_75) rfl rfl rfl hV_Jx4a65c_size_8abf5 ⟨Nat.le_of_ble_eq_true rfl, Nat.le_of_ble_eq_true rfl⟩) ⟨pc_blind, va_recv hK hP (ci := 0) (q0 := 3) rfl rfl, fun U hU hW => ⟨rfl, hC10 U hU hW⟩⟩ rfl rfl hl.1 rfl (lv_room (Nat.le_of_ble_eq_true rfl)) dX4_isStuckShown_30 ⟨(Nat.le_of_ble_eq_true rfl), (Nat.le_of_ble_eq_true rfl)⟩) hS (fun q9 _ h9 => hF7 q9 h9) hF7 (fun r12 u11 t11 H11 L11 ht11 hvm11 hw11 hB11 hz11 hk11 hS => ?_)
  have hP := pq_keep hP hD [3] rfl hk11 hB11.1 ht11
  have hG : s.heap.size + 0 ≤ H11.size := Nat.le_trans hG hz11
  refine W.eq (g2 := F0 m 33 ls [.int 5, .int 0]) (by rw [hw11]) ?_
  refine lv_icmp_ge (tgt := 69) hx hb dX4_isStuckShown_33 (by decide) (fun cz => absurd cz (by decide)) (fun _ => ?_)
  refine lv_aload_n hx hb dX4_isStuckShown_36 rfl (lv_at hl 1 rfl) ?_
  refine va_get (D := (dC, dI)) (ci := 4) (v := .ref h2) (C := RX4) (T := TX4) (N := 3) hx hb hts in_X4 hown hK hP 0 rfl rfl 0 (by decide) (hts _ q_50) (fun _ h9 => h9) rfl dX4_isStuckShown_37 ?_
  refine va_get (D := (dC, dI)) (ci := 2) (v := .ref h3) (C := RX0) (T := TX0) (N := 4) hx hb hts in_X0 hown hK hP 2 rfl rfl 0 (by decide) (hts _ q_399) (fun _ h9 => h9) rfl dX4_isStuckShown_40 ?_
  refine lv_iload hx hb dX4_isStuckShown_43 (lv_at hl 0 rfl) ?_
  have hM15 := k368_get l hl9 dC dI z h3 h6 h9 h10 h11 h12 h1 H11.size kc0
  obtain ⟨hF13, hC16⟩ := pc_M hM15 hP hD hK hS hX hT hA [3, 6] [0] rfl rfl rfl
  refine va_callr (va_runV (As := [.int 0]) (rest := []) ⟨hx, hb, hml, hown, hts⟩ hM15 (cwV 1 hts (gV q_383 q_157 q_158 q_12 q_155) rfl rfl rfl hV_Jx4a65c_get_915e3 ⟨Nat.le_of_ble_eq_true rfl, Nat.le_of_ble_eq_true rfl⟩) ⟨pc_blind, va_recv hK hP (ci := 0) (q0 := 3) rfl rfl, fun U hU hW => ⟨rfl, hC16 U hU hW⟩⟩ rfl rfl hl.1 rfl (lv_room (Nat.le_of_ble_eq_true rfl)) dX4_isStuckShown_45 ⟨(Nat.le_of_ble_eq_true rfl), (Nat.le_of_ble_eq_true rfl)⟩) hS (fun q9 _ h9 => hF13 q9 h9) hF13 (fun u17 r18 t17 H17 L17 ht17 hvm17 hw17 hB17 hz17 hk17 hS => ?_)
  obtain ⟨hr17, hB17⟩ := hB17
  have hP := pq_keep hP hD [3, 6] rfl hk17 hB17.1 ht17
  have hG : s.heap.size + 0 ≤ H17.size := Nat.le_trans hG hz17
  refine W.eq (g2 := F0 m 48 ls [.ref h9]) (by rw [hr17]) ?_
  refine va_castE (nm := RX2) hx hb hown (hts _ q_384) (va_recv hK hP (ci := 3) (q0 := 9) rfl rfl) dX4_isStuckShown_48 ?_
  refine lv_astore (lv' := [(5, .ref h9), (4, .int 0), (0, .ref h0), (1, .ref h1), (2, .int 49), (3, .int 0)]) hx hb dX4_isStuckShown_51 hl (by decide) rfl (fun ls hl => ?_)
  refine lv_aload hx hb dX4_isStuckShown_53 (lv_at hl 0 rfl) ?_
  refine lv_aload hx hb dX4_isStuckShown_55 (lv_at hl 0 rfl) ?_
  refine va_get (D := (dC, dI)) (ci := 3) (v := .int 48) (C := RX2) (T := TX2) (N := 19) hx hb hts in_X2 hown hK hP 9 rfl rfl 11 (by decide) (hts _ q_385) (fun _ h9 => h9) rfl dX4_isStuckShown_57 ?_
  refine va_put (D := (dC, dI)) (ci := 3) (v := .int 48) (ty := .char) (C := RX2) (T := TX2) (N := 19) hx hb hts in_X2 tyX2 tyX2_ok nmX2 hown hK hP hD (va_Sre hS) 9 rfl rfl 12 (by decide) (hts _ q_400) (fun _ h9 => h9) rfl (by decide +kernel) rfl rfl (Nat.le_of_ble_eq_true rfl) dX4_isStuckShown_60 (fun H19 _ hP hD hS' => ?_)
  have hG : s.heap.size + 0 ≤ H19.size := Nat.le_trans hG hS'.1
  have hS := va_Str hS hS'
  have hP : va_P (dC, dI) xCl [(h0, ce271 h2 o0), (h1, ce286 (z.2.1 0) o1 h1), (h2, ce7 h3 h4 o2 h5), (h3, ce201 h6), (h4, ce201 h7), (h5, ce226 h8), (h6, ce200 kc0 h9 h10 h11 h12 h1), (h7, ce200 kc1 h9 h10 h11 h12 h1), (h8, ce200 kc2 h9 h10 h11 h12 h1), (h9, ce282 (z.2.1 0) o3 h9), (h10, ce283 (z.2.1 0) o4 h10), (h11, ce284 (z.2.1 0) o5 h11), (h12, ce285 (z.2.1 0) o6 h12)] H19 := hP
  have hD := vd_as hP hD rfl
  refine lv_iinc (v := 1) (lv' := [(4, .int 1), (5, .ref h9), (0, .ref h0), (1, .ref h1), (2, .int 49), (3, .int 0)]) hx hb dX4_isStuckShown_63 hl (k := 1) rfl (by decide) (by decide) rfl (fun ls hl => ?_)
  refine lv_goto (tgt := 21) hx hb dX4_isStuckShown_66 (by decide) ?_
  refine lv_iload hx hb dX4_isStuckShown_21 (lv_at hl 0 rfl) ?_
  refine lv_aload_n hx hb dX4_isStuckShown_23 rfl (lv_at hl 2 rfl) ?_
  refine va_get (D := (dC, dI)) (ci := 4) (v := .ref h2) (C := RX4) (T := TX4) (N := 3) hx hb hts in_X4 hown hK hP 0 rfl rfl 0 (by decide) (hts _ q_50) (fun _ h9 => h9) rfl dX4_isStuckShown_24 ?_
  refine va_get (D := (dC, dI)) (ci := 2) (v := .ref h3) (C := RX0) (T := TX0) (N := 4) hx hb hts in_X0 hown hK hP 2 rfl rfl 0 (by decide) (hts _ q_399) (fun _ h9 => h9) rfl dX4_isStuckShown_27 ?_
  have hM22 := k20_size l hl9 dC dI z h3 h6 H19.size 5 5
  obtain ⟨hF20, hC23⟩ := pc_M hM22 hP hD hK hS hX hT hA [3] [] rfl rfl rfl
  refine va_calli (va_runV (As := []) (rest := [.int 1]) ⟨hx, hb, hml, hown, hts⟩ hM22 (cwV 0 hts (gV q_348 q_77 q_78 q_12 q_75) rfl rfl rfl hV_Jx4a65c_size_8abf5 ⟨Nat.le_of_ble_eq_true rfl, Nat.le_of_ble_eq_true rfl⟩) ⟨pc_blind, va_recv hK hP (ci := 0) (q0 := 3) rfl rfl, fun U hU hW => ⟨rfl, hC23 U hU hW⟩⟩ rfl rfl hl.1 rfl (lv_room (Nat.le_of_ble_eq_true rfl)) dX4_isStuckShown_30 ⟨(Nat.le_of_ble_eq_true rfl), (Nat.le_of_ble_eq_true rfl)⟩) hS (fun q9 _ h9 => hF20 q9 h9) hF20 (fun r25 u24 t24 H24 L24 ht24 hvm24 hw24 hB24 hz24 hk24 hS => ?_)
  have hP := pq_keep hP hD [3] rfl hk24 hB24.1 ht24
  have hG : s.heap.size + 0 ≤ H24.size := Nat.le_trans hG hz24
  refine W.eq (g2 := F0 m 33 ls [.int 5, .int 1]) (by rw [hw24]) ?_
  refine lv_icmp_ge (tgt := 69) hx hb dX4_isStuckShown_33 (by decide) (fun cz => absurd cz (by decide)) (fun _ => ?_)
  refine lv_aload_n hx hb dX4_isStuckShown_36 rfl (lv_at hl 2 rfl) ?_
  refine va_get (D := (dC, dI)) (ci := 4) (v := .ref h2) (C := RX4) (T := TX4) (N := 3) hx hb hts in_X4 hown hK hP 0 rfl rfl 0 (by decide) (hts _ q_50) (fun _ h9 => h9) rfl dX4_isStuckShown_37 ?_
  refine va_get (D := (dC, dI)) (ci := 2) (v := .ref h3) (C := RX0) (T := TX0) (N := 4) hx hb hts in_X0 hown hK hP 2 rfl rfl 0 (by decide) (hts _ q_399) (fun _ h9 => h9) rfl dX4_isStuckShown_40 ?_
  refine lv_iload hx hb dX4_isStuckShown_43 (lv_at hl 0 rfl) ?_
  have hM28 := k372_get l hl9 dC dI z h3 h6 h9 h10 h11 h12 h1 H24.size kc0
  obtain ⟨hF26, hC29⟩ := pc_M hM28 hP hD hK hS hX hT hA [3, 6] [0] rfl rfl rfl
  refine va_callr (va_runV (As := [.int 1]) (rest := []) ⟨hx, hb, hml, hown, hts⟩ hM28 (cwV 1 hts (gV q_383 q_157 q_158 q_12 q_155) rfl rfl rfl hV_Jx4a65c_get_915e3 ⟨Nat.le_of_ble_eq_true rfl, Nat.le_of_ble_eq_true rfl⟩) ⟨pc_blind, va_recv hK hP (ci := 0) (q0 := 3) rfl rfl, fun U hU hW => ⟨rfl, hC29 U hU hW⟩⟩ rfl rfl hl.1 rfl (lv_room (Nat.le_of_ble_eq_true rfl)) dX4_isStuckShown_45 ⟨(Nat.le_of_ble_eq_true rfl), (Nat.le_of_ble_eq_true rfl)⟩) hS (fun q9 _ h9 => hF26 q9 h9) hF26 (fun u30 r31 t30 H30 L30 ht30 hvm30 hw30 hB30 hz30 hk30 hS => ?_)
  obtain ⟨hr30, hB30⟩ := hB30
  have hP := pq_keep hP hD [3, 6] rfl hk30 hB30.1 ht30
  have hG : s.heap.size + 0 ≤ H30.size := Nat.le_trans hG hz30
  refine W.eq (g2 := F0 m 48 ls [.ref h10]) (by rw [hr30]) ?_
  refine va_castE (nm := RX2) hx hb hown (hts _ q_384) (va_recv hK hP (ci := 3) (q0 := 10) rfl rfl) dX4_isStuckShown_48 ?_
  refine lv_astore (lv' := [(5, .ref h10), (4, .int 1), (0, .ref h0), (1, .ref h1), (2, .int 49), (3, .int 0)]) hx hb dX4_isStuckShown_51 hl (by decide) rfl (fun ls hl => ?_)
  refine lv_aload hx hb dX4_isStuckShown_53 (lv_at hl 0 rfl) ?_
  refine lv_aload hx hb dX4_isStuckShown_55 (lv_at hl 0 rfl) ?_
  refine va_get (D := (dC, dI)) (ci := 3) (v := .int 48) (C := RX2) (T := TX2) (N := 19) hx hb hts in_X2 hown hK hP 10 rfl rfl 11 (by decide) (hts _ q_385) (fun _ h9 => h9) rfl dX4_isStuckShown_57 ?_
  refine va_put (D := (dC, dI)) (ci := 3) (v := .int 48) (ty := .char) (C := RX2) (T := TX2) (N := 19) hx hb hts in_X2 tyX2 tyX2_ok nmX2 hown hK hP hD (va_Sre hS) 10 rfl rfl 12 (by decide) (hts _ q_400) (fun _ h9 => h9) rfl (by decide +kernel) rfl rfl (Nat.le_of_ble_eq_true rfl) dX4_isStuckShown_60 (fun H32 _ hP hD hS' => ?_)
  have hG : s.heap.size + 0 ≤ H32.size := Nat.le_trans hG hS'.1
  have hS := va_Str hS hS'
  have hP : va_P (dC, dI) xCl [(h0, ce271 h2 o0), (h1, ce286 (z.2.1 0) o1 h1), (h2, ce7 h3 h4 o2 h5), (h3, ce201 h6), (h4, ce201 h7), (h5, ce226 h8), (h6, ce200 kc0 h9 h10 h11 h12 h1), (h7, ce200 kc1 h9 h10 h11 h12 h1), (h8, ce200 kc2 h9 h10 h11 h12 h1), (h9, ce282 (z.2.1 0) o3 h9), (h10, ce283 (z.2.1 0) o4 h10), (h11, ce284 (z.2.1 0) o5 h11), (h12, ce285 (z.2.1 0) o6 h12)] H32 := hP
  have hD := vd_as hP hD rfl
  refine lv_iinc (v := 2) (lv' := [(4, .int 2), (5, .ref h10), (0, .ref h0), (1, .ref h1), (2, .int 49), (3, .int 0)]) hx hb dX4_isStuckShown_63 hl (k := 1) rfl (by decide) (by decide) rfl (fun ls hl => ?_)
  refine lv_goto (tgt := 21) hx hb dX4_isStuckShown_66 (by decide) ?_
  refine lv_iload hx hb dX4_isStuckShown_21 (lv_at hl 0 rfl) ?_
  refine lv_aload_n hx hb dX4_isStuckShown_23 rfl (lv_at hl 2 rfl) ?_
  refine va_get (D := (dC, dI)) (ci := 4) (v := .ref h2) (C := RX4) (T := TX4) (N := 3) hx hb hts in_X4 hown hK hP 0 rfl rfl 0 (by decide) (hts _ q_50) (fun _ h9 => h9) rfl dX4_isStuckShown_24 ?_
  refine va_get (D := (dC, dI)) (ci := 2) (v := .ref h3) (C := RX0) (T := TX0) (N := 4) hx hb hts in_X0 hown hK hP 2 rfl rfl 0 (by decide) (hts _ q_399) (fun _ h9 => h9) rfl dX4_isStuckShown_27 ?_
  have hM35 := k20_size l hl9 dC dI z h3 h6 H32.size 5 5
  obtain ⟨hF33, hC36⟩ := pc_M hM35 hP hD hK hS hX hT hA [3] [] rfl rfl rfl
  refine va_calli (va_runV (As := []) (rest := [.int 2]) ⟨hx, hb, hml, hown, hts⟩ hM35 (cwV 0 hts (gV q_348 q_77 q_78 q_12 q_75) rfl rfl rfl hV_Jx4a65c_size_8abf5 ⟨Nat.le_of_ble_eq_true rfl, Nat.le_of_ble_eq_true rfl⟩) ⟨pc_blind, va_recv hK hP (ci := 0) (q0 := 3) rfl rfl, fun U hU hW => ⟨rfl, hC36 U hU hW⟩⟩ rfl rfl hl.1 rfl (lv_room (Nat.le_of_ble_eq_true rfl)) dX4_isStuckShown_30 ⟨(Nat.le_of_ble_eq_true rfl), (Nat.le_of_ble_eq_true rfl)⟩) hS (fun q9 _ h9 => hF33 q9 h9) hF33 (fun r38 u37 t37 H37 L37 ht37 hvm37 hw37 hB37 hz37 hk37 hS => ?_)
  have hP := pq_keep hP hD [3] rfl hk37 hB37.1 ht37
  have hG : s.heap.size + 0 ≤ H37.size := Nat.le_trans hG hz37
  refine W.eq (g2 := F0 m 33 ls [.int 5, .int 2]) (by rw [hw37]) ?_
  refine lv_icmp_ge (tgt := 69) hx hb dX4_isStuckShown_33 (by decide) (fun cz => absurd cz (by decide)) (fun _ => ?_)
  refine lv_aload_n hx hb dX4_isStuckShown_36 rfl (lv_at hl 2 rfl) ?_
  refine va_get (D := (dC, dI)) (ci := 4) (v := .ref h2) (C := RX4) (T := TX4) (N := 3) hx hb hts in_X4 hown hK hP 0 rfl rfl 0 (by decide) (hts _ q_50) (fun _ h9 => h9) rfl dX4_isStuckShown_37 ?_
  refine va_get (D := (dC, dI)) (ci := 2) (v := .ref h3) (C := RX0) (T := TX0) (N := 4) hx hb hts in_X0 hown hK hP 2 rfl rfl 0 (by decide) (hts _ q_399) (fun _ h9 => h9) rfl dX4_isStuckShown_40 ?_
  refine lv_iload hx hb dX4_isStuckShown_43 (lv_at hl 0 rfl) ?_
  have hM41 := k376_get l hl9 dC dI z h3 h6 h9 h10 h11 h12 h1 H37.size kc0
  obtain ⟨hF39, hC42⟩ := pc_M hM41 hP hD hK hS hX hT hA [3, 6] [0] rfl rfl rfl
  refine va_callr (va_runV (As := [.int 2]) (rest := []) ⟨hx, hb, hml, hown, hts⟩ hM41 (cwV 1 hts (gV q_383 q_157 q_158 q_12 q_155) rfl rfl rfl hV_Jx4a65c_get_915e3 ⟨Nat.le_of_ble_eq_true rfl, Nat.le_of_ble_eq_true rfl⟩) ⟨pc_blind, va_recv hK hP (ci := 0) (q0 := 3) rfl rfl, fun U hU hW => ⟨rfl, hC42 U hU hW⟩⟩ rfl rfl hl.1 rfl (lv_room (Nat.le_of_ble_eq_true rfl)) dX4_isStuckShown_45 ⟨(Nat.le_of_ble_eq_true rfl), (Nat.le_of_ble_eq_true rfl)⟩) hS (fun q9 _ h9 => hF39 q9 h9) hF39 (fun u43 r44 t43 H43 L43 ht43 hvm43 hw43 hB43 hz43 hk43 hS => ?_)
  obtain ⟨hr43, hB43⟩ := hB43
  have hP := pq_keep hP hD [3, 6] rfl hk43 hB43.1 ht43
  have hG : s.heap.size + 0 ≤ H43.size := Nat.le_trans hG hz43
  refine W.eq (g2 := F0 m 48 ls [.ref h11]) (by rw [hr43]) ?_
  refine va_castE (nm := RX2) hx hb hown (hts _ q_384) (va_recv hK hP (ci := 3) (q0 := 11) rfl rfl) dX4_isStuckShown_48 ?_
  refine lv_astore (lv' := [(5, .ref h11), (4, .int 2), (0, .ref h0), (1, .ref h1), (2, .int 49), (3, .int 0)]) hx hb dX4_isStuckShown_51 hl (by decide) rfl (fun ls hl => ?_)
  refine lv_aload hx hb dX4_isStuckShown_53 (lv_at hl 0 rfl) ?_
  refine lv_aload hx hb dX4_isStuckShown_55 (lv_at hl 0 rfl) ?_
  refine va_get (D := (dC, dI)) (ci := 3) (v := .int 48) (C := RX2) (T := TX2) (N := 19) hx hb hts in_X2 hown hK hP 11 rfl rfl 11 (by decide) (hts _ q_385) (fun _ h9 => h9) rfl dX4_isStuckShown_57 ?_
  refine va_put (D := (dC, dI)) (ci := 3) (v := .int 48) (ty := .char) (C := RX2) (T := TX2) (N := 19) hx hb hts in_X2 tyX2 tyX2_ok nmX2 hown hK hP hD (va_Sre hS) 11 rfl rfl 12 (by decide) (hts _ q_400) (fun _ h9 => h9) rfl (by decide +kernel) rfl rfl (Nat.le_of_ble_eq_true rfl) dX4_isStuckShown_60 (fun H45 _ hP hD hS' => ?_)
  have hG : s.heap.size + 0 ≤ H45.size := Nat.le_trans hG hS'.1
  have hS := va_Str hS hS'
  have hP : va_P (dC, dI) xCl [(h0, ce271 h2 o0), (h1, ce286 (z.2.1 0) o1 h1), (h2, ce7 h3 h4 o2 h5), (h3, ce201 h6), (h4, ce201 h7), (h5, ce226 h8), (h6, ce200 kc0 h9 h10 h11 h12 h1), (h7, ce200 kc1 h9 h10 h11 h12 h1), (h8, ce200 kc2 h9 h10 h11 h12 h1), (h9, ce282 (z.2.1 0) o3 h9), (h10, ce283 (z.2.1 0) o4 h10), (h11, ce284 (z.2.1 0) o5 h11), (h12, ce285 (z.2.1 0) o6 h12)] H45 := hP
  have hD := vd_as hP hD rfl
  refine lv_iinc (v := 3) (lv' := [(4, .int 3), (5, .ref h11), (0, .ref h0), (1, .ref h1), (2, .int 49), (3, .int 0)]) hx hb dX4_isStuckShown_63 hl (k := 1) rfl (by decide) (by decide) rfl (fun ls hl => ?_)
  refine lv_goto (tgt := 21) hx hb dX4_isStuckShown_66 (by decide) ?_
  refine lv_iload hx hb dX4_isStuckShown_21 (lv_at hl 0 rfl) ?_
  refine lv_aload_n hx hb dX4_isStuckShown_23 rfl (lv_at hl 2 rfl) ?_
  refine va_get (D := (dC, dI)) (ci := 4) (v := .ref h2) (C := RX4) (T := TX4) (N := 3) hx hb hts in_X4 hown hK hP 0 rfl rfl 0 (by decide) (hts _ q_50) (fun _ h9 => h9) rfl dX4_isStuckShown_24 ?_
  refine va_get (D := (dC, dI)) (ci := 2) (v := .ref h3) (C := RX0) (T := TX0) (N := 4) hx hb hts in_X0 hown hK hP 2 rfl rfl 0 (by decide) (hts _ q_399) (fun _ h9 => h9) rfl dX4_isStuckShown_27 ?_
  have hM48 := k20_size l hl9 dC dI z h3 h6 H45.size 5 5
  obtain ⟨hF46, hC49⟩ := pc_M hM48 hP hD hK hS hX hT hA [3] [] rfl rfl rfl
  refine va_calli (va_runV (As := []) (rest := [.int 3]) ⟨hx, hb, hml, hown, hts⟩ hM48 (cwV 0 hts (gV q_348 q_77 q_78 q_12 q_75) rfl rfl rfl hV_Jx4a65c_size_8abf5 ⟨Nat.le_of_ble_eq_true rfl, Nat.le_of_ble_eq_true rfl⟩) ⟨pc_blind, va_recv hK hP (ci := 0) (q0 := 3) rfl rfl, fun U hU hW => ⟨rfl, hC49 U hU hW⟩⟩ rfl rfl hl.1 rfl (lv_room (Nat.le_of_ble_eq_true rfl)) dX4_isStuckShown_30 ⟨(Nat.le_of_ble_eq_true rfl), (Nat.le_of_ble_eq_true rfl)⟩) hS (fun q9 _ h9 => hF46 q9 h9) hF46 (fun r51 u50 t50 H50 L50 ht50 hvm50 hw50 hB50 hz50 hk50 hS => ?_)
  have hP := pq_keep hP hD [3] rfl hk50 hB50.1 ht50
  have hG : s.heap.size + 0 ≤ H50.size := Nat.le_trans hG hz50
  refine W.eq (g2 := F0 m 33 ls [.int 5, .int 3]) (by rw [hw50]) ?_
  refine lv_icmp_ge (tgt := 69) hx hb dX4_isStuckShown_33 (by decide) (fun cz => absurd cz (by decide)) (fun _ => ?_)
  refine lv_aload_n hx hb dX4_isStuckShown_36 rfl (lv_at hl 2 rfl) ?_
  refine va_get (D := (dC, dI)) (ci := 4) (v := .ref h2) (C := RX4) (T := TX4) (N := 3) hx hb hts in_X4 hown hK hP 0 rfl rfl 0 (by decide) (hts _ q_50) (fun _ h9 => h9) rfl dX4_isStuckShown_37 ?_
  refine va_get (D := (dC, dI)) (ci := 2) (v := .ref h3) (C := RX0) (T := TX0) (N := 4) hx hb hts in_X0 hown hK hP 2 rfl rfl 0 (by decide) (hts _ q_399) (fun _ h9 => h9) rfl dX4_isStuckShown_40 ?_
  refine lv_iload hx hb dX4_isStuckShown_43 (lv_at hl 0 rfl) ?_
  have hM54 := k380_get l hl9 dC dI z h3 h6 h9 h10 h11 h12 h1 H50.size kc0
  obtain ⟨hF52, hC55⟩ := pc_M hM54 hP hD hK hS hX hT hA [3, 6] [0] rfl rfl rfl
  refine va_callr (va_runV (As := [.int 3]) (rest := []) ⟨hx, hb, hml, hown, hts⟩ hM54 (cwV 1 hts (gV q_383 q_157 q_158 q_12 q_155) rfl rfl rfl hV_Jx4a65c_get_915e3 ⟨Nat.le_of_ble_eq_true rfl, Nat.le_of_ble_eq_true rfl⟩) ⟨pc_blind, va_recv hK hP (ci := 0) (q0 := 3) rfl rfl, fun U hU hW => ⟨rfl, hC55 U hU hW⟩⟩ rfl rfl hl.1 rfl (lv_room (Nat.le_of_ble_eq_true rfl)) dX4_isStuckShown_45 ⟨(Nat.le_of_ble_eq_true rfl), (Nat.le_of_ble_eq_true rfl)⟩) hS (fun q9 _ h9 => hF52 q9 h9) hF52 (fun u56 r57 t56 H56 L56 ht56 hvm56 hw56 hB56 hz56 hk56 hS => ?_)
  obtain ⟨hr56, hB56⟩ := hB56
  have hP := pq_keep hP hD [3, 6] rfl hk56 hB56.1 ht56
  have hG : s.heap.size + 0 ≤ H56.size := Nat.le_trans hG hz56
  refine W.eq (g2 := F0 m 48 ls [.ref h12]) (by rw [hr56]) ?_
  refine va_castE (nm := RX2) hx hb hown (hts _ q_384) (va_recv hK hP (ci := 3) (q0 := 12) rfl rfl) dX4_isStuckShown_48 ?_
  refine lv_astore (lv' := [(5, .ref h12), (4, .int 3), (0, .ref h0), (1, .ref h1), (2, .int 49), (3, .int 0)]) hx hb dX4_isStuckShown_51 hl (by decide) rfl (fun ls hl => ?_)
  refine lv_aload hx hb dX4_isStuckShown_53 (lv_at hl 0 rfl) ?_
  refine lv_aload hx hb dX4_isStuckShown_55 (lv_at hl 0 rfl) ?_
  refine va_get (D := (dC, dI)) (ci := 3) (v := .int 48) (C := RX2) (T := TX2) (N := 19) hx hb hts in_X2 hown hK hP 12 rfl rfl 11 (by decide) (hts _ q_385) (fun _ h9 => h9) rfl dX4_isStuckShown_57 ?_
  refine va_put (D := (dC, dI)) (ci := 3) (v := .int 48) (ty := .char) (C := RX2) (T := TX2) (N := 19) hx hb hts in_X2 tyX2 tyX2_ok nmX2 hown hK hP hD (va_Sre hS) 12 rfl rfl 12 (by decide) (hts _ q_400) (fun _ h9 => h9) rfl (by decide +kernel) rfl rfl (Nat.le_of_ble_eq_true rfl) dX4_isStuckShown_60 (fun H58 _ hP hD hS' => ?_)
  have hG : s.heap.size + 0 ≤ H58.size := Nat.le_trans hG hS'.1
  have hS := va_Str hS hS'
  have hP : va_P (dC, dI) xCl [(h0, ce271 h2 o0), (h1, ce286 (z.2.1 0) o1 h1), (h2, ce7 h3 h4 o2 h5), (h3, ce201 h6), (h4, ce201 h7), (h5, ce226 h8), (h6, ce200 kc0 h9 h10 h11 h12 h1), (h7, ce200 kc1 h9 h10 h11 h12 h1), (h8, ce200 kc2 h9 h10 h11 h12 h1), (h9, ce282 (z.2.1 0) o3 h9), (h10, ce283 (z.2.1 0) o4 h10), (h11, ce284 (z.2.1 0) o5 h11), (h12, ce285 (z.2.1 0) o6 h12)] H58 := hP
  have hD := vd_as hP hD rfl
  refine lv_iinc (v := 4) (lv' := [(4, .int 4), (5, .ref h12), (0, .ref h0), (1, .ref h1), (2, .int 49), (3, .int 0)]) hx hb dX4_isStuckShown_63 hl (k := 1) rfl (by decide) (by decide) rfl (fun ls hl => ?_)
  refine lv_goto (tgt := 21) hx hb dX4_isStuckShown_66 (by decide) ?_
  refine lv_iload hx hb dX4_isStuckShown_21 (lv_at hl 0 rfl) ?_
  refine lv_aload_n hx hb dX4_isStuckShown_23 rfl (lv_at hl 2 rfl) ?_
  refine va_get (D := (dC, dI)) (ci := 4) (v := .ref h2) (C := RX4) (T := TX4) (N := 3) hx hb hts in_X4 hown hK hP 0 rfl rfl 0 (by decide) (hts _ q_50) (fun _ h9 => h9) rfl dX4_isStuckShown_24 ?_
  refine va_get (D := (dC, dI)) (ci := 2) (v := .ref h3) (C := RX0) (T := TX0) (N := 4) hx hb hts in_X0 hown hK hP 2 rfl rfl 0 (by decide) (hts _ q_399) (fun _ h9 => h9) rfl dX4_isStuckShown_27 ?_
  have hM61 := k20_size l hl9 dC dI z h3 h6 H58.size 5 5
  obtain ⟨hF59, hC62⟩ := pc_M hM61 hP hD hK hS hX hT hA [3] [] rfl rfl rfl
  refine va_calli (va_runV (As := []) (rest := [.int 4]) ⟨hx, hb, hml, hown, hts⟩ hM61 (cwV 0 hts (gV q_348 q_77 q_78 q_12 q_75) rfl rfl rfl hV_Jx4a65c_size_8abf5 ⟨Nat.le_of_ble_eq_true rfl, Nat.le_of_ble_eq_true rfl⟩) ⟨pc_blind, va_recv hK hP (ci := 0) (q0 := 3) rfl rfl, fun U hU hW => ⟨rfl, hC62 U hU hW⟩⟩ rfl rfl hl.1 rfl (lv_room (Nat.le_of_ble_eq_true rfl)) dX4_isStuckShown_30 ⟨(Nat.le_of_ble_eq_true rfl), (Nat.le_of_ble_eq_true rfl)⟩) hS (fun q9 _ h9 => hF59 q9 h9) hF59 (fun r64 u63 t63 H63 L63 ht63 hvm63 hw63 hB63 hz63 hk63 hS => ?_)
  have hP := pq_keep hP hD [3] rfl hk63 hB63.1 ht63
  have hG : s.heap.size + 0 ≤ H63.size := Nat.le_trans hG hz63
  refine W.eq (g2 := F0 m 33 ls [.int 5, .int 4]) (by rw [hw63]) ?_
  refine lv_icmp_ge (tgt := 69) hx hb dX4_isStuckShown_33 (by decide) (fun cz => absurd cz (by decide)) (fun _ => ?_)
  refine lv_aload_n hx hb dX4_isStuckShown_36 rfl (lv_at hl 2 rfl) ?_
  refine va_get (D := (dC, dI)) (ci := 4) (v := .ref h2) (C := RX4) (T := TX4) (N := 3) hx hb hts in_X4 hown hK hP 0 rfl rfl 0 (by decide) (hts _ q_50) (fun _ h9 => h9) rfl dX4_isStuckShown_37 ?_
  refine va_get (D := (dC, dI)) (ci := 2) (v := .ref h3) (C := RX0) (T := TX0) (N := 4) hx hb hts in_X0 hown hK hP 2 rfl rfl 0 (by decide) (hts _ q_399) (fun _ h9 => h9) rfl dX4_isStuckShown_40 ?_
  refine lv_iload hx hb dX4_isStuckShown_43 (lv_at hl 0 rfl) ?_
  have hM67 := k384_get l hl9 dC dI z h3 h6 h9 h10 h11 h12 h1 H63.size kc0
  obtain ⟨hF65, hC68⟩ := pc_M hM67 hP hD hK hS hX hT hA [3, 6] [0] rfl rfl rfl
  refine va_callr (va_runV (As := [.int 4]) (rest := []) ⟨hx, hb, hml, hown, hts⟩ hM67 (cwV 1 hts (gV q_383 q_157 q_158 q_12 q_155) rfl rfl rfl hV_Jx4a65c_get_915e3 ⟨Nat.le_of_ble_eq_true rfl, Nat.le_of_ble_eq_true rfl⟩) ⟨pc_blind, va_recv hK hP (ci := 0) (q0 := 3) rfl rfl, fun U hU hW => ⟨rfl, hC68 U hU hW⟩⟩ rfl rfl hl.1 rfl (lv_room (Nat.le_of_ble_eq_true rfl)) dX4_isStuckShown_45 ⟨(Nat.le_of_ble_eq_true rfl), (Nat.le_of_ble_eq_true rfl)⟩) hS (fun q9 _ h9 => hF65 q9 h9) hF65 (fun u69 r70 t69 H69 L69 ht69 hvm69 hw69 hB69 hz69 hk69 hS => ?_)
  obtain ⟨hr69, hB69⟩ := hB69
  have hP := pq_keep hP hD [3, 6] rfl hk69 hB69.1 ht69
  have hG : s.heap.size + 0 ≤ H69.size := Nat.le_trans hG hz69
  refine W.eq (g2 := F0 m 48 ls [.ref h1]) (by rw [hr69]) ?_
  refine va_castE (nm := RX2) hx hb hown (hts _ q_384) (va_recv hK hP (ci := 3) (q0 := 1) rfl rfl) dX4_isStuckShown_48 ?_
  refine lv_astore (lv' := [(5, .ref h1), (4, .int 4), (0, .ref h0), (1, .ref h1), (2, .int 49), (3, .int 0)]) hx hb dX4_isStuckShown_51 hl (by decide) rfl (fun ls hl => ?_)
  refine lv_aload hx hb dX4_isStuckShown_53 (lv_at hl 0 rfl) ?_
  refine lv_aload hx hb dX4_isStuckShown_55 (lv_at hl 0 rfl) ?_
  refine va_get (D := (dC, dI)) (ci := 3) (v := .int 48) (C := RX2) (T := TX2) (N := 19) hx hb hts in_X2 hown hK hP 1 rfl rfl 11 (by decide) (hts _ q_385) (fun _ h9 => h9) rfl dX4_isStuckShown_57 ?_
  refine va_put (D := (dC, dI)) (ci := 3) (v := .int 48) (ty := .char) (C := RX2) (T := TX2) (N := 19) hx hb hts in_X2 tyX2 tyX2_ok nmX2 hown hK hP hD (va_Sre hS) 1 rfl rfl 12 (by decide) (hts _ q_400) (fun _ h9 => h9) rfl (by decide +kernel) rfl rfl (Nat.le_of_ble_eq_true rfl) dX4_isStuckShown_60 (fun H71 _ hP hD hS' => ?_)
  have hG : s.heap.size + 0 ≤ H71.size := Nat.le_trans hG hS'.1
  have hS := va_Str hS hS'
  have hP : va_P (dC, dI) xCl [(h0, ce271 h2 o0), (h1, ce286 (z.2.1 0) o1 h1), (h2, ce7 h3 h4 o2 h5), (h3, ce201 h6), (h4, ce201 h7), (h5, ce226 h8), (h6, ce200 kc0 h9 h10 h11 h12 h1), (h7, ce200 kc1 h9 h10 h11 h12 h1), (h8, ce200 kc2 h9 h10 h11 h12 h1), (h9, ce282 (z.2.1 0) o3 h9), (h10, ce283 (z.2.1 0) o4 h10), (h11, ce284 (z.2.1 0) o5 h11), (h12, ce285 (z.2.1 0) o6 h12)] H71 := hP
  have hD := vd_as hP hD rfl
  refine lv_iinc (v := 5) (lv' := [(4, .int 5), (5, .ref h1), (0, .ref h0), (1, .ref h1), (2, .int 49), (3, .int 0)]) hx hb dX4_isStuckShown_63 hl (k := 1) rfl (by decide) (by decide) rfl (fun ls hl => ?_)
  refine lv_goto (tgt := 21) hx hb dX4_isStuckShown_66 (by decide) ?_
  refine lv_iload hx hb dX4_isStuckShown_21 (lv_at hl 0 rfl) ?_
  refine lv_aload_n hx hb dX4_isStuckShown_23 rfl (lv_at hl 2 rfl) ?_
  refine va_get (D := (dC, dI)) (ci := 4) (v := .ref h2) (C := RX4) (T := TX4) (N := 3) hx hb hts in_X4 hown hK hP 0 rfl rfl 0 (by decide) (hts _ q_50) (fun _ h9 => h9) rfl dX4_isStuckShown_24 ?_
  refine va_get (D := (dC, dI)) (ci := 2) (v := .ref h3) (C := RX0) (T := TX0) (N := 4) hx hb hts in_X0 hown hK hP 2 rfl rfl 0 (by decide) (hts _ q_399) (fun _ h9 => h9) rfl dX4_isStuckShown_27 ?_
  have hM74 := k20_size l hl9 dC dI z h3 h6 H71.size 5 5
  obtain ⟨hF72, hC75⟩ := pc_M hM74 hP hD hK hS hX hT hA [3] [] rfl rfl rfl
  refine va_calli (va_runV (As := []) (rest := [.int 5]) ⟨hx, hb, hml, hown, hts⟩ hM74 (cwV 0 hts (gV q_348 q_77 q_78 q_12 q_75) rfl rfl rfl hV_Jx4a65c_size_8abf5 ⟨Nat.le_of_ble_eq_true rfl, Nat.le_of_ble_eq_true rfl⟩) ⟨pc_blind, va_recv hK hP (ci := 0) (q0 := 3) rfl rfl, fun U hU hW => ⟨rfl, hC75 U hU hW⟩⟩ rfl rfl hl.1 rfl (lv_room (Nat.le_of_ble_eq_true rfl)) dX4_isStuckShown_30 ⟨(Nat.le_of_ble_eq_true rfl), (Nat.le_of_ble_eq_true rfl)⟩) hS (fun q9 _ h9 => hF72 q9 h9) hF72 (fun r77 u76 t76 H76 L76 ht76 hvm76 hw76 hB76 hz76 hk76 hS => ?_)
  have hP := pq_keep hP hD [3] rfl hk76 hB76.1 ht76
  have hG : s.heap.size + 0 ≤ H76.size := Nat.le_trans hG hz76
  refine W.eq (g2 := F0 m 33 ls [.int 5, .int 5]) (by rw [hw76]) ?_
  refine lv_icmp_ge (tgt := 69) hx hb dX4_isStuckShown_33 (by decide) (fun _ => ?_) (fun cz => absurd (by decide) cz)
  refine lv_aload_n hx hb dX4_isStuckShown_69 rfl (lv_at hl 2 rfl) ?_
  refine lv_iload_n hx hb dX4_isStuckShown_70 rfl (lv_at hl 5 rfl) ?_
  refine lv_aload_n hx hb dX4_isStuckShown_71 rfl (lv_at hl 3 rfl) ?_
  refine lv_iload_n hx hb dX4_isStuckShown_72 rfl (lv_at hl 4 rfl) ?_
  have hM80 := k610_tryRow l hl9 dC dI z h0 h1 h2 h4 h5 h7 h8 h9 h10 h11 h12 o0 o1 h3 o2 o3 o4 o5 o6 H76.size kc1 kc2
  obtain ⟨hF78, hC81⟩ := pc_M hM80 hP hD hK hS hX hT hA [0, 1, 2, 4, 5, 7, 8, 9, 10, 11, 12] [1, 2] rfl rfl rfl
  refine va_callv (va_runV (As := [.int 0, .ref h1, .int 49]) (rest := []) ⟨hx, hb, hml, hown, hts⟩ hM80 (cwV 3 hts (gV q_388 q_389 q_390 q_46 q_387) rfl rfl rfl hV_X4_tryRow ⟨Nat.le_of_ble_eq_true rfl, Nat.le_of_ble_eq_true rfl⟩) ⟨pc_blind, va_recv hK hP (ci := 4) (q0 := 0) rfl rfl, fun U hU hW => ⟨rfl, hC81 U hU hW⟩⟩ rfl rfl hl.1 rfl (lv_room (Nat.le_of_ble_eq_true rfl)) dX4_isStuckShown_73 ⟨(Nat.le_of_ble_eq_true rfl), (Nat.le_of_ble_eq_true rfl)⟩) hS (fun q9 _ h9 => hF78 q9 h9) hF78 (fun u82 t82 H82 L82 ht82 hvm82 hw82 hB82 hz82 hk82 hS => ?_)
  obtain ⟨hP, hD, hK⟩ := pq_jn (wz := [(h3, ce201 h6), (h6, ce200 kc0 h9 h10 h11 h12 h1), (h0, ce271 h2 o0), (h1, ce291 (z.2.1 0) o1 h1), (h2, ce7 h3 h4 o2 h5), (h4, ce201 h7), (h5, ce226 h8), (h7, ce200 kc1 h9 h10 h11 h12 h1), (h8, ce200 kc2 h9 h10 h11 h12 h1), (h9, ce282 (z.2.1 0) o3 h9), (h10, ce283 (z.2.1 0) o4 h10), (h11, ce284 (z.2.1 0) o5 h11), (h12, ce285 (z.2.1 0) o6 h12)]) (tz := [(kc0, .object "java/lang/Object"), (kc1, .object "java/lang/Object"), (kc2, .object "java/lang/Object")]) hP hD hK [0, 1, 2, 4, 5, 7, 8, 9, 10, 11, 12] [0] rfl hk82 hF78 hB82.1 ht82 hvm82 rfl rfl
  have hG : s.heap.size + 0 ≤ H82.size := Nat.le_trans hG hz82
  refine lv_aload_n hx hb dX4_isStuckShown_76 rfl (lv_at hl 2 rfl) ?_
  have hM86 := k612_isDifferenceWatched l hl9 dC dI z h0 h2 h3 h6 h9 h10 h11 h12 h1 o0 h4 o2 h5 o3 o4 o5 o6 o1 H82.size kc0
  obtain ⟨hF84, hC87⟩ := pc_M hM86 hP hD hK hS hX hT hA [2, 4, 0, 1, 9, 10, 11, 12, 3] [0] rfl rfl rfl
  refine va_calli (va_runV (As := []) (rest := []) ⟨hx, hb, hml, hown, hts⟩ hM86 (cwV 0 hts (gV q_411 q_412 q_413 q_46 q_410) rfl rfl rfl hV_X4_isDifferenceWatched ⟨Nat.le_of_ble_eq_true rfl, Nat.le_of_ble_eq_true rfl⟩) ⟨pc_blind, va_recv hK hP (ci := 4) (q0 := 2) rfl rfl, fun U hU hW => ⟨rfl, hC87 U hU hW⟩⟩ rfl rfl hl.1 rfl (lv_room (Nat.le_of_ble_eq_true rfl)) dX4_isStuckShown_77 ⟨(Nat.le_of_ble_eq_true rfl), (Nat.le_of_ble_eq_true rfl)⟩) hS (fun q9 _ h9 => hF84 q9 h9) hF84 (fun r89 u88 t88 H88 L88 ht88 hvm88 hw88 hB88 hz88 hk88 hS => ?_)
  have hP := pq_keep hP hD [2, 4, 0, 1, 9, 10, 11, 12, 3] rfl hk88 hB88.1 ht88
  have hG : s.heap.size + 0 ≤ H88.size := Nat.le_trans hG hz88
  refine W.eq (g2 := F0 m 80 ls [.int 0]) (by rw [hw88]) ?_
  exact W.zret (v := 0) (ty := .boolean) hx hb hr rfl (fun t9 ht9 hW9 => ⟨⟨0, (), rfl, rfl, ⟨pq_mk2 hP hD hK [2, 3, 4, 0, 5, 6, 1, 7, 8, 9, 10, 11, 12] [0, 1, 2] rfl rfl rfl ht9 hW9, by rw [ht9]; exact Nat.le_trans (Nat.add_le_add_left (Nat.le_of_ble_eq_true rfl) _) hG⟩⟩, hS.F ht9⟩) hS.2.2 dX4_isStuckShown_80

set_option maxHeartbeats 4000000 in
set_option maxRecDepth 100000 in
theorem k614_tryRow (l : Launch) (hl9 : l.stackTraces = false) (dC : Nat → ClassId) (dI : Nat → Nat → Nat) (z : XZ) (h0 h1 h2 h3 h4 h5 h6 h7 h8 h9 h10 : Nat) (o0 o1 o2 o3 o4 o5 o6 o7 : Nat) (sz : Nat) (kc0 kc1 : ClassId) : Met l yX4_tryRow (.code yX4_tryRow cX4_tryRow 5 none :: wsL_law) ({ frames := 4, cells := 0, slots := 0, locals := 88 }) (va_Pc [.ref h0, .int 0, .null, .int 120] (PC (dC, dI) [(h0, ce271 h1 o0), (h1, ce7 o1 h2 o2 h3), (h2, ce201 h4), (h3, ce226 h5), (h4, ce200 kc0 h6 h7 h8 h9 h10), (h5, ce200 kc1 h6 h7 h8 h9 h10), (h6, ce282 (z.2.1 0) o3 h6), (h7, ce283 (z.2.1 0) o4 h7), (h8, ce284 (z.2.1 0) o5 h8), (h9, ce285 (z.2.1 0) o6 h9), (h10, ce291 (z.2.1 0) o7 h10)] [(kc0, .object "java/lang/Object"), (kc1, .object "java/lang/Object")] sz z)) (va_Qv (fun (_ : Unit) => True) (fun (_ : Unit) (t : State) => PG (dC, dI) [(h0, ce271 h1 o0), (h1, ce7 o1 h2 o2 h3), (h2, ce201 h4), (h3, ce226 h5), (h4, ce200 kc0 h6 h7 h8 h9 h10), (h5, ce200 kc1 h6 h7 h8 h9 h10), (h6, ce282 (z.2.1 0) o3 h6), (h7, ce283 (z.2.1 0) o4 h7), (h8, ce284 (z.2.1 0) o5 h8), (h9, ce285 (z.2.1 0) o6 h9), (h10, ce286 (z.2.1 0) o7 h10)] [(kc0, .object "java/lang/Object"), (kc1, .object "java/lang/Object")] (va_A [(h0, ce271 h1 o0), (h1, ce7 o1 h2 o2 h3), (h2, ce201 h4), (h3, ce226 h5), (h4, ce200 kc0 h6 h7 h8 h9 h10), (h5, ce200 kc1 h6 h7 h8 h9 h10), (h6, ce282 (z.2.1 0) o3 h6), (h7, ce283 (z.2.1 0) o4 h7), (h8, ce284 (z.2.1 0) o5 h8), (h9, ce285 (z.2.1 0) o6 h9), (h10, ce291 (z.2.1 0) o7 h10)] sz) sz 0 t) (va_A [(h0, ce271 h1 o0), (h1, ce7 o1 h2 o2 h3), (h2, ce201 h4), (h3, ce226 h5), (h4, ce200 kc0 h6 h7 h8 h9 h10), (h5, ce200 kc1 h6 h7 h8 h9 h10), (h6, ce282 (z.2.1 0) o3 h6), (h7, ce283 (z.2.1 0) o4 h7), (h8, ce284 (z.2.1 0) o5 h8), (h9, ce285 (z.2.1 0) o6 h9), (h10, ce291 (z.2.1 0) o7 h10)] sz)) 0 0 (va_A [(h0, ce271 h1 o0), (h1, ce7 o1 h2 o2 h3), (h2, ce201 h4), (h3, ce226 h5), (h4, ce200 kc0 h6 h7 h8 h9 h10), (h5, ce200 kc1 h6 h7 h8 h9 h10), (h6, ce282 (z.2.1 0) o3 h6), (h7, ce283 (z.2.1 0) o4 h7), (h8, ce284 (z.2.1 0) o5 h8), (h9, ce285 (z.2.1 0) o6 h9), (h10, ce291 (z.2.1 0) o7 h10)] sz) := by
  refine Met.ofW (cc := cX4_tryRow) (maxL := 5) (ret := none) (by decide) rfl ?_
  intro p e s m args below meth c s₁ B hml hv
  obtain ⟨rfl, hsz, hP, hK, hD0, hX, hT⟩ := hv
  have hx := B.exec
  have hb := B.bytes
  have hr := B.returns
  have hts0 := atoms_spec (ws := .code yX4_tryRow cX4_tryRow 5 none :: wsL_law) B.pre
  have hts := xTail hts0
  have hown : s.vm.findClass RX4 = some m.cls := findClass_of_methodNamed B.named
  have hlocks := B.notSynchronized
  subst hsz
  have hD := hD0.self (sz := s.heap.size)
  generalize hAe : va_A [(h0, ce271 h1 o0), (h1, ce7 o1 h2 o2 h3), (h2, ce201 h4), (h3, ce226 h5), (h4, ce200 kc0 h6 h7 h8 h9 h10), (h5, ce200 kc1 h6 h7 h8 h9 h10), (h6, ce282 (z.2.1 0) o3 h6), (h7, ce283 (z.2.1 0) o4 h7), (h8, ce284 (z.2.1 0) o5 h8), (h9, ce285 (z.2.1 0) o6 h9), (h10, ce291 (z.2.1 0) o7 h10)] s.heap.size = A at hD hX ⊢
  have hA : ∀ q : Nat, s.heap.size ≤ q → A q := fun q h => by rw [← hAe]; exact Or.inr h
  have hS : va_S A s.heap s.heap [] := va_S.rf
  have hG : s.heap.size + 0 ≤ s.heap.size := Nat.le_refl _
  have hl := lv_entry ([.ref h0, .int 0, .null, .int 120]) (n := 5) (Nat.le_of_ble_eq_true rfl)
  rw [lg_entry_eq]
  generalize (lg_sl ([.ref h0, .int 0, .null, .int 120]) ++ List.replicate (5 - (lg_sl ([.ref h0, .int 0, .null, .int 120])).length) Slot.unset).toArray = ls at hl ⊢
  have hl : lv_has ls 5 [(0, .ref h0), (1, .int 0), (2, .null), (3, .int 120)] := hl
  refine lv_iconst (v := 0) hx hb dX4_tryRow_0 (by decide) ?_
  refine lv_istore (lv' := [(4, .int 0), (0, .ref h0), (1, .int 0), (2, .null), (3, .int 120)]) hx hb dX4_tryRow_1 hl (by decide) rfl (fun ls hl => ?_)
  refine lv_iload hx hb dX4_tryRow_3 (lv_at hl 0 rfl) ?_
  refine lv_aload_n hx hb dX4_tryRow_5 rfl (lv_at hl 1 rfl) ?_
  refine va_get (D := (dC, dI)) (ci := 4) (v := .ref h1) (C := RX4) (T := TX4) (N := 3) hx hb hts in_X4 hown hK hP 0 rfl rfl 0 (by decide) (hts _ q_50) (fun _ h9 => h9) rfl dX4_tryRow_6 ?_
  refine va_get (D := (dC, dI)) (ci := 2) (v := .ref h2) (C := RX0) (T := TX0) (N := 4) hx hb hts in_X0 hown hK hP 1 rfl rfl 1 (by decide) (hts _ q_347) (fun _ h9 => h9) rfl dX4_tryRow_9 ?_
  have hM3 := k20_size l hl9 dC dI z h2 h4 s.heap.size 5 5
  obtain ⟨hF1, hC4⟩ := pc_M hM3 hP hD hK hS hX hT hA [2] [] rfl rfl rfl
  refine va_calli (va_runV (As := []) (rest := [.int 0]) ⟨hx, hb, hml, hown, hts⟩ hM3 (cwV 0 hts (gV q_348 q_77 q_78 q_12 q_75) rfl rfl rfl hV_Jx4a65c_size_8abf5 ⟨Nat.le_of_ble_eq_true rfl, Nat.le_of_ble_eq_true rfl⟩) ⟨pc_blind, va_recv hK hP (ci := 0) (q0 := 2) rfl rfl, fun U hU hW => ⟨rfl, hC4 U hU hW⟩⟩ rfl rfl hl.1 rfl (lv_room (Nat.le_of_ble_eq_true rfl)) dX4_tryRow_12 ⟨(Nat.le_of_ble_eq_true rfl), (Nat.le_of_ble_eq_true rfl)⟩) hS (fun q9 _ h9 => hF1 q9 h9) hF1 (fun r6 u5 t5 H5 L5 ht5 hvm5 hw5 hB5 hz5 hk5 hS => ?_)
  have hP := pq_keep hP hD [2] rfl hk5 hB5.1 ht5
  have hG : s.heap.size + 0 ≤ H5.size := Nat.le_trans hG hz5
  refine W.eq (g2 := F0 m 15 ls [.int 5, .int 0]) (by rw [hw5]) ?_
  refine lv_icmp_ge (tgt := 59) hx hb dX4_tryRow_15 (by decide) (fun cz => absurd cz (by decide)) (fun _ => ?_)
  refine lv_aload_n hx hb dX4_tryRow_18 rfl (lv_at hl 1 rfl) ?_
  refine va_get (D := (dC, dI)) (ci := 4) (v := .ref h1) (C := RX4) (T := TX4) (N := 3) hx hb hts in_X4 hown hK hP 0 rfl rfl 0 (by decide) (hts _ q_50) (fun _ h9 => h9) rfl dX4_tryRow_19 ?_
  refine va_get (D := (dC, dI)) (ci := 2) (v := .ref h2) (C := RX0) (T := TX0) (N := 4) hx hb hts in_X0 hown hK hP 1 rfl rfl 1 (by decide) (hts _ q_347) (fun _ h9 => h9) rfl dX4_tryRow_22 ?_
  refine lv_iload hx hb dX4_tryRow_25 (lv_at hl 0 rfl) ?_
  have hM9 := k368_get l hl9 dC dI z h2 h4 h6 h7 h8 h9 h10 H5.size kc0
  obtain ⟨hF7, hC10⟩ := pc_M hM9 hP hD hK hS hX hT hA [2, 4] [0] rfl rfl rfl
  refine va_callr (va_runV (As := [.int 0]) (rest := []) ⟨hx, hb, hml, hown, hts⟩ hM9 (cwV 1 hts (gV q_383 q_157 q_158 q_12 q_155) rfl rfl rfl hV_Jx4a65c_get_915e3 ⟨Nat.le_of_ble_eq_true rfl, Nat.le_of_ble_eq_true rfl⟩) ⟨pc_blind, va_recv hK hP (ci := 0) (q0 := 2) rfl rfl, fun U hU hW => ⟨rfl, hC10 U hU hW⟩⟩ rfl rfl hl.1 rfl (lv_room (Nat.le_of_ble_eq_true rfl)) dX4_tryRow_27 ⟨(Nat.le_of_ble_eq_true rfl), (Nat.le_of_ble_eq_true rfl)⟩) hS (fun q9 _ h9 => hF7 q9 h9) hF7 (fun u11 r12 t11 H11 L11 ht11 hvm11 hw11 hB11 hz11 hk11 hS => ?_)
  obtain ⟨hr11, hB11⟩ := hB11
  have hP := pq_keep hP hD [2, 4] rfl hk11 hB11.1 ht11
  have hG : s.heap.size + 0 ≤ H11.size := Nat.le_trans hG hz11
  refine W.eq (g2 := F0 m 30 ls [.ref h6]) (by rw [hr11]) ?_
  refine va_castE (nm := RX2) hx hb hown (hts _ q_384) (va_recv hK hP (ci := 3) (q0 := 6) rfl rfl) dX4_tryRow_30 ?_
  refine lv_iload_n hx hb dX4_tryRow_33 rfl (lv_at hl 2 rfl) ?_
  refine lv_iload hx hb dX4_tryRow_34 (lv_at hl 0 rfl) ?_
  refine lv_ishr hx hb dX4_tryRow_36 ?_
  refine lv_topi (fun y13 ey13 => ?_)
  obtain rfl : y13 = 0 := ey13.trans (by decide)
  refine lv_iconst (v := 1) hx hb dX4_tryRow_37 (by decide) ?_
  refine lv_iand hx hb dX4_tryRow_38 ?_
  refine lv_topi (fun y14 ey14 => ?_)
  obtain rfl : y14 = 0 := ey14.trans (by decide)
  refine lv_iconst (v := 1) hx hb dX4_tryRow_39 (by decide) ?_
  refine lv_icmp_ne (tgt := 48) hx hb dX4_tryRow_40 (by decide) (fun _ => ?_) (fun cz => absurd cz (by decide))
  refine lv_bipush (v := 48) hx hb dX4_tryRow_48 (by decide) ?_
  refine va_put (D := (dC, dI)) (ci := 3) (v := .int 48) (ty := .char) (C := RX2) (T := TX2) (N := 19) hx hb hts in_X2 tyX2 tyX2_ok nmX2 hown hK hP hD (va_Sre hS) 6 rfl rfl 11 (by decide) (hts _ q_385) (fun _ h9 => h9) rfl (by decide +kernel) rfl rfl (Nat.le_of_ble_eq_true rfl) dX4_tryRow_50 (fun H15 _ hP hD hS' => ?_)
  have hG : s.heap.size + 0 ≤ H15.size := Nat.le_trans hG hS'.1
  have hS := va_Str hS hS'
  have hP : va_P (dC, dI) xCl [(h0, ce271 h1 o0), (h1, ce7 o1 h2 o2 h3), (h2, ce201 h4), (h3, ce226 h5), (h4, ce200 kc0 h6 h7 h8 h9 h10), (h5, ce200 kc1 h6 h7 h8 h9 h10), (h6, ce282 (z.2.1 0) o3 h6), (h7, ce283 (z.2.1 0) o4 h7), (h8, ce284 (z.2.1 0) o5 h8), (h9, ce285 (z.2.1 0) o6 h9), (h10, ce291 (z.2.1 0) o7 h10)] H15 := hP
  have hD := vd_as hP hD rfl
  refine lv_iinc (v := 1) (lv' := [(4, .int 1), (0, .ref h0), (1, .int 0), (2, .null), (3, .int 120)]) hx hb dX4_tryRow_53 hl (k := 0) rfl (by decide) (by decide) rfl (fun ls hl => ?_)
  refine lv_goto (tgt := 3) hx hb dX4_tryRow_56 (by decide) ?_
  refine lv_iload hx hb dX4_tryRow_3 (lv_at hl 0 rfl) ?_
  refine lv_aload_n hx hb dX4_tryRow_5 rfl (lv_at hl 1 rfl) ?_
  refine va_get (D := (dC, dI)) (ci := 4) (v := .ref h1) (C := RX4) (T := TX4) (N := 3) hx hb hts in_X4 hown hK hP 0 rfl rfl 0 (by decide) (hts _ q_50) (fun _ h9 => h9) rfl dX4_tryRow_6 ?_
  refine va_get (D := (dC, dI)) (ci := 2) (v := .ref h2) (C := RX0) (T := TX0) (N := 4) hx hb hts in_X0 hown hK hP 1 rfl rfl 1 (by decide) (hts _ q_347) (fun _ h9 => h9) rfl dX4_tryRow_9 ?_
  have hM18 := k20_size l hl9 dC dI z h2 h4 H15.size 5 5
  obtain ⟨hF16, hC19⟩ := pc_M hM18 hP hD hK hS hX hT hA [2] [] rfl rfl rfl
  refine va_calli (va_runV (As := []) (rest := [.int 1]) ⟨hx, hb, hml, hown, hts⟩ hM18 (cwV 0 hts (gV q_348 q_77 q_78 q_12 q_75) rfl rfl rfl hV_Jx4a65c_size_8abf5 ⟨Nat.le_of_ble_eq_true rfl, Nat.le_of_ble_eq_true rfl⟩) ⟨pc_blind, va_recv hK hP (ci := 0) (q0 := 2) rfl rfl, fun U hU hW => ⟨rfl, hC19 U hU hW⟩⟩ rfl rfl hl.1 rfl (lv_room (Nat.le_of_ble_eq_true rfl)) dX4_tryRow_12 ⟨(Nat.le_of_ble_eq_true rfl), (Nat.le_of_ble_eq_true rfl)⟩) hS (fun q9 _ h9 => hF16 q9 h9) hF16 (fun r21 u20 t20 H20 L20 ht20 hvm20 hw20 hB20 hz20 hk20 hS => ?_)
  have hP := pq_keep hP hD [2] rfl hk20 hB20.1 ht20
  have hG : s.heap.size + 0 ≤ H20.size := Nat.le_trans hG hz20
  refine W.eq (g2 := F0 m 15 ls [.int 5, .int 1]) (by rw [hw20]) ?_
  refine lv_icmp_ge (tgt := 59) hx hb dX4_tryRow_15 (by decide) (fun cz => absurd cz (by decide)) (fun _ => ?_)
  refine lv_aload_n hx hb dX4_tryRow_18 rfl (lv_at hl 1 rfl) ?_
  refine va_get (D := (dC, dI)) (ci := 4) (v := .ref h1) (C := RX4) (T := TX4) (N := 3) hx hb hts in_X4 hown hK hP 0 rfl rfl 0 (by decide) (hts _ q_50) (fun _ h9 => h9) rfl dX4_tryRow_19 ?_
  refine va_get (D := (dC, dI)) (ci := 2) (v := .ref h2) (C := RX0) (T := TX0) (N := 4) hx hb hts in_X0 hown hK hP 1 rfl rfl 1 (by decide) (hts _ q_347) (fun _ h9 => h9) rfl dX4_tryRow_22 ?_
  refine lv_iload hx hb dX4_tryRow_25 (lv_at hl 0 rfl) ?_
  have hM24 := k372_get l hl9 dC dI z h2 h4 h6 h7 h8 h9 h10 H20.size kc0
  obtain ⟨hF22, hC25⟩ := pc_M hM24 hP hD hK hS hX hT hA [2, 4] [0] rfl rfl rfl
  refine va_callr (va_runV (As := [.int 1]) (rest := []) ⟨hx, hb, hml, hown, hts⟩ hM24 (cwV 1 hts (gV q_383 q_157 q_158 q_12 q_155) rfl rfl rfl hV_Jx4a65c_get_915e3 ⟨Nat.le_of_ble_eq_true rfl, Nat.le_of_ble_eq_true rfl⟩) ⟨pc_blind, va_recv hK hP (ci := 0) (q0 := 2) rfl rfl, fun U hU hW => ⟨rfl, hC25 U hU hW⟩⟩ rfl rfl hl.1 rfl (lv_room (Nat.le_of_ble_eq_true rfl)) dX4_tryRow_27 ⟨(Nat.le_of_ble_eq_true rfl), (Nat.le_of_ble_eq_true rfl)⟩) hS (fun q9 _ h9 => hF22 q9 h9) hF22 (fun u26 r27 t26 H26 L26 ht26 hvm26 hw26 hB26 hz26 hk26 hS => ?_)
  obtain ⟨hr26, hB26⟩ := hB26
  have hP := pq_keep hP hD [2, 4] rfl hk26 hB26.1 ht26
  have hG : s.heap.size + 0 ≤ H26.size := Nat.le_trans hG hz26
  refine W.eq (g2 := F0 m 30 ls [.ref h7]) (by rw [hr26]) ?_
  refine va_castE (nm := RX2) hx hb hown (hts _ q_384) (va_recv hK hP (ci := 3) (q0 := 7) rfl rfl) dX4_tryRow_30 ?_
  refine lv_iload_n hx hb dX4_tryRow_33 rfl (lv_at hl 2 rfl) ?_
  refine lv_iload hx hb dX4_tryRow_34 (lv_at hl 0 rfl) ?_
  refine lv_ishr hx hb dX4_tryRow_36 ?_
  refine lv_topi (fun y28 ey28 => ?_)
  obtain rfl : y28 = 0 := ey28.trans (by decide)
  refine lv_iconst (v := 1) hx hb dX4_tryRow_37 (by decide) ?_
  refine lv_iand hx hb dX4_tryRow_38 ?_
  refine lv_topi (fun y29 ey29 => ?_)
  obtain rfl : y29 = 0 := ey29.trans (by decide)
  refine lv_iconst (v := 1) hx hb dX4_tryRow_39 (by decide) ?_
  refine lv_icmp_ne (tgt := 48) hx hb dX4_tryRow_40 (by decide) (fun _ => ?_) (fun cz => absurd cz (by decide))
  refine lv_bipush (v := 48) hx hb dX4_tryRow_48 (by decide) ?_
  refine va_put (D := (dC, dI)) (ci := 3) (v := .int 48) (ty := .char) (C := RX2) (T := TX2) (N := 19) hx hb hts in_X2 tyX2 tyX2_ok nmX2 hown hK hP hD (va_Sre hS) 7 rfl rfl 11 (by decide) (hts _ q_385) (fun _ h9 => h9) rfl (by decide +kernel) rfl rfl (Nat.le_of_ble_eq_true rfl) dX4_tryRow_50 (fun H30 _ hP hD hS' => ?_)
  have hG : s.heap.size + 0 ≤ H30.size := Nat.le_trans hG hS'.1
  have hS := va_Str hS hS'
  have hP : va_P (dC, dI) xCl [(h0, ce271 h1 o0), (h1, ce7 o1 h2 o2 h3), (h2, ce201 h4), (h3, ce226 h5), (h4, ce200 kc0 h6 h7 h8 h9 h10), (h5, ce200 kc1 h6 h7 h8 h9 h10), (h6, ce282 (z.2.1 0) o3 h6), (h7, ce283 (z.2.1 0) o4 h7), (h8, ce284 (z.2.1 0) o5 h8), (h9, ce285 (z.2.1 0) o6 h9), (h10, ce291 (z.2.1 0) o7 h10)] H30 := hP
  have hD := vd_as hP hD rfl
  refine lv_iinc (v := 2) (lv' := [(4, .int 2), (0, .ref h0), (1, .int 0), (2, .null), (3, .int 120)]) hx hb dX4_tryRow_53 hl (k := 0) rfl (by decide) (by decide) rfl (fun ls hl => ?_)
  refine lv_goto (tgt := 3) hx hb dX4_tryRow_56 (by decide) ?_
  refine lv_iload hx hb dX4_tryRow_3 (lv_at hl 0 rfl) ?_
  refine lv_aload_n hx hb dX4_tryRow_5 rfl (lv_at hl 1 rfl) ?_
  refine va_get (D := (dC, dI)) (ci := 4) (v := .ref h1) (C := RX4) (T := TX4) (N := 3) hx hb hts in_X4 hown hK hP 0 rfl rfl 0 (by decide) (hts _ q_50) (fun _ h9 => h9) rfl dX4_tryRow_6 ?_
  refine va_get (D := (dC, dI)) (ci := 2) (v := .ref h2) (C := RX0) (T := TX0) (N := 4) hx hb hts in_X0 hown hK hP 1 rfl rfl 1 (by decide) (hts _ q_347) (fun _ h9 => h9) rfl dX4_tryRow_9 ?_
  have hM33 := k20_size l hl9 dC dI z h2 h4 H30.size 5 5
  obtain ⟨hF31, hC34⟩ := pc_M hM33 hP hD hK hS hX hT hA [2] [] rfl rfl rfl
  refine va_calli (va_runV (As := []) (rest := [.int 2]) ⟨hx, hb, hml, hown, hts⟩ hM33 (cwV 0 hts (gV q_348 q_77 q_78 q_12 q_75) rfl rfl rfl hV_Jx4a65c_size_8abf5 ⟨Nat.le_of_ble_eq_true rfl, Nat.le_of_ble_eq_true rfl⟩) ⟨pc_blind, va_recv hK hP (ci := 0) (q0 := 2) rfl rfl, fun U hU hW => ⟨rfl, hC34 U hU hW⟩⟩ rfl rfl hl.1 rfl (lv_room (Nat.le_of_ble_eq_true rfl)) dX4_tryRow_12 ⟨(Nat.le_of_ble_eq_true rfl), (Nat.le_of_ble_eq_true rfl)⟩) hS (fun q9 _ h9 => hF31 q9 h9) hF31 (fun r36 u35 t35 H35 L35 ht35 hvm35 hw35 hB35 hz35 hk35 hS => ?_)
  have hP := pq_keep hP hD [2] rfl hk35 hB35.1 ht35
  have hG : s.heap.size + 0 ≤ H35.size := Nat.le_trans hG hz35
  refine W.eq (g2 := F0 m 15 ls [.int 5, .int 2]) (by rw [hw35]) ?_
  refine lv_icmp_ge (tgt := 59) hx hb dX4_tryRow_15 (by decide) (fun cz => absurd cz (by decide)) (fun _ => ?_)
  refine lv_aload_n hx hb dX4_tryRow_18 rfl (lv_at hl 1 rfl) ?_
  refine va_get (D := (dC, dI)) (ci := 4) (v := .ref h1) (C := RX4) (T := TX4) (N := 3) hx hb hts in_X4 hown hK hP 0 rfl rfl 0 (by decide) (hts _ q_50) (fun _ h9 => h9) rfl dX4_tryRow_19 ?_
  refine va_get (D := (dC, dI)) (ci := 2) (v := .ref h2) (C := RX0) (T := TX0) (N := 4) hx hb hts in_X0 hown hK hP 1 rfl rfl 1 (by decide) (hts _ q_347) (fun _ h9 => h9) rfl dX4_tryRow_22 ?_
  refine lv_iload hx hb dX4_tryRow_25 (lv_at hl 0 rfl) ?_
  have hM39 := k376_get l hl9 dC dI z h2 h4 h6 h7 h8 h9 h10 H35.size kc0
  obtain ⟨hF37, hC40⟩ := pc_M hM39 hP hD hK hS hX hT hA [2, 4] [0] rfl rfl rfl
  refine va_callr (va_runV (As := [.int 2]) (rest := []) ⟨hx, hb, hml, hown, hts⟩ hM39 (cwV 1 hts (gV q_383 q_157 q_158 q_12 q_155) rfl rfl rfl hV_Jx4a65c_get_915e3 ⟨Nat.le_of_ble_eq_true rfl, Nat.le_of_ble_eq_true rfl⟩) ⟨pc_blind, va_recv hK hP (ci := 0) (q0 := 2) rfl rfl, fun U hU hW => ⟨rfl, hC40 U hU hW⟩⟩ rfl rfl hl.1 rfl (lv_room (Nat.le_of_ble_eq_true rfl)) dX4_tryRow_27 ⟨(Nat.le_of_ble_eq_true rfl), (Nat.le_of_ble_eq_true rfl)⟩) hS (fun q9 _ h9 => hF37 q9 h9) hF37 (fun u41 r42 t41 H41 L41 ht41 hvm41 hw41 hB41 hz41 hk41 hS => ?_)
  obtain ⟨hr41, hB41⟩ := hB41
  have hP := pq_keep hP hD [2, 4] rfl hk41 hB41.1 ht41
  have hG : s.heap.size + 0 ≤ H41.size := Nat.le_trans hG hz41
  refine W.eq (g2 := F0 m 30 ls [.ref h8]) (by rw [hr41]) ?_
  refine va_castE (nm := RX2) hx hb hown (hts _ q_384) (va_recv hK hP (ci := 3) (q0 := 8) rfl rfl) dX4_tryRow_30 ?_
  refine lv_iload_n hx hb dX4_tryRow_33 rfl (lv_at hl 2 rfl) ?_
  refine lv_iload hx hb dX4_tryRow_34 (lv_at hl 0 rfl) ?_
  refine lv_ishr hx hb dX4_tryRow_36 ?_
  refine lv_topi (fun y43 ey43 => ?_)
  obtain rfl : y43 = 0 := ey43.trans (by decide)
  refine lv_iconst (v := 1) hx hb dX4_tryRow_37 (by decide) ?_
  refine lv_iand hx hb dX4_tryRow_38 ?_
  refine lv_topi (fun y44 ey44 => ?_)
  obtain rfl : y44 = 0 := ey44.trans (by decide)
  refine lv_iconst (v := 1) hx hb dX4_tryRow_39 (by decide) ?_
  refine lv_icmp_ne (tgt := 48) hx hb dX4_tryRow_40 (by decide) (fun _ => ?_) (fun cz => absurd cz (by decide))
  refine lv_bipush (v := 48) hx hb dX4_tryRow_48 (by decide) ?_
  refine va_put (D := (dC, dI)) (ci := 3) (v := .int 48) (ty := .char) (C := RX2) (T := TX2) (N := 19) hx hb hts in_X2 tyX2 tyX2_ok nmX2 hown hK hP hD (va_Sre hS) 8 rfl rfl 11 (by decide) (hts _ q_385) (fun _ h9 => h9) rfl (by decide +kernel) rfl rfl (Nat.le_of_ble_eq_true rfl) dX4_tryRow_50 (fun H45 _ hP hD hS' => ?_)
  have hG : s.heap.size + 0 ≤ H45.size := Nat.le_trans hG hS'.1
  have hS := va_Str hS hS'
  have hP : va_P (dC, dI) xCl [(h0, ce271 h1 o0), (h1, ce7 o1 h2 o2 h3), (h2, ce201 h4), (h3, ce226 h5), (h4, ce200 kc0 h6 h7 h8 h9 h10), (h5, ce200 kc1 h6 h7 h8 h9 h10), (h6, ce282 (z.2.1 0) o3 h6), (h7, ce283 (z.2.1 0) o4 h7), (h8, ce284 (z.2.1 0) o5 h8), (h9, ce285 (z.2.1 0) o6 h9), (h10, ce291 (z.2.1 0) o7 h10)] H45 := hP
  have hD := vd_as hP hD rfl
  refine lv_iinc (v := 3) (lv' := [(4, .int 3), (0, .ref h0), (1, .int 0), (2, .null), (3, .int 120)]) hx hb dX4_tryRow_53 hl (k := 0) rfl (by decide) (by decide) rfl (fun ls hl => ?_)
  refine lv_goto (tgt := 3) hx hb dX4_tryRow_56 (by decide) ?_
  refine lv_iload hx hb dX4_tryRow_3 (lv_at hl 0 rfl) ?_
  refine lv_aload_n hx hb dX4_tryRow_5 rfl (lv_at hl 1 rfl) ?_
  refine va_get (D := (dC, dI)) (ci := 4) (v := .ref h1) (C := RX4) (T := TX4) (N := 3) hx hb hts in_X4 hown hK hP 0 rfl rfl 0 (by decide) (hts _ q_50) (fun _ h9 => h9) rfl dX4_tryRow_6 ?_
  refine va_get (D := (dC, dI)) (ci := 2) (v := .ref h2) (C := RX0) (T := TX0) (N := 4) hx hb hts in_X0 hown hK hP 1 rfl rfl 1 (by decide) (hts _ q_347) (fun _ h9 => h9) rfl dX4_tryRow_9 ?_
  have hM48 := k20_size l hl9 dC dI z h2 h4 H45.size 5 5
  obtain ⟨hF46, hC49⟩ := pc_M hM48 hP hD hK hS hX hT hA [2] [] rfl rfl rfl
  refine va_calli (va_runV (As := []) (rest := [.int 3]) ⟨hx, hb, hml, hown, hts⟩ hM48 (cwV 0 hts (gV q_348 q_77 q_78 q_12 q_75) rfl rfl rfl hV_Jx4a65c_size_8abf5 ⟨Nat.le_of_ble_eq_true rfl, Nat.le_of_ble_eq_true rfl⟩) ⟨pc_blind, va_recv hK hP (ci := 0) (q0 := 2) rfl rfl, fun U hU hW => ⟨rfl, hC49 U hU hW⟩⟩ rfl rfl hl.1 rfl (lv_room (Nat.le_of_ble_eq_true rfl)) dX4_tryRow_12 ⟨(Nat.le_of_ble_eq_true rfl), (Nat.le_of_ble_eq_true rfl)⟩) hS (fun q9 _ h9 => hF46 q9 h9) hF46 (fun r51 u50 t50 H50 L50 ht50 hvm50 hw50 hB50 hz50 hk50 hS => ?_)
  have hP := pq_keep hP hD [2] rfl hk50 hB50.1 ht50
  have hG : s.heap.size + 0 ≤ H50.size := Nat.le_trans hG hz50
  refine W.eq (g2 := F0 m 15 ls [.int 5, .int 3]) (by rw [hw50]) ?_
  refine lv_icmp_ge (tgt := 59) hx hb dX4_tryRow_15 (by decide) (fun cz => absurd cz (by decide)) (fun _ => ?_)
  refine lv_aload_n hx hb dX4_tryRow_18 rfl (lv_at hl 1 rfl) ?_
  refine va_get (D := (dC, dI)) (ci := 4) (v := .ref h1) (C := RX4) (T := TX4) (N := 3) hx hb hts in_X4 hown hK hP 0 rfl rfl 0 (by decide) (hts _ q_50) (fun _ h9 => h9) rfl dX4_tryRow_19 ?_
  refine va_get (D := (dC, dI)) (ci := 2) (v := .ref h2) (C := RX0) (T := TX0) (N := 4) hx hb hts in_X0 hown hK hP 1 rfl rfl 1 (by decide) (hts _ q_347) (fun _ h9 => h9) rfl dX4_tryRow_22 ?_
  refine lv_iload hx hb dX4_tryRow_25 (lv_at hl 0 rfl) ?_
  have hM54 := k380_get l hl9 dC dI z h2 h4 h6 h7 h8 h9 h10 H50.size kc0
  obtain ⟨hF52, hC55⟩ := pc_M hM54 hP hD hK hS hX hT hA [2, 4] [0] rfl rfl rfl
  refine va_callr (va_runV (As := [.int 3]) (rest := []) ⟨hx, hb, hml, hown, hts⟩ hM54 (cwV 1 hts (gV q_383 q_157 q_158 q_12 q_155) rfl rfl rfl hV_Jx4a65c_get_915e3 ⟨Nat.le_of_ble_eq_true rfl, Nat.le_of_ble_eq_true rfl⟩) ⟨pc_blind, va_recv hK hP (ci := 0) (q0 := 2) rfl rfl, fun U hU hW => ⟨rfl, hC55 U hU hW⟩⟩ rfl rfl hl.1 rfl (lv_room (Nat.le_of_ble_eq_true rfl)) dX4_tryRow_27 ⟨(Nat.le_of_ble_eq_true rfl), (Nat.le_of_ble_eq_true rfl)⟩) hS (fun q9 _ h9 => hF52 q9 h9) hF52 (fun u56 r57 t56 H56 L56 ht56 hvm56 hw56 hB56 hz56 hk56 hS => ?_)
  obtain ⟨hr56, hB56⟩ := hB56
  have hP := pq_keep hP hD [2, 4] rfl hk56 hB56.1 ht56
  have hG : s.heap.size + 0 ≤ H56.size := Nat.le_trans hG hz56
  refine W.eq (g2 := F0 m 30 ls [.ref h9]) (by rw [hr56]) ?_
  refine va_castE (nm := RX2) hx hb hown (hts _ q_384) (va_recv hK hP (ci := 3) (q0 := 9) rfl rfl) dX4_tryRow_30 ?_
  refine lv_iload_n hx hb dX4_tryRow_33 rfl (lv_at hl 2 rfl) ?_
  refine lv_iload hx hb dX4_tryRow_34 (lv_at hl 0 rfl) ?_
  refine lv_ishr hx hb dX4_tryRow_36 ?_
  refine lv_topi (fun y58 ey58 => ?_)
  obtain rfl : y58 = 0 := ey58.trans (by decide)
  refine lv_iconst (v := 1) hx hb dX4_tryRow_37 (by decide) ?_
  refine lv_iand hx hb dX4_tryRow_38 ?_
  refine lv_topi (fun y59 ey59 => ?_)
  obtain rfl : y59 = 0 := ey59.trans (by decide)
  refine lv_iconst (v := 1) hx hb dX4_tryRow_39 (by decide) ?_
  refine lv_icmp_ne (tgt := 48) hx hb dX4_tryRow_40 (by decide) (fun _ => ?_) (fun cz => absurd cz (by decide))
  refine lv_bipush (v := 48) hx hb dX4_tryRow_48 (by decide) ?_
  refine va_put (D := (dC, dI)) (ci := 3) (v := .int 48) (ty := .char) (C := RX2) (T := TX2) (N := 19) hx hb hts in_X2 tyX2 tyX2_ok nmX2 hown hK hP hD (va_Sre hS) 9 rfl rfl 11 (by decide) (hts _ q_385) (fun _ h9 => h9) rfl (by decide +kernel) rfl rfl (Nat.le_of_ble_eq_true rfl) dX4_tryRow_50 (fun H60 _ hP hD hS' => ?_)
  have hG : s.heap.size + 0 ≤ H60.size := Nat.le_trans hG hS'.1
  have hS := va_Str hS hS'
  have hP : va_P (dC, dI) xCl [(h0, ce271 h1 o0), (h1, ce7 o1 h2 o2 h3), (h2, ce201 h4), (h3, ce226 h5), (h4, ce200 kc0 h6 h7 h8 h9 h10), (h5, ce200 kc1 h6 h7 h8 h9 h10), (h6, ce282 (z.2.1 0) o3 h6), (h7, ce283 (z.2.1 0) o4 h7), (h8, ce284 (z.2.1 0) o5 h8), (h9, ce285 (z.2.1 0) o6 h9), (h10, ce291 (z.2.1 0) o7 h10)] H60 := hP
  have hD := vd_as hP hD rfl
  refine lv_iinc (v := 4) (lv' := [(4, .int 4), (0, .ref h0), (1, .int 0), (2, .null), (3, .int 120)]) hx hb dX4_tryRow_53 hl (k := 0) rfl (by decide) (by decide) rfl (fun ls hl => ?_)
  refine lv_goto (tgt := 3) hx hb dX4_tryRow_56 (by decide) ?_
  refine lv_iload hx hb dX4_tryRow_3 (lv_at hl 0 rfl) ?_
  refine lv_aload_n hx hb dX4_tryRow_5 rfl (lv_at hl 1 rfl) ?_
  refine va_get (D := (dC, dI)) (ci := 4) (v := .ref h1) (C := RX4) (T := TX4) (N := 3) hx hb hts in_X4 hown hK hP 0 rfl rfl 0 (by decide) (hts _ q_50) (fun _ h9 => h9) rfl dX4_tryRow_6 ?_
  refine va_get (D := (dC, dI)) (ci := 2) (v := .ref h2) (C := RX0) (T := TX0) (N := 4) hx hb hts in_X0 hown hK hP 1 rfl rfl 1 (by decide) (hts _ q_347) (fun _ h9 => h9) rfl dX4_tryRow_9 ?_
  have hM63 := k20_size l hl9 dC dI z h2 h4 H60.size 5 5
  obtain ⟨hF61, hC64⟩ := pc_M hM63 hP hD hK hS hX hT hA [2] [] rfl rfl rfl
  refine va_calli (va_runV (As := []) (rest := [.int 4]) ⟨hx, hb, hml, hown, hts⟩ hM63 (cwV 0 hts (gV q_348 q_77 q_78 q_12 q_75) rfl rfl rfl hV_Jx4a65c_size_8abf5 ⟨Nat.le_of_ble_eq_true rfl, Nat.le_of_ble_eq_true rfl⟩) ⟨pc_blind, va_recv hK hP (ci := 0) (q0 := 2) rfl rfl, fun U hU hW => ⟨rfl, hC64 U hU hW⟩⟩ rfl rfl hl.1 rfl (lv_room (Nat.le_of_ble_eq_true rfl)) dX4_tryRow_12 ⟨(Nat.le_of_ble_eq_true rfl), (Nat.le_of_ble_eq_true rfl)⟩) hS (fun q9 _ h9 => hF61 q9 h9) hF61 (fun r66 u65 t65 H65 L65 ht65 hvm65 hw65 hB65 hz65 hk65 hS => ?_)
  have hP := pq_keep hP hD [2] rfl hk65 hB65.1 ht65
  have hG : s.heap.size + 0 ≤ H65.size := Nat.le_trans hG hz65
  refine W.eq (g2 := F0 m 15 ls [.int 5, .int 4]) (by rw [hw65]) ?_
  refine lv_icmp_ge (tgt := 59) hx hb dX4_tryRow_15 (by decide) (fun cz => absurd cz (by decide)) (fun _ => ?_)
  refine lv_aload_n hx hb dX4_tryRow_18 rfl (lv_at hl 1 rfl) ?_
  refine va_get (D := (dC, dI)) (ci := 4) (v := .ref h1) (C := RX4) (T := TX4) (N := 3) hx hb hts in_X4 hown hK hP 0 rfl rfl 0 (by decide) (hts _ q_50) (fun _ h9 => h9) rfl dX4_tryRow_19 ?_
  refine va_get (D := (dC, dI)) (ci := 2) (v := .ref h2) (C := RX0) (T := TX0) (N := 4) hx hb hts in_X0 hown hK hP 1 rfl rfl 1 (by decide) (hts _ q_347) (fun _ h9 => h9) rfl dX4_tryRow_22 ?_
  refine lv_iload hx hb dX4_tryRow_25 (lv_at hl 0 rfl) ?_
  have hM69 := k384_get l hl9 dC dI z h2 h4 h6 h7 h8 h9 h10 H65.size kc0
  obtain ⟨hF67, hC70⟩ := pc_M hM69 hP hD hK hS hX hT hA [2, 4] [0] rfl rfl rfl
  refine va_callr (va_runV (As := [.int 4]) (rest := []) ⟨hx, hb, hml, hown, hts⟩ hM69 (cwV 1 hts (gV q_383 q_157 q_158 q_12 q_155) rfl rfl rfl hV_Jx4a65c_get_915e3 ⟨Nat.le_of_ble_eq_true rfl, Nat.le_of_ble_eq_true rfl⟩) ⟨pc_blind, va_recv hK hP (ci := 0) (q0 := 2) rfl rfl, fun U hU hW => ⟨rfl, hC70 U hU hW⟩⟩ rfl rfl hl.1 rfl (lv_room (Nat.le_of_ble_eq_true rfl)) dX4_tryRow_27 ⟨(Nat.le_of_ble_eq_true rfl), (Nat.le_of_ble_eq_true rfl)⟩) hS (fun q9 _ h9 => hF67 q9 h9) hF67 (fun u71 r72 t71 H71 L71 ht71 hvm71 hw71 hB71 hz71 hk71 hS => ?_)
  obtain ⟨hr71, hB71⟩ := hB71
  have hP := pq_keep hP hD [2, 4] rfl hk71 hB71.1 ht71
  have hG : s.heap.size + 0 ≤ H71.size := Nat.le_trans hG hz71
  refine W.eq (g2 := F0 m 30 ls [.ref h10]) (by rw [hr71]) ?_
  refine va_castE (nm := RX2) hx hb hown (hts _ q_384) (va_recv hK hP (ci := 3) (q0 := 10) rfl rfl) dX4_tryRow_30 ?_
  refine lv_iload_n hx hb dX4_tryRow_33 rfl (lv_at hl 2 rfl) ?_
  refine lv_iload hx hb dX4_tryRow_34 (lv_at hl 0 rfl) ?_
  refine lv_ishr hx hb dX4_tryRow_36 ?_
  refine lv_topi (fun y73 ey73 => ?_)
  obtain rfl : y73 = 0 := ey73.trans (by decide)
  refine lv_iconst (v := 1) hx hb dX4_tryRow_37 (by decide) ?_
  refine lv_iand hx hb dX4_tryRow_38 ?_
  refine lv_topi (fun y74 ey74 => ?_)
  obtain rfl : y74 = 0 := ey74.trans (by decide)
  refine lv_iconst (v := 1) hx hb dX4_tryRow_39 (by decide) ?_
  refine lv_icmp_ne (tgt := 48) hx hb dX4_tryRow_40 (by decide) (fun _ => ?_) (fun cz => absurd cz (by decide))
  refine lv_bipush (v := 48) hx hb dX4_tryRow_48 (by decide) ?_
  refine va_put (D := (dC, dI)) (ci := 3) (v := .int 48) (ty := .char) (C := RX2) (T := TX2) (N := 19) hx hb hts in_X2 tyX2 tyX2_ok nmX2 hown hK hP hD (va_Sre hS) 10 rfl rfl 11 (by decide) (hts _ q_385) (fun _ h9 => h9) rfl (by decide +kernel) rfl rfl (Nat.le_of_ble_eq_true rfl) dX4_tryRow_50 (fun H75 _ hP hD hS' => ?_)
  have hG : s.heap.size + 0 ≤ H75.size := Nat.le_trans hG hS'.1
  have hS := va_Str hS hS'
  have hP : va_P (dC, dI) xCl [(h0, ce271 h1 o0), (h1, ce7 o1 h2 o2 h3), (h2, ce201 h4), (h3, ce226 h5), (h4, ce200 kc0 h6 h7 h8 h9 h10), (h5, ce200 kc1 h6 h7 h8 h9 h10), (h6, ce282 (z.2.1 0) o3 h6), (h7, ce283 (z.2.1 0) o4 h7), (h8, ce284 (z.2.1 0) o5 h8), (h9, ce285 (z.2.1 0) o6 h9), (h10, ce286 (z.2.1 0) o7 h10)] H75 := hP
  have hD := vd_as hP hD rfl
  refine lv_iinc (v := 5) (lv' := [(4, .int 5), (0, .ref h0), (1, .int 0), (2, .null), (3, .int 120)]) hx hb dX4_tryRow_53 hl (k := 0) rfl (by decide) (by decide) rfl (fun ls hl => ?_)
  refine lv_goto (tgt := 3) hx hb dX4_tryRow_56 (by decide) ?_
  refine lv_iload hx hb dX4_tryRow_3 (lv_at hl 0 rfl) ?_
  refine lv_aload_n hx hb dX4_tryRow_5 rfl (lv_at hl 1 rfl) ?_
  refine va_get (D := (dC, dI)) (ci := 4) (v := .ref h1) (C := RX4) (T := TX4) (N := 3) hx hb hts in_X4 hown hK hP 0 rfl rfl 0 (by decide) (hts _ q_50) (fun _ h9 => h9) rfl dX4_tryRow_6 ?_
  refine va_get (D := (dC, dI)) (ci := 2) (v := .ref h2) (C := RX0) (T := TX0) (N := 4) hx hb hts in_X0 hown hK hP 1 rfl rfl 1 (by decide) (hts _ q_347) (fun _ h9 => h9) rfl dX4_tryRow_9 ?_
  have hM78 := k20_size l hl9 dC dI z h2 h4 H75.size 5 5
  obtain ⟨hF76, hC79⟩ := pc_M hM78 hP hD hK hS hX hT hA [2] [] rfl rfl rfl
  refine va_calli (va_runV (As := []) (rest := [.int 5]) ⟨hx, hb, hml, hown, hts⟩ hM78 (cwV 0 hts (gV q_348 q_77 q_78 q_12 q_75) rfl rfl rfl hV_Jx4a65c_size_8abf5 ⟨Nat.le_of_ble_eq_true rfl, Nat.le_of_ble_eq_true rfl⟩) ⟨pc_blind, va_recv hK hP (ci := 0) (q0 := 2) rfl rfl, fun U hU hW => ⟨rfl, hC79 U hU hW⟩⟩ rfl rfl hl.1 rfl (lv_room (Nat.le_of_ble_eq_true rfl)) dX4_tryRow_12 ⟨(Nat.le_of_ble_eq_true rfl), (Nat.le_of_ble_eq_true rfl)⟩) hS (fun q9 _ h9 => hF76 q9 h9) hF76 (fun r81 u80 t80 H80 L80 ht80 hvm80 hw80 hB80 hz80 hk80 hS => ?_)
  have hP := pq_keep hP hD [2] rfl hk80 hB80.1 ht80
  have hG : s.heap.size + 0 ≤ H80.size := Nat.le_trans hG hz80
  refine W.eq (g2 := F0 m 15 ls [.int 5, .int 5]) (by rw [hw80]) ?_
  refine lv_icmp_ge (tgt := 59) hx hb dX4_tryRow_15 (by decide) (fun _ => ?_) (fun cz => absurd (by decide) cz)
  refine lv_aload_n hx hb dX4_tryRow_59 rfl (lv_at hl 1 rfl) ?_
  refine va_get (D := (dC, dI)) (ci := 4) (v := .ref h1) (C := RX4) (T := TX4) (N := 3) hx hb hts in_X4 hown hK hP 0 rfl rfl 0 (by decide) (hts _ q_50) (fun _ h9 => h9) rfl dX4_tryRow_60 ?_
  refine lv_aload_nN hx hb dX4_tryRow_63 rfl (lv_at hl 3 rfl) ?_
  refine lv_iload_n hx hb dX4_tryRow_64 rfl (lv_at hl 4 rfl) ?_
  have hM84 := k567_settle l hl9 dC dI z h1 h3 h5 h6 h7 h8 h9 h10 o1 h2 o2 o3 o4 o5 o6 o7 H80.size kc1
  obtain ⟨hF82, hC85⟩ := pc_M hM84 hP hD hK hS hX hT hA [1, 3, 5, 6, 7, 8, 9, 10] [1] rfl rfl rfl
  refine va_callv (va_runV (As := [.null, .int 120]) (rest := []) ⟨hx, hb, hml, hown, hts⟩ hM84 (cwV 2 hts (gV q_386 q_215 q_216 q_8 q_213) rfl rfl rfl hV_X0_settle ⟨Nat.le_of_ble_eq_true rfl, Nat.le_of_ble_eq_true rfl⟩) ⟨pc_blind, va_recv hK hP (ci := 2) (q0 := 1) rfl rfl, fun U hU hW => ⟨rfl, hC85 U hU hW⟩⟩ rfl rfl hl.1 rfl (lv_room (Nat.le_of_ble_eq_true rfl)) dX4_tryRow_65 ⟨(Nat.le_of_ble_eq_true rfl), (Nat.le_of_ble_eq_true rfl)⟩) hS (fun q9 _ h9 => hF82 q9 h9) hF82 (fun u86 t86 H86 L86 ht86 hvm86 hw86 hB86 hz86 hk86 hS => ?_)
  have hP := pq_keep hP hD [1, 3, 5, 6, 7, 8, 9, 10] rfl hk86 hB86.1 ht86
  have hG : s.heap.size + 0 ≤ H86.size := Nat.le_trans hG hz86
  exact W.vret hx hb hr (fun t9 ht9 hW9 => ⟨⟨(), rfl, trivial, ⟨pq_mk2 hP hD hK [0, 1, 2, 3, 4, 5, 6, 7, 8, 9, 10] [0, 1] rfl rfl rfl ht9 hW9, by rw [ht9]; exact Nat.le_trans (Nat.add_le_add_left (Nat.le_of_ble_eq_true rfl) _) hG⟩⟩, hS.F ht9⟩) hS.2.2 dX4_tryRow_68

set_option maxHeartbeats 4000000 in
set_option maxRecDepth 100000 in
theorem k615_isStuckShown (l : Launch) (hl9 : l.stackTraces = false) (dC : Nat → ClassId) (dI : Nat → Nat → Nat) (z : XZ) (h0 h1 h2 h3 h4 h5 h6 h7 h8 h9 h10 h11 h12 : Nat) (o0 o1 o2 o3 o4 o5 o6 : Nat) (sz : Nat) (kc0 kc1 kc2 : ClassId) : Met l yX4_isStuckShown (.code yX4_isStuckShown cX4_isStuckShown 6 (some .boolean) :: wsL_law) ({ frames := 5, cells := 0, slots := 0, locals := 112 }) (va_Pc [.ref h0, .ref h1, .int 49, .int 0] (PC (dC, dI) [(h0, ce271 h2 o0), (h1, ce291 (z.2.1 0) o1 h1), (h2, ce7 h3 h4 o2 h5), (h3, ce201 h6), (h4, ce201 h7), (h5, ce226 h8), (h6, ce200 kc0 h9 h10 h11 h12 h1), (h7, ce200 kc1 h9 h10 h11 h12 h1), (h8, ce200 kc2 h9 h10 h11 h12 h1), (h9, ce282 (z.2.1 0) o3 h9), (h10, ce283 (z.2.1 0) o4 h10), (h11, ce284 (z.2.1 0) o5 h11), (h12, ce285 (z.2.1 0) o6 h12)] [(kc0, .object "java/lang/Object"), (kc1, .object "java/lang/Object"), (kc2, .object "java/lang/Object")] sz z)) (va_Qi (fun (r : Int32) (_ : Unit) => r = 0) (fun (_ : Unit) (t : State) => PG (dC, dI) [(h0, ce271 h2 o0), (h1, ce291 (z.2.1 0) o1 h1), (h2, ce7 h3 h4 o2 h5), (h3, ce201 h6), (h4, ce201 h7), (h5, ce226 h8), (h6, ce200 kc0 h9 h10 h11 h12 h1), (h7, ce200 kc1 h9 h10 h11 h12 h1), (h8, ce200 kc2 h9 h10 h11 h12 h1), (h9, ce282 (z.2.1 0) o3 h9), (h10, ce283 (z.2.1 0) o4 h10), (h11, ce284 (z.2.1 0) o5 h11), (h12, ce285 (z.2.1 0) o6 h12)] [(kc0, .object "java/lang/Object"), (kc1, .object "java/lang/Object"), (kc2, .object "java/lang/Object")] (va_A [(h0, ce271 h2 o0), (h1, ce291 (z.2.1 0) o1 h1), (h2, ce7 h3 h4 o2 h5), (h3, ce201 h6), (h4, ce201 h7), (h5, ce226 h8), (h6, ce200 kc0 h9 h10 h11 h12 h1), (h7, ce200 kc1 h9 h10 h11 h12 h1), (h8, ce200 kc2 h9 h10 h11 h12 h1), (h9, ce282 (z.2.1 0) o3 h9), (h10, ce283 (z.2.1 0) o4 h10), (h11, ce284 (z.2.1 0) o5 h11), (h12, ce285 (z.2.1 0) o6 h12)] sz) sz 0 t) (va_A [(h0, ce271 h2 o0), (h1, ce291 (z.2.1 0) o1 h1), (h2, ce7 h3 h4 o2 h5), (h3, ce201 h6), (h4, ce201 h7), (h5, ce226 h8), (h6, ce200 kc0 h9 h10 h11 h12 h1), (h7, ce200 kc1 h9 h10 h11 h12 h1), (h8, ce200 kc2 h9 h10 h11 h12 h1), (h9, ce282 (z.2.1 0) o3 h9), (h10, ce283 (z.2.1 0) o4 h10), (h11, ce284 (z.2.1 0) o5 h11), (h12, ce285 (z.2.1 0) o6 h12)] sz)) 0 0 (va_A [(h0, ce271 h2 o0), (h1, ce291 (z.2.1 0) o1 h1), (h2, ce7 h3 h4 o2 h5), (h3, ce201 h6), (h4, ce201 h7), (h5, ce226 h8), (h6, ce200 kc0 h9 h10 h11 h12 h1), (h7, ce200 kc1 h9 h10 h11 h12 h1), (h8, ce200 kc2 h9 h10 h11 h12 h1), (h9, ce282 (z.2.1 0) o3 h9), (h10, ce283 (z.2.1 0) o4 h10), (h11, ce284 (z.2.1 0) o5 h11), (h12, ce285 (z.2.1 0) o6 h12)] sz) := by
  refine Met.ofW (cc := cX4_isStuckShown) (maxL := 6) (ret := (some .boolean)) (by decide) rfl ?_
  intro p e s m args below meth c s₁ B hml hv
  obtain ⟨rfl, hsz, hP, hK, hD0, hX, hT⟩ := hv
  have hx := B.exec
  have hb := B.bytes
  have hr := B.returns
  have hts0 := atoms_spec (ws := .code yX4_isStuckShown cX4_isStuckShown 6 (some .boolean) :: wsL_law) B.pre
  have hts := xTail hts0
  have hown : s.vm.findClass RX4 = some m.cls := findClass_of_methodNamed B.named
  have hlocks := B.notSynchronized
  subst hsz
  have hD := hD0.self (sz := s.heap.size)
  generalize hAe : va_A [(h0, ce271 h2 o0), (h1, ce291 (z.2.1 0) o1 h1), (h2, ce7 h3 h4 o2 h5), (h3, ce201 h6), (h4, ce201 h7), (h5, ce226 h8), (h6, ce200 kc0 h9 h10 h11 h12 h1), (h7, ce200 kc1 h9 h10 h11 h12 h1), (h8, ce200 kc2 h9 h10 h11 h12 h1), (h9, ce282 (z.2.1 0) o3 h9), (h10, ce283 (z.2.1 0) o4 h10), (h11, ce284 (z.2.1 0) o5 h11), (h12, ce285 (z.2.1 0) o6 h12)] s.heap.size = A at hD hX ⊢
  have hA : ∀ q : Nat, s.heap.size ≤ q → A q := fun q h => by rw [← hAe]; exact Or.inr h
  have hS : va_S A s.heap s.heap [] := va_S.rf
  have hG : s.heap.size + 0 ≤ s.heap.size := Nat.le_refl _
  have hl := lv_entry ([.ref h0, .ref h1, .int 49, .int 0]) (n := 6) (Nat.le_of_ble_eq_true rfl)
  rw [lg_entry_eq]
  generalize (lg_sl ([.ref h0, .ref h1, .int 49, .int 0]) ++ List.replicate (6 - (lg_sl ([.ref h0, .ref h1, .int 49, .int 0])).length) Slot.unset).toArray = ls at hl ⊢
  have hl : lv_has ls 6 [(0, .ref h0), (1, .ref h1), (2, .int 49), (3, .int 0)] := hl
  refine lv_aload_n hx hb dX4_isStuckShown_0 rfl (lv_at hl 0 rfl) ?_
  refine lv_iload_n hx hb dX4_isStuckShown_1 rfl (lv_at hl 3 rfl) ?_
  refine lv_null hx hb dX4_isStuckShown_2 ?_
  refine lv_bipush (v := 120) hx hb dX4_isStuckShown_3 (by decide) ?_
  have hM3 := k614_tryRow l hl9 dC dI z h0 h2 h4 h5 h7 h8 h9 h10 h11 h12 h1 o0 h3 o2 o3 o4 o5 o6 o1 s.heap.size kc1 kc2
  obtain ⟨hF1, hC4⟩ := pc_M hM3 hP hD hK hS hX hT hA [0, 2, 4, 5, 7, 8, 9, 10, 11, 12, 1] [1, 2] rfl rfl rfl
  refine va_callv (va_runV (As := [.int 0, .null, .int 120]) (rest := []) ⟨hx, hb, hml, hown, hts⟩ hM3 (cwV 3 hts (gV q_388 q_389 q_390 q_46 q_387) rfl rfl rfl hV_X4_tryRow ⟨Nat.le_of_ble_eq_true rfl, Nat.le_of_ble_eq_true rfl⟩) ⟨pc_blind, va_recv hK hP (ci := 4) (q0 := 0) rfl rfl, fun U hU hW => ⟨rfl, hC4 U hU hW⟩⟩ rfl rfl hl.1 rfl (lv_room (Nat.le_of_ble_eq_true rfl)) dX4_isStuckShown_5 ⟨(Nat.le_of_ble_eq_true rfl), (Nat.le_of_ble_eq_true rfl)⟩) hS (fun q9 _ h9 => hF1 q9 h9) hF1 (fun u5 t5 H5 L5 ht5 hvm5 hw5 hB5 hz5 hk5 hS => ?_)
  obtain ⟨hP, hD, hK⟩ := pq_jn (wz := [(h3, ce201 h6), (h6, ce200 kc0 h9 h10 h11 h12 h1), (h0, ce271 h2 o0), (h2, ce7 h3 h4 o2 h5), (h4, ce201 h7), (h5, ce226 h8), (h7, ce200 kc1 h9 h10 h11 h12 h1), (h8, ce200 kc2 h9 h10 h11 h12 h1), (h9, ce282 (z.2.1 0) o3 h9), (h10, ce283 (z.2.1 0) o4 h10), (h11, ce284 (z.2.1 0) o5 h11), (h12, ce285 (z.2.1 0) o6 h12), (h1, ce286 (z.2.1 0) o1 h1)]) (tz := [(kc0, .object "java/lang/Object"), (kc1, .object "java/lang/Object"), (kc2, .object "java/lang/Object")]) hP hD hK [0, 2, 4, 5, 7, 8, 9, 10, 11, 12, 1] [0] rfl hk5 hF1 hB5.1 ht5 hvm5 rfl rfl
  have hG : s.heap.size + 0 ≤ H5.size := Nat.le_trans hG hz5
  refine lv_aload_n hx hb dX4_isStuckShown_8 rfl (lv_at hl 1 rfl) ?_
  refine va_get (D := (dC, dI)) (ci := 3) (v := .int 48) (C := RX2) (T := TX2) (N := 19) hx hb hts in_X2 hown hK hP 12 rfl rfl 11 (by decide) (hts _ q_385) (fun _ h9 => h9) rfl dX4_isStuckShown_9 ?_
  refine lv_iload_n hx hb dX4_isStuckShown_12 rfl (lv_at hl 2 rfl) ?_
  refine lv_icmp_ne (tgt := 18) hx hb dX4_isStuckShown_13 (by decide) (fun _ => ?_) (fun cz => absurd cz (by decide))
  refine lv_iconst (v := 0) hx hb dX4_isStuckShown_18 (by decide) ?_
  refine lv_istore (lv' := [(4, .int 0), (0, .ref h0), (1, .ref h1), (2, .int 49), (3, .int 0)]) hx hb dX4_isStuckShown_19 hl (by decide) rfl (fun ls hl => ?_)
  refine lv_iload hx hb dX4_isStuckShown_21 (lv_at hl 0 rfl) ?_
  refine lv_aload_n hx hb dX4_isStuckShown_23 rfl (lv_at hl 1 rfl) ?_
  refine va_get (D := (dC, dI)) (ci := 4) (v := .ref h2) (C := RX4) (T := TX4) (N := 3) hx hb hts in_X4 hown hK hP 2 rfl rfl 0 (by decide) (hts _ q_50) (fun _ h9 => h9) rfl dX4_isStuckShown_24 ?_
  refine va_get (D := (dC, dI)) (ci := 2) (v := .ref h3) (C := RX0) (T := TX0) (N := 4) hx hb hts in_X0 hown hK hP 3 rfl rfl 0 (by decide) (hts _ q_399) (fun _ h9 => h9) rfl dX4_isStuckShown_27 ?_
  have hM9 := k20_size l hl9 dC dI z h3 h6 H5.size 5 5
  obtain ⟨hF7, hC10⟩ := pc_M hM9 hP hD hK hS hX hT hA [0] [] rfl rfl rfl
  refine va_calli (va_runV (As := []) (rest := [.int 0]) ⟨hx, hb, hml, hown, hts⟩ hM9 (cwV 0 hts (gV q_348 q_77 q_78 q_12 q_75) rfl rfl rfl hV_Jx4a65c_size_8abf5 ⟨Nat.le_of_ble_eq_true rfl, Nat.le_of_ble_eq_true rfl⟩) ⟨pc_blind, va_recv hK hP (ci := 0) (q0 := 0) rfl rfl, fun U hU hW => ⟨rfl, hC10 U hU hW⟩⟩ rfl rfl hl.1 rfl (lv_room (Nat.le_of_ble_eq_true rfl)) dX4_isStuckShown_30 ⟨(Nat.le_of_ble_eq_true rfl), (Nat.le_of_ble_eq_true rfl)⟩) hS (fun q9 _ h9 => hF7 q9 h9) hF7 (fun r12 u11 t11 H11 L11 ht11 hvm11 hw11 hB11 hz11 hk11 hS => ?_)
  have hP := pq_keep hP hD [0] rfl hk11 hB11.1 ht11
  have hG : s.heap.size + 0 ≤ H11.size := Nat.le_trans hG hz11
  refine W.eq (g2 := F0 m 33 ls [.int 5, .int 0]) (by rw [hw11]) ?_
  refine lv_icmp_ge (tgt := 69) hx hb dX4_isStuckShown_33 (by decide) (fun cz => absurd cz (by decide)) (fun _ => ?_)
  refine lv_aload_n hx hb dX4_isStuckShown_36 rfl (lv_at hl 1 rfl) ?_
  refine va_get (D := (dC, dI)) (ci := 4) (v := .ref h2) (C := RX4) (T := TX4) (N := 3) hx hb hts in_X4 hown hK hP 2 rfl rfl 0 (by decide) (hts _ q_50) (fun _ h9 => h9) rfl dX4_isStuckShown_37 ?_
  refine va_get (D := (dC, dI)) (ci := 2) (v := .ref h3) (C := RX0) (T := TX0) (N := 4) hx hb hts in_X0 hown hK hP 3 rfl rfl 0 (by decide) (hts _ q_399) (fun _ h9 => h9) rfl dX4_isStuckShown_40 ?_
  refine lv_iload hx hb dX4_isStuckShown_43 (lv_at hl 0 rfl) ?_
  have hM15 := k368_get l hl9 dC dI z h3 h6 h9 h10 h11 h12 h1 H11.size kc0
  obtain ⟨hF13, hC16⟩ := pc_M hM15 hP hD hK hS hX hT hA [0, 1] [0] rfl rfl rfl
  refine va_callr (va_runV (As := [.int 0]) (rest := []) ⟨hx, hb, hml, hown, hts⟩ hM15 (cwV 1 hts (gV q_383 q_157 q_158 q_12 q_155) rfl rfl rfl hV_Jx4a65c_get_915e3 ⟨Nat.le_of_ble_eq_true rfl, Nat.le_of_ble_eq_true rfl⟩) ⟨pc_blind, va_recv hK hP (ci := 0) (q0 := 0) rfl rfl, fun U hU hW => ⟨rfl, hC16 U hU hW⟩⟩ rfl rfl hl.1 rfl (lv_room (Nat.le_of_ble_eq_true rfl)) dX4_isStuckShown_45 ⟨(Nat.le_of_ble_eq_true rfl), (Nat.le_of_ble_eq_true rfl)⟩) hS (fun q9 _ h9 => hF13 q9 h9) hF13 (fun u17 r18 t17 H17 L17 ht17 hvm17 hw17 hB17 hz17 hk17 hS => ?_)
  obtain ⟨hr17, hB17⟩ := hB17
  have hP := pq_keep hP hD [0, 1] rfl hk17 hB17.1 ht17
  have hG : s.heap.size + 0 ≤ H17.size := Nat.le_trans hG hz17
  refine W.eq (g2 := F0 m 48 ls [.ref h9]) (by rw [hr17]) ?_
  refine va_castE (nm := RX2) hx hb hown (hts _ q_384) (va_recv hK hP (ci := 3) (q0 := 8) rfl rfl) dX4_isStuckShown_48 ?_
  refine lv_astore (lv' := [(5, .ref h9), (4, .int 0), (0, .ref h0), (1, .ref h1), (2, .int 49), (3, .int 0)]) hx hb dX4_isStuckShown_51 hl (by decide) rfl (fun ls hl => ?_)
  refine lv_aload hx hb dX4_isStuckShown_53 (lv_at hl 0 rfl) ?_
  refine lv_aload hx hb dX4_isStuckShown_55 (lv_at hl 0 rfl) ?_
  refine va_get (D := (dC, dI)) (ci := 3) (v := .int 48) (C := RX2) (T := TX2) (N := 19) hx hb hts in_X2 hown hK hP 8 rfl rfl 11 (by decide) (hts _ q_385) (fun _ h9 => h9) rfl dX4_isStuckShown_57 ?_
  refine va_put (D := (dC, dI)) (ci := 3) (v := .int 48) (ty := .char) (C := RX2) (T := TX2) (N := 19) hx hb hts in_X2 tyX2 tyX2_ok nmX2 hown hK hP hD (va_Sre hS) 8 rfl rfl 12 (by decide) (hts _ q_400) (fun _ h9 => h9) rfl (by decide +kernel) rfl rfl (Nat.le_of_ble_eq_true rfl) dX4_isStuckShown_60 (fun H19 _ hP hD hS' => ?_)
  have hG : s.heap.size + 0 ≤ H19.size := Nat.le_trans hG hS'.1
  have hS := va_Str hS hS'
  have hP : va_P (dC, dI) xCl [(h3, ce201 h6), (h6, ce200 kc0 h9 h10 h11 h12 h1), (h0, ce271 h2 o0), (h2, ce7 h3 h4 o2 h5), (h4, ce201 h7), (h5, ce226 h8), (h7, ce200 kc1 h9 h10 h11 h12 h1), (h8, ce200 kc2 h9 h10 h11 h12 h1), (h9, ce282 (z.2.1 0) o3 h9), (h10, ce283 (z.2.1 0) o4 h10), (h11, ce284 (z.2.1 0) o5 h11), (h12, ce285 (z.2.1 0) o6 h12), (h1, ce286 (z.2.1 0) o1 h1)] H19 := hP
  have hD := vd_as hP hD rfl
  refine lv_iinc (v := 1) (lv' := [(4, .int 1), (5, .ref h9), (0, .ref h0), (1, .ref h1), (2, .int 49), (3, .int 0)]) hx hb dX4_isStuckShown_63 hl (k := 1) rfl (by decide) (by decide) rfl (fun ls hl => ?_)
  refine lv_goto (tgt := 21) hx hb dX4_isStuckShown_66 (by decide) ?_
  refine lv_iload hx hb dX4_isStuckShown_21 (lv_at hl 0 rfl) ?_
  refine lv_aload_n hx hb dX4_isStuckShown_23 rfl (lv_at hl 2 rfl) ?_
  refine va_get (D := (dC, dI)) (ci := 4) (v := .ref h2) (C := RX4) (T := TX4) (N := 3) hx hb hts in_X4 hown hK hP 2 rfl rfl 0 (by decide) (hts _ q_50) (fun _ h9 => h9) rfl dX4_isStuckShown_24 ?_
  refine va_get (D := (dC, dI)) (ci := 2) (v := .ref h3) (C := RX0) (T := TX0) (N := 4) hx hb hts in_X0 hown hK hP 3 rfl rfl 0 (by decide) (hts _ q_399) (fun _ h9 => h9) rfl dX4_isStuckShown_27 ?_
  have hM22 := k20_size l hl9 dC dI z h3 h6 H19.size 5 5
  obtain ⟨hF20, hC23⟩ := pc_M hM22 hP hD hK hS hX hT hA [0] [] rfl rfl rfl
  refine va_calli (va_runV (As := []) (rest := [.int 1]) ⟨hx, hb, hml, hown, hts⟩ hM22 (cwV 0 hts (gV q_348 q_77 q_78 q_12 q_75) rfl rfl rfl hV_Jx4a65c_size_8abf5 ⟨Nat.le_of_ble_eq_true rfl, Nat.le_of_ble_eq_true rfl⟩) ⟨pc_blind, va_recv hK hP (ci := 0) (q0 := 0) rfl rfl, fun U hU hW => ⟨rfl, hC23 U hU hW⟩⟩ rfl rfl hl.1 rfl (lv_room (Nat.le_of_ble_eq_true rfl)) dX4_isStuckShown_30 ⟨(Nat.le_of_ble_eq_true rfl), (Nat.le_of_ble_eq_true rfl)⟩) hS (fun q9 _ h9 => hF20 q9 h9) hF20 (fun r25 u24 t24 H24 L24 ht24 hvm24 hw24 hB24 hz24 hk24 hS => ?_)
  have hP := pq_keep hP hD [0] rfl hk24 hB24.1 ht24
  have hG : s.heap.size + 0 ≤ H24.size := Nat.le_trans hG hz24
  refine W.eq (g2 := F0 m 33 ls [.int 5, .int 1]) (by rw [hw24]) ?_
  refine lv_icmp_ge (tgt := 69) hx hb dX4_isStuckShown_33 (by decide) (fun cz => absurd cz (by decide)) (fun _ => ?_)
  refine lv_aload_n hx hb dX4_isStuckShown_36 rfl (lv_at hl 2 rfl) ?_
  refine va_get (D := (dC, dI)) (ci := 4) (v := .ref h2) (C := RX4) (T := TX4) (N := 3) hx hb hts in_X4 hown hK hP 2 rfl rfl 0 (by decide) (hts _ q_50) (fun _ h9 => h9) rfl dX4_isStuckShown_37 ?_
  refine va_get (D := (dC, dI)) (ci := 2) (v := .ref h3) (C := RX0) (T := TX0) (N := 4) hx hb hts in_X0 hown hK hP 3 rfl rfl 0 (by decide) (hts _ q_399) (fun _ h9 => h9) rfl dX4_isStuckShown_40 ?_
  refine lv_iload hx hb dX4_isStuckShown_43 (lv_at hl 0 rfl) ?_
  have hM28 := k372_get l hl9 dC dI z h3 h6 h9 h10 h11 h12 h1 H24.size kc0
  obtain ⟨hF26, hC29⟩ := pc_M hM28 hP hD hK hS hX hT hA [0, 1] [0] rfl rfl rfl
  refine va_callr (va_runV (As := [.int 1]) (rest := []) ⟨hx, hb, hml, hown, hts⟩ hM28 (cwV 1 hts (gV q_383 q_157 q_158 q_12 q_155) rfl rfl rfl hV_Jx4a65c_get_915e3 ⟨Nat.le_of_ble_eq_true rfl, Nat.le_of_ble_eq_true rfl⟩) ⟨pc_blind, va_recv hK hP (ci := 0) (q0 := 0) rfl rfl, fun U hU hW => ⟨rfl, hC29 U hU hW⟩⟩ rfl rfl hl.1 rfl (lv_room (Nat.le_of_ble_eq_true rfl)) dX4_isStuckShown_45 ⟨(Nat.le_of_ble_eq_true rfl), (Nat.le_of_ble_eq_true rfl)⟩) hS (fun q9 _ h9 => hF26 q9 h9) hF26 (fun u30 r31 t30 H30 L30 ht30 hvm30 hw30 hB30 hz30 hk30 hS => ?_)
  obtain ⟨hr30, hB30⟩ := hB30
  have hP := pq_keep hP hD [0, 1] rfl hk30 hB30.1 ht30
  have hG : s.heap.size + 0 ≤ H30.size := Nat.le_trans hG hz30
  refine W.eq (g2 := F0 m 48 ls [.ref h10]) (by rw [hr30]) ?_
  refine va_castE (nm := RX2) hx hb hown (hts _ q_384) (va_recv hK hP (ci := 3) (q0 := 9) rfl rfl) dX4_isStuckShown_48 ?_
  refine lv_astore (lv' := [(5, .ref h10), (4, .int 1), (0, .ref h0), (1, .ref h1), (2, .int 49), (3, .int 0)]) hx hb dX4_isStuckShown_51 hl (by decide) rfl (fun ls hl => ?_)
  refine lv_aload hx hb dX4_isStuckShown_53 (lv_at hl 0 rfl) ?_
  refine lv_aload hx hb dX4_isStuckShown_55 (lv_at hl 0 rfl) ?_
  refine va_get (D := (dC, dI)) (ci := 3) (v := .int 48) (C := RX2) (T := TX2) (N := 19) hx hb hts in_X2 hown hK hP 9 rfl rfl 11 (by decide) (hts _ q_385) (fun _ h9 => h9) rfl dX4_isStuckShown_57 ?_
  refine va_put (D := (dC, dI)) (ci := 3) (v := .int 48) (ty := .char) (C := RX2) (T := TX2) (N := 19) hx hb hts in_X2 tyX2 tyX2_ok nmX2 hown hK hP hD (va_Sre hS) 9 rfl rfl 12 (by decide) (hts _ q_400) (fun _ h9 => h9) rfl (by decide +kernel) rfl rfl (Nat.le_of_ble_eq_true rfl) dX4_isStuckShown_60 (fun H32 _ hP hD hS' => ?_)
  have hG : s.heap.size + 0 ≤ H32.size := Nat.le_trans hG hS'.1
  have hS := va_Str hS hS'
  have hP : va_P (dC, dI) xCl [(h3, ce201 h6), (h6, ce200 kc0 h9 h10 h11 h12 h1), (h0, ce271 h2 o0), (h2, ce7 h3 h4 o2 h5), (h4, ce201 h7), (h5, ce226 h8), (h7, ce200 kc1 h9 h10 h11 h12 h1), (h8, ce200 kc2 h9 h10 h11 h12 h1), (h9, ce282 (z.2.1 0) o3 h9), (h10, ce283 (z.2.1 0) o4 h10), (h11, ce284 (z.2.1 0) o5 h11), (h12, ce285 (z.2.1 0) o6 h12), (h1, ce286 (z.2.1 0) o1 h1)] H32 := hP
  have hD := vd_as hP hD rfl
  refine lv_iinc (v := 2) (lv' := [(4, .int 2), (5, .ref h10), (0, .ref h0), (1, .ref h1), (2, .int 49), (3, .int 0)]) hx hb dX4_isStuckShown_63 hl (k := 1) rfl (by decide) (by decide) rfl (fun ls hl => ?_)
  refine lv_goto (tgt := 21) hx hb dX4_isStuckShown_66 (by decide) ?_
  refine lv_iload hx hb dX4_isStuckShown_21 (lv_at hl 0 rfl) ?_
  refine lv_aload_n hx hb dX4_isStuckShown_23 rfl (lv_at hl 2 rfl) ?_
  refine va_get (D := (dC, dI)) (ci := 4) (v := .ref h2) (C := RX4) (T := TX4) (N := 3) hx hb hts in_X4 hown hK hP 2 rfl rfl 0 (by decide) (hts _ q_50) (fun _ h9 => h9) rfl dX4_isStuckShown_24 ?_
  refine va_get (D := (dC, dI)) (ci := 2) (v := .ref h3) (C := RX0) (T := TX0) (N := 4) hx hb hts in_X0 hown hK hP 3 rfl rfl 0 (by decide) (hts _ q_399) (fun _ h9 => h9) rfl dX4_isStuckShown_27 ?_
  have hM35 := k20_size l hl9 dC dI z h3 h6 H32.size 5 5
  obtain ⟨hF33, hC36⟩ := pc_M hM35 hP hD hK hS hX hT hA [0] [] rfl rfl rfl
  refine va_calli (va_runV (As := []) (rest := [.int 2]) ⟨hx, hb, hml, hown, hts⟩ hM35 (cwV 0 hts (gV q_348 q_77 q_78 q_12 q_75) rfl rfl rfl hV_Jx4a65c_size_8abf5 ⟨Nat.le_of_ble_eq_true rfl, Nat.le_of_ble_eq_true rfl⟩) ⟨pc_blind, va_recv hK hP (ci := 0) (q0 := 0) rfl rfl, fun U hU hW => ⟨rfl, hC36 U hU hW⟩⟩ rfl rfl hl.1 rfl (lv_room (Nat.le_of_ble_eq_true rfl)) dX4_isStuckShown_30 ⟨(Nat.le_of_ble_eq_true rfl), (Nat.le_of_ble_eq_true rfl)⟩) hS (fun q9 _ h9 => hF33 q9 h9) hF33 (fun r38 u37 t37 H37 L37 ht37 hvm37 hw37 hB37 hz37 hk37 hS => ?_)
  have hP := pq_keep hP hD [0] rfl hk37 hB37.1 ht37
  have hG : s.heap.size + 0 ≤ H37.size := Nat.le_trans hG hz37
  refine W.eq (g2 := F0 m 33 ls [.int 5, .int 2]) (by rw [hw37]) ?_
  refine lv_icmp_ge (tgt := 69) hx hb dX4_isStuckShown_33 (by decide) (fun cz => absurd cz (by decide)) (fun _ => ?_)
  refine lv_aload_n hx hb dX4_isStuckShown_36 rfl (lv_at hl 2 rfl) ?_
  refine va_get (D := (dC, dI)) (ci := 4) (v := .ref h2) (C := RX4) (T := TX4) (N := 3) hx hb hts in_X4 hown hK hP 2 rfl rfl 0 (by decide) (hts _ q_50) (fun _ h9 => h9) rfl dX4_isStuckShown_37 ?_
  refine va_get (D := (dC, dI)) (ci := 2) (v := .ref h3) (C := RX0) (T := TX0) (N := 4) hx hb hts in_X0 hown hK hP 3 rfl rfl 0 (by decide) (hts _ q_399) (fun _ h9 => h9) rfl dX4_isStuckShown_40 ?_
  refine lv_iload hx hb dX4_isStuckShown_43 (lv_at hl 0 rfl) ?_
  have hM41 := k376_get l hl9 dC dI z h3 h6 h9 h10 h11 h12 h1 H37.size kc0
  obtain ⟨hF39, hC42⟩ := pc_M hM41 hP hD hK hS hX hT hA [0, 1] [0] rfl rfl rfl
  refine va_callr (va_runV (As := [.int 2]) (rest := []) ⟨hx, hb, hml, hown, hts⟩ hM41 (cwV 1 hts (gV q_383 q_157 q_158 q_12 q_155) rfl rfl rfl hV_Jx4a65c_get_915e3 ⟨Nat.le_of_ble_eq_true rfl, Nat.le_of_ble_eq_true rfl⟩) ⟨pc_blind, va_recv hK hP (ci := 0) (q0 := 0) rfl rfl, fun U hU hW => ⟨rfl, hC42 U hU hW⟩⟩ rfl rfl hl.1 rfl (lv_room (Nat.le_of_ble_eq_true rfl)) dX4_isStuckShown_45 ⟨(Nat.le_of_ble_eq_true rfl), (Nat.le_of_ble_eq_true rfl)⟩) hS (fun q9 _ h9 => hF39 q9 h9) hF39 (fun u43 r44 t43 H43 L43 ht43 hvm43 hw43 hB43 hz43 hk43 hS => ?_)
  obtain ⟨hr43, hB43⟩ := hB43
  have hP := pq_keep hP hD [0, 1] rfl hk43 hB43.1 ht43
  have hG : s.heap.size + 0 ≤ H43.size := Nat.le_trans hG hz43
  refine W.eq (g2 := F0 m 48 ls [.ref h11]) (by rw [hr43]) ?_
  refine va_castE (nm := RX2) hx hb hown (hts _ q_384) (va_recv hK hP (ci := 3) (q0 := 10) rfl rfl) dX4_isStuckShown_48 ?_
  refine lv_astore (lv' := [(5, .ref h11), (4, .int 2), (0, .ref h0), (1, .ref h1), (2, .int 49), (3, .int 0)]) hx hb dX4_isStuckShown_51 hl (by decide) rfl (fun ls hl => ?_)
  refine lv_aload hx hb dX4_isStuckShown_53 (lv_at hl 0 rfl) ?_
  refine lv_aload hx hb dX4_isStuckShown_55 (lv_at hl 0 rfl) ?_
  refine va_get (D := (dC, dI)) (ci := 3) (v := .int 48) (C := RX2) (T := TX2) (N := 19) hx hb hts in_X2 hown hK hP 10 rfl rfl 11 (by decide) (hts _ q_385) (fun _ h9 => h9) rfl dX4_isStuckShown_57 ?_
  refine va_put (D := (dC, dI)) (ci := 3) (v := .int 48) (ty := .char) (C := RX2) (T := TX2) (N := 19) hx hb hts in_X2 tyX2 tyX2_ok nmX2 hown hK hP hD (va_Sre hS) 10 rfl rfl 12 (by decide) (hts _ q_400) (fun _ h9 => h9) rfl (by decide +kernel) rfl rfl (Nat.le_of_ble_eq_true rfl) dX4_isStuckShown_60 (fun H45 _ hP hD hS' => ?_)
  have hG : s.heap.size + 0 ≤ H45.size := Nat.le_trans hG hS'.1
  have hS := va_Str hS hS'
  have hP : va_P (dC, dI) xCl [(h3, ce201 h6), (h6, ce200 kc0 h9 h10 h11 h12 h1), (h0, ce271 h2 o0), (h2, ce7 h3 h4 o2 h5), (h4, ce201 h7), (h5, ce226 h8), (h7, ce200 kc1 h9 h10 h11 h12 h1), (h8, ce200 kc2 h9 h10 h11 h12 h1), (h9, ce282 (z.2.1 0) o3 h9), (h10, ce283 (z.2.1 0) o4 h10), (h11, ce284 (z.2.1 0) o5 h11), (h12, ce285 (z.2.1 0) o6 h12), (h1, ce286 (z.2.1 0) o1 h1)] H45 := hP
  have hD := vd_as hP hD rfl
  refine lv_iinc (v := 3) (lv' := [(4, .int 3), (5, .ref h11), (0, .ref h0), (1, .ref h1), (2, .int 49), (3, .int 0)]) hx hb dX4_isStuckShown_63 hl (k := 1) rfl (by decide) (by decide) rfl (fun ls hl => ?_)
  refine lv_goto (tgt := 21) hx hb dX4_isStuckShown_66 (by decide) ?_
  refine lv_iload hx hb dX4_isStuckShown_21 (lv_at hl 0 rfl) ?_
  refine lv_aload_n hx hb dX4_isStuckShown_23 rfl (lv_at hl 2 rfl) ?_
  refine va_get (D := (dC, dI)) (ci := 4) (v := .ref h2) (C := RX4) (T := TX4) (N := 3) hx hb hts in_X4 hown hK hP 2 rfl rfl 0 (by decide) (hts _ q_50) (fun _ h9 => h9) rfl dX4_isStuckShown_24 ?_
  refine va_get (D := (dC, dI)) (ci := 2) (v := .ref h3) (C := RX0) (T := TX0) (N := 4) hx hb hts in_X0 hown hK hP 3 rfl rfl 0 (by decide) (hts _ q_399) (fun _ h9 => h9) rfl dX4_isStuckShown_27 ?_
  have hM48 := k20_size l hl9 dC dI z h3 h6 H45.size 5 5
  obtain ⟨hF46, hC49⟩ := pc_M hM48 hP hD hK hS hX hT hA [0] [] rfl rfl rfl
  refine va_calli (va_runV (As := []) (rest := [.int 3]) ⟨hx, hb, hml, hown, hts⟩ hM48 (cwV 0 hts (gV q_348 q_77 q_78 q_12 q_75) rfl rfl rfl hV_Jx4a65c_size_8abf5 ⟨Nat.le_of_ble_eq_true rfl, Nat.le_of_ble_eq_true rfl⟩) ⟨pc_blind, va_recv hK hP (ci := 0) (q0 := 0) rfl rfl, fun U hU hW => ⟨rfl, hC49 U hU hW⟩⟩ rfl rfl hl.1 rfl (lv_room (Nat.le_of_ble_eq_true rfl)) dX4_isStuckShown_30 ⟨(Nat.le_of_ble_eq_true rfl), (Nat.le_of_ble_eq_true rfl)⟩) hS (fun q9 _ h9 => hF46 q9 h9) hF46 (fun r51 u50 t50 H50 L50 ht50 hvm50 hw50 hB50 hz50 hk50 hS => ?_)
  have hP := pq_keep hP hD [0] rfl hk50 hB50.1 ht50
  have hG : s.heap.size + 0 ≤ H50.size := Nat.le_trans hG hz50
  refine W.eq (g2 := F0 m 33 ls [.int 5, .int 3]) (by rw [hw50]) ?_
  refine lv_icmp_ge (tgt := 69) hx hb dX4_isStuckShown_33 (by decide) (fun cz => absurd cz (by decide)) (fun _ => ?_)
  refine lv_aload_n hx hb dX4_isStuckShown_36 rfl (lv_at hl 2 rfl) ?_
  refine va_get (D := (dC, dI)) (ci := 4) (v := .ref h2) (C := RX4) (T := TX4) (N := 3) hx hb hts in_X4 hown hK hP 2 rfl rfl 0 (by decide) (hts _ q_50) (fun _ h9 => h9) rfl dX4_isStuckShown_37 ?_
  refine va_get (D := (dC, dI)) (ci := 2) (v := .ref h3) (C := RX0) (T := TX0) (N := 4) hx hb hts in_X0 hown hK hP 3 rfl rfl 0 (by decide) (hts _ q_399) (fun _ h9 => h9) rfl dX4_isStuckShown_40 ?_
  refine lv_iload hx hb dX4_isStuckShown_43 (lv_at hl 0 rfl) ?_
  have hM54 := k380_get l hl9 dC dI z h3 h6 h9 h10 h11 h12 h1 H50.size kc0
  obtain ⟨hF52, hC55⟩ := pc_M hM54 hP hD hK hS hX hT hA [0, 1] [0] rfl rfl rfl
  refine va_callr (va_runV (As := [.int 3]) (rest := []) ⟨hx, hb, hml, hown, hts⟩ hM54 (cwV 1 hts (gV q_383 q_157 q_158 q_12 q_155) rfl rfl rfl hV_Jx4a65c_get_915e3 ⟨Nat.le_of_ble_eq_true rfl, Nat.le_of_ble_eq_true rfl⟩) ⟨pc_blind, va_recv hK hP (ci := 0) (q0 := 0) rfl rfl, fun U hU hW => ⟨rfl, hC55 U hU hW⟩⟩ rfl rfl hl.1 rfl (lv_room (Nat.le_of_ble_eq_true rfl)) dX4_isStuckShown_45 ⟨(Nat.le_of_ble_eq_true rfl), (Nat.le_of_ble_eq_true rfl)⟩) hS (fun q9 _ h9 => hF52 q9 h9) hF52 (fun u56 r57 t56 H56 L56 ht56 hvm56 hw56 hB56 hz56 hk56 hS => ?_)
  obtain ⟨hr56, hB56⟩ := hB56
  have hP := pq_keep hP hD [0, 1] rfl hk56 hB56.1 ht56
  have hG : s.heap.size + 0 ≤ H56.size := Nat.le_trans hG hz56
  refine W.eq (g2 := F0 m 48 ls [.ref h12]) (by rw [hr56]) ?_
  refine va_castE (nm := RX2) hx hb hown (hts _ q_384) (va_recv hK hP (ci := 3) (q0 := 11) rfl rfl) dX4_isStuckShown_48 ?_
  refine lv_astore (lv' := [(5, .ref h12), (4, .int 3), (0, .ref h0), (1, .ref h1), (2, .int 49), (3, .int 0)]) hx hb dX4_isStuckShown_51 hl (by decide) rfl (fun ls hl => ?_)
  refine lv_aload hx hb dX4_isStuckShown_53 (lv_at hl 0 rfl) ?_
  refine lv_aload hx hb dX4_isStuckShown_55 (lv_at hl 0 rfl) ?_
  refine va_get (D := (dC, dI)) (ci := 3) (v := .int 48) (C := RX2) (T := TX2) (N := 19) hx hb hts in_X2 hown hK hP 11 rfl rfl 11 (by decide) (hts _ q_385) (fun _ h9 => h9) rfl dX4_isStuckShown_57 ?_
  refine va_put (D := (dC, dI)) (ci := 3) (v := .int 48) (ty := .char) (C := RX2) (T := TX2) (N := 19) hx hb hts in_X2 tyX2 tyX2_ok nmX2 hown hK hP hD (va_Sre hS) 11 rfl rfl 12 (by decide) (hts _ q_400) (fun _ h9 => h9) rfl (by decide +kernel) rfl rfl (Nat.le_of_ble_eq_true rfl) dX4_isStuckShown_60 (fun H58 _ hP hD hS' => ?_)
  have hG : s.heap.size + 0 ≤ H58.size := Nat.le_trans hG hS'.1
  have hS := va_Str hS hS'
  have hP : va_P (dC, dI) xCl [(h3, ce201 h6), (h6, ce200 kc0 h9 h10 h11 h12 h1), (h0, ce271 h2 o0), (h2, ce7 h3 h4 o2 h5), (h4, ce201 h7), (h5, ce226 h8), (h7, ce200 kc1 h9 h10 h11 h12 h1), (h8, ce200 kc2 h9 h10 h11 h12 h1), (h9, ce282 (z.2.1 0) o3 h9), (h10, ce283 (z.2.1 0) o4 h10), (h11, ce284 (z.2.1 0) o5 h11), (h12, ce285 (z.2.1 0) o6 h12), (h1, ce286 (z.2.1 0) o1 h1)] H58 := hP
  have hD := vd_as hP hD rfl
  refine lv_iinc (v := 4) (lv' := [(4, .int 4), (5, .ref h12), (0, .ref h0), (1, .ref h1), (2, .int 49), (3, .int 0)]) hx hb dX4_isStuckShown_63 hl (k := 1) rfl (by decide) (by decide) rfl (fun ls hl => ?_)
  refine lv_goto (tgt := 21) hx hb dX4_isStuckShown_66 (by decide) ?_
  refine lv_iload hx hb dX4_isStuckShown_21 (lv_at hl 0 rfl) ?_
  refine lv_aload_n hx hb dX4_isStuckShown_23 rfl (lv_at hl 2 rfl) ?_
  refine va_get (D := (dC, dI)) (ci := 4) (v := .ref h2) (C := RX4) (T := TX4) (N := 3) hx hb hts in_X4 hown hK hP 2 rfl rfl 0 (by decide) (hts _ q_50) (fun _ h9 => h9) rfl dX4_isStuckShown_24 ?_
  refine va_get (D := (dC, dI)) (ci := 2) (v := .ref h3) (C := RX0) (T := TX0) (N := 4) hx hb hts in_X0 hown hK hP 3 rfl rfl 0 (by decide) (hts _ q_399) (fun _ h9 => h9) rfl dX4_isStuckShown_27 ?_
  have hM61 := k20_size l hl9 dC dI z h3 h6 H58.size 5 5
  obtain ⟨hF59, hC62⟩ := pc_M hM61 hP hD hK hS hX hT hA [0] [] rfl rfl rfl
  refine va_calli (va_runV (As := []) (rest := [.int 4]) ⟨hx, hb, hml, hown, hts⟩ hM61 (cwV 0 hts (gV q_348 q_77 q_78 q_12 q_75) rfl rfl rfl hV_Jx4a65c_size_8abf5 ⟨Nat.le_of_ble_eq_true rfl, Nat.le_of_ble_eq_true rfl⟩) ⟨pc_blind, va_recv hK hP (ci := 0) (q0 := 0) rfl rfl, fun U hU hW => ⟨rfl, hC62 U hU hW⟩⟩ rfl rfl hl.1 rfl (lv_room (Nat.le_of_ble_eq_true rfl)) dX4_isStuckShown_30 ⟨(Nat.le_of_ble_eq_true rfl), (Nat.le_of_ble_eq_true rfl)⟩) hS (fun q9 _ h9 => hF59 q9 h9) hF59 (fun r64 u63 t63 H63 L63 ht63 hvm63 hw63 hB63 hz63 hk63 hS => ?_)
  have hP := pq_keep hP hD [0] rfl hk63 hB63.1 ht63
  have hG : s.heap.size + 0 ≤ H63.size := Nat.le_trans hG hz63
  refine W.eq (g2 := F0 m 33 ls [.int 5, .int 4]) (by rw [hw63]) ?_
  refine lv_icmp_ge (tgt := 69) hx hb dX4_isStuckShown_33 (by decide) (fun cz => absurd cz (by decide)) (fun _ => ?_)
  refine lv_aload_n hx hb dX4_isStuckShown_36 rfl (lv_at hl 2 rfl) ?_
  refine va_get (D := (dC, dI)) (ci := 4) (v := .ref h2) (C := RX4) (T := TX4) (N := 3) hx hb hts in_X4 hown hK hP 2 rfl rfl 0 (by decide) (hts _ q_50) (fun _ h9 => h9) rfl dX4_isStuckShown_37 ?_
  refine va_get (D := (dC, dI)) (ci := 2) (v := .ref h3) (C := RX0) (T := TX0) (N := 4) hx hb hts in_X0 hown hK hP 3 rfl rfl 0 (by decide) (hts _ q_399) (fun _ h9 => h9) rfl dX4_isStuckShown_40 ?_
  refine lv_iload hx hb dX4_isStuckShown_43 (lv_at hl 0 rfl) ?_
  have hM67 := k384_get l hl9 dC dI z h3 h6 h9 h10 h11 h12 h1 H63.size kc0
  obtain ⟨hF65, hC68⟩ := pc_M hM67 hP hD hK hS hX hT hA [0, 1] [0] rfl rfl rfl
  refine va_callr (va_runV (As := [.int 4]) (rest := []) ⟨hx, hb, hml, hown, hts⟩ hM67 (cwV 1 hts (gV q_383 q_157 q_158 q_12 q_155) rfl rfl rfl hV_Jx4a65c_get_915e3 ⟨Nat.le_of_ble_eq_true rfl, Nat.le_of_ble_eq_true rfl⟩) ⟨pc_blind, va_recv hK hP (ci := 0) (q0 := 0) rfl rfl, fun U hU hW => ⟨rfl, hC68 U hU hW⟩⟩ rfl rfl hl.1 rfl (lv_room (Nat.le_of_ble_eq_true rfl)) dX4_isStuckShown_45 ⟨(Nat.le_of_ble_eq_true rfl), (Nat.le_of_ble_eq_true rfl)⟩) hS (fun q9 _ h9 => hF65 q9 h9) hF65 (fun u69 r70 t69 H69 L69 ht69 hvm69 hw69 hB69 hz69 hk69 hS => ?_)
  obtain ⟨hr69, hB69⟩ := hB69
  have hP := pq_keep hP hD [0, 1] rfl hk69 hB69.1 ht69
  have hG : s.heap.size + 0 ≤ H69.size := Nat.le_trans hG hz69
  refine W.eq (g2 := F0 m 48 ls [.ref h1]) (by rw [hr69]) ?_
  refine va_castE (nm := RX2) hx hb hown (hts _ q_384) (va_recv hK hP (ci := 3) (q0 := 12) rfl rfl) dX4_isStuckShown_48 ?_
  refine lv_astore (lv' := [(5, .ref h1), (4, .int 4), (0, .ref h0), (1, .ref h1), (2, .int 49), (3, .int 0)]) hx hb dX4_isStuckShown_51 hl (by decide) rfl (fun ls hl => ?_)
  refine lv_aload hx hb dX4_isStuckShown_53 (lv_at hl 0 rfl) ?_
  refine lv_aload hx hb dX4_isStuckShown_55 (lv_at hl 0 rfl) ?_
  refine va_get (D := (dC, dI)) (ci := 3) (v := .int 48) (C := RX2) (T := TX2) (N := 19) hx hb hts in_X2 hown hK hP 12 rfl rfl 11 (by decide) (hts _ q_385) (fun _ h9 => h9) rfl dX4_isStuckShown_57 ?_
  refine va_put (D := (dC, dI)) (ci := 3) (v := .int 48) (ty := .char) (C := RX2) (T := TX2) (N := 19) hx hb hts in_X2 tyX2 tyX2_ok nmX2 hown hK hP hD (va_Sre hS) 12 rfl rfl 12 (by decide) (hts _ q_400) (fun _ h9 => h9) rfl (by decide +kernel) rfl rfl (Nat.le_of_ble_eq_true rfl) dX4_isStuckShown_60 (fun H71 _ hP hD hS' => ?_)
  have hG : s.heap.size + 0 ≤ H71.size := Nat.le_trans hG hS'.1
  have hS := va_Str hS hS'
  have hP : va_P (dC, dI) xCl [(h3, ce201 h6), (h6, ce200 kc0 h9 h10 h11 h12 h1), (h0, ce271 h2 o0), (h2, ce7 h3 h4 o2 h5), (h4, ce201 h7), (h5, ce226 h8), (h7, ce200 kc1 h9 h10 h11 h12 h1), (h8, ce200 kc2 h9 h10 h11 h12 h1), (h9, ce282 (z.2.1 0) o3 h9), (h10, ce283 (z.2.1 0) o4 h10), (h11, ce284 (z.2.1 0) o5 h11), (h12, ce285 (z.2.1 0) o6 h12), (h1, ce286 (z.2.1 0) o1 h1)] H71 := hP
  have hD := vd_as hP hD rfl
  refine lv_iinc (v := 5) (lv' := [(4, .int 5), (5, .ref h1), (0, .ref h0), (1, .ref h1), (2, .int 49), (3, .int 0)]) hx hb dX4_isStuckShown_63 hl (k := 1) rfl (by decide) (by decide) rfl (fun ls hl => ?_)
  refine lv_goto (tgt := 21) hx hb dX4_isStuckShown_66 (by decide) ?_
  refine lv_iload hx hb dX4_isStuckShown_21 (lv_at hl 0 rfl) ?_
  refine lv_aload_n hx hb dX4_isStuckShown_23 rfl (lv_at hl 2 rfl) ?_
  refine va_get (D := (dC, dI)) (ci := 4) (v := .ref h2) (C := RX4) (T := TX4) (N := 3) hx hb hts in_X4 hown hK hP 2 rfl rfl 0 (by decide) (hts _ q_50) (fun _ h9 => h9) rfl dX4_isStuckShown_24 ?_
  refine va_get (D := (dC, dI)) (ci := 2) (v := .ref h3) (C := RX0) (T := TX0) (N := 4) hx hb hts in_X0 hown hK hP 3 rfl rfl 0 (by decide) (hts _ q_399) (fun _ h9 => h9) rfl dX4_isStuckShown_27 ?_
  have hM74 := k20_size l hl9 dC dI z h3 h6 H71.size 5 5
  obtain ⟨hF72, hC75⟩ := pc_M hM74 hP hD hK hS hX hT hA [0] [] rfl rfl rfl
  refine va_calli (va_runV (As := []) (rest := [.int 5]) ⟨hx, hb, hml, hown, hts⟩ hM74 (cwV 0 hts (gV q_348 q_77 q_78 q_12 q_75) rfl rfl rfl hV_Jx4a65c_size_8abf5 ⟨Nat.le_of_ble_eq_true rfl, Nat.le_of_ble_eq_true rfl⟩) ⟨pc_blind, va_recv hK hP (ci := 0) (q0 := 0) rfl rfl, fun U hU hW => ⟨rfl, hC75 U hU hW⟩⟩ rfl rfl hl.1 rfl (lv_room (Nat.le_of_ble_eq_true rfl)) dX4_isStuckShown_30 ⟨(Nat.le_of_ble_eq_true rfl), (Nat.le_of_ble_eq_true rfl)⟩) hS (fun q9 _ h9 => hF72 q9 h9) hF72 (fun r77 u76 t76 H76 L76 ht76 hvm76 hw76 hB76 hz76 hk76 hS => ?_)
  have hP := pq_keep hP hD [0] rfl hk76 hB76.1 ht76
  have hG : s.heap.size + 0 ≤ H76.size := Nat.le_trans hG hz76
  refine W.eq (g2 := F0 m 33 ls [.int 5, .int 5]) (by rw [hw76]) ?_
  refine lv_icmp_ge (tgt := 69) hx hb dX4_isStuckShown_33 (by decide) (fun _ => ?_) (fun cz => absurd (by decide) cz)
  refine lv_aload_n hx hb dX4_isStuckShown_69 rfl (lv_at hl 2 rfl) ?_
  refine lv_iload_n hx hb dX4_isStuckShown_70 rfl (lv_at hl 5 rfl) ?_
  refine lv_aload_n hx hb dX4_isStuckShown_71 rfl (lv_at hl 3 rfl) ?_
  refine lv_iload_n hx hb dX4_isStuckShown_72 rfl (lv_at hl 4 rfl) ?_
  have hM80 := k610_tryRow l hl9 dC dI z h0 h1 h2 h4 h5 h7 h8 h9 h10 h11 h12 o0 o1 h3 o2 o3 o4 o5 o6 H76.size kc1 kc2
  obtain ⟨hF78, hC81⟩ := pc_M hM80 hP hD hK hS hX hT hA [2, 12, 3, 4, 5, 6, 7, 8, 9, 10, 11] [1, 2] rfl rfl rfl
  refine va_callv (va_runV (As := [.int 0, .ref h1, .int 49]) (rest := []) ⟨hx, hb, hml, hown, hts⟩ hM80 (cwV 3 hts (gV q_388 q_389 q_390 q_46 q_387) rfl rfl rfl hV_X4_tryRow ⟨Nat.le_of_ble_eq_true rfl, Nat.le_of_ble_eq_true rfl⟩) ⟨pc_blind, va_recv hK hP (ci := 4) (q0 := 2) rfl rfl, fun U hU hW => ⟨rfl, hC81 U hU hW⟩⟩ rfl rfl hl.1 rfl (lv_room (Nat.le_of_ble_eq_true rfl)) dX4_isStuckShown_73 ⟨(Nat.le_of_ble_eq_true rfl), (Nat.le_of_ble_eq_true rfl)⟩) hS (fun q9 _ h9 => hF78 q9 h9) hF78 (fun u82 t82 H82 L82 ht82 hvm82 hw82 hB82 hz82 hk82 hS => ?_)
  obtain ⟨hP, hD, hK⟩ := pq_jn (wz := [(h3, ce201 h6), (h6, ce200 kc0 h9 h10 h11 h12 h1), (h0, ce271 h2 o0), (h1, ce291 (z.2.1 0) o1 h1), (h2, ce7 h3 h4 o2 h5), (h4, ce201 h7), (h5, ce226 h8), (h7, ce200 kc1 h9 h10 h11 h12 h1), (h8, ce200 kc2 h9 h10 h11 h12 h1), (h9, ce282 (z.2.1 0) o3 h9), (h10, ce283 (z.2.1 0) o4 h10), (h11, ce284 (z.2.1 0) o5 h11), (h12, ce285 (z.2.1 0) o6 h12)]) (tz := [(kc0, .object "java/lang/Object"), (kc1, .object "java/lang/Object"), (kc2, .object "java/lang/Object")]) hP hD hK [2, 12, 3, 4, 5, 6, 7, 8, 9, 10, 11] [0] rfl hk82 hF78 hB82.1 ht82 hvm82 rfl rfl
  have hG : s.heap.size + 0 ≤ H82.size := Nat.le_trans hG hz82
  refine lv_aload_n hx hb dX4_isStuckShown_76 rfl (lv_at hl 2 rfl) ?_
  have hM86 := k612_isDifferenceWatched l hl9 dC dI z h0 h2 h3 h6 h9 h10 h11 h12 h1 o0 h4 o2 h5 o3 o4 o5 o6 o1 H82.size kc0
  obtain ⟨hF84, hC87⟩ := pc_M hM86 hP hD hK hS hX hT hA [2, 4, 0, 1, 9, 10, 11, 12, 3] [0] rfl rfl rfl
  refine va_calli (va_runV (As := []) (rest := []) ⟨hx, hb, hml, hown, hts⟩ hM86 (cwV 0 hts (gV q_411 q_412 q_413 q_46 q_410) rfl rfl rfl hV_X4_isDifferenceWatched ⟨Nat.le_of_ble_eq_true rfl, Nat.le_of_ble_eq_true rfl⟩) ⟨pc_blind, va_recv hK hP (ci := 4) (q0 := 2) rfl rfl, fun U hU hW => ⟨rfl, hC87 U hU hW⟩⟩ rfl rfl hl.1 rfl (lv_room (Nat.le_of_ble_eq_true rfl)) dX4_isStuckShown_77 ⟨(Nat.le_of_ble_eq_true rfl), (Nat.le_of_ble_eq_true rfl)⟩) hS (fun q9 _ h9 => hF84 q9 h9) hF84 (fun r89 u88 t88 H88 L88 ht88 hvm88 hw88 hB88 hz88 hk88 hS => ?_)
  have hP := pq_keep hP hD [2, 4, 0, 1, 9, 10, 11, 12, 3] rfl hk88 hB88.1 ht88
  have hG : s.heap.size + 0 ≤ H88.size := Nat.le_trans hG hz88
  refine W.eq (g2 := F0 m 80 ls [.int 0]) (by rw [hw88]) ?_
  exact W.zret (v := 0) (ty := .boolean) hx hb hr rfl (fun t9 ht9 hW9 => ⟨⟨0, (), rfl, rfl, ⟨pq_mk2 hP hD hK [2, 3, 4, 0, 5, 6, 1, 7, 8, 9, 10, 11, 12] [0, 1, 2] rfl rfl rfl ht9 hW9, by rw [ht9]; exact Nat.le_trans (Nat.add_le_add_left (Nat.le_of_ble_eq_true rfl) _) hG⟩⟩, hS.F ht9⟩) hS.2.2 dX4_isStuckShown_80

set_option maxHeartbeats 4000000 in
set_option maxRecDepth 100000 in
theorem k616_isShownBySomeTest (l : Launch) (hl9 : l.stackTraces = false) (dC : Nat → ClassId) (dI : Nat → Nat → Nat) (z : XZ) (h0 h1 h2 h3 h4 h5 h6 h7 h8 h9 h10 h11 h12 h13 : Nat) (o0 o1 o2 o3 o4 o5 : Nat) (sz : Nat) (kc0 kc1 kc2 kc3 : ClassId) : Met l yX4_isShownBySomeTest (.code yX4_isShownBySomeTest cX4_isShownBySomeTest 4 (some .boolean) :: wsL_law) ({ frames := 6, cells := 0, slots := 0, locals := 137 }) (va_Pc [.ref h0, .ref h1, .int 49] (PC (dC, dI) [(h0, ce271 h2 h3), (h1, ce286 (z.2.1 0) o0 h1), (h2, ce7 h4 h5 o1 h6), (h3, ce270 kc0), (h4, ce201 h7), (h5, ce201 h8), (h6, ce226 h9), (h7, ce200 kc1 h10 h11 h12 h13 h1), (h8, ce200 kc2 h10 h11 h12 h13 h1), (h9, ce200 kc3 h10 h11 h12 h13 h1), (h10, ce282 (z.2.1 0) o2 h10), (h11, ce283 (z.2.1 0) o3 h11), (h12, ce284 (z.2.1 0) o4 h12), (h13, ce285 (z.2.1 0) o5 h13)] [(kc0, .int), (kc1, .object "java/lang/Object"), (kc2, .object "java/lang/Object"), (kc3, .object "java/lang/Object")] sz z)) (va_Qi (fun (r : Int32) (_ : Unit) => r = 0) (fun (_ : Unit) (t : State) => PG (dC, dI) [(h0, ce271 h2 h3), (h1, ce291 (z.2.1 0) o0 h1), (h2, ce7 h4 h5 o1 h6), (h3, ce270 kc0), (h4, ce201 h7), (h5, ce201 h8), (h6, ce226 h9), (h7, ce200 kc1 h10 h11 h12 h13 h1), (h8, ce200 kc2 h10 h11 h12 h13 h1), (h9, ce200 kc3 h10 h11 h12 h13 h1), (h10, ce282 (z.2.1 0) o2 h10), (h11, ce283 (z.2.1 0) o3 h11), (h12, ce284 (z.2.1 0) o4 h12), (h13, ce285 (z.2.1 0) o5 h13)] [(kc0, .int), (kc1, .object "java/lang/Object"), (kc2, .object "java/lang/Object"), (kc3, .object "java/lang/Object")] (va_A [(h0, ce271 h2 h3), (h1, ce286 (z.2.1 0) o0 h1), (h2, ce7 h4 h5 o1 h6), (h3, ce270 kc0), (h4, ce201 h7), (h5, ce201 h8), (h6, ce226 h9), (h7, ce200 kc1 h10 h11 h12 h13 h1), (h8, ce200 kc2 h10 h11 h12 h13 h1), (h9, ce200 kc3 h10 h11 h12 h13 h1), (h10, ce282 (z.2.1 0) o2 h10), (h11, ce283 (z.2.1 0) o3 h11), (h12, ce284 (z.2.1 0) o4 h12), (h13, ce285 (z.2.1 0) o5 h13)] sz) sz 0 t) (va_A [(h0, ce271 h2 h3), (h1, ce286 (z.2.1 0) o0 h1), (h2, ce7 h4 h5 o1 h6), (h3, ce270 kc0), (h4, ce201 h7), (h5, ce201 h8), (h6, ce226 h9), (h7, ce200 kc1 h10 h11 h12 h13 h1), (h8, ce200 kc2 h10 h11 h12 h13 h1), (h9, ce200 kc3 h10 h11 h12 h13 h1), (h10, ce282 (z.2.1 0) o2 h10), (h11, ce283 (z.2.1 0) o3 h11), (h12, ce284 (z.2.1 0) o4 h12), (h13, ce285 (z.2.1 0) o5 h13)] sz)) 0 0 (va_A [(h0, ce271 h2 h3), (h1, ce286 (z.2.1 0) o0 h1), (h2, ce7 h4 h5 o1 h6), (h3, ce270 kc0), (h4, ce201 h7), (h5, ce201 h8), (h6, ce226 h9), (h7, ce200 kc1 h10 h11 h12 h13 h1), (h8, ce200 kc2 h10 h11 h12 h13 h1), (h9, ce200 kc3 h10 h11 h12 h13 h1), (h10, ce282 (z.2.1 0) o2 h10), (h11, ce283 (z.2.1 0) o3 h11), (h12, ce284 (z.2.1 0) o4 h12), (h13, ce285 (z.2.1 0) o5 h13)] sz) := by
  refine Met.ofW (cc := cX4_isShownBySomeTest) (maxL := 4) (ret := (some .boolean)) (by decide) rfl ?_
  intro p e s m args below meth c s₁ B hml hv
  obtain ⟨rfl, hsz, hP, hK, hD0, hX, hT⟩ := hv
  have hx := B.exec
  have hb := B.bytes
  have hr := B.returns
  have hts0 := atoms_spec (ws := .code yX4_isShownBySomeTest cX4_isShownBySomeTest 4 (some .boolean) :: wsL_law) B.pre
  have hts := xTail hts0
  have hown : s.vm.findClass RX4 = some m.cls := findClass_of_methodNamed B.named
  have hlocks := B.notSynchronized
  subst hsz
  have hD := hD0.self (sz := s.heap.size)
  generalize hAe : va_A [(h0, ce271 h2 h3), (h1, ce286 (z.2.1 0) o0 h1), (h2, ce7 h4 h5 o1 h6), (h3, ce270 kc0), (h4, ce201 h7), (h5, ce201 h8), (h6, ce226 h9), (h7, ce200 kc1 h10 h11 h12 h13 h1), (h8, ce200 kc2 h10 h11 h12 h13 h1), (h9, ce200 kc3 h10 h11 h12 h13 h1), (h10, ce282 (z.2.1 0) o2 h10), (h11, ce283 (z.2.1 0) o3 h11), (h12, ce284 (z.2.1 0) o4 h12), (h13, ce285 (z.2.1 0) o5 h13)] s.heap.size = A at hD hX ⊢
  have hA : ∀ q : Nat, s.heap.size ≤ q → A q := fun q h => by rw [← hAe]; exact Or.inr h
  have hS : va_S A s.heap s.heap [] := va_S.rf
  have hG : s.heap.size + 0 ≤ s.heap.size := Nat.le_refl _
  have hl := lv_entry ([.ref h0, .ref h1, .int 49]) (n := 4) (Nat.le_of_ble_eq_true rfl)
  rw [lg_entry_eq]
  generalize (lg_sl ([.ref h0, .ref h1, .int 49]) ++ List.replicate (4 - (lg_sl ([.ref h0, .ref h1, .int 49])).length) Slot.unset).toArray = ls at hl ⊢
  have hl : lv_has ls 4 [(0, .ref h0), (1, .ref h1), (2, .int 49)] := hl
  refine lv_iconst (v := 0) hx hb dX4_isShownBySomeTest_0 (by decide) ?_
  refine lv_istore_n (lv' := [(3, .int 0), (0, .ref h0), (1, .ref h1), (2, .int 49)]) hx hb dX4_isShownBySomeTest_1 rfl hl (by decide) rfl (fun ls hl => ?_)
  refine lv_iload_n hx hb dX4_isShownBySomeTest_2 rfl (lv_at hl 0 rfl) ?_
  refine lv_aload_n hx hb dX4_isShownBySomeTest_3 rfl (lv_at hl 1 rfl) ?_
  refine va_get (D := (dC, dI)) (ci := 4) (v := .int 7) (C := RX4) (T := TX4) (N := 3) hx hb hts in_X4 hown hK hP 0 rfl rfl 2 (by decide) (hts _ q_358) (fun _ h9 => h9) rfl dX4_isShownBySomeTest_4 ?_
  refine lv_icmp_ge (tgt := 42) hx hb dX4_isShownBySomeTest_7 (by decide) (fun cz => absurd cz (by decide)) (fun _ => ?_)
  refine lv_iload_n hx hb dX4_isShownBySomeTest_10 rfl (lv_at hl 0 rfl) ?_
  refine lv_aload_n hx hb dX4_isShownBySomeTest_11 rfl (lv_at hl 1 rfl) ?_
  refine va_get (D := (dC, dI)) (ci := 4) (v := .ref h3) (C := RX4) (T := TX4) (N := 3) hx hb hts in_X4 hown hK hP 0 rfl rfl 1 (by decide) (hts _ q_49) (fun _ h9 => h9) rfl dX4_isShownBySomeTest_12 ?_
  refine va_alen hx hb hK hP 3 0 rfl rfl (v := 8) rfl dX4_isShownBySomeTest_15 ?_
  refine lv_icmp_ge (tgt := 42) hx hb dX4_isShownBySomeTest_16 (by decide) (fun cz => absurd cz (by decide)) (fun _ => ?_)
  refine lv_aload_n hx hb dX4_isShownBySomeTest_19 rfl (lv_at hl 1 rfl) ?_
  refine lv_aload_n hx hb dX4_isShownBySomeTest_20 rfl (lv_at hl 2 rfl) ?_
  refine lv_iload_n hx hb dX4_isShownBySomeTest_21 rfl (lv_at hl 3 rfl) ?_
  refine lv_aload_n hx hb dX4_isShownBySomeTest_22 rfl (lv_at hl 1 rfl) ?_
  refine va_get (D := (dC, dI)) (ci := 4) (v := .ref h3) (C := RX4) (T := TX4) (N := 3) hx hb hts in_X4 hown hK hP 0 rfl rfl 1 (by decide) (hts _ q_49) (fun _ h9 => h9) rfl dX4_isShownBySomeTest_23 ?_
  refine lv_iload_n hx hb dX4_isShownBySomeTest_26 rfl (lv_at hl 0 rfl) ?_
  refine va_iald hx hb hK hP 3 0 rfl rfl (i := 0) (by unfold vp_in; decide) dX4_isShownBySomeTest_27 ?_
  refine W.eq (g2 := F0 m 28 ls [.int 0, .int 49, .ref h1, .ref h0]) rfl ?_
  have hM3 := k613_isStuckShown l hl9 dC dI z h0 h1 h2 h4 h5 h6 h7 h8 h9 h10 h11 h12 h13 h3 o0 o1 o2 o3 o4 o5 s.heap.size kc1 kc2 kc3
  obtain ⟨hF1, hC4⟩ := pc_M hM3 hP hD hK hS hX hT hA [0, 1, 2, 4, 5, 6, 7, 8, 9, 10, 11, 12, 13] [1, 2, 3] rfl rfl rfl
  refine va_calli (va_runV (As := [.ref h1, .int 49, .int 0]) (rest := []) ⟨hx, hb, hml, hown, hts⟩ hM3 (cwV 3 hts (gV q_392 q_393 q_394 q_46 q_391) rfl rfl rfl hV_X4_isStuckShown ⟨Nat.le_of_ble_eq_true rfl, Nat.le_of_ble_eq_true rfl⟩) ⟨pc_blind, va_recv hK hP (ci := 4) (q0 := 0) rfl rfl, fun U hU hW => ⟨rfl, hC4 U hU hW⟩⟩ rfl rfl hl.1 rfl (lv_room (Nat.le_of_ble_eq_true rfl)) dX4_isShownBySomeTest_28 ⟨(Nat.le_of_ble_eq_true rfl), (Nat.le_of_ble_eq_true rfl)⟩) hS (fun q9 _ h9 => hF1 q9 h9) hF1 (fun r6 u5 t5 H5 L5 ht5 hvm5 hw5 hB5 hz5 hk5 hS => ?_)
  obtain ⟨hP, hD, hK⟩ := pq_jn (wz := [(h3, ce270 kc0), (h0, ce271 h2 h3), (h1, ce291 (z.2.1 0) o0 h1), (h2, ce7 h4 h5 o1 h6), (h4, ce201 h7), (h5, ce201 h8), (h6, ce226 h9), (h7, ce200 kc1 h10 h11 h12 h13 h1), (h8, ce200 kc2 h10 h11 h12 h13 h1), (h9, ce200 kc3 h10 h11 h12 h13 h1), (h10, ce282 (z.2.1 0) o2 h10), (h11, ce283 (z.2.1 0) o3 h11), (h12, ce284 (z.2.1 0) o4 h12), (h13, ce285 (z.2.1 0) o5 h13)]) (tz := [(kc0, .int), (kc1, .object "java/lang/Object"), (kc2, .object "java/lang/Object"), (kc3, .object "java/lang/Object")]) hP hD hK [0, 1, 2, 4, 5, 6, 7, 8, 9, 10, 11, 12, 13] [0] rfl hk5 hF1 hB5.1 ht5 hvm5 rfl rfl
  have hG : s.heap.size + 0 ≤ H5.size := Nat.le_trans hG hz5
  refine W.eq (g2 := F0 m 31 ls [.int 0]) (by rw [hw5]) ?_
  refine lv_if_eq (tgt := 36) hx hb dX4_isShownBySomeTest_31 (by decide) (fun _ => ?_) (fun cz => absurd (by decide) cz)
  refine lv_iinc (v := 1) (lv' := [(3, .int 1), (0, .ref h0), (1, .ref h1), (2, .int 49)]) hx hb dX4_isShownBySomeTest_36 hl (k := 0) rfl (by decide) (by decide) rfl (fun ls hl => ?_)
  refine lv_goto (tgt := 2) hx hb dX4_isShownBySomeTest_39 (by decide) ?_
  refine lv_iload_n hx hb dX4_isShownBySomeTest_2 rfl (lv_at hl 0 rfl) ?_
  refine lv_aload_n hx hb dX4_isShownBySomeTest_3 rfl (lv_at hl 1 rfl) ?_
  refine va_get (D := (dC, dI)) (ci := 4) (v := .int 7) (C := RX4) (T := TX4) (N := 3) hx hb hts in_X4 hown hK hP 1 rfl rfl 2 (by decide) (hts _ q_358) (fun _ h9 => h9) rfl dX4_isShownBySomeTest_4 ?_
  refine lv_icmp_ge (tgt := 42) hx hb dX4_isShownBySomeTest_7 (by decide) (fun cz => absurd cz (by decide)) (fun _ => ?_)
  refine lv_iload_n hx hb dX4_isShownBySomeTest_10 rfl (lv_at hl 0 rfl) ?_
  refine lv_aload_n hx hb dX4_isShownBySomeTest_11 rfl (lv_at hl 1 rfl) ?_
  refine va_get (D := (dC, dI)) (ci := 4) (v := .ref h3) (C := RX4) (T := TX4) (N := 3) hx hb hts in_X4 hown hK hP 1 rfl rfl 1 (by decide) (hts _ q_49) (fun _ h9 => h9) rfl dX4_isShownBySomeTest_12 ?_
  refine va_alen hx hb hK hP 0 0 rfl rfl (v := 8) rfl dX4_isShownBySomeTest_15 ?_
  refine lv_icmp_ge (tgt := 42) hx hb dX4_isShownBySomeTest_16 (by decide) (fun cz => absurd cz (by decide)) (fun _ => ?_)
  refine lv_aload_n hx hb dX4_isShownBySomeTest_19 rfl (lv_at hl 1 rfl) ?_
  refine lv_aload_n hx hb dX4_isShownBySomeTest_20 rfl (lv_at hl 2 rfl) ?_
  refine lv_iload_n hx hb dX4_isShownBySomeTest_21 rfl (lv_at hl 3 rfl) ?_
  refine lv_aload_n hx hb dX4_isShownBySomeTest_22 rfl (lv_at hl 1 rfl) ?_
  refine va_get (D := (dC, dI)) (ci := 4) (v := .ref h3) (C := RX4) (T := TX4) (N := 3) hx hb hts in_X4 hown hK hP 1 rfl rfl 1 (by decide) (hts _ q_49) (fun _ h9 => h9) rfl dX4_isShownBySomeTest_23 ?_
  refine lv_iload_n hx hb dX4_isShownBySomeTest_26 rfl (lv_at hl 0 rfl) ?_
  refine va_iald hx hb hK hP 0 0 rfl rfl (i := 1) (by unfold vp_in; decide) dX4_isShownBySomeTest_27 ?_
  refine W.eq (g2 := F0 m 28 ls [.int 0, .int 49, .ref h1, .ref h0]) rfl ?_
  have hM9 := k615_isStuckShown l hl9 dC dI z h0 h1 h2 h4 h5 h6 h7 h8 h9 h10 h11 h12 h13 h3 o0 o1 o2 o3 o4 o5 H5.size kc1 kc2 kc3
  obtain ⟨hF7, hC10⟩ := pc_M hM9 hP hD hK hS hX hT hA [1, 2, 3, 4, 5, 6, 7, 8, 9, 10, 11, 12, 13] [1, 2, 3] rfl rfl rfl
  refine va_calli (va_runV (As := [.ref h1, .int 49, .int 0]) (rest := []) ⟨hx, hb, hml, hown, hts⟩ hM9 (cwV 3 hts (gV q_392 q_393 q_394 q_46 q_391) rfl rfl rfl hV_X4_isStuckShown ⟨Nat.le_of_ble_eq_true rfl, Nat.le_of_ble_eq_true rfl⟩) ⟨pc_blind, va_recv hK hP (ci := 4) (q0 := 1) rfl rfl, fun U hU hW => ⟨rfl, hC10 U hU hW⟩⟩ rfl rfl hl.1 rfl (lv_room (Nat.le_of_ble_eq_true rfl)) dX4_isShownBySomeTest_28 ⟨(Nat.le_of_ble_eq_true rfl), (Nat.le_of_ble_eq_true rfl)⟩) hS (fun q9 _ h9 => hF7 q9 h9) hF7 (fun r12 u11 t11 H11 L11 ht11 hvm11 hw11 hB11 hz11 hk11 hS => ?_)
  have hP := pq_keep hP hD [1, 2, 3, 4, 5, 6, 7, 8, 9, 10, 11, 12, 13] rfl hk11 hB11.1 ht11
  have hG : s.heap.size + 0 ≤ H11.size := Nat.le_trans hG hz11
  refine W.eq (g2 := F0 m 31 ls [.int 0]) (by rw [hw11]) ?_
  refine lv_if_eq (tgt := 36) hx hb dX4_isShownBySomeTest_31 (by decide) (fun _ => ?_) (fun cz => absurd (by decide) cz)
  refine lv_iinc (v := 2) (lv' := [(3, .int 2), (0, .ref h0), (1, .ref h1), (2, .int 49)]) hx hb dX4_isShownBySomeTest_36 hl (k := 0) rfl (by decide) (by decide) rfl (fun ls hl => ?_)
  refine lv_goto (tgt := 2) hx hb dX4_isShownBySomeTest_39 (by decide) ?_
  refine lv_iload_n hx hb dX4_isShownBySomeTest_2 rfl (lv_at hl 0 rfl) ?_
  refine lv_aload_n hx hb dX4_isShownBySomeTest_3 rfl (lv_at hl 1 rfl) ?_
  refine va_get (D := (dC, dI)) (ci := 4) (v := .int 7) (C := RX4) (T := TX4) (N := 3) hx hb hts in_X4 hown hK hP 1 rfl rfl 2 (by decide) (hts _ q_358) (fun _ h9 => h9) rfl dX4_isShownBySomeTest_4 ?_
  refine lv_icmp_ge (tgt := 42) hx hb dX4_isShownBySomeTest_7 (by decide) (fun cz => absurd cz (by decide)) (fun _ => ?_)
  refine lv_iload_n hx hb dX4_isShownBySomeTest_10 rfl (lv_at hl 0 rfl) ?_
  refine lv_aload_n hx hb dX4_isShownBySomeTest_11 rfl (lv_at hl 1 rfl) ?_
  refine va_get (D := (dC, dI)) (ci := 4) (v := .ref h3) (C := RX4) (T := TX4) (N := 3) hx hb hts in_X4 hown hK hP 1 rfl rfl 1 (by decide) (hts _ q_49) (fun _ h9 => h9) rfl dX4_isShownBySomeTest_12 ?_
  refine va_alen hx hb hK hP 0 0 rfl rfl (v := 8) rfl dX4_isShownBySomeTest_15 ?_
  refine lv_icmp_ge (tgt := 42) hx hb dX4_isShownBySomeTest_16 (by decide) (fun cz => absurd cz (by decide)) (fun _ => ?_)
  refine lv_aload_n hx hb dX4_isShownBySomeTest_19 rfl (lv_at hl 1 rfl) ?_
  refine lv_aload_n hx hb dX4_isShownBySomeTest_20 rfl (lv_at hl 2 rfl) ?_
  refine lv_iload_n hx hb dX4_isShownBySomeTest_21 rfl (lv_at hl 3 rfl) ?_
  refine lv_aload_n hx hb dX4_isShownBySomeTest_22 rfl (lv_at hl 1 rfl) ?_
  refine va_get (D := (dC, dI)) (ci := 4) (v := .ref h3) (C := RX4) (T := TX4) (N := 3) hx hb hts in_X4 hown hK hP 1 rfl rfl 1 (by decide) (hts _ q_49) (fun _ h9 => h9) rfl dX4_isShownBySomeTest_23 ?_
  refine lv_iload_n hx hb dX4_isShownBySomeTest_26 rfl (lv_at hl 0 rfl) ?_
  refine va_iald hx hb hK hP 0 0 rfl rfl (i := 2) (by unfold vp_in; decide) dX4_isShownBySomeTest_27 ?_
  refine W.eq (g2 := F0 m 28 ls [.int 0, .int 49, .ref h1, .ref h0]) rfl ?_
  have hM15 := k615_isStuckShown l hl9 dC dI z h0 h1 h2 h4 h5 h6 h7 h8 h9 h10 h11 h12 h13 h3 o0 o1 o2 o3 o4 o5 H11.size kc1 kc2 kc3
  obtain ⟨hF13, hC16⟩ := pc_M hM15 hP hD hK hS hX hT hA [1, 2, 3, 4, 5, 6, 7, 8, 9, 10, 11, 12, 13] [1, 2, 3] rfl rfl rfl
  refine va_calli (va_runV (As := [.ref h1, .int 49, .int 0]) (rest := []) ⟨hx, hb, hml, hown, hts⟩ hM15 (cwV 3 hts (gV q_392 q_393 q_394 q_46 q_391) rfl rfl rfl hV_X4_isStuckShown ⟨Nat.le_of_ble_eq_true rfl, Nat.le_of_ble_eq_true rfl⟩) ⟨pc_blind, va_recv hK hP (ci := 4) (q0 := 1) rfl rfl, fun U hU hW => ⟨rfl, hC16 U hU hW⟩⟩ rfl rfl hl.1 rfl (lv_room (Nat.le_of_ble_eq_true rfl)) dX4_isShownBySomeTest_28 ⟨(Nat.le_of_ble_eq_true rfl), (Nat.le_of_ble_eq_true rfl)⟩) hS (fun q9 _ h9 => hF13 q9 h9) hF13 (fun r18 u17 t17 H17 L17 ht17 hvm17 hw17 hB17 hz17 hk17 hS => ?_)
  have hP := pq_keep hP hD [1, 2, 3, 4, 5, 6, 7, 8, 9, 10, 11, 12, 13] rfl hk17 hB17.1 ht17
  have hG : s.heap.size + 0 ≤ H17.size := Nat.le_trans hG hz17
  refine W.eq (g2 := F0 m 31 ls [.int 0]) (by rw [hw17]) ?_
  refine lv_if_eq (tgt := 36) hx hb dX4_isShownBySomeTest_31 (by decide) (fun _ => ?_) (fun cz => absurd (by decide) cz)
  refine lv_iinc (v := 3) (lv' := [(3, .int 3), (0, .ref h0), (1, .ref h1), (2, .int 49)]) hx hb dX4_isShownBySomeTest_36 hl (k := 0) rfl (by decide) (by decide) rfl (fun ls hl => ?_)
  refine lv_goto (tgt := 2) hx hb dX4_isShownBySomeTest_39 (by decide) ?_
  refine lv_iload_n hx hb dX4_isShownBySomeTest_2 rfl (lv_at hl 0 rfl) ?_
  refine lv_aload_n hx hb dX4_isShownBySomeTest_3 rfl (lv_at hl 1 rfl) ?_
  refine va_get (D := (dC, dI)) (ci := 4) (v := .int 7) (C := RX4) (T := TX4) (N := 3) hx hb hts in_X4 hown hK hP 1 rfl rfl 2 (by decide) (hts _ q_358) (fun _ h9 => h9) rfl dX4_isShownBySomeTest_4 ?_
  refine lv_icmp_ge (tgt := 42) hx hb dX4_isShownBySomeTest_7 (by decide) (fun cz => absurd cz (by decide)) (fun _ => ?_)
  refine lv_iload_n hx hb dX4_isShownBySomeTest_10 rfl (lv_at hl 0 rfl) ?_
  refine lv_aload_n hx hb dX4_isShownBySomeTest_11 rfl (lv_at hl 1 rfl) ?_
  refine va_get (D := (dC, dI)) (ci := 4) (v := .ref h3) (C := RX4) (T := TX4) (N := 3) hx hb hts in_X4 hown hK hP 1 rfl rfl 1 (by decide) (hts _ q_49) (fun _ h9 => h9) rfl dX4_isShownBySomeTest_12 ?_
  refine va_alen hx hb hK hP 0 0 rfl rfl (v := 8) rfl dX4_isShownBySomeTest_15 ?_
  refine lv_icmp_ge (tgt := 42) hx hb dX4_isShownBySomeTest_16 (by decide) (fun cz => absurd cz (by decide)) (fun _ => ?_)
  refine lv_aload_n hx hb dX4_isShownBySomeTest_19 rfl (lv_at hl 1 rfl) ?_
  refine lv_aload_n hx hb dX4_isShownBySomeTest_20 rfl (lv_at hl 2 rfl) ?_
  refine lv_iload_n hx hb dX4_isShownBySomeTest_21 rfl (lv_at hl 3 rfl) ?_
  refine lv_aload_n hx hb dX4_isShownBySomeTest_22 rfl (lv_at hl 1 rfl) ?_
  refine va_get (D := (dC, dI)) (ci := 4) (v := .ref h3) (C := RX4) (T := TX4) (N := 3) hx hb hts in_X4 hown hK hP 1 rfl rfl 1 (by decide) (hts _ q_49) (fun _ h9 => h9) rfl dX4_isShownBySomeTest_23 ?_
  refine lv_iload_n hx hb dX4_isShownBySomeTest_26 rfl (lv_at hl 0 rfl) ?_
  refine va_iald hx hb hK hP 0 0 rfl rfl (i := 3) (by unfold vp_in; decide) dX4_isShownBySomeTest_27 ?_
  refine W.eq (g2 := F0 m 28 ls [.int 0, .int 49, .ref h1, .ref h0]) rfl ?_
  have hM21 := k615_isStuckShown l hl9 dC dI z h0 h1 h2 h4 h5 h6 h7 h8 h9 h10 h11 h12 h13 h3 o0 o1 o2 o3 o4 o5 H17.size kc1 kc2 kc3
  obtain ⟨hF19, hC22⟩ := pc_M hM21 hP hD hK hS hX hT hA [1, 2, 3, 4, 5, 6, 7, 8, 9, 10, 11, 12, 13] [1, 2, 3] rfl rfl rfl
  refine va_calli (va_runV (As := [.ref h1, .int 49, .int 0]) (rest := []) ⟨hx, hb, hml, hown, hts⟩ hM21 (cwV 3 hts (gV q_392 q_393 q_394 q_46 q_391) rfl rfl rfl hV_X4_isStuckShown ⟨Nat.le_of_ble_eq_true rfl, Nat.le_of_ble_eq_true rfl⟩) ⟨pc_blind, va_recv hK hP (ci := 4) (q0 := 1) rfl rfl, fun U hU hW => ⟨rfl, hC22 U hU hW⟩⟩ rfl rfl hl.1 rfl (lv_room (Nat.le_of_ble_eq_true rfl)) dX4_isShownBySomeTest_28 ⟨(Nat.le_of_ble_eq_true rfl), (Nat.le_of_ble_eq_true rfl)⟩) hS (fun q9 _ h9 => hF19 q9 h9) hF19 (fun r24 u23 t23 H23 L23 ht23 hvm23 hw23 hB23 hz23 hk23 hS => ?_)
  have hP := pq_keep hP hD [1, 2, 3, 4, 5, 6, 7, 8, 9, 10, 11, 12, 13] rfl hk23 hB23.1 ht23
  have hG : s.heap.size + 0 ≤ H23.size := Nat.le_trans hG hz23
  refine W.eq (g2 := F0 m 31 ls [.int 0]) (by rw [hw23]) ?_
  refine lv_if_eq (tgt := 36) hx hb dX4_isShownBySomeTest_31 (by decide) (fun _ => ?_) (fun cz => absurd (by decide) cz)
  refine lv_iinc (v := 4) (lv' := [(3, .int 4), (0, .ref h0), (1, .ref h1), (2, .int 49)]) hx hb dX4_isShownBySomeTest_36 hl (k := 0) rfl (by decide) (by decide) rfl (fun ls hl => ?_)
  refine lv_goto (tgt := 2) hx hb dX4_isShownBySomeTest_39 (by decide) ?_
  refine lv_iload_n hx hb dX4_isShownBySomeTest_2 rfl (lv_at hl 0 rfl) ?_
  refine lv_aload_n hx hb dX4_isShownBySomeTest_3 rfl (lv_at hl 1 rfl) ?_
  refine va_get (D := (dC, dI)) (ci := 4) (v := .int 7) (C := RX4) (T := TX4) (N := 3) hx hb hts in_X4 hown hK hP 1 rfl rfl 2 (by decide) (hts _ q_358) (fun _ h9 => h9) rfl dX4_isShownBySomeTest_4 ?_
  refine lv_icmp_ge (tgt := 42) hx hb dX4_isShownBySomeTest_7 (by decide) (fun cz => absurd cz (by decide)) (fun _ => ?_)
  refine lv_iload_n hx hb dX4_isShownBySomeTest_10 rfl (lv_at hl 0 rfl) ?_
  refine lv_aload_n hx hb dX4_isShownBySomeTest_11 rfl (lv_at hl 1 rfl) ?_
  refine va_get (D := (dC, dI)) (ci := 4) (v := .ref h3) (C := RX4) (T := TX4) (N := 3) hx hb hts in_X4 hown hK hP 1 rfl rfl 1 (by decide) (hts _ q_49) (fun _ h9 => h9) rfl dX4_isShownBySomeTest_12 ?_
  refine va_alen hx hb hK hP 0 0 rfl rfl (v := 8) rfl dX4_isShownBySomeTest_15 ?_
  refine lv_icmp_ge (tgt := 42) hx hb dX4_isShownBySomeTest_16 (by decide) (fun cz => absurd cz (by decide)) (fun _ => ?_)
  refine lv_aload_n hx hb dX4_isShownBySomeTest_19 rfl (lv_at hl 1 rfl) ?_
  refine lv_aload_n hx hb dX4_isShownBySomeTest_20 rfl (lv_at hl 2 rfl) ?_
  refine lv_iload_n hx hb dX4_isShownBySomeTest_21 rfl (lv_at hl 3 rfl) ?_
  refine lv_aload_n hx hb dX4_isShownBySomeTest_22 rfl (lv_at hl 1 rfl) ?_
  refine va_get (D := (dC, dI)) (ci := 4) (v := .ref h3) (C := RX4) (T := TX4) (N := 3) hx hb hts in_X4 hown hK hP 1 rfl rfl 1 (by decide) (hts _ q_49) (fun _ h9 => h9) rfl dX4_isShownBySomeTest_23 ?_
  refine lv_iload_n hx hb dX4_isShownBySomeTest_26 rfl (lv_at hl 0 rfl) ?_
  refine va_iald hx hb hK hP 0 0 rfl rfl (i := 4) (by unfold vp_in; decide) dX4_isShownBySomeTest_27 ?_
  refine W.eq (g2 := F0 m 28 ls [.int 0, .int 49, .ref h1, .ref h0]) rfl ?_
  have hM27 := k615_isStuckShown l hl9 dC dI z h0 h1 h2 h4 h5 h6 h7 h8 h9 h10 h11 h12 h13 h3 o0 o1 o2 o3 o4 o5 H23.size kc1 kc2 kc3
  obtain ⟨hF25, hC28⟩ := pc_M hM27 hP hD hK hS hX hT hA [1, 2, 3, 4, 5, 6, 7, 8, 9, 10, 11, 12, 13] [1, 2, 3] rfl rfl rfl
  refine va_calli (va_runV (As := [.ref h1, .int 49, .int 0]) (rest := []) ⟨hx, hb, hml, hown, hts⟩ hM27 (cwV 3 hts (gV q_392 q_393 q_394 q_46 q_391) rfl rfl rfl hV_X4_isStuckShown ⟨Nat.le_of_ble_eq_true rfl, Nat.le_of_ble_eq_true rfl⟩) ⟨pc_blind, va_recv hK hP (ci := 4) (q0 := 1) rfl rfl, fun U hU hW => ⟨rfl, hC28 U hU hW⟩⟩ rfl rfl hl.1 rfl (lv_room (Nat.le_of_ble_eq_true rfl)) dX4_isShownBySomeTest_28 ⟨(Nat.le_of_ble_eq_true rfl), (Nat.le_of_ble_eq_true rfl)⟩) hS (fun q9 _ h9 => hF25 q9 h9) hF25 (fun r30 u29 t29 H29 L29 ht29 hvm29 hw29 hB29 hz29 hk29 hS => ?_)
  have hP := pq_keep hP hD [1, 2, 3, 4, 5, 6, 7, 8, 9, 10, 11, 12, 13] rfl hk29 hB29.1 ht29
  have hG : s.heap.size + 0 ≤ H29.size := Nat.le_trans hG hz29
  refine W.eq (g2 := F0 m 31 ls [.int 0]) (by rw [hw29]) ?_
  refine lv_if_eq (tgt := 36) hx hb dX4_isShownBySomeTest_31 (by decide) (fun _ => ?_) (fun cz => absurd (by decide) cz)
  refine lv_iinc (v := 5) (lv' := [(3, .int 5), (0, .ref h0), (1, .ref h1), (2, .int 49)]) hx hb dX4_isShownBySomeTest_36 hl (k := 0) rfl (by decide) (by decide) rfl (fun ls hl => ?_)
  refine lv_goto (tgt := 2) hx hb dX4_isShownBySomeTest_39 (by decide) ?_
  refine lv_iload_n hx hb dX4_isShownBySomeTest_2 rfl (lv_at hl 0 rfl) ?_
  refine lv_aload_n hx hb dX4_isShownBySomeTest_3 rfl (lv_at hl 1 rfl) ?_
  refine va_get (D := (dC, dI)) (ci := 4) (v := .int 7) (C := RX4) (T := TX4) (N := 3) hx hb hts in_X4 hown hK hP 1 rfl rfl 2 (by decide) (hts _ q_358) (fun _ h9 => h9) rfl dX4_isShownBySomeTest_4 ?_
  refine lv_icmp_ge (tgt := 42) hx hb dX4_isShownBySomeTest_7 (by decide) (fun cz => absurd cz (by decide)) (fun _ => ?_)
  refine lv_iload_n hx hb dX4_isShownBySomeTest_10 rfl (lv_at hl 0 rfl) ?_
  refine lv_aload_n hx hb dX4_isShownBySomeTest_11 rfl (lv_at hl 1 rfl) ?_
  refine va_get (D := (dC, dI)) (ci := 4) (v := .ref h3) (C := RX4) (T := TX4) (N := 3) hx hb hts in_X4 hown hK hP 1 rfl rfl 1 (by decide) (hts _ q_49) (fun _ h9 => h9) rfl dX4_isShownBySomeTest_12 ?_
  refine va_alen hx hb hK hP 0 0 rfl rfl (v := 8) rfl dX4_isShownBySomeTest_15 ?_
  refine lv_icmp_ge (tgt := 42) hx hb dX4_isShownBySomeTest_16 (by decide) (fun cz => absurd cz (by decide)) (fun _ => ?_)
  refine lv_aload_n hx hb dX4_isShownBySomeTest_19 rfl (lv_at hl 1 rfl) ?_
  refine lv_aload_n hx hb dX4_isShownBySomeTest_20 rfl (lv_at hl 2 rfl) ?_
  refine lv_iload_n hx hb dX4_isShownBySomeTest_21 rfl (lv_at hl 3 rfl) ?_
  refine lv_aload_n hx hb dX4_isShownBySomeTest_22 rfl (lv_at hl 1 rfl) ?_
  refine va_get (D := (dC, dI)) (ci := 4) (v := .ref h3) (C := RX4) (T := TX4) (N := 3) hx hb hts in_X4 hown hK hP 1 rfl rfl 1 (by decide) (hts _ q_49) (fun _ h9 => h9) rfl dX4_isShownBySomeTest_23 ?_
  refine lv_iload_n hx hb dX4_isShownBySomeTest_26 rfl (lv_at hl 0 rfl) ?_
  refine va_iald hx hb hK hP 0 0 rfl rfl (i := 5) (by unfold vp_in; decide) dX4_isShownBySomeTest_27 ?_
  refine W.eq (g2 := F0 m 28 ls [.int 0, .int 49, .ref h1, .ref h0]) rfl ?_
  have hM33 := k615_isStuckShown l hl9 dC dI z h0 h1 h2 h4 h5 h6 h7 h8 h9 h10 h11 h12 h13 h3 o0 o1 o2 o3 o4 o5 H29.size kc1 kc2 kc3
  obtain ⟨hF31, hC34⟩ := pc_M hM33 hP hD hK hS hX hT hA [1, 2, 3, 4, 5, 6, 7, 8, 9, 10, 11, 12, 13] [1, 2, 3] rfl rfl rfl
  refine va_calli (va_runV (As := [.ref h1, .int 49, .int 0]) (rest := []) ⟨hx, hb, hml, hown, hts⟩ hM33 (cwV 3 hts (gV q_392 q_393 q_394 q_46 q_391) rfl rfl rfl hV_X4_isStuckShown ⟨Nat.le_of_ble_eq_true rfl, Nat.le_of_ble_eq_true rfl⟩) ⟨pc_blind, va_recv hK hP (ci := 4) (q0 := 1) rfl rfl, fun U hU hW => ⟨rfl, hC34 U hU hW⟩⟩ rfl rfl hl.1 rfl (lv_room (Nat.le_of_ble_eq_true rfl)) dX4_isShownBySomeTest_28 ⟨(Nat.le_of_ble_eq_true rfl), (Nat.le_of_ble_eq_true rfl)⟩) hS (fun q9 _ h9 => hF31 q9 h9) hF31 (fun r36 u35 t35 H35 L35 ht35 hvm35 hw35 hB35 hz35 hk35 hS => ?_)
  have hP := pq_keep hP hD [1, 2, 3, 4, 5, 6, 7, 8, 9, 10, 11, 12, 13] rfl hk35 hB35.1 ht35
  have hG : s.heap.size + 0 ≤ H35.size := Nat.le_trans hG hz35
  refine W.eq (g2 := F0 m 31 ls [.int 0]) (by rw [hw35]) ?_
  refine lv_if_eq (tgt := 36) hx hb dX4_isShownBySomeTest_31 (by decide) (fun _ => ?_) (fun cz => absurd (by decide) cz)
  refine lv_iinc (v := 6) (lv' := [(3, .int 6), (0, .ref h0), (1, .ref h1), (2, .int 49)]) hx hb dX4_isShownBySomeTest_36 hl (k := 0) rfl (by decide) (by decide) rfl (fun ls hl => ?_)
  refine lv_goto (tgt := 2) hx hb dX4_isShownBySomeTest_39 (by decide) ?_
  refine lv_iload_n hx hb dX4_isShownBySomeTest_2 rfl (lv_at hl 0 rfl) ?_
  refine lv_aload_n hx hb dX4_isShownBySomeTest_3 rfl (lv_at hl 1 rfl) ?_
  refine va_get (D := (dC, dI)) (ci := 4) (v := .int 7) (C := RX4) (T := TX4) (N := 3) hx hb hts in_X4 hown hK hP 1 rfl rfl 2 (by decide) (hts _ q_358) (fun _ h9 => h9) rfl dX4_isShownBySomeTest_4 ?_
  refine lv_icmp_ge (tgt := 42) hx hb dX4_isShownBySomeTest_7 (by decide) (fun cz => absurd cz (by decide)) (fun _ => ?_)
  refine lv_iload_n hx hb dX4_isShownBySomeTest_10 rfl (lv_at hl 0 rfl) ?_
  refine lv_aload_n hx hb dX4_isShownBySomeTest_11 rfl (lv_at hl 1 rfl) ?_
  refine va_get (D := (dC, dI)) (ci := 4) (v := .ref h3) (C := RX4) (T := TX4) (N := 3) hx hb hts in_X4 hown hK hP 1 rfl rfl 1 (by decide) (hts _ q_49) (fun _ h9 => h9) rfl dX4_isShownBySomeTest_12 ?_
  refine va_alen hx hb hK hP 0 0 rfl rfl (v := 8) rfl dX4_isShownBySomeTest_15 ?_
  refine lv_icmp_ge (tgt := 42) hx hb dX4_isShownBySomeTest_16 (by decide) (fun cz => absurd cz (by decide)) (fun _ => ?_)
  refine lv_aload_n hx hb dX4_isShownBySomeTest_19 rfl (lv_at hl 1 rfl) ?_
  refine lv_aload_n hx hb dX4_isShownBySomeTest_20 rfl (lv_at hl 2 rfl) ?_
  refine lv_iload_n hx hb dX4_isShownBySomeTest_21 rfl (lv_at hl 3 rfl) ?_
  refine lv_aload_n hx hb dX4_isShownBySomeTest_22 rfl (lv_at hl 1 rfl) ?_
  refine va_get (D := (dC, dI)) (ci := 4) (v := .ref h3) (C := RX4) (T := TX4) (N := 3) hx hb hts in_X4 hown hK hP 1 rfl rfl 1 (by decide) (hts _ q_49) (fun _ h9 => h9) rfl dX4_isShownBySomeTest_23 ?_
  refine lv_iload_n hx hb dX4_isShownBySomeTest_26 rfl (lv_at hl 0 rfl) ?_
  refine va_iald hx hb hK hP 0 0 rfl rfl (i := 6) (by unfold vp_in; decide) dX4_isShownBySomeTest_27 ?_
  refine W.eq (g2 := F0 m 28 ls [.int 0, .int 49, .ref h1, .ref h0]) rfl ?_
  have hM39 := k615_isStuckShown l hl9 dC dI z h0 h1 h2 h4 h5 h6 h7 h8 h9 h10 h11 h12 h13 h3 o0 o1 o2 o3 o4 o5 H35.size kc1 kc2 kc3
  obtain ⟨hF37, hC40⟩ := pc_M hM39 hP hD hK hS hX hT hA [1, 2, 3, 4, 5, 6, 7, 8, 9, 10, 11, 12, 13] [1, 2, 3] rfl rfl rfl
  refine va_calli (va_runV (As := [.ref h1, .int 49, .int 0]) (rest := []) ⟨hx, hb, hml, hown, hts⟩ hM39 (cwV 3 hts (gV q_392 q_393 q_394 q_46 q_391) rfl rfl rfl hV_X4_isStuckShown ⟨Nat.le_of_ble_eq_true rfl, Nat.le_of_ble_eq_true rfl⟩) ⟨pc_blind, va_recv hK hP (ci := 4) (q0 := 1) rfl rfl, fun U hU hW => ⟨rfl, hC40 U hU hW⟩⟩ rfl rfl hl.1 rfl (lv_room (Nat.le_of_ble_eq_true rfl)) dX4_isShownBySomeTest_28 ⟨(Nat.le_of_ble_eq_true rfl), (Nat.le_of_ble_eq_true rfl)⟩) hS (fun q9 _ h9 => hF37 q9 h9) hF37 (fun r42 u41 t41 H41 L41 ht41 hvm41 hw41 hB41 hz41 hk41 hS => ?_)
  have hP := pq_keep hP hD [1, 2, 3, 4, 5, 6, 7, 8, 9, 10, 11, 12, 13] rfl hk41 hB41.1 ht41
  have hG : s.heap.size + 0 ≤ H41.size := Nat.le_trans hG hz41
  refine W.eq (g2 := F0 m 31 ls [.int 0]) (by rw [hw41]) ?_
  refine lv_if_eq (tgt := 36) hx hb dX4_isShownBySomeTest_31 (by decide) (fun _ => ?_) (fun cz => absurd (by decide) cz)
  refine lv_iinc (v := 7) (lv' := [(3, .int 7), (0, .ref h0), (1, .ref h1), (2, .int 49)]) hx hb dX4_isShownBySomeTest_36 hl (k := 0) rfl (by decide) (by decide) rfl (fun ls hl => ?_)
  refine lv_goto (tgt := 2) hx hb dX4_isShownBySomeTest_39 (by decide) ?_
  refine lv_iload_n hx hb dX4_isShownBySomeTest_2 rfl (lv_at hl 0 rfl) ?_
  refine lv_aload_n hx hb dX4_isShownBySomeTest_3 rfl (lv_at hl 1 rfl) ?_
  refine va_get (D := (dC, dI)) (ci := 4) (v := .int 7) (C := RX4) (T := TX4) (N := 3) hx hb hts in_X4 hown hK hP 1 rfl rfl 2 (by decide) (hts _ q_358) (fun _ h9 => h9) rfl dX4_isShownBySomeTest_4 ?_
  refine lv_icmp_ge (tgt := 42) hx hb dX4_isShownBySomeTest_7 (by decide) (fun _ => ?_) (fun cz => absurd (by decide) cz)
  refine lv_iconst (v := 0) hx hb dX4_isShownBySomeTest_42 (by decide) ?_
  exact W.zret (v := 0) (ty := .boolean) hx hb hr rfl (fun t9 ht9 hW9 => ⟨⟨0, (), rfl, rfl, ⟨pq_mk2 hP hD hK [1, 2, 3, 0, 4, 5, 6, 7, 8, 9, 10, 11, 12, 13] [0, 1, 2, 3] rfl rfl rfl ht9 hW9, by rw [ht9]; exact Nat.le_trans (Nat.add_le_add_left (Nat.le_of_ble_eq_true rfl) _) hG⟩⟩, hS.F ht9⟩) hS.2.2 dX4_isShownBySomeTest_43

set_option maxHeartbeats 4000000 in
set_option maxRecDepth 100000 in
theorem k617_shown (l : Launch) (hl9 : l.stackTraces = false) (dC : Nat → ClassId) (dI : Nat → Nat → Nat) (z : XZ) (h0 h1 h2 h3 h4 h5 h6 h7 h8 h9 h10 h11 h12 h13 h14 : Nat) (o0 o1 o2 o3 o4 o5 o6 : Nat) (sz : Nat) (kc0 kc1 kc2 kc3 : ClassId) : Met l yX6_shown (.code yX6_shown cX6_shown 4 (some .int) :: wsL_law) ({ frames := 7, cells := 0, slots := 0, locals := 160 }) (va_Pc [.ref h0] (PC (dC, dI) [(h0, ce16 h1 o0 h2), (h1, ce7 h3 h4 o1 h5), (h2, ce271 h1 h6), (h3, ce201 h7), (h4, ce201 h8), (h5, ce226 h9), (h6, ce270 kc0), (h7, ce200 kc1 h10 h11 h12 h13 h14), (h8, ce200 kc2 h10 h11 h12 h13 h14), (h9, ce200 kc3 h10 h11 h12 h13 h14), (h10, ce38 (z.2.1 0) o2 h10), (h11, ce77 (z.2.1 0) o3 h11), (h12, ce115 (z.2.1 0) o4 h12), (h13, ce165 (z.2.1 0) o5 h13), (h14, ce224 (z.2.1 0) o6 h14)] [(kc0, .int), (kc1, .object "java/lang/Object"), (kc2, .object "java/lang/Object"), (kc3, .object "java/lang/Object")] sz z)) (va_Qi (fun (r : Int32) (_ : Unit) => r = 0) (fun (_ : Unit) (t : State) => PG (dC, dI) [(h0, ce16 h1 o0 h2), (h1, ce7 h3 h4 o1 h5), (h2, ce271 h1 h6), (h3, ce201 h7), (h4, ce201 h8), (h5, ce226 h9), (h6, ce270 kc0), (h7, ce200 kc1 h10 h11 h12 h13 h14), (h8, ce200 kc2 h10 h11 h12 h13 h14), (h9, ce200 kc3 h10 h11 h12 h13 h14), (h10, ce282 (z.2.1 0) o2 h10), (h11, ce283 (z.2.1 0) o3 h11), (h12, ce284 (z.2.1 0) o4 h12), (h13, ce285 (z.2.1 0) o5 h13), (h14, ce291 (z.2.1 0) o6 h14)] [(kc0, .int), (kc1, .object "java/lang/Object"), (kc2, .object "java/lang/Object"), (kc3, .object "java/lang/Object")] (va_A [(h0, ce16 h1 o0 h2), (h1, ce7 h3 h4 o1 h5), (h2, ce271 h1 h6), (h3, ce201 h7), (h4, ce201 h8), (h5, ce226 h9), (h6, ce270 kc0), (h7, ce200 kc1 h10 h11 h12 h13 h14), (h8, ce200 kc2 h10 h11 h12 h13 h14), (h9, ce200 kc3 h10 h11 h12 h13 h14), (h10, ce38 (z.2.1 0) o2 h10), (h11, ce77 (z.2.1 0) o3 h11), (h12, ce115 (z.2.1 0) o4 h12), (h13, ce165 (z.2.1 0) o5 h13), (h14, ce224 (z.2.1 0) o6 h14)] sz) sz 0 t) (va_A [(h0, ce16 h1 o0 h2), (h1, ce7 h3 h4 o1 h5), (h2, ce271 h1 h6), (h3, ce201 h7), (h4, ce201 h8), (h5, ce226 h9), (h6, ce270 kc0), (h7, ce200 kc1 h10 h11 h12 h13 h14), (h8, ce200 kc2 h10 h11 h12 h13 h14), (h9, ce200 kc3 h10 h11 h12 h13 h14), (h10, ce38 (z.2.1 0) o2 h10), (h11, ce77 (z.2.1 0) o3 h11), (h12, ce115 (z.2.1 0) o4 h12), (h13, ce165 (z.2.1 0) o5 h13), (h14, ce224 (z.2.1 0) o6 h14)] sz)) 0 0 (va_A [(h0, ce16 h1 o0 h2), (h1, ce7 h3 h4 o1 h5), (h2, ce271 h1 h6), (h3, ce201 h7), (h4, ce201 h8), (h5, ce226 h9), (h6, ce270 kc0), (h7, ce200 kc1 h10 h11 h12 h13 h14), (h8, ce200 kc2 h10 h11 h12 h13 h14), (h9, ce200 kc3 h10 h11 h12 h13 h14), (h10, ce38 (z.2.1 0) o2 h10), (h11, ce77 (z.2.1 0) o3 h11), (h12, ce115 (z.2.1 0) o4 h12), (h13, ce165 (z.2.1 0) o5 h13), (h14, ce224 (z.2.1 0) o6 h14)] sz) := by
  refine Met.ofW (cc := cX6_shown) (maxL := 4) (ret := (some .int)) (by decide) rfl ?_
  intro p e s m args below meth c s₁ B hml hv
  obtain ⟨rfl, hsz, hP, hK, hD0, hX, hT⟩ := hv
  have hx := B.exec
  have hb := B.bytes
  have hr := B.returns
  have hts0 := atoms_spec (ws := .code yX6_shown cX6_shown 4 (some .int) :: wsL_law) B.pre
  have hts := xTail hts0
  have hown : s.vm.findClass RX6 = some m.cls := findClass_of_methodNamed B.named
  have hlocks := B.notSynchronized
  subst hsz
  have hD := hD0.self (sz := s.heap.size)
  generalize hAe : va_A [(h0, ce16 h1 o0 h2), (h1, ce7 h3 h4 o1 h5), (h2, ce271 h1 h6), (h3, ce201 h7), (h4, ce201 h8), (h5, ce226 h9), (h6, ce270 kc0), (h7, ce200 kc1 h10 h11 h12 h13 h14), (h8, ce200 kc2 h10 h11 h12 h13 h14), (h9, ce200 kc3 h10 h11 h12 h13 h14), (h10, ce38 (z.2.1 0) o2 h10), (h11, ce77 (z.2.1 0) o3 h11), (h12, ce115 (z.2.1 0) o4 h12), (h13, ce165 (z.2.1 0) o5 h13), (h14, ce224 (z.2.1 0) o6 h14)] s.heap.size = A at hD hX ⊢
  have hA : ∀ q : Nat, s.heap.size ≤ q → A q := fun q h => by rw [← hAe]; exact Or.inr h
  have hS : va_S A s.heap s.heap [] := va_S.rf
  have hG : s.heap.size + 0 ≤ s.heap.size := Nat.le_refl _
  have hl := lv_entry ([.ref h0]) (n := 4) (Nat.le_of_ble_eq_true rfl)
  rw [lg_entry_eq]
  generalize (lg_sl ([.ref h0]) ++ List.replicate (4 - (lg_sl ([.ref h0])).length) Slot.unset).toArray = ls at hl ⊢
  have hl : lv_has ls 4 [(0, .ref h0)] := hl
  refine lv_iconst (v := 0) hx hb dX6_shown_0 (by decide) ?_
  refine lv_istore_n (lv' := [(1, .int 0), (0, .ref h0)]) hx hb dX6_shown_1 rfl hl (by decide) rfl (fun ls hl => ?_)
  refine lv_iconst (v := 0) hx hb dX6_shown_2 (by decide) ?_
  refine lv_istore_n (lv' := [(2, .int 0), (1, .int 0), (0, .ref h0)]) hx hb dX6_shown_3 rfl hl (by decide) rfl (fun ls hl => ?_)
  refine lv_iload_n hx hb dX6_shown_4 rfl (lv_at hl 0 rfl) ?_
  refine lv_aload_n hx hb dX6_shown_5 rfl (lv_at hl 2 rfl) ?_
  refine va_get (D := (dC, dI)) (ci := 6) (v := .ref h1) (C := RX6) (T := TX6) (N := 3) hx hb hts in_X6 hown hK hP 0 rfl rfl 0 (by decide) (hts _ q_34) (fun _ h9 => h9) rfl dX6_shown_6 ?_
  refine va_get (D := (dC, dI)) (ci := 2) (v := .ref h3) (C := RX0) (T := TX0) (N := 4) hx hb hts in_X0 hown hK hP 1 rfl rfl 0 (by decide) (hts _ q_83) (fun _ h9 => h9) rfl dX6_shown_9 ?_
  have hM3 := k20_size l hl9 dC dI z h3 h7 s.heap.size 5 5
  obtain ⟨hF1, hC4⟩ := pc_M hM3 hP hD hK hS hX hT hA [3] [] rfl rfl rfl
  refine va_calli (va_runV (As := []) (rest := [.int 0]) ⟨hx, hb, hml, hown, hts⟩ hM3 (cwV 0 hts (gV q_76 q_77 q_78 q_12 q_75) rfl rfl rfl hV_Jx4a65c_size_8abf5 ⟨Nat.le_of_ble_eq_true rfl, Nat.le_of_ble_eq_true rfl⟩) ⟨pc_blind, va_recv hK hP (ci := 0) (q0 := 3) rfl rfl, fun U hU hW => ⟨rfl, hC4 U hU hW⟩⟩ rfl rfl hl.1 rfl (lv_room (Nat.le_of_ble_eq_true rfl)) dX6_shown_12 ⟨(Nat.le_of_ble_eq_true rfl), (Nat.le_of_ble_eq_true rfl)⟩) hS (fun q9 _ h9 => hF1 q9 h9) hF1 (fun r6 u5 t5 H5 L5 ht5 hvm5 hw5 hB5 hz5 hk5 hS => ?_)
  have hP := pq_keep hP hD [3] rfl hk5 hB5.1 ht5
  have hG : s.heap.size + 0 ≤ H5.size := Nat.le_trans hG hz5
  refine W.eq (g2 := F0 m 15 ls [.int 5, .int 0]) (by rw [hw5]) ?_
  refine lv_icmp_ge (tgt := 81) hx hb dX6_shown_15 (by decide) (fun cz => absurd cz (by decide)) (fun _ => ?_)
  refine lv_aload_n hx hb dX6_shown_18 rfl (lv_at hl 2 rfl) ?_
  refine va_get (D := (dC, dI)) (ci := 6) (v := .ref h1) (C := RX6) (T := TX6) (N := 3) hx hb hts in_X6 hown hK hP 0 rfl rfl 0 (by decide) (hts _ q_34) (fun _ h9 => h9) rfl dX6_shown_19 ?_
  refine va_get (D := (dC, dI)) (ci := 2) (v := .ref h3) (C := RX0) (T := TX0) (N := 4) hx hb hts in_X0 hown hK hP 1 rfl rfl 0 (by decide) (hts _ q_83) (fun _ h9 => h9) rfl dX6_shown_22 ?_
  refine lv_iload_n hx hb dX6_shown_25 rfl (lv_at hl 0 rfl) ?_
  have hM9 := k368_get l hl9 dC dI z h3 h7 h10 h11 h12 h13 h14 H5.size kc1
  obtain ⟨hF7, hC10⟩ := pc_M hM9 hP hD hK hS hX hT hA [3, 7] [1] rfl rfl rfl
  refine va_callr (va_runV (As := [.int 0]) (rest := []) ⟨hx, hb, hml, hown, hts⟩ hM9 (cwV 1 hts (gV q_381 q_157 q_158 q_12 q_155) rfl rfl rfl hV_Jx4a65c_get_915e3 ⟨Nat.le_of_ble_eq_true rfl, Nat.le_of_ble_eq_true rfl⟩) ⟨pc_blind, va_recv hK hP (ci := 0) (q0 := 3) rfl rfl, fun U hU hW => ⟨rfl, hC10 U hU hW⟩⟩ rfl rfl hl.1 rfl (lv_room (Nat.le_of_ble_eq_true rfl)) dX6_shown_26 ⟨(Nat.le_of_ble_eq_true rfl), (Nat.le_of_ble_eq_true rfl)⟩) hS (fun q9 _ h9 => hF7 q9 h9) hF7 (fun u11 r12 t11 H11 L11 ht11 hvm11 hw11 hB11 hz11 hk11 hS => ?_)
  obtain ⟨hr11, hB11⟩ := hB11
  have hP := pq_keep hP hD [3, 7] rfl hk11 hB11.1 ht11
  have hG : s.heap.size + 0 ≤ H11.size := Nat.le_trans hG hz11
  refine W.eq (g2 := F0 m 29 ls [.ref h10]) (by rw [hr11]) ?_
  refine va_castE (nm := RX2) hx hb hown (hts _ q_382) (va_recv hK hP (ci := 3) (q0 := 10) rfl rfl) dX6_shown_29 ?_
  refine lv_astore_n (lv' := [(3, .ref h10), (2, .int 0), (1, .int 0), (0, .ref h0)]) hx hb dX6_shown_32 rfl hl (by decide) rfl (fun ls hl => ?_)
  refine lv_iload_n hx hb dX6_shown_33 rfl (lv_at hl 2 rfl) ?_
  refine lv_aload_n hx hb dX6_shown_34 rfl (lv_at hl 3 rfl) ?_
  refine va_get (D := (dC, dI)) (ci := 6) (v := .ref h2) (C := RX6) (T := TX6) (N := 3) hx hb hts in_X6 hown hK hP 0 rfl rfl 2 (by decide) (hts _ q_54) (fun _ h9 => h9) rfl dX6_shown_35 ?_
  refine lv_aload_n hx hb dX6_shown_38 rfl (lv_at hl 0 rfl) ?_
  refine lv_bipush (v := 48) hx hb dX6_shown_39 (by decide) ?_
  have hM15 := k550_isShownBySomeTest l hl9 dC dI z h2 h10 h1 h6 h4 h5 h8 h9 h11 h12 h13 h14 o2 h3 o1 o3 o4 o5 o6 H11.size kc0 kc2 kc3
  obtain ⟨hF13, hC16⟩ := pc_M hM15 hP hD hK hS hX hT hA [2, 10, 1, 6, 4, 5, 8, 9, 11, 12, 13, 14] [0, 2, 3] rfl rfl rfl
  refine va_calli (va_runV (As := [.ref h10, .int 48]) (rest := [.int 0]) ⟨hx, hb, hml, hown, hts⟩ hM15 (cwV 2 hts (gV q_396 q_397 q_398 q_46 q_395) rfl rfl rfl hV_X4_isShownBySomeTest ⟨Nat.le_of_ble_eq_true rfl, Nat.le_of_ble_eq_true rfl⟩) ⟨pc_blind, va_recv hK hP (ci := 4) (q0 := 2) rfl rfl, fun U hU hW => ⟨rfl, hC16 U hU hW⟩⟩ rfl rfl hl.1 rfl (lv_room (Nat.le_of_ble_eq_true rfl)) dX6_shown_41 ⟨(Nat.le_of_ble_eq_true rfl), (Nat.le_of_ble_eq_true rfl)⟩) hS (fun q9 _ h9 => hF13 q9 h9) hF13 (fun r18 u17 t17 H17 L17 ht17 hvm17 hw17 hB17 hz17 hk17 hS => ?_)
  obtain ⟨hP, hD, hK⟩ := pq_jn (wz := [(h0, ce16 h1 o0 h2), (h3, ce201 h7), (h7, ce200 kc1 h10 h11 h12 h13 h14), (h2, ce271 h1 h6), (h10, ce277 (z.2.1 0) o2 h10), (h1, ce7 h3 h4 o1 h5), (h6, ce270 kc0), (h4, ce201 h8), (h5, ce226 h9), (h8, ce200 kc2 h10 h11 h12 h13 h14), (h9, ce200 kc3 h10 h11 h12 h13 h14), (h11, ce278 (z.2.1 0) o3 h11), (h12, ce279 (z.2.1 0) o4 h12), (h13, ce280 (z.2.1 0) o5 h13), (h14, ce281 (z.2.1 0) o6 h14)]) (tz := [(kc1, .object "java/lang/Object"), (kc0, .int), (kc2, .object "java/lang/Object"), (kc3, .object "java/lang/Object")]) hP hD hK [2, 10, 1, 6, 4, 5, 8, 9, 11, 12, 13, 14] [1] rfl hk17 hF13 hB17.1 ht17 hvm17 rfl rfl
  have hG : s.heap.size + 0 ≤ H17.size := Nat.le_trans hG hz17
  refine W.eq (g2 := F0 m 44 ls [.int 0, .int 0]) (by rw [hw17]) ?_
  refine lv_if_eq (tgt := 51) hx hb dX6_shown_44 (by decide) (fun _ => ?_) (fun cz => absurd (by decide) cz)
  refine lv_iconst (v := 0) hx hb dX6_shown_51 (by decide) ?_
  refine lv_iadd hx hb dX6_shown_52 ?_
  refine lv_topi (fun y19 ey19 => ?_)
  obtain rfl : y19 = 0 := ey19.trans (by decide)
  refine lv_istore_n (lv' := [(1, .int 0), (3, .ref h10), (2, .int 0), (0, .ref h0)]) hx hb dX6_shown_53 rfl hl (by decide) rfl (fun ls hl => ?_)
  refine lv_iload_n hx hb dX6_shown_54 rfl (lv_at hl 0 rfl) ?_
  refine lv_aload_n hx hb dX6_shown_55 rfl (lv_at hl 3 rfl) ?_
  refine va_get (D := (dC, dI)) (ci := 6) (v := .ref h2) (C := RX6) (T := TX6) (N := 3) hx hb hts in_X6 hown hK hP 0 rfl rfl 2 (by decide) (hts _ q_54) (fun _ h9 => h9) rfl dX6_shown_56 ?_
  refine lv_aload_n hx hb dX6_shown_59 rfl (lv_at hl 1 rfl) ?_
  refine lv_bipush (v := 49) hx hb dX6_shown_60 (by decide) ?_
  have hM22 := k570_isShownBySomeTest l hl9 dC dI z h2 h10 h1 h6 h3 h4 h5 h7 h8 h9 h11 h12 h13 h14 o2 o1 o3 o4 o5 o6 H17.size kc0 kc1 kc2 kc3
  obtain ⟨hF20, hC23⟩ := pc_M hM22 hP hD hK hS hX hT hA [3, 4, 5, 6, 1, 7, 8, 2, 9, 10, 11, 12, 13, 14] [1, 0, 2, 3] rfl rfl rfl
  refine va_calli (va_runV (As := [.ref h10, .int 49]) (rest := [.int 0]) ⟨hx, hb, hml, hown, hts⟩ hM22 (cwV 2 hts (gV q_396 q_397 q_398 q_46 q_395) rfl rfl rfl hV_X4_isShownBySomeTest ⟨Nat.le_of_ble_eq_true rfl, Nat.le_of_ble_eq_true rfl⟩) ⟨pc_blind, va_recv hK hP (ci := 4) (q0 := 3) rfl rfl, fun U hU hW => ⟨rfl, hC23 U hU hW⟩⟩ rfl rfl hl.1 rfl (lv_room (Nat.le_of_ble_eq_true rfl)) dX6_shown_62 ⟨(Nat.le_of_ble_eq_true rfl), (Nat.le_of_ble_eq_true rfl)⟩) hS (fun q9 _ h9 => hF20 q9 h9) hF20 (fun r25 u24 t24 H24 L24 ht24 hvm24 hw24 hB24 hz24 hk24 hS => ?_)
  obtain ⟨hP, hD, hK⟩ := pq_jn (wz := [(h0, ce16 h1 o0 h2), (h2, ce271 h1 h6), (h10, ce287 (z.2.1 0) o2 h10), (h1, ce7 h3 h4 o1 h5), (h6, ce270 kc0), (h3, ce201 h7), (h4, ce201 h8), (h5, ce226 h9), (h7, ce200 kc1 h10 h11 h12 h13 h14), (h8, ce200 kc2 h10 h11 h12 h13 h14), (h9, ce200 kc3 h10 h11 h12 h13 h14), (h11, ce283 (z.2.1 0) o3 h11), (h12, ce284 (z.2.1 0) o4 h12), (h13, ce285 (z.2.1 0) o5 h13), (h14, ce286 (z.2.1 0) o6 h14)]) (tz := [(kc0, .int), (kc1, .object "java/lang/Object"), (kc2, .object "java/lang/Object"), (kc3, .object "java/lang/Object")]) hP hD hK [3, 4, 5, 6, 1, 7, 8, 2, 9, 10, 11, 12, 13, 14] [] rfl hk24 hF20 hB24.1 ht24 hvm24 rfl rfl
  have hG : s.heap.size + 0 ≤ H24.size := Nat.le_trans hG hz24
  refine W.eq (g2 := F0 m 65 ls [.int 0, .int 0]) (by rw [hw24]) ?_
  refine lv_if_eq (tgt := 72) hx hb dX6_shown_65 (by decide) (fun _ => ?_) (fun cz => absurd (by decide) cz)
  refine lv_iconst (v := 0) hx hb dX6_shown_72 (by decide) ?_
  refine lv_iadd hx hb dX6_shown_73 ?_
  refine lv_topi (fun y26 ey26 => ?_)
  obtain rfl : y26 = 0 := ey26.trans (by decide)
  refine lv_istore_n (lv' := [(1, .int 0), (3, .ref h10), (2, .int 0), (0, .ref h0)]) hx hb dX6_shown_74 rfl hl (by decide) rfl (fun ls hl => ?_)
  refine lv_iinc (v := 1) (lv' := [(2, .int 1), (1, .int 0), (3, .ref h10), (0, .ref h0)]) hx hb dX6_shown_75 hl (k := 2) rfl (by decide) (by decide) rfl (fun ls hl => ?_)
  refine lv_goto (tgt := 4) hx hb dX6_shown_78 (by decide) ?_
  refine lv_iload_n hx hb dX6_shown_4 rfl (lv_at hl 0 rfl) ?_
  refine lv_aload_n hx hb dX6_shown_5 rfl (lv_at hl 3 rfl) ?_
  refine va_get (D := (dC, dI)) (ci := 6) (v := .ref h1) (C := RX6) (T := TX6) (N := 3) hx hb hts in_X6 hown hK hP 0 rfl rfl 0 (by decide) (hts _ q_34) (fun _ h9 => h9) rfl dX6_shown_6 ?_
  refine va_get (D := (dC, dI)) (ci := 2) (v := .ref h3) (C := RX0) (T := TX0) (N := 4) hx hb hts in_X0 hown hK hP 3 rfl rfl 0 (by decide) (hts _ q_83) (fun _ h9 => h9) rfl dX6_shown_9 ?_
  have hM29 := k20_size l hl9 dC dI z h3 h7 H24.size 5 5
  obtain ⟨hF27, hC30⟩ := pc_M hM29 hP hD hK hS hX hT hA [5] [] rfl rfl rfl
  refine va_calli (va_runV (As := []) (rest := [.int 1]) ⟨hx, hb, hml, hown, hts⟩ hM29 (cwV 0 hts (gV q_76 q_77 q_78 q_12 q_75) rfl rfl rfl hV_Jx4a65c_size_8abf5 ⟨Nat.le_of_ble_eq_true rfl, Nat.le_of_ble_eq_true rfl⟩) ⟨pc_blind, va_recv hK hP (ci := 0) (q0 := 5) rfl rfl, fun U hU hW => ⟨rfl, hC30 U hU hW⟩⟩ rfl rfl hl.1 rfl (lv_room (Nat.le_of_ble_eq_true rfl)) dX6_shown_12 ⟨(Nat.le_of_ble_eq_true rfl), (Nat.le_of_ble_eq_true rfl)⟩) hS (fun q9 _ h9 => hF27 q9 h9) hF27 (fun r32 u31 t31 H31 L31 ht31 hvm31 hw31 hB31 hz31 hk31 hS => ?_)
  have hP := pq_keep hP hD [5] rfl hk31 hB31.1 ht31
  have hG : s.heap.size + 0 ≤ H31.size := Nat.le_trans hG hz31
  refine W.eq (g2 := F0 m 15 ls [.int 5, .int 1]) (by rw [hw31]) ?_
  refine lv_icmp_ge (tgt := 81) hx hb dX6_shown_15 (by decide) (fun cz => absurd cz (by decide)) (fun _ => ?_)
  refine lv_aload_n hx hb dX6_shown_18 rfl (lv_at hl 3 rfl) ?_
  refine va_get (D := (dC, dI)) (ci := 6) (v := .ref h1) (C := RX6) (T := TX6) (N := 3) hx hb hts in_X6 hown hK hP 0 rfl rfl 0 (by decide) (hts _ q_34) (fun _ h9 => h9) rfl dX6_shown_19 ?_
  refine va_get (D := (dC, dI)) (ci := 2) (v := .ref h3) (C := RX0) (T := TX0) (N := 4) hx hb hts in_X0 hown hK hP 3 rfl rfl 0 (by decide) (hts _ q_83) (fun _ h9 => h9) rfl dX6_shown_22 ?_
  refine lv_iload_n hx hb dX6_shown_25 rfl (lv_at hl 0 rfl) ?_
  have hM35 := k372_get l hl9 dC dI z h3 h7 h10 h11 h12 h13 h14 H31.size kc1
  obtain ⟨hF33, hC36⟩ := pc_M hM35 hP hD hK hS hX hT hA [5, 8] [1] rfl rfl rfl
  refine va_callr (va_runV (As := [.int 1]) (rest := []) ⟨hx, hb, hml, hown, hts⟩ hM35 (cwV 1 hts (gV q_381 q_157 q_158 q_12 q_155) rfl rfl rfl hV_Jx4a65c_get_915e3 ⟨Nat.le_of_ble_eq_true rfl, Nat.le_of_ble_eq_true rfl⟩) ⟨pc_blind, va_recv hK hP (ci := 0) (q0 := 5) rfl rfl, fun U hU hW => ⟨rfl, hC36 U hU hW⟩⟩ rfl rfl hl.1 rfl (lv_room (Nat.le_of_ble_eq_true rfl)) dX6_shown_26 ⟨(Nat.le_of_ble_eq_true rfl), (Nat.le_of_ble_eq_true rfl)⟩) hS (fun q9 _ h9 => hF33 q9 h9) hF33 (fun u37 r38 t37 H37 L37 ht37 hvm37 hw37 hB37 hz37 hk37 hS => ?_)
  obtain ⟨hr37, hB37⟩ := hB37
  have hP := pq_keep hP hD [5, 8] rfl hk37 hB37.1 ht37
  have hG : s.heap.size + 0 ≤ H37.size := Nat.le_trans hG hz37
  refine W.eq (g2 := F0 m 29 ls [.ref h11]) (by rw [hr37]) ?_
  refine va_castE (nm := RX2) hx hb hown (hts _ q_382) (va_recv hK hP (ci := 3) (q0 := 11) rfl rfl) dX6_shown_29 ?_
  refine lv_astore_n (lv' := [(3, .ref h11), (2, .int 1), (1, .int 0), (0, .ref h0)]) hx hb dX6_shown_32 rfl hl (by decide) rfl (fun ls hl => ?_)
  refine lv_iload_n hx hb dX6_shown_33 rfl (lv_at hl 2 rfl) ?_
  refine lv_aload_n hx hb dX6_shown_34 rfl (lv_at hl 3 rfl) ?_
  refine va_get (D := (dC, dI)) (ci := 6) (v := .ref h2) (C := RX6) (T := TX6) (N := 3) hx hb hts in_X6 hown hK hP 0 rfl rfl 2 (by decide) (hts _ q_54) (fun _ h9 => h9) rfl dX6_shown_35 ?_
  refine lv_aload_n hx hb dX6_shown_38 rfl (lv_at hl 0 rfl) ?_
  refine lv_bipush (v := 48) hx hb dX6_shown_39 (by decide) ?_
  have hM41 := k574_isShownBySomeTest l hl9 dC dI z h2 h11 h1 h6 h4 h5 h8 h9 h10 h12 h13 h14 o3 h3 o1 o2 o4 o5 o6 H37.size kc0 kc2 kc3
  obtain ⟨hF39, hC42⟩ := pc_M hM41 hP hD hK hS hX hT hA [1, 11, 3, 4, 6, 7, 9, 10, 2, 12, 13, 14] [0, 2, 3] rfl rfl rfl
  refine va_calli (va_runV (As := [.ref h11, .int 48]) (rest := [.int 0]) ⟨hx, hb, hml, hown, hts⟩ hM41 (cwV 2 hts (gV q_396 q_397 q_398 q_46 q_395) rfl rfl rfl hV_X4_isShownBySomeTest ⟨Nat.le_of_ble_eq_true rfl, Nat.le_of_ble_eq_true rfl⟩) ⟨pc_blind, va_recv hK hP (ci := 4) (q0 := 1) rfl rfl, fun U hU hW => ⟨rfl, hC42 U hU hW⟩⟩ rfl rfl hl.1 rfl (lv_room (Nat.le_of_ble_eq_true rfl)) dX6_shown_41 ⟨(Nat.le_of_ble_eq_true rfl), (Nat.le_of_ble_eq_true rfl)⟩) hS (fun q9 _ h9 => hF39 q9 h9) hF39 (fun r44 u43 t43 H43 L43 ht43 hvm43 hw43 hB43 hz43 hk43 hS => ?_)
  obtain ⟨hP, hD, hK⟩ := pq_jn (wz := [(h0, ce16 h1 o0 h2), (h3, ce201 h7), (h7, ce200 kc1 h10 h11 h12 h13 h14), (h2, ce271 h1 h6), (h11, ce283 (z.2.1 0) o3 h11), (h1, ce7 h3 h4 o1 h5), (h6, ce270 kc0), (h4, ce201 h8), (h5, ce226 h9), (h8, ce200 kc2 h10 h11 h12 h13 h14), (h9, ce200 kc3 h10 h11 h12 h13 h14), (h10, ce282 (z.2.1 0) o2 h10), (h12, ce284 (z.2.1 0) o4 h12), (h13, ce285 (z.2.1 0) o5 h13), (h14, ce286 (z.2.1 0) o6 h14)]) (tz := [(kc1, .object "java/lang/Object"), (kc0, .int), (kc2, .object "java/lang/Object"), (kc3, .object "java/lang/Object")]) hP hD hK [1, 11, 3, 4, 6, 7, 9, 10, 2, 12, 13, 14] [1] rfl hk43 hF39 hB43.1 ht43 hvm43 rfl rfl
  have hG : s.heap.size + 0 ≤ H43.size := Nat.le_trans hG hz43
  refine W.eq (g2 := F0 m 44 ls [.int 0, .int 0]) (by rw [hw43]) ?_
  refine lv_if_eq (tgt := 51) hx hb dX6_shown_44 (by decide) (fun _ => ?_) (fun cz => absurd (by decide) cz)
  refine lv_iconst (v := 0) hx hb dX6_shown_51 (by decide) ?_
  refine lv_iadd hx hb dX6_shown_52 ?_
  refine lv_topi (fun y45 ey45 => ?_)
  obtain rfl : y45 = 0 := ey45.trans (by decide)
  refine lv_istore_n (lv' := [(1, .int 0), (3, .ref h11), (2, .int 1), (0, .ref h0)]) hx hb dX6_shown_53 rfl hl (by decide) rfl (fun ls hl => ?_)
  refine lv_iload_n hx hb dX6_shown_54 rfl (lv_at hl 0 rfl) ?_
  refine lv_aload_n hx hb dX6_shown_55 rfl (lv_at hl 3 rfl) ?_
  refine va_get (D := (dC, dI)) (ci := 6) (v := .ref h2) (C := RX6) (T := TX6) (N := 3) hx hb hts in_X6 hown hK hP 0 rfl rfl 2 (by decide) (hts _ q_54) (fun _ h9 => h9) rfl dX6_shown_56 ?_
  refine lv_aload_n hx hb dX6_shown_59 rfl (lv_at hl 1 rfl) ?_
  refine lv_bipush (v := 49) hx hb dX6_shown_60 (by decide) ?_
  have hM48 := k583_isShownBySomeTest l hl9 dC dI z h2 h11 h1 h6 h3 h4 h5 h7 h8 h9 h10 h12 h13 h14 o3 o1 o2 o4 o5 o6 H43.size kc0 kc1 kc2 kc3
  obtain ⟨hF46, hC49⟩ := pc_M hM48 hP hD hK hS hX hT hA [3, 4, 5, 6, 1, 7, 8, 2, 9, 10, 11, 12, 13, 14] [1, 0, 2, 3] rfl rfl rfl
  refine va_calli (va_runV (As := [.ref h11, .int 49]) (rest := [.int 0]) ⟨hx, hb, hml, hown, hts⟩ hM48 (cwV 2 hts (gV q_396 q_397 q_398 q_46 q_395) rfl rfl rfl hV_X4_isShownBySomeTest ⟨Nat.le_of_ble_eq_true rfl, Nat.le_of_ble_eq_true rfl⟩) ⟨pc_blind, va_recv hK hP (ci := 4) (q0 := 3) rfl rfl, fun U hU hW => ⟨rfl, hC49 U hU hW⟩⟩ rfl rfl hl.1 rfl (lv_room (Nat.le_of_ble_eq_true rfl)) dX6_shown_62 ⟨(Nat.le_of_ble_eq_true rfl), (Nat.le_of_ble_eq_true rfl)⟩) hS (fun q9 _ h9 => hF46 q9 h9) hF46 (fun r51 u50 t50 H50 L50 ht50 hvm50 hw50 hB50 hz50 hk50 hS => ?_)
  obtain ⟨hP, hD, hK⟩ := pq_jn (wz := [(h0, ce16 h1 o0 h2), (h2, ce271 h1 h6), (h11, ce288 (z.2.1 0) o3 h11), (h1, ce7 h3 h4 o1 h5), (h6, ce270 kc0), (h3, ce201 h7), (h4, ce201 h8), (h5, ce226 h9), (h7, ce200 kc1 h10 h11 h12 h13 h14), (h8, ce200 kc2 h10 h11 h12 h13 h14), (h9, ce200 kc3 h10 h11 h12 h13 h14), (h10, ce282 (z.2.1 0) o2 h10), (h12, ce284 (z.2.1 0) o4 h12), (h13, ce285 (z.2.1 0) o5 h13), (h14, ce286 (z.2.1 0) o6 h14)]) (tz := [(kc0, .int), (kc1, .object "java/lang/Object"), (kc2, .object "java/lang/Object"), (kc3, .object "java/lang/Object")]) hP hD hK [3, 4, 5, 6, 1, 7, 8, 2, 9, 10, 11, 12, 13, 14] [] rfl hk50 hF46 hB50.1 ht50 hvm50 rfl rfl
  have hG : s.heap.size + 0 ≤ H50.size := Nat.le_trans hG hz50
  refine W.eq (g2 := F0 m 65 ls [.int 0, .int 0]) (by rw [hw50]) ?_
  refine lv_if_eq (tgt := 72) hx hb dX6_shown_65 (by decide) (fun _ => ?_) (fun cz => absurd (by decide) cz)
  refine lv_iconst (v := 0) hx hb dX6_shown_72 (by decide) ?_
  refine lv_iadd hx hb dX6_shown_73 ?_
  refine lv_topi (fun y52 ey52 => ?_)
  obtain rfl : y52 = 0 := ey52.trans (by decide)
  refine lv_istore_n (lv' := [(1, .int 0), (3, .ref h11), (2, .int 1), (0, .ref h0)]) hx hb dX6_shown_74 rfl hl (by decide) rfl (fun ls hl => ?_)
  refine lv_iinc (v := 2) (lv' := [(2, .int 2), (1, .int 0), (3, .ref h11), (0, .ref h0)]) hx hb dX6_shown_75 hl (k := 2) rfl (by decide) (by decide) rfl (fun ls hl => ?_)
  refine lv_goto (tgt := 4) hx hb dX6_shown_78 (by decide) ?_
  refine lv_iload_n hx hb dX6_shown_4 rfl (lv_at hl 0 rfl) ?_
  refine lv_aload_n hx hb dX6_shown_5 rfl (lv_at hl 3 rfl) ?_
  refine va_get (D := (dC, dI)) (ci := 6) (v := .ref h1) (C := RX6) (T := TX6) (N := 3) hx hb hts in_X6 hown hK hP 0 rfl rfl 0 (by decide) (hts _ q_34) (fun _ h9 => h9) rfl dX6_shown_6 ?_
  refine va_get (D := (dC, dI)) (ci := 2) (v := .ref h3) (C := RX0) (T := TX0) (N := 4) hx hb hts in_X0 hown hK hP 3 rfl rfl 0 (by decide) (hts _ q_83) (fun _ h9 => h9) rfl dX6_shown_9 ?_
  have hM55 := k20_size l hl9 dC dI z h3 h7 H50.size 5 5
  obtain ⟨hF53, hC56⟩ := pc_M hM55 hP hD hK hS hX hT hA [5] [] rfl rfl rfl
  refine va_calli (va_runV (As := []) (rest := [.int 2]) ⟨hx, hb, hml, hown, hts⟩ hM55 (cwV 0 hts (gV q_76 q_77 q_78 q_12 q_75) rfl rfl rfl hV_Jx4a65c_size_8abf5 ⟨Nat.le_of_ble_eq_true rfl, Nat.le_of_ble_eq_true rfl⟩) ⟨pc_blind, va_recv hK hP (ci := 0) (q0 := 5) rfl rfl, fun U hU hW => ⟨rfl, hC56 U hU hW⟩⟩ rfl rfl hl.1 rfl (lv_room (Nat.le_of_ble_eq_true rfl)) dX6_shown_12 ⟨(Nat.le_of_ble_eq_true rfl), (Nat.le_of_ble_eq_true rfl)⟩) hS (fun q9 _ h9 => hF53 q9 h9) hF53 (fun r58 u57 t57 H57 L57 ht57 hvm57 hw57 hB57 hz57 hk57 hS => ?_)
  have hP := pq_keep hP hD [5] rfl hk57 hB57.1 ht57
  have hG : s.heap.size + 0 ≤ H57.size := Nat.le_trans hG hz57
  refine W.eq (g2 := F0 m 15 ls [.int 5, .int 2]) (by rw [hw57]) ?_
  refine lv_icmp_ge (tgt := 81) hx hb dX6_shown_15 (by decide) (fun cz => absurd cz (by decide)) (fun _ => ?_)
  refine lv_aload_n hx hb dX6_shown_18 rfl (lv_at hl 3 rfl) ?_
  refine va_get (D := (dC, dI)) (ci := 6) (v := .ref h1) (C := RX6) (T := TX6) (N := 3) hx hb hts in_X6 hown hK hP 0 rfl rfl 0 (by decide) (hts _ q_34) (fun _ h9 => h9) rfl dX6_shown_19 ?_
  refine va_get (D := (dC, dI)) (ci := 2) (v := .ref h3) (C := RX0) (T := TX0) (N := 4) hx hb hts in_X0 hown hK hP 3 rfl rfl 0 (by decide) (hts _ q_83) (fun _ h9 => h9) rfl dX6_shown_22 ?_
  refine lv_iload_n hx hb dX6_shown_25 rfl (lv_at hl 0 rfl) ?_
  have hM61 := k376_get l hl9 dC dI z h3 h7 h10 h11 h12 h13 h14 H57.size kc1
  obtain ⟨hF59, hC62⟩ := pc_M hM61 hP hD hK hS hX hT hA [5, 8] [1] rfl rfl rfl
  refine va_callr (va_runV (As := [.int 2]) (rest := []) ⟨hx, hb, hml, hown, hts⟩ hM61 (cwV 1 hts (gV q_381 q_157 q_158 q_12 q_155) rfl rfl rfl hV_Jx4a65c_get_915e3 ⟨Nat.le_of_ble_eq_true rfl, Nat.le_of_ble_eq_true rfl⟩) ⟨pc_blind, va_recv hK hP (ci := 0) (q0 := 5) rfl rfl, fun U hU hW => ⟨rfl, hC62 U hU hW⟩⟩ rfl rfl hl.1 rfl (lv_room (Nat.le_of_ble_eq_true rfl)) dX6_shown_26 ⟨(Nat.le_of_ble_eq_true rfl), (Nat.le_of_ble_eq_true rfl)⟩) hS (fun q9 _ h9 => hF59 q9 h9) hF59 (fun u63 r64 t63 H63 L63 ht63 hvm63 hw63 hB63 hz63 hk63 hS => ?_)
  obtain ⟨hr63, hB63⟩ := hB63
  have hP := pq_keep hP hD [5, 8] rfl hk63 hB63.1 ht63
  have hG : s.heap.size + 0 ≤ H63.size := Nat.le_trans hG hz63
  refine W.eq (g2 := F0 m 29 ls [.ref h12]) (by rw [hr63]) ?_
  refine va_castE (nm := RX2) hx hb hown (hts _ q_382) (va_recv hK hP (ci := 3) (q0 := 12) rfl rfl) dX6_shown_29 ?_
  refine lv_astore_n (lv' := [(3, .ref h12), (2, .int 2), (1, .int 0), (0, .ref h0)]) hx hb dX6_shown_32 rfl hl (by decide) rfl (fun ls hl => ?_)
  refine lv_iload_n hx hb dX6_shown_33 rfl (lv_at hl 2 rfl) ?_
  refine lv_aload_n hx hb dX6_shown_34 rfl (lv_at hl 3 rfl) ?_
  refine va_get (D := (dC, dI)) (ci := 6) (v := .ref h2) (C := RX6) (T := TX6) (N := 3) hx hb hts in_X6 hown hK hP 0 rfl rfl 2 (by decide) (hts _ q_54) (fun _ h9 => h9) rfl dX6_shown_35 ?_
  refine lv_aload_n hx hb dX6_shown_38 rfl (lv_at hl 0 rfl) ?_
  refine lv_bipush (v := 48) hx hb dX6_shown_39 (by decide) ?_
  have hM67 := k586_isShownBySomeTest l hl9 dC dI z h2 h12 h1 h6 h4 h5 h8 h9 h10 h11 h13 h14 o4 h3 o1 o2 o3 o5 o6 H63.size kc0 kc2 kc3
  obtain ⟨hF65, hC68⟩ := pc_M hM67 hP hD hK hS hX hT hA [1, 12, 3, 4, 6, 7, 9, 10, 11, 2, 13, 14] [0, 2, 3] rfl rfl rfl
  refine va_calli (va_runV (As := [.ref h12, .int 48]) (rest := [.int 0]) ⟨hx, hb, hml, hown, hts⟩ hM67 (cwV 2 hts (gV q_396 q_397 q_398 q_46 q_395) rfl rfl rfl hV_X4_isShownBySomeTest ⟨Nat.le_of_ble_eq_true rfl, Nat.le_of_ble_eq_true rfl⟩) ⟨pc_blind, va_recv hK hP (ci := 4) (q0 := 1) rfl rfl, fun U hU hW => ⟨rfl, hC68 U hU hW⟩⟩ rfl rfl hl.1 rfl (lv_room (Nat.le_of_ble_eq_true rfl)) dX6_shown_41 ⟨(Nat.le_of_ble_eq_true rfl), (Nat.le_of_ble_eq_true rfl)⟩) hS (fun q9 _ h9 => hF65 q9 h9) hF65 (fun r70 u69 t69 H69 L69 ht69 hvm69 hw69 hB69 hz69 hk69 hS => ?_)
  obtain ⟨hP, hD, hK⟩ := pq_jn (wz := [(h0, ce16 h1 o0 h2), (h3, ce201 h7), (h7, ce200 kc1 h10 h11 h12 h13 h14), (h2, ce271 h1 h6), (h12, ce284 (z.2.1 0) o4 h12), (h1, ce7 h3 h4 o1 h5), (h6, ce270 kc0), (h4, ce201 h8), (h5, ce226 h9), (h8, ce200 kc2 h10 h11 h12 h13 h14), (h9, ce200 kc3 h10 h11 h12 h13 h14), (h10, ce282 (z.2.1 0) o2 h10), (h11, ce283 (z.2.1 0) o3 h11), (h13, ce285 (z.2.1 0) o5 h13), (h14, ce286 (z.2.1 0) o6 h14)]) (tz := [(kc1, .object "java/lang/Object"), (kc0, .int), (kc2, .object "java/lang/Object"), (kc3, .object "java/lang/Object")]) hP hD hK [1, 12, 3, 4, 6, 7, 9, 10, 11, 2, 13, 14] [1] rfl hk69 hF65 hB69.1 ht69 hvm69 rfl rfl
  have hG : s.heap.size + 0 ≤ H69.size := Nat.le_trans hG hz69
  refine W.eq (g2 := F0 m 44 ls [.int 0, .int 0]) (by rw [hw69]) ?_
  refine lv_if_eq (tgt := 51) hx hb dX6_shown_44 (by decide) (fun _ => ?_) (fun cz => absurd (by decide) cz)
  refine lv_iconst (v := 0) hx hb dX6_shown_51 (by decide) ?_
  refine lv_iadd hx hb dX6_shown_52 ?_
  refine lv_topi (fun y71 ey71 => ?_)
  obtain rfl : y71 = 0 := ey71.trans (by decide)
  refine lv_istore_n (lv' := [(1, .int 0), (3, .ref h12), (2, .int 2), (0, .ref h0)]) hx hb dX6_shown_53 rfl hl (by decide) rfl (fun ls hl => ?_)
  refine lv_iload_n hx hb dX6_shown_54 rfl (lv_at hl 0 rfl) ?_
  refine lv_aload_n hx hb dX6_shown_55 rfl (lv_at hl 3 rfl) ?_
  refine va_get (D := (dC, dI)) (ci := 6) (v := .ref h2) (C := RX6) (T := TX6) (N := 3) hx hb hts in_X6 hown hK hP 0 rfl rfl 2 (by decide) (hts _ q_54) (fun _ h9 => h9) rfl dX6_shown_56 ?_
  refine lv_aload_n hx hb dX6_shown_59 rfl (lv_at hl 1 rfl) ?_
  refine lv_bipush (v := 49) hx hb dX6_shown_60 (by decide) ?_
  have hM74 := k594_isShownBySomeTest l hl9 dC dI z h2 h12 h1 h6 h3 h4 h5 h7 h8 h9 h10 h11 h13 h14 o4 o1 o2 o3 o5 o6 H69.size kc0 kc1 kc2 kc3
  obtain ⟨hF72, hC75⟩ := pc_M hM74 hP hD hK hS hX hT hA [3, 4, 5, 6, 1, 7, 8, 2, 9, 10, 11, 12, 13, 14] [1, 0, 2, 3] rfl rfl rfl
  refine va_calli (va_runV (As := [.ref h12, .int 49]) (rest := [.int 0]) ⟨hx, hb, hml, hown, hts⟩ hM74 (cwV 2 hts (gV q_396 q_397 q_398 q_46 q_395) rfl rfl rfl hV_X4_isShownBySomeTest ⟨Nat.le_of_ble_eq_true rfl, Nat.le_of_ble_eq_true rfl⟩) ⟨pc_blind, va_recv hK hP (ci := 4) (q0 := 3) rfl rfl, fun U hU hW => ⟨rfl, hC75 U hU hW⟩⟩ rfl rfl hl.1 rfl (lv_room (Nat.le_of_ble_eq_true rfl)) dX6_shown_62 ⟨(Nat.le_of_ble_eq_true rfl), (Nat.le_of_ble_eq_true rfl)⟩) hS (fun q9 _ h9 => hF72 q9 h9) hF72 (fun r77 u76 t76 H76 L76 ht76 hvm76 hw76 hB76 hz76 hk76 hS => ?_)
  obtain ⟨hP, hD, hK⟩ := pq_jn (wz := [(h0, ce16 h1 o0 h2), (h2, ce271 h1 h6), (h12, ce289 (z.2.1 0) o4 h12), (h1, ce7 h3 h4 o1 h5), (h6, ce270 kc0), (h3, ce201 h7), (h4, ce201 h8), (h5, ce226 h9), (h7, ce200 kc1 h10 h11 h12 h13 h14), (h8, ce200 kc2 h10 h11 h12 h13 h14), (h9, ce200 kc3 h10 h11 h12 h13 h14), (h10, ce282 (z.2.1 0) o2 h10), (h11, ce283 (z.2.1 0) o3 h11), (h13, ce285 (z.2.1 0) o5 h13), (h14, ce286 (z.2.1 0) o6 h14)]) (tz := [(kc0, .int), (kc1, .object "java/lang/Object"), (kc2, .object "java/lang/Object"), (kc3, .object "java/lang/Object")]) hP hD hK [3, 4, 5, 6, 1, 7, 8, 2, 9, 10, 11, 12, 13, 14] [] rfl hk76 hF72 hB76.1 ht76 hvm76 rfl rfl
  have hG : s.heap.size + 0 ≤ H76.size := Nat.le_trans hG hz76
  refine W.eq (g2 := F0 m 65 ls [.int 0, .int 0]) (by rw [hw76]) ?_
  refine lv_if_eq (tgt := 72) hx hb dX6_shown_65 (by decide) (fun _ => ?_) (fun cz => absurd (by decide) cz)
  refine lv_iconst (v := 0) hx hb dX6_shown_72 (by decide) ?_
  refine lv_iadd hx hb dX6_shown_73 ?_
  refine lv_topi (fun y78 ey78 => ?_)
  obtain rfl : y78 = 0 := ey78.trans (by decide)
  refine lv_istore_n (lv' := [(1, .int 0), (3, .ref h12), (2, .int 2), (0, .ref h0)]) hx hb dX6_shown_74 rfl hl (by decide) rfl (fun ls hl => ?_)
  refine lv_iinc (v := 3) (lv' := [(2, .int 3), (1, .int 0), (3, .ref h12), (0, .ref h0)]) hx hb dX6_shown_75 hl (k := 2) rfl (by decide) (by decide) rfl (fun ls hl => ?_)
  refine lv_goto (tgt := 4) hx hb dX6_shown_78 (by decide) ?_
  refine lv_iload_n hx hb dX6_shown_4 rfl (lv_at hl 0 rfl) ?_
  refine lv_aload_n hx hb dX6_shown_5 rfl (lv_at hl 3 rfl) ?_
  refine va_get (D := (dC, dI)) (ci := 6) (v := .ref h1) (C := RX6) (T := TX6) (N := 3) hx hb hts in_X6 hown hK hP 0 rfl rfl 0 (by decide) (hts _ q_34) (fun _ h9 => h9) rfl dX6_shown_6 ?_
  refine va_get (D := (dC, dI)) (ci := 2) (v := .ref h3) (C := RX0) (T := TX0) (N := 4) hx hb hts in_X0 hown hK hP 3 rfl rfl 0 (by decide) (hts _ q_83) (fun _ h9 => h9) rfl dX6_shown_9 ?_
  have hM81 := k20_size l hl9 dC dI z h3 h7 H76.size 5 5
  obtain ⟨hF79, hC82⟩ := pc_M hM81 hP hD hK hS hX hT hA [5] [] rfl rfl rfl
  refine va_calli (va_runV (As := []) (rest := [.int 3]) ⟨hx, hb, hml, hown, hts⟩ hM81 (cwV 0 hts (gV q_76 q_77 q_78 q_12 q_75) rfl rfl rfl hV_Jx4a65c_size_8abf5 ⟨Nat.le_of_ble_eq_true rfl, Nat.le_of_ble_eq_true rfl⟩) ⟨pc_blind, va_recv hK hP (ci := 0) (q0 := 5) rfl rfl, fun U hU hW => ⟨rfl, hC82 U hU hW⟩⟩ rfl rfl hl.1 rfl (lv_room (Nat.le_of_ble_eq_true rfl)) dX6_shown_12 ⟨(Nat.le_of_ble_eq_true rfl), (Nat.le_of_ble_eq_true rfl)⟩) hS (fun q9 _ h9 => hF79 q9 h9) hF79 (fun r84 u83 t83 H83 L83 ht83 hvm83 hw83 hB83 hz83 hk83 hS => ?_)
  have hP := pq_keep hP hD [5] rfl hk83 hB83.1 ht83
  have hG : s.heap.size + 0 ≤ H83.size := Nat.le_trans hG hz83
  refine W.eq (g2 := F0 m 15 ls [.int 5, .int 3]) (by rw [hw83]) ?_
  refine lv_icmp_ge (tgt := 81) hx hb dX6_shown_15 (by decide) (fun cz => absurd cz (by decide)) (fun _ => ?_)
  refine lv_aload_n hx hb dX6_shown_18 rfl (lv_at hl 3 rfl) ?_
  refine va_get (D := (dC, dI)) (ci := 6) (v := .ref h1) (C := RX6) (T := TX6) (N := 3) hx hb hts in_X6 hown hK hP 0 rfl rfl 0 (by decide) (hts _ q_34) (fun _ h9 => h9) rfl dX6_shown_19 ?_
  refine va_get (D := (dC, dI)) (ci := 2) (v := .ref h3) (C := RX0) (T := TX0) (N := 4) hx hb hts in_X0 hown hK hP 3 rfl rfl 0 (by decide) (hts _ q_83) (fun _ h9 => h9) rfl dX6_shown_22 ?_
  refine lv_iload_n hx hb dX6_shown_25 rfl (lv_at hl 0 rfl) ?_
  have hM87 := k380_get l hl9 dC dI z h3 h7 h10 h11 h12 h13 h14 H83.size kc1
  obtain ⟨hF85, hC88⟩ := pc_M hM87 hP hD hK hS hX hT hA [5, 8] [1] rfl rfl rfl
  refine va_callr (va_runV (As := [.int 3]) (rest := []) ⟨hx, hb, hml, hown, hts⟩ hM87 (cwV 1 hts (gV q_381 q_157 q_158 q_12 q_155) rfl rfl rfl hV_Jx4a65c_get_915e3 ⟨Nat.le_of_ble_eq_true rfl, Nat.le_of_ble_eq_true rfl⟩) ⟨pc_blind, va_recv hK hP (ci := 0) (q0 := 5) rfl rfl, fun U hU hW => ⟨rfl, hC88 U hU hW⟩⟩ rfl rfl hl.1 rfl (lv_room (Nat.le_of_ble_eq_true rfl)) dX6_shown_26 ⟨(Nat.le_of_ble_eq_true rfl), (Nat.le_of_ble_eq_true rfl)⟩) hS (fun q9 _ h9 => hF85 q9 h9) hF85 (fun u89 r90 t89 H89 L89 ht89 hvm89 hw89 hB89 hz89 hk89 hS => ?_)
  obtain ⟨hr89, hB89⟩ := hB89
  have hP := pq_keep hP hD [5, 8] rfl hk89 hB89.1 ht89
  have hG : s.heap.size + 0 ≤ H89.size := Nat.le_trans hG hz89
  refine W.eq (g2 := F0 m 29 ls [.ref h13]) (by rw [hr89]) ?_
  refine va_castE (nm := RX2) hx hb hown (hts _ q_382) (va_recv hK hP (ci := 3) (q0 := 13) rfl rfl) dX6_shown_29 ?_
  refine lv_astore_n (lv' := [(3, .ref h13), (2, .int 3), (1, .int 0), (0, .ref h0)]) hx hb dX6_shown_32 rfl hl (by decide) rfl (fun ls hl => ?_)
  refine lv_iload_n hx hb dX6_shown_33 rfl (lv_at hl 2 rfl) ?_
  refine lv_aload_n hx hb dX6_shown_34 rfl (lv_at hl 3 rfl) ?_
  refine va_get (D := (dC, dI)) (ci := 6) (v := .ref h2) (C := RX6) (T := TX6) (N := 3) hx hb hts in_X6 hown hK hP 0 rfl rfl 2 (by decide) (hts _ q_54) (fun _ h9 => h9) rfl dX6_shown_35 ?_
  refine lv_aload_n hx hb dX6_shown_38 rfl (lv_at hl 0 rfl) ?_
  refine lv_bipush (v := 48) hx hb dX6_shown_39 (by decide) ?_
  have hM93 := k597_isShownBySomeTest l hl9 dC dI z h2 h13 h1 h6 h4 h5 h8 h9 h10 h11 h12 h14 o5 h3 o1 o2 o3 o4 o6 H89.size kc0 kc2 kc3
  obtain ⟨hF91, hC94⟩ := pc_M hM93 hP hD hK hS hX hT hA [1, 13, 3, 4, 6, 7, 9, 10, 11, 12, 2, 14] [0, 2, 3] rfl rfl rfl
  refine va_calli (va_runV (As := [.ref h13, .int 48]) (rest := [.int 0]) ⟨hx, hb, hml, hown, hts⟩ hM93 (cwV 2 hts (gV q_396 q_397 q_398 q_46 q_395) rfl rfl rfl hV_X4_isShownBySomeTest ⟨Nat.le_of_ble_eq_true rfl, Nat.le_of_ble_eq_true rfl⟩) ⟨pc_blind, va_recv hK hP (ci := 4) (q0 := 1) rfl rfl, fun U hU hW => ⟨rfl, hC94 U hU hW⟩⟩ rfl rfl hl.1 rfl (lv_room (Nat.le_of_ble_eq_true rfl)) dX6_shown_41 ⟨(Nat.le_of_ble_eq_true rfl), (Nat.le_of_ble_eq_true rfl)⟩) hS (fun q9 _ h9 => hF91 q9 h9) hF91 (fun r96 u95 t95 H95 L95 ht95 hvm95 hw95 hB95 hz95 hk95 hS => ?_)
  obtain ⟨hP, hD, hK⟩ := pq_jn (wz := [(h0, ce16 h1 o0 h2), (h3, ce201 h7), (h7, ce200 kc1 h10 h11 h12 h13 h14), (h2, ce271 h1 h6), (h13, ce285 (z.2.1 0) o5 h13), (h1, ce7 h3 h4 o1 h5), (h6, ce270 kc0), (h4, ce201 h8), (h5, ce226 h9), (h8, ce200 kc2 h10 h11 h12 h13 h14), (h9, ce200 kc3 h10 h11 h12 h13 h14), (h10, ce282 (z.2.1 0) o2 h10), (h11, ce283 (z.2.1 0) o3 h11), (h12, ce284 (z.2.1 0) o4 h12), (h14, ce286 (z.2.1 0) o6 h14)]) (tz := [(kc1, .object "java/lang/Object"), (kc0, .int), (kc2, .object "java/lang/Object"), (kc3, .object "java/lang/Object")]) hP hD hK [1, 13, 3, 4, 6, 7, 9, 10, 11, 12, 2, 14] [1] rfl hk95 hF91 hB95.1 ht95 hvm95 rfl rfl
  have hG : s.heap.size + 0 ≤ H95.size := Nat.le_trans hG hz95
  refine W.eq (g2 := F0 m 44 ls [.int 0, .int 0]) (by rw [hw95]) ?_
  refine lv_if_eq (tgt := 51) hx hb dX6_shown_44 (by decide) (fun _ => ?_) (fun cz => absurd (by decide) cz)
  refine lv_iconst (v := 0) hx hb dX6_shown_51 (by decide) ?_
  refine lv_iadd hx hb dX6_shown_52 ?_
  refine lv_topi (fun y97 ey97 => ?_)
  obtain rfl : y97 = 0 := ey97.trans (by decide)
  refine lv_istore_n (lv' := [(1, .int 0), (3, .ref h13), (2, .int 3), (0, .ref h0)]) hx hb dX6_shown_53 rfl hl (by decide) rfl (fun ls hl => ?_)
  refine lv_iload_n hx hb dX6_shown_54 rfl (lv_at hl 0 rfl) ?_
  refine lv_aload_n hx hb dX6_shown_55 rfl (lv_at hl 3 rfl) ?_
  refine va_get (D := (dC, dI)) (ci := 6) (v := .ref h2) (C := RX6) (T := TX6) (N := 3) hx hb hts in_X6 hown hK hP 0 rfl rfl 2 (by decide) (hts _ q_54) (fun _ h9 => h9) rfl dX6_shown_56 ?_
  refine lv_aload_n hx hb dX6_shown_59 rfl (lv_at hl 1 rfl) ?_
  refine lv_bipush (v := 49) hx hb dX6_shown_60 (by decide) ?_
  have hM100 := k605_isShownBySomeTest l hl9 dC dI z h2 h13 h1 h6 h3 h4 h5 h7 h8 h9 h10 h11 h12 h14 o5 o1 o2 o3 o4 o6 H95.size kc0 kc1 kc2 kc3
  obtain ⟨hF98, hC101⟩ := pc_M hM100 hP hD hK hS hX hT hA [3, 4, 5, 6, 1, 7, 8, 2, 9, 10, 11, 12, 13, 14] [1, 0, 2, 3] rfl rfl rfl
  refine va_calli (va_runV (As := [.ref h13, .int 49]) (rest := [.int 0]) ⟨hx, hb, hml, hown, hts⟩ hM100 (cwV 2 hts (gV q_396 q_397 q_398 q_46 q_395) rfl rfl rfl hV_X4_isShownBySomeTest ⟨Nat.le_of_ble_eq_true rfl, Nat.le_of_ble_eq_true rfl⟩) ⟨pc_blind, va_recv hK hP (ci := 4) (q0 := 3) rfl rfl, fun U hU hW => ⟨rfl, hC101 U hU hW⟩⟩ rfl rfl hl.1 rfl (lv_room (Nat.le_of_ble_eq_true rfl)) dX6_shown_62 ⟨(Nat.le_of_ble_eq_true rfl), (Nat.le_of_ble_eq_true rfl)⟩) hS (fun q9 _ h9 => hF98 q9 h9) hF98 (fun r103 u102 t102 H102 L102 ht102 hvm102 hw102 hB102 hz102 hk102 hS => ?_)
  obtain ⟨hP, hD, hK⟩ := pq_jn (wz := [(h0, ce16 h1 o0 h2), (h2, ce271 h1 h6), (h13, ce290 (z.2.1 0) o5 h13), (h1, ce7 h3 h4 o1 h5), (h6, ce270 kc0), (h3, ce201 h7), (h4, ce201 h8), (h5, ce226 h9), (h7, ce200 kc1 h10 h11 h12 h13 h14), (h8, ce200 kc2 h10 h11 h12 h13 h14), (h9, ce200 kc3 h10 h11 h12 h13 h14), (h10, ce282 (z.2.1 0) o2 h10), (h11, ce283 (z.2.1 0) o3 h11), (h12, ce284 (z.2.1 0) o4 h12), (h14, ce286 (z.2.1 0) o6 h14)]) (tz := [(kc0, .int), (kc1, .object "java/lang/Object"), (kc2, .object "java/lang/Object"), (kc3, .object "java/lang/Object")]) hP hD hK [3, 4, 5, 6, 1, 7, 8, 2, 9, 10, 11, 12, 13, 14] [] rfl hk102 hF98 hB102.1 ht102 hvm102 rfl rfl
  have hG : s.heap.size + 0 ≤ H102.size := Nat.le_trans hG hz102
  refine W.eq (g2 := F0 m 65 ls [.int 0, .int 0]) (by rw [hw102]) ?_
  refine lv_if_eq (tgt := 72) hx hb dX6_shown_65 (by decide) (fun _ => ?_) (fun cz => absurd (by decide) cz)
  refine lv_iconst (v := 0) hx hb dX6_shown_72 (by decide) ?_
  refine lv_iadd hx hb dX6_shown_73 ?_
  refine lv_topi (fun y104 ey104 => ?_)
  obtain rfl : y104 = 0 := ey104.trans (by decide)
  refine lv_istore_n (lv' := [(1, .int 0), (3, .ref h13), (2, .int 3), (0, .ref h0)]) hx hb dX6_shown_74 rfl hl (by decide) rfl (fun ls hl => ?_)
  refine lv_iinc (v := 4) (lv' := [(2, .int 4), (1, .int 0), (3, .ref h13), (0, .ref h0)]) hx hb dX6_shown_75 hl (k := 2) rfl (by decide) (by decide) rfl (fun ls hl => ?_)
  refine lv_goto (tgt := 4) hx hb dX6_shown_78 (by decide) ?_
  refine lv_iload_n hx hb dX6_shown_4 rfl (lv_at hl 0 rfl) ?_
  refine lv_aload_n hx hb dX6_shown_5 rfl (lv_at hl 3 rfl) ?_
  refine va_get (D := (dC, dI)) (ci := 6) (v := .ref h1) (C := RX6) (T := TX6) (N := 3) hx hb hts in_X6 hown hK hP 0 rfl rfl 0 (by decide) (hts _ q_34) (fun _ h9 => h9) rfl dX6_shown_6 ?_
  refine va_get (D := (dC, dI)) (ci := 2) (v := .ref h3) (C := RX0) (T := TX0) (N := 4) hx hb hts in_X0 hown hK hP 3 rfl rfl 0 (by decide) (hts _ q_83) (fun _ h9 => h9) rfl dX6_shown_9 ?_
  have hM107 := k20_size l hl9 dC dI z h3 h7 H102.size 5 5
  obtain ⟨hF105, hC108⟩ := pc_M hM107 hP hD hK hS hX hT hA [5] [] rfl rfl rfl
  refine va_calli (va_runV (As := []) (rest := [.int 4]) ⟨hx, hb, hml, hown, hts⟩ hM107 (cwV 0 hts (gV q_76 q_77 q_78 q_12 q_75) rfl rfl rfl hV_Jx4a65c_size_8abf5 ⟨Nat.le_of_ble_eq_true rfl, Nat.le_of_ble_eq_true rfl⟩) ⟨pc_blind, va_recv hK hP (ci := 0) (q0 := 5) rfl rfl, fun U hU hW => ⟨rfl, hC108 U hU hW⟩⟩ rfl rfl hl.1 rfl (lv_room (Nat.le_of_ble_eq_true rfl)) dX6_shown_12 ⟨(Nat.le_of_ble_eq_true rfl), (Nat.le_of_ble_eq_true rfl)⟩) hS (fun q9 _ h9 => hF105 q9 h9) hF105 (fun r110 u109 t109 H109 L109 ht109 hvm109 hw109 hB109 hz109 hk109 hS => ?_)
  have hP := pq_keep hP hD [5] rfl hk109 hB109.1 ht109
  have hG : s.heap.size + 0 ≤ H109.size := Nat.le_trans hG hz109
  refine W.eq (g2 := F0 m 15 ls [.int 5, .int 4]) (by rw [hw109]) ?_
  refine lv_icmp_ge (tgt := 81) hx hb dX6_shown_15 (by decide) (fun cz => absurd cz (by decide)) (fun _ => ?_)
  refine lv_aload_n hx hb dX6_shown_18 rfl (lv_at hl 3 rfl) ?_
  refine va_get (D := (dC, dI)) (ci := 6) (v := .ref h1) (C := RX6) (T := TX6) (N := 3) hx hb hts in_X6 hown hK hP 0 rfl rfl 0 (by decide) (hts _ q_34) (fun _ h9 => h9) rfl dX6_shown_19 ?_
  refine va_get (D := (dC, dI)) (ci := 2) (v := .ref h3) (C := RX0) (T := TX0) (N := 4) hx hb hts in_X0 hown hK hP 3 rfl rfl 0 (by decide) (hts _ q_83) (fun _ h9 => h9) rfl dX6_shown_22 ?_
  refine lv_iload_n hx hb dX6_shown_25 rfl (lv_at hl 0 rfl) ?_
  have hM113 := k384_get l hl9 dC dI z h3 h7 h10 h11 h12 h13 h14 H109.size kc1
  obtain ⟨hF111, hC114⟩ := pc_M hM113 hP hD hK hS hX hT hA [5, 8] [1] rfl rfl rfl
  refine va_callr (va_runV (As := [.int 4]) (rest := []) ⟨hx, hb, hml, hown, hts⟩ hM113 (cwV 1 hts (gV q_381 q_157 q_158 q_12 q_155) rfl rfl rfl hV_Jx4a65c_get_915e3 ⟨Nat.le_of_ble_eq_true rfl, Nat.le_of_ble_eq_true rfl⟩) ⟨pc_blind, va_recv hK hP (ci := 0) (q0 := 5) rfl rfl, fun U hU hW => ⟨rfl, hC114 U hU hW⟩⟩ rfl rfl hl.1 rfl (lv_room (Nat.le_of_ble_eq_true rfl)) dX6_shown_26 ⟨(Nat.le_of_ble_eq_true rfl), (Nat.le_of_ble_eq_true rfl)⟩) hS (fun q9 _ h9 => hF111 q9 h9) hF111 (fun u115 r116 t115 H115 L115 ht115 hvm115 hw115 hB115 hz115 hk115 hS => ?_)
  obtain ⟨hr115, hB115⟩ := hB115
  have hP := pq_keep hP hD [5, 8] rfl hk115 hB115.1 ht115
  have hG : s.heap.size + 0 ≤ H115.size := Nat.le_trans hG hz115
  refine W.eq (g2 := F0 m 29 ls [.ref h14]) (by rw [hr115]) ?_
  refine va_castE (nm := RX2) hx hb hown (hts _ q_382) (va_recv hK hP (ci := 3) (q0 := 14) rfl rfl) dX6_shown_29 ?_
  refine lv_astore_n (lv' := [(3, .ref h14), (2, .int 4), (1, .int 0), (0, .ref h0)]) hx hb dX6_shown_32 rfl hl (by decide) rfl (fun ls hl => ?_)
  refine lv_iload_n hx hb dX6_shown_33 rfl (lv_at hl 2 rfl) ?_
  refine lv_aload_n hx hb dX6_shown_34 rfl (lv_at hl 3 rfl) ?_
  refine va_get (D := (dC, dI)) (ci := 6) (v := .ref h2) (C := RX6) (T := TX6) (N := 3) hx hb hts in_X6 hown hK hP 0 rfl rfl 2 (by decide) (hts _ q_54) (fun _ h9 => h9) rfl dX6_shown_35 ?_
  refine lv_aload_n hx hb dX6_shown_38 rfl (lv_at hl 0 rfl) ?_
  refine lv_bipush (v := 48) hx hb dX6_shown_39 (by decide) ?_
  have hM119 := k608_isShownBySomeTest l hl9 dC dI z h2 h14 h1 h6 h4 h5 h8 h9 h10 h11 h12 h13 o6 h3 o1 o2 o3 o4 o5 H115.size kc0 kc2 kc3
  obtain ⟨hF117, hC120⟩ := pc_M hM119 hP hD hK hS hX hT hA [1, 14, 3, 4, 6, 7, 9, 10, 11, 12, 13, 2] [0, 2, 3] rfl rfl rfl
  refine va_calli (va_runV (As := [.ref h14, .int 48]) (rest := [.int 0]) ⟨hx, hb, hml, hown, hts⟩ hM119 (cwV 2 hts (gV q_396 q_397 q_398 q_46 q_395) rfl rfl rfl hV_X4_isShownBySomeTest ⟨Nat.le_of_ble_eq_true rfl, Nat.le_of_ble_eq_true rfl⟩) ⟨pc_blind, va_recv hK hP (ci := 4) (q0 := 1) rfl rfl, fun U hU hW => ⟨rfl, hC120 U hU hW⟩⟩ rfl rfl hl.1 rfl (lv_room (Nat.le_of_ble_eq_true rfl)) dX6_shown_41 ⟨(Nat.le_of_ble_eq_true rfl), (Nat.le_of_ble_eq_true rfl)⟩) hS (fun q9 _ h9 => hF117 q9 h9) hF117 (fun r122 u121 t121 H121 L121 ht121 hvm121 hw121 hB121 hz121 hk121 hS => ?_)
  obtain ⟨hP, hD, hK⟩ := pq_jn (wz := [(h0, ce16 h1 o0 h2), (h3, ce201 h7), (h7, ce200 kc1 h10 h11 h12 h13 h14), (h2, ce271 h1 h6), (h14, ce286 (z.2.1 0) o6 h14), (h1, ce7 h3 h4 o1 h5), (h6, ce270 kc0), (h4, ce201 h8), (h5, ce226 h9), (h8, ce200 kc2 h10 h11 h12 h13 h14), (h9, ce200 kc3 h10 h11 h12 h13 h14), (h10, ce282 (z.2.1 0) o2 h10), (h11, ce283 (z.2.1 0) o3 h11), (h12, ce284 (z.2.1 0) o4 h12), (h13, ce285 (z.2.1 0) o5 h13)]) (tz := [(kc1, .object "java/lang/Object"), (kc0, .int), (kc2, .object "java/lang/Object"), (kc3, .object "java/lang/Object")]) hP hD hK [1, 14, 3, 4, 6, 7, 9, 10, 11, 12, 13, 2] [1] rfl hk121 hF117 hB121.1 ht121 hvm121 rfl rfl
  have hG : s.heap.size + 0 ≤ H121.size := Nat.le_trans hG hz121
  refine W.eq (g2 := F0 m 44 ls [.int 0, .int 0]) (by rw [hw121]) ?_
  refine lv_if_eq (tgt := 51) hx hb dX6_shown_44 (by decide) (fun _ => ?_) (fun cz => absurd (by decide) cz)
  refine lv_iconst (v := 0) hx hb dX6_shown_51 (by decide) ?_
  refine lv_iadd hx hb dX6_shown_52 ?_
  refine lv_topi (fun y123 ey123 => ?_)
  obtain rfl : y123 = 0 := ey123.trans (by decide)
  refine lv_istore_n (lv' := [(1, .int 0), (3, .ref h14), (2, .int 4), (0, .ref h0)]) hx hb dX6_shown_53 rfl hl (by decide) rfl (fun ls hl => ?_)
  refine lv_iload_n hx hb dX6_shown_54 rfl (lv_at hl 0 rfl) ?_
  refine lv_aload_n hx hb dX6_shown_55 rfl (lv_at hl 3 rfl) ?_
  refine va_get (D := (dC, dI)) (ci := 6) (v := .ref h2) (C := RX6) (T := TX6) (N := 3) hx hb hts in_X6 hown hK hP 0 rfl rfl 2 (by decide) (hts _ q_54) (fun _ h9 => h9) rfl dX6_shown_56 ?_
  refine lv_aload_n hx hb dX6_shown_59 rfl (lv_at hl 1 rfl) ?_
  refine lv_bipush (v := 49) hx hb dX6_shown_60 (by decide) ?_
  have hM126 := k616_isShownBySomeTest l hl9 dC dI z h2 h14 h1 h6 h3 h4 h5 h7 h8 h9 h10 h11 h12 h13 o6 o1 o2 o3 o4 o5 H121.size kc0 kc1 kc2 kc3
  obtain ⟨hF124, hC127⟩ := pc_M hM126 hP hD hK hS hX hT hA [3, 4, 5, 6, 1, 7, 8, 2, 9, 10, 11, 12, 13, 14] [1, 0, 2, 3] rfl rfl rfl
  refine va_calli (va_runV (As := [.ref h14, .int 49]) (rest := [.int 0]) ⟨hx, hb, hml, hown, hts⟩ hM126 (cwV 2 hts (gV q_396 q_397 q_398 q_46 q_395) rfl rfl rfl hV_X4_isShownBySomeTest ⟨Nat.le_of_ble_eq_true rfl, Nat.le_of_ble_eq_true rfl⟩) ⟨pc_blind, va_recv hK hP (ci := 4) (q0 := 3) rfl rfl, fun U hU hW => ⟨rfl, hC127 U hU hW⟩⟩ rfl rfl hl.1 rfl (lv_room (Nat.le_of_ble_eq_true rfl)) dX6_shown_62 ⟨(Nat.le_of_ble_eq_true rfl), (Nat.le_of_ble_eq_true rfl)⟩) hS (fun q9 _ h9 => hF124 q9 h9) hF124 (fun r129 u128 t128 H128 L128 ht128 hvm128 hw128 hB128 hz128 hk128 hS => ?_)
  obtain ⟨hP, hD, hK⟩ := pq_jn (wz := [(h0, ce16 h1 o0 h2), (h2, ce271 h1 h6), (h14, ce291 (z.2.1 0) o6 h14), (h1, ce7 h3 h4 o1 h5), (h6, ce270 kc0), (h3, ce201 h7), (h4, ce201 h8), (h5, ce226 h9), (h7, ce200 kc1 h10 h11 h12 h13 h14), (h8, ce200 kc2 h10 h11 h12 h13 h14), (h9, ce200 kc3 h10 h11 h12 h13 h14), (h10, ce282 (z.2.1 0) o2 h10), (h11, ce283 (z.2.1 0) o3 h11), (h12, ce284 (z.2.1 0) o4 h12), (h13, ce285 (z.2.1 0) o5 h13)]) (tz := [(kc0, .int), (kc1, .object "java/lang/Object"), (kc2, .object "java/lang/Object"), (kc3, .object "java/lang/Object")]) hP hD hK [3, 4, 5, 6, 1, 7, 8, 2, 9, 10, 11, 12, 13, 14] [] rfl hk128 hF124 hB128.1 ht128 hvm128 rfl rfl
  have hG : s.heap.size + 0 ≤ H128.size := Nat.le_trans hG hz128
  refine W.eq (g2 := F0 m 65 ls [.int 0, .int 0]) (by rw [hw128]) ?_
  refine lv_if_eq (tgt := 72) hx hb dX6_shown_65 (by decide) (fun _ => ?_) (fun cz => absurd (by decide) cz)
  refine lv_iconst (v := 0) hx hb dX6_shown_72 (by decide) ?_
  refine lv_iadd hx hb dX6_shown_73 ?_
  refine lv_topi (fun y130 ey130 => ?_)
  obtain rfl : y130 = 0 := ey130.trans (by decide)
  refine lv_istore_n (lv' := [(1, .int 0), (3, .ref h14), (2, .int 4), (0, .ref h0)]) hx hb dX6_shown_74 rfl hl (by decide) rfl (fun ls hl => ?_)
  refine lv_iinc (v := 5) (lv' := [(2, .int 5), (1, .int 0), (3, .ref h14), (0, .ref h0)]) hx hb dX6_shown_75 hl (k := 2) rfl (by decide) (by decide) rfl (fun ls hl => ?_)
  refine lv_goto (tgt := 4) hx hb dX6_shown_78 (by decide) ?_
  refine lv_iload_n hx hb dX6_shown_4 rfl (lv_at hl 0 rfl) ?_
  refine lv_aload_n hx hb dX6_shown_5 rfl (lv_at hl 3 rfl) ?_
  refine va_get (D := (dC, dI)) (ci := 6) (v := .ref h1) (C := RX6) (T := TX6) (N := 3) hx hb hts in_X6 hown hK hP 0 rfl rfl 0 (by decide) (hts _ q_34) (fun _ h9 => h9) rfl dX6_shown_6 ?_
  refine va_get (D := (dC, dI)) (ci := 2) (v := .ref h3) (C := RX0) (T := TX0) (N := 4) hx hb hts in_X0 hown hK hP 3 rfl rfl 0 (by decide) (hts _ q_83) (fun _ h9 => h9) rfl dX6_shown_9 ?_
  have hM133 := k20_size l hl9 dC dI z h3 h7 H128.size 5 5
  obtain ⟨hF131, hC134⟩ := pc_M hM133 hP hD hK hS hX hT hA [5] [] rfl rfl rfl
  refine va_calli (va_runV (As := []) (rest := [.int 5]) ⟨hx, hb, hml, hown, hts⟩ hM133 (cwV 0 hts (gV q_76 q_77 q_78 q_12 q_75) rfl rfl rfl hV_Jx4a65c_size_8abf5 ⟨Nat.le_of_ble_eq_true rfl, Nat.le_of_ble_eq_true rfl⟩) ⟨pc_blind, va_recv hK hP (ci := 0) (q0 := 5) rfl rfl, fun U hU hW => ⟨rfl, hC134 U hU hW⟩⟩ rfl rfl hl.1 rfl (lv_room (Nat.le_of_ble_eq_true rfl)) dX6_shown_12 ⟨(Nat.le_of_ble_eq_true rfl), (Nat.le_of_ble_eq_true rfl)⟩) hS (fun q9 _ h9 => hF131 q9 h9) hF131 (fun r136 u135 t135 H135 L135 ht135 hvm135 hw135 hB135 hz135 hk135 hS => ?_)
  have hP := pq_keep hP hD [5] rfl hk135 hB135.1 ht135
  have hG : s.heap.size + 0 ≤ H135.size := Nat.le_trans hG hz135
  refine W.eq (g2 := F0 m 15 ls [.int 5, .int 5]) (by rw [hw135]) ?_
  refine lv_icmp_ge (tgt := 81) hx hb dX6_shown_15 (by decide) (fun _ => ?_) (fun cz => absurd (by decide) cz)
  refine lv_iload_n hx hb dX6_shown_81 rfl (lv_at hl 1 rfl) ?_
  exact W.iret (v := 0) hx hb hr (fun t9 ht9 hW9 => ⟨⟨0, (), rfl, rfl, ⟨pq_mk2 hP hD hK [0, 3, 1, 5, 6, 7, 4, 8, 9, 10, 11, 12, 13, 14, 2] [0, 1, 2, 3] rfl rfl rfl ht9 hW9, by rw [ht9]; exact Nat.le_trans (Nat.add_le_add_left (Nat.le_of_ble_eq_true rfl) _) hG⟩⟩, hS.F ht9⟩) hS.2.2 dX6_shown_82

set_option maxHeartbeats 4000000 in
set_option maxRecDepth 100000 in
theorem k618_init (l : Launch) (hl9 : l.stackTraces = false) (dC : Nat → ClassId) (dI : Nat → Nat → Nat) (z : XZ) (h0 h1 : Nat) (o0 : Nat) (sz : Nat) : Met l yJx35411_init_45d68 (.code yJx35411_init_45d68 cJx35411_init_45d68 2 none :: wsL_law) ({ frames := 1, cells := 0, slots := 0, locals := 16 }) (va_Pc [.ref h0, .ref h1] (PC (dC, dI) [(h0, ce42), (h1, ce276 o0)] [] sz z)) (va_Qv (fun (_ : Unit) => True) (fun (_ : Unit) (t : State) => PG (dC, dI) [(h0, ce292 h1), (h1, ce276 o0)] [] (va_A [(h0, ce42), (h1, ce276 o0)] sz) sz 0 t) (va_A [(h0, ce42), (h1, ce276 o0)] sz)) 0 0 (va_A [(h0, ce42), (h1, ce276 o0)] sz) := by
  refine Met.ofW (cc := cJx35411_init_45d68) (maxL := 2) (ret := none) (by decide) rfl ?_
  intro p e s m args below meth c s₁ B hml hv
  obtain ⟨rfl, hsz, hP, hK, hD0, hX, hT⟩ := hv
  have hx := B.exec
  have hb := B.bytes
  have hr := B.returns
  have hts0 := atoms_spec (ws := .code yJx35411_init_45d68 cJx35411_init_45d68 2 none :: wsL_law) B.pre
  have hts := xTail hts0
  have hown : s.vm.findClass RJx35411 = some m.cls := findClass_of_methodNamed B.named
  have hlocks := B.notSynchronized
  have hin : meth.name = "<init>" := (name_of_methodNamed B.named B.method).1
  subst hsz
  have hD := hD0.self (sz := s.heap.size)
  generalize hAe : va_A [(h0, ce42), (h1, ce276 o0)] s.heap.size = A at hD hX ⊢
  have hA : ∀ q : Nat, s.heap.size ≤ q → A q := fun q h => by rw [← hAe]; exact Or.inr h
  have hS : va_S A s.heap s.heap [] := va_S.rf
  have hG : s.heap.size + 0 ≤ s.heap.size := Nat.le_refl _
  have hl := lv_entry ([.ref h0, .ref h1]) (n := 2) (Nat.le_of_ble_eq_true rfl)
  rw [lg_entry_eq]
  generalize (lg_sl ([.ref h0, .ref h1]) ++ List.replicate (2 - (lg_sl ([.ref h0, .ref h1])).length) Slot.unset).toArray = ls at hl ⊢
  have hl : lv_has ls 2 [(0, .ref h0), (1, .ref h1)] := hl
  refine lv_aload_n hx hb dJx35411_init_45d68_0 rfl (lv_at hl 0 rfl) ?_
  refine lv_aload_n hx hb dJx35411_init_45d68_1 rfl (lv_at hl 1 rfl) ?_
  refine va_putF (D := (dC, dI)) (ci := 1) (v := .ref h1) (ty := .object "java/util/ArrayList") (C := RJx35411) (T := TJx35411) (N := 4) hx hb hts in_Jx35411 tyJx35411 tyJx35411_ok nmJx35411 hown hK hP hD (va_Sre hS) 0 rfl rfl 3 (by decide) (hts _ q_247) (fun _ h9 => h9) rfl hin rfl (by decide +kernel) rfl rfl (Nat.le_of_ble_eq_true rfl) dJx35411_init_45d68_2 (fun H1 _ hP hD hS' => ?_)
  have hG : s.heap.size + 0 ≤ H1.size := Nat.le_trans hG hS'.1
  have hS := va_Str hS hS'
  have hP : va_P (dC, dI) xCl [(h0, ce43 h1), (h1, ce276 o0)] H1 := hP
  have hD := vd_as hP hD rfl
  refine lv_aload_n hx hb dJx35411_init_45d68_5 rfl (lv_at hl 0 rfl) ?_
  refine W.objInit hx hb hown (hts _ q_248) (hts _ q_4) (hts _ q_5) rfl (by rw [hml]; exact hl.1) rfl dJx35411_init_45d68_6 (Nat.le_of_ble_eq_true rfl) (Nat.le_of_ble_eq_true rfl) ?_
  refine W.eq (g2 := F0 m 9 ls []) rfl ?_
  refine lv_aload_n hx hb dJx35411_init_45d68_9 rfl (lv_at hl 0 rfl) ?_
  refine lv_iconst (v := (-1)) hx hb dJx35411_init_45d68_10 (by decide) ?_
  refine va_put (D := (dC, dI)) (ci := 1) (v := .int (-1)) (ty := .int) (C := RJx35411) (T := TJx35411) (N := 4) hx hb hts in_Jx35411 tyJx35411 tyJx35411_ok nmJx35411 hown hK hP hD (va_Sre hS) 0 rfl rfl 1 (by decide) (hts _ q_249) (fun _ h9 => h9) rfl (by decide +kernel) rfl rfl (Nat.le_of_ble_eq_true rfl) dJx35411_init_45d68_11 (fun H2 _ hP hD hS' => ?_)
  have hG : s.heap.size + 0 ≤ H2.size := Nat.le_trans hG hS'.1
  have hS := va_Str hS hS'
  have hP : va_P (dC, dI) xCl [(h0, ce44 h1), (h1, ce276 o0)] H2 := hP
  have hD := vd_as hP hD rfl
  refine lv_aload_n hx hb dJx35411_init_45d68_14 rfl (lv_at hl 0 rfl) ?_
  refine lv_aload_n hx hb dJx35411_init_45d68_15 rfl (lv_at hl 0 rfl) ?_
  refine va_get (D := (dC, dI)) (ci := 1) (v := .ref h1) (C := RJx35411) (T := TJx35411) (N := 4) hx hb hts in_Jx35411 hown hK hP 0 rfl rfl 3 (by decide) (hts _ q_247) (fun _ h9 => h9) rfl dJx35411_init_45d68_16 ?_
  refine va_get (D := (dC, dI)) (ci := 0) (v := .int 7) (C := RJx4a65c) (T := TJx4a65c) (N := 3) hx hb hts in_Jx4a65c hown hK hP 1 rfl rfl 0 (by decide) (hts _ q_250) (u_same (hts _ q_107)) rfl dJx35411_init_45d68_19 ?_
  refine va_put (D := (dC, dI)) (ci := 1) (v := .int 7) (ty := .int) (C := RJx35411) (T := TJx35411) (N := 4) hx hb hts in_Jx35411 tyJx35411 tyJx35411_ok nmJx35411 hown hK hP hD (va_Sre hS) 0 rfl rfl 2 (by decide) (hts _ q_251) (fun _ h9 => h9) rfl (by decide +kernel) rfl rfl (Nat.le_of_ble_eq_true rfl) dJx35411_init_45d68_22 (fun H3 _ hP hD hS' => ?_)
  have hG : s.heap.size + 0 ≤ H3.size := Nat.le_trans hG hS'.1
  have hS := va_Str hS hS'
  have hP : va_P (dC, dI) xCl [(h0, ce292 h1), (h1, ce276 o0)] H3 := hP
  have hD := vd_as hP hD rfl
  exact W.vret hx hb hr (fun t9 ht9 hW9 => ⟨⟨(), rfl, trivial, ⟨pq_mk2 hP hD hK [0, 1] [] rfl rfl rfl ht9 hW9, by rw [ht9]; exact Nat.le_trans (Nat.add_le_add_left (Nat.le_of_ble_eq_true rfl) _) hG⟩⟩, hS.F ht9⟩) hS.2.2 dJx35411_init_45d68_25

set_option maxHeartbeats 4000000 in
set_option maxRecDepth 100000 in
theorem k619_iterator (l : Launch) (hl9 : l.stackTraces = false) (dC : Nat → ClassId) (dI : Nat → Nat → Nat) (z : XZ) (h0 : Nat) (o0 : Nat) (sz : Nat) : Met l yJx4a65c_iterator_32c93 (.code yJx4a65c_iterator_32c93 cJx4a65c_iterator_32c93 1 (some (.object "java/util/Iterator")) :: wsL_law) ({ frames := 2, cells := 1, slots := 4, locals := 37 }) (va_Pc [.ref h0] (PC (dC, dI) [(h0, ce276 o0)] [] sz z)) (va_Qr (fun (_ : Unit) => True) (fun (_ : Unit) (ra : Nat) (t : State) => ∃ (n0 : Nat), ra = n0 ∧ PG (dC, dI) [(h0, ce276 o0), (n0, ce292 h0)] [] (va_A [(h0, ce276 o0)] sz) sz 1 t) (va_A [(h0, ce276 o0)] sz)) 1 4 (va_A [(h0, ce276 o0)] sz) := by
  refine Met.ofW (cc := cJx4a65c_iterator_32c93) (maxL := 1) (ret := (some (.object "java/util/Iterator"))) (by decide) rfl ?_
  intro p e s m args below meth c s₁ B hml hv
  obtain ⟨rfl, hsz, hP, hK, hD0, hX, hT⟩ := hv
  have hx := B.exec
  have hb := B.bytes
  have hr := B.returns
  have hts0 := atoms_spec (ws := .code yJx4a65c_iterator_32c93 cJx4a65c_iterator_32c93 1 (some (.object "java/util/Iterator")) :: wsL_law) B.pre
  have hts := xTail hts0
  have hown : s.vm.findClass RJx4a65c = some m.cls := findClass_of_methodNamed B.named
  have hlocks := B.notSynchronized
  subst hsz
  have hD := hD0.self (sz := s.heap.size)
  generalize hAe : va_A [(h0, ce276 o0)] s.heap.size = A at hD hX ⊢
  have hA : ∀ q : Nat, s.heap.size ≤ q → A q := fun q h => by rw [← hAe]; exact Or.inr h
  have hS : va_S A s.heap s.heap [] := va_S.rf
  have hG : s.heap.size + 0 ≤ s.heap.size := Nat.le_refl _
  have hl := lv_entry ([.ref h0]) (n := 1) (Nat.le_of_ble_eq_true rfl)
  rw [lg_entry_eq]
  generalize (lg_sl ([.ref h0]) ++ List.replicate (1 - (lg_sl ([.ref h0])).length) Slot.unset).toArray = ls at hl ⊢
  have hl : lv_has ls 1 [(0, .ref h0)] := hl
  refine xa_new (ci := 1) (fs := [.int 0, .int 0, .int 0, .null]) (C := RJx35411) (T := TJx35411) (N := 4) hx hb hts in_Jx35411 tyJx35411 tyJx35411_ok hown (hts _ q_244) (hts _ q_245) (hts _ q_246) hK hP hD hS hA rfl nf_Jx35411 (Nat.le_of_ble_eq_true rfl) (Nat.le_of_ble_eq_true rfl) dJx4a65c_iterator_32c93_0 (fun a1 H2 hg8 hP hD hS => ?_)
  have hG : s.heap.size + 1 ≤ H2.size := by rw [hg8]; exact Nat.succ_le_succ hG
  have hP : va_P (dC, dI) xCl [(h0, ce276 o0), (a1, ce42)] H2 := hP
  have hD := vd_as hP hD rfl
  refine W.widen (k := 1) (n := 4) (by decide) (by decide) ?_
  refine lv_dup hx hb dJx4a65c_iterator_32c93_3 rfl ?_
  refine lv_aload_n hx hb dJx4a65c_iterator_32c93_4 rfl (lv_at hl 0 rfl) ?_
  have hM5 := k618_init l hl9 dC dI z a1 h0 o0 H2.size
  obtain ⟨hF3, hC6⟩ := pc_M hM5 hP hD hK hS hX hT hA [1, 0] [] rfl rfl rfl
  refine va_callv (va_runI (As := [.ref h0]) (rest := [.ref a1]) ⟨hx, hb, hml, hown, hts⟩ hM5 (cwI 1 hts (gIL q_252) rfl rfl rfl (hts _ q_246) (hts _ q_253) (hts _ q_254) rfl hS_Jx35411_init_45d68 ⟨Nat.le_of_ble_eq_true rfl, Nat.le_of_ble_eq_true rfl⟩) ⟨pc_blind, fun U hU hW => ⟨rfl, hC6 U hU hW⟩⟩ rfl rfl hl.1 rfl (lv_room (Nat.le_of_ble_eq_true rfl)) dJx4a65c_iterator_32c93_5 ⟨(Nat.le_of_ble_eq_true rfl), (Nat.le_of_ble_eq_true rfl)⟩) hS (fun q9 _ h9 => hF3 q9 h9) hF3 (fun u7 t7 H7 L7 ht7 hvm7 hw7 hB7 hz7 hk7 hS => ?_)
  obtain ⟨hP, hD, hK⟩ := pq_jn (wz := [(a1, ce292 h0), (h0, ce276 o0)]) (tz := []) hP hD hK [1, 0] [] rfl hk7 hF3 hB7.1 ht7 hvm7 rfl rfl
  have hG : s.heap.size + 1 ≤ H7.size := Nat.le_trans hG hz7
  exact W.aret (v := .ref a1) hx hb hr (by first | exact Or.inl ⟨_, rfl⟩ | exact Or.inr ⟨_, rfl⟩) (Or.inr ⟨_, rfl⟩) (fun t9 ht9 hW9 => ⟨⟨(), a1, rfl, trivial, ⟨a1, rfl, ⟨pq_mk2 hP hD hK [1, 0] [] rfl rfl rfl ht9 hW9, by rw [ht9]; exact Nat.le_trans (Nat.add_le_add_left (Nat.le_of_ble_eq_true rfl) _) hG⟩⟩⟩, hS.F ht9⟩) hS.2.2 dJx4a65c_iterator_32c93_8

set_option maxHeartbeats 4000000 in
set_option maxRecDepth 100000 in
theorem k620_hasNext (l : Launch) (hl9 : l.stackTraces = false) (dC : Nat → ClassId) (dI : Nat → Nat → Nat) (z : XZ) (h0 h1 : Nat) (o0 : Nat) (sz : Nat) : Met l yJx35411_hasNext_aae02 (.code yJx35411_hasNext_aae02 cJx35411_hasNext_aae02 1 (some .boolean) :: wsL_law) ({ frames := 0, cells := 0, slots := 0, locals := 0 }) (va_Pc [.ref h0] (PC (dC, dI) [(h0, ce292 h1), (h1, ce276 o0)] [] sz z)) (va_Qi (fun (r : Int32) (_ : Unit) => r = 1) (fun (_ : Unit) (t : State) => PG (dC, dI) [(h0, ce292 h1), (h1, ce276 o0)] [] (va_A [(h0, ce292 h1), (h1, ce276 o0)] sz) sz 0 t) (va_A [(h0, ce292 h1), (h1, ce276 o0)] sz)) 0 0 (va_A [(h0, ce292 h1), (h1, ce276 o0)] sz) := by
  refine Met.ofW (cc := cJx35411_hasNext_aae02) (maxL := 1) (ret := (some .boolean)) (by decide) rfl ?_
  intro p e s m args below meth c s₁ B hml hv
  obtain ⟨rfl, hsz, hP, hK, hD0, hX, hT⟩ := hv
  have hx := B.exec
  have hb := B.bytes
  have hr := B.returns
  have hts0 := atoms_spec (ws := .code yJx35411_hasNext_aae02 cJx35411_hasNext_aae02 1 (some .boolean) :: wsL_law) B.pre
  have hts := xTail hts0
  have hown : s.vm.findClass RJx35411 = some m.cls := findClass_of_methodNamed B.named
  have hlocks := B.notSynchronized
  subst hsz
  have hD := hD0.self (sz := s.heap.size)
  generalize hAe : va_A [(h0, ce292 h1), (h1, ce276 o0)] s.heap.size = A at hD hX ⊢
  have hA : ∀ q : Nat, s.heap.size ≤ q → A q := fun q h => by rw [← hAe]; exact Or.inr h
  have hS : va_S A s.heap s.heap [] := va_S.rf
  have hG : s.heap.size + 0 ≤ s.heap.size := Nat.le_refl _
  have hl := lv_entry ([.ref h0]) (n := 1) (Nat.le_of_ble_eq_true rfl)
  rw [lg_entry_eq]
  generalize (lg_sl ([.ref h0]) ++ List.replicate (1 - (lg_sl ([.ref h0])).length) Slot.unset).toArray = ls at hl ⊢
  have hl : lv_has ls 1 [(0, .ref h0)] := hl
  refine lv_aload_n hx hb dJx35411_hasNext_aae02_0 rfl (lv_at hl 0 rfl) ?_
  refine va_get (D := (dC, dI)) (ci := 1) (v := .int 0) (C := RJx35411) (T := TJx35411) (N := 4) hx hb hts in_Jx35411 hown hK hP 0 rfl rfl 0 (by decide) (hts _ q_259) (fun _ h9 => h9) rfl dJx35411_hasNext_aae02_1 ?_
  refine lv_aload_n hx hb dJx35411_hasNext_aae02_4 rfl (lv_at hl 0 rfl) ?_
  refine va_get (D := (dC, dI)) (ci := 1) (v := .ref h1) (C := RJx35411) (T := TJx35411) (N := 4) hx hb hts in_Jx35411 hown hK hP 0 rfl rfl 3 (by decide) (hts _ q_247) (fun _ h9 => h9) rfl dJx35411_hasNext_aae02_5 ?_
  refine va_getN (D := (dC, dI)) (ci := 0) (v := .int 7) (C := RJx4a65c) (T := TJx4a65c) (N := 3) hx hb hts in_Jx4a65c hown hK hP 1 rfl rfl 2 (by decide) (va_Nw.use rfl hT.2.2.2.2.1) (fun _ h9 => h9) rfl dJx35411_hasNext_aae02_8 ?_
  refine lv_icmp_eq (tgt := 18) hx hb dJx35411_hasNext_aae02_11 (by decide) (fun cz => absurd cz (by decide)) (fun _ => ?_)
  refine lv_iconst (v := 1) hx hb dJx35411_hasNext_aae02_14 (by decide) ?_
  refine lv_goto (tgt := 19) hx hb dJx35411_hasNext_aae02_15 (by decide) ?_
  exact W.zret (v := 1) (ty := .boolean) hx hb hr rfl (fun t9 ht9 hW9 => ⟨⟨1, (), rfl, rfl, ⟨pq_mk2 hP hD hK [0, 1] [] rfl rfl rfl ht9 hW9, by rw [ht9]; exact Nat.le_trans (Nat.add_le_add_left (Nat.le_of_ble_eq_true rfl) _) hG⟩⟩, hS.F ht9⟩) hS.2.2 dJx35411_hasNext_aae02_19

set_option maxHeartbeats 4000000 in
set_option maxRecDepth 100000 in
theorem k621_checkForComodification (l : Launch) (hl9 : l.stackTraces = false) (dC : Nat → ClassId) (dI : Nat → Nat → Nat) (z : XZ) (h0 h1 : Nat) (o0 : Nat) (sz : Nat) : Met l yJx35411_checkForComodification_da8c8 (.code yJx35411_checkForComodification_da8c8 cJx35411_checkForComodification_da8c8 1 none :: wsL_law) ({ frames := 0, cells := 0, slots := 0, locals := 0 }) (va_Pc [.ref h0] (PC (dC, dI) [(h0, ce292 h1), (h1, ce276 o0)] [] sz z)) (va_Qv (fun (_ : Unit) => True) (fun (_ : Unit) (t : State) => PG (dC, dI) [(h0, ce292 h1), (h1, ce276 o0)] [] (va_A [(h0, ce292 h1), (h1, ce276 o0)] sz) sz 0 t) (va_A [(h0, ce292 h1), (h1, ce276 o0)] sz)) 0 0 (va_A [(h0, ce292 h1), (h1, ce276 o0)] sz) := by
  refine Met.ofW (cc := cJx35411_checkForComodification_da8c8) (maxL := 1) (ret := none) (by decide) rfl ?_
  intro p e s m args below meth c s₁ B hml hv
  obtain ⟨rfl, hsz, hP, hK, hD0, hX, hT⟩ := hv
  have hx := B.exec
  have hb := B.bytes
  have hr := B.returns
  have hts0 := atoms_spec (ws := .code yJx35411_checkForComodification_da8c8 cJx35411_checkForComodification_da8c8 1 none :: wsL_law) B.pre
  have hts := xTail hts0
  have hown : s.vm.findClass RJx35411 = some m.cls := findClass_of_methodNamed B.named
  have hlocks := B.notSynchronized
  subst hsz
  have hD := hD0.self (sz := s.heap.size)
  generalize hAe : va_A [(h0, ce292 h1), (h1, ce276 o0)] s.heap.size = A at hD hX ⊢
  have hA : ∀ q : Nat, s.heap.size ≤ q → A q := fun q h => by rw [← hAe]; exact Or.inr h
  have hS : va_S A s.heap s.heap [] := va_S.rf
  have hG : s.heap.size + 0 ≤ s.heap.size := Nat.le_refl _
  have hl := lv_entry ([.ref h0]) (n := 1) (Nat.le_of_ble_eq_true rfl)
  rw [lg_entry_eq]
  generalize (lg_sl ([.ref h0]) ++ List.replicate (1 - (lg_sl ([.ref h0])).length) Slot.unset).toArray = ls at hl ⊢
  have hl : lv_has ls 1 [(0, .ref h0)] := hl
  refine lv_aload_n hx hb dJx35411_checkForComodification_da8c8_0 rfl (lv_at hl 0 rfl) ?_
  refine va_get (D := (dC, dI)) (ci := 1) (v := .ref h1) (C := RJx35411) (T := TJx35411) (N := 4) hx hb hts in_Jx35411 hown hK hP 0 rfl rfl 3 (by decide) (hts _ q_247) (fun _ h9 => h9) rfl dJx35411_checkForComodification_da8c8_1 ?_
  refine va_get (D := (dC, dI)) (ci := 0) (v := .int 7) (C := RJx4a65c) (T := TJx4a65c) (N := 3) hx hb hts in_Jx4a65c hown hK hP 1 rfl rfl 0 (by decide) (hts _ q_250) (u_same (hts _ q_107)) rfl dJx35411_checkForComodification_da8c8_4 ?_
  refine lv_aload_n hx hb dJx35411_checkForComodification_da8c8_7 rfl (lv_at hl 0 rfl) ?_
  refine va_get (D := (dC, dI)) (ci := 1) (v := .int 7) (C := RJx35411) (T := TJx35411) (N := 4) hx hb hts in_Jx35411 hown hK hP 0 rfl rfl 2 (by decide) (hts _ q_251) (fun _ h9 => h9) rfl dJx35411_checkForComodification_da8c8_8 ?_
  refine lv_icmp_eq (tgt := 22) hx hb dJx35411_checkForComodification_da8c8_11 (by decide) (fun _ => ?_) (fun cz => absurd (by decide) cz)
  exact W.vret hx hb hr (fun t9 ht9 hW9 => ⟨⟨(), rfl, trivial, ⟨pq_mk2 hP hD hK [0, 1] [] rfl rfl rfl ht9 hW9, by rw [ht9]; exact Nat.le_trans (Nat.add_le_add_left (Nat.le_of_ble_eq_true rfl) _) hG⟩⟩, hS.F ht9⟩) hS.2.2 dJx35411_checkForComodification_da8c8_22

set_option maxHeartbeats 4000000 in
set_option maxRecDepth 100000 in
theorem k622_next (l : Launch) (hl9 : l.stackTraces = false) (dC : Nat → ClassId) (dI : Nat → Nat → Nat) (z : XZ) (h0 h1 h2 : Nat) (sz : Nat) (kc0 : ClassId) : Met l yJx35411_next_0502b (.code yJx35411_next_0502b cJx35411_next_0502b 3 (some (.object "java/lang/Object")) :: wsL_law) ({ frames := 1, cells := 0, slots := 0, locals := 20 }) (va_Pc [.ref h0] (PC (dC, dI) [(h0, ce292 h1), (h1, ce276 h2), (h2, ce275 kc0 (z.2.2.1 128) (z.2.2.1 128) (z.2.2.1 128) (z.2.2.1 128) (z.2.2.1 128) (z.2.2.1 128) (z.2.2.1 128))] [(kc0, .object "java/lang/Object")] sz z)) (va_Qr (fun (_ : Unit) => True) (fun (_ : Unit) (ra : Nat) (t : State) => ra = (z.2.2.1 128) ∧ PG (dC, dI) [(h0, ce294 h1), (h1, ce276 h2), (h2, ce275 kc0 (z.2.2.1 128) (z.2.2.1 128) (z.2.2.1 128) (z.2.2.1 128) (z.2.2.1 128) (z.2.2.1 128) (z.2.2.1 128))] [(kc0, .object "java/lang/Object")] (va_A [(h0, ce292 h1), (h1, ce276 h2), (h2, ce275 kc0 (z.2.2.1 128) (z.2.2.1 128) (z.2.2.1 128) (z.2.2.1 128) (z.2.2.1 128) (z.2.2.1 128) (z.2.2.1 128))] sz) sz 0 t) (va_A [(h0, ce292 h1), (h1, ce276 h2), (h2, ce275 kc0 (z.2.2.1 128) (z.2.2.1 128) (z.2.2.1 128) (z.2.2.1 128) (z.2.2.1 128) (z.2.2.1 128) (z.2.2.1 128))] sz)) 0 0 (va_A [(h0, ce292 h1), (h1, ce276 h2), (h2, ce275 kc0 (z.2.2.1 128) (z.2.2.1 128) (z.2.2.1 128) (z.2.2.1 128) (z.2.2.1 128) (z.2.2.1 128) (z.2.2.1 128))] sz) := by
  refine Met.ofW (cc := cJx35411_next_0502b) (maxL := 3) (ret := (some (.object "java/lang/Object"))) (by decide) rfl ?_
  intro p e s m args below meth c s₁ B hml hv
  obtain ⟨rfl, hsz, hP, hK, hD0, hX, hT⟩ := hv
  have hx := B.exec
  have hb := B.bytes
  have hr := B.returns
  have hts0 := atoms_spec (ws := .code yJx35411_next_0502b cJx35411_next_0502b 3 (some (.object "java/lang/Object")) :: wsL_law) B.pre
  have hts := xTail hts0
  have hown : s.vm.findClass RJx35411 = some m.cls := findClass_of_methodNamed B.named
  have hlocks := B.notSynchronized
  subst hsz
  have hD := hD0.self (sz := s.heap.size)
  generalize hAe : va_A [(h0, ce292 h1), (h1, ce276 h2), (h2, ce275 kc0 (z.2.2.1 128) (z.2.2.1 128) (z.2.2.1 128) (z.2.2.1 128) (z.2.2.1 128) (z.2.2.1 128) (z.2.2.1 128))] s.heap.size = A at hD hX ⊢
  have hA : ∀ q : Nat, s.heap.size ≤ q → A q := fun q h => by rw [← hAe]; exact Or.inr h
  have hS : va_S A s.heap s.heap [] := va_S.rf
  have hG : s.heap.size + 0 ≤ s.heap.size := Nat.le_refl _
  have hl := lv_entry ([.ref h0]) (n := 3) (Nat.le_of_ble_eq_true rfl)
  rw [lg_entry_eq]
  generalize (lg_sl ([.ref h0]) ++ List.replicate (3 - (lg_sl ([.ref h0])).length) Slot.unset).toArray = ls at hl ⊢
  have hl : lv_has ls 3 [(0, .ref h0)] := hl
  refine lv_aload_n hx hb dJx35411_next_0502b_0 rfl (lv_at hl 0 rfl) ?_
  have hM3 := k621_checkForComodification l hl9 dC dI z h0 h1 h2 s.heap.size
  obtain ⟨hF1, hC4⟩ := pc_M hM3 hP hD hK hS hX hT hA [0, 1] [] rfl rfl rfl
  refine va_callv (va_runV (As := []) (rest := []) ⟨hx, hb, hml, hown, hts⟩ hM3 (cwV 0 hts (gV q_303 q_304 q_305 q_246 q_302) rfl rfl rfl hV_Jx35411_checkForComodification_da8c8 ⟨Nat.le_of_ble_eq_true rfl, Nat.le_of_ble_eq_true rfl⟩) ⟨pc_blind, va_recv hK hP (ci := 1) (q0 := 0) rfl rfl, fun U hU hW => ⟨rfl, hC4 U hU hW⟩⟩ rfl rfl hl.1 rfl (lv_room (Nat.le_of_ble_eq_true rfl)) dJx35411_next_0502b_1 ⟨(Nat.le_of_ble_eq_true rfl), (Nat.le_of_ble_eq_true rfl)⟩) hS (fun q9 _ h9 => hF1 q9 h9) hF1 (fun u5 t5 H5 L5 ht5 hvm5 hw5 hB5 hz5 hk5 hS => ?_)
  have hP := pq_keep hP hD [0, 1] rfl hk5 hB5.1 ht5
  have hG : s.heap.size + 0 ≤ H5.size := Nat.le_trans hG hz5
  refine lv_aload_n hx hb dJx35411_next_0502b_4 rfl (lv_at hl 0 rfl) ?_
  refine va_get (D := (dC, dI)) (ci := 1) (v := .int 0) (C := RJx35411) (T := TJx35411) (N := 4) hx hb hts in_Jx35411 hown hK hP 0 rfl rfl 0 (by decide) (hts _ q_259) (fun _ h9 => h9) rfl dJx35411_next_0502b_5 ?_
  refine lv_istore_n (lv' := [(1, .int 0), (0, .ref h0)]) hx hb dJx35411_next_0502b_8 rfl hl (by decide) rfl (fun ls hl => ?_)
  refine lv_iload_n hx hb dJx35411_next_0502b_9 rfl (lv_at hl 0 rfl) ?_
  refine lv_aload_n hx hb dJx35411_next_0502b_10 rfl (lv_at hl 1 rfl) ?_
  refine va_get (D := (dC, dI)) (ci := 1) (v := .ref h1) (C := RJx35411) (T := TJx35411) (N := 4) hx hb hts in_Jx35411 hown hK hP 0 rfl rfl 3 (by decide) (hts _ q_247) (fun _ h9 => h9) rfl dJx35411_next_0502b_11 ?_
  refine va_getN (D := (dC, dI)) (ci := 0) (v := .int 7) (C := RJx4a65c) (T := TJx4a65c) (N := 3) hx hb hts in_Jx4a65c hown hK hP 1 rfl rfl 2 (by decide) (va_Nw.use rfl hT.2.2.2.2.1) (fun _ h9 => h9) rfl dJx35411_next_0502b_14 ?_
  refine lv_icmp_lt (tgt := 28) hx hb dJx35411_next_0502b_17 (by decide) (fun _ => ?_) (fun cz => absurd (by decide) cz)
  refine lv_aload_n hx hb dJx35411_next_0502b_28 rfl (lv_at hl 1 rfl) ?_
  refine va_get (D := (dC, dI)) (ci := 1) (v := .ref h1) (C := RJx35411) (T := TJx35411) (N := 4) hx hb hts in_Jx35411 hown hK hP 0 rfl rfl 3 (by decide) (hts _ q_247) (fun _ h9 => h9) rfl dJx35411_next_0502b_29 ?_
  refine va_get (D := (dC, dI)) (ci := 0) (v := .ref h2) (C := RJx4a65c) (T := TJx4a65c) (N := 3) hx hb hts in_Jx4a65c hown hK hP 1 rfl rfl 1 (by decide) (hts _ q_306) (fun _ h9 => h9) rfl dJx35411_next_0502b_32 ?_
  refine lv_astore_n (lv' := [(2, .ref h2), (1, .int 0), (0, .ref h0)]) hx hb dJx35411_next_0502b_35 rfl hl (by decide) rfl (fun ls hl => ?_)
  refine lv_iload_n hx hb dJx35411_next_0502b_36 rfl (lv_at hl 1 rfl) ?_
  refine lv_aload_n hx hb dJx35411_next_0502b_37 rfl (lv_at hl 0 rfl) ?_
  refine va_alen hx hb hK hP 2 0 rfl rfl (v := 10) rfl dJx35411_next_0502b_38 ?_
  refine lv_icmp_lt (tgt := 50) hx hb dJx35411_next_0502b_39 (by decide) (fun _ => ?_) (fun cz => absurd (by decide) cz)
  refine lv_aload_n hx hb dJx35411_next_0502b_50 rfl (lv_at hl 2 rfl) ?_
  refine lv_iload_n hx hb dJx35411_next_0502b_51 rfl (lv_at hl 1 rfl) ?_
  refine lv_iconst (v := 1) hx hb dJx35411_next_0502b_52 (by decide) ?_
  refine lv_iadd hx hb dJx35411_next_0502b_53 ?_
  refine lv_topi (fun y7 ey7 => ?_)
  obtain rfl : y7 = 1 := ey7.trans (by decide)
  refine va_put (D := (dC, dI)) (ci := 1) (v := .int 1) (ty := .int) (C := RJx35411) (T := TJx35411) (N := 4) hx hb hts in_Jx35411 tyJx35411 tyJx35411_ok nmJx35411 hown hK hP hD (va_Sre hS) 0 rfl rfl 0 (by decide) (hts _ q_259) (fun _ h9 => h9) rfl (by decide +kernel) rfl rfl (Nat.le_of_ble_eq_true rfl) dJx35411_next_0502b_54 (fun H8 _ hP hD hS' => ?_)
  have hG : s.heap.size + 0 ≤ H8.size := Nat.le_trans hG hS'.1
  have hS := va_Str hS hS'
  have hP : va_P (dC, dI) xCl [(h0, ce293 h1), (h1, ce276 h2), (h2, ce275 kc0 (z.2.2.1 128) (z.2.2.1 128) (z.2.2.1 128) (z.2.2.1 128) (z.2.2.1 128) (z.2.2.1 128) (z.2.2.1 128))] H8 := hP
  have hD := vd_as hP hD rfl
  refine lv_aload_n hx hb dJx35411_next_0502b_57 rfl (lv_at hl 0 rfl) ?_
  refine lv_aload_n hx hb dJx35411_next_0502b_58 rfl (lv_at hl 2 rfl) ?_
  refine lv_iload_n hx hb dJx35411_next_0502b_59 rfl (lv_at hl 1 rfl) ?_
  refine lv_dup_x1 hx hb dJx35411_next_0502b_60 rfl rfl ?_
  refine va_put (D := (dC, dI)) (ci := 1) (v := .int 0) (ty := .int) (C := RJx35411) (T := TJx35411) (N := 4) hx hb hts in_Jx35411 tyJx35411 tyJx35411_ok nmJx35411 hown hK hP hD (va_Sre hS) 0 rfl rfl 1 (by decide) (hts _ q_249) (fun _ h9 => h9) rfl (by decide +kernel) rfl rfl (Nat.le_of_ble_eq_true rfl) dJx35411_next_0502b_61 (fun H9 _ hP hD hS' => ?_)
  have hG : s.heap.size + 0 ≤ H9.size := Nat.le_trans hG hS'.1
  have hS := va_Str hS hS'
  have hP : va_P (dC, dI) xCl [(h0, ce294 h1), (h1, ce276 h2), (h2, ce275 kc0 (z.2.2.1 128) (z.2.2.1 128) (z.2.2.1 128) (z.2.2.1 128) (z.2.2.1 128) (z.2.2.1 128) (z.2.2.1 128))] H9 := hP
  have hD := vd_as hP hD rfl
  refine va_aldq hx hb hK hP 2 0 rfl rfl (i := 0) (by unfold vp_in; decide) dJx35411_next_0502b_64 ?_
  refine W.eq (g2 := F0 m 65 ls [.ref (z.2.2.1 128)]) rfl ?_
  exact W.aret (v := .ref (z.2.2.1 128)) hx hb hr (by first | exact Or.inl ⟨_, rfl⟩ | exact Or.inr ⟨_, rfl⟩) (Or.inr ⟨_, rfl⟩) (fun t9 ht9 hW9 => ⟨⟨(), (z.2.2.1 128), rfl, trivial, ⟨rfl, ⟨pq_mk2 hP hD hK [0, 1, 2] [0] rfl rfl rfl ht9 hW9, by rw [ht9]; exact Nat.le_trans (Nat.add_le_add_left (Nat.le_of_ble_eq_true rfl) _) hG⟩⟩⟩, hS.F ht9⟩) hS.2.2 dJx35411_next_0502b_65

set_option maxHeartbeats 4000000 in
set_option maxRecDepth 100000 in
theorem k623_valuesOf (l : Launch) (hl9 : l.stackTraces = false) (dC : Nat → ClassId) (dI : Nat → Nat → Nat) (z : XZ) (h0 h1 h2 h3 h4 h5 h6 h7 : Nat) (o0 o1 o2 : Nat) (sz : Nat) (kc0 : ClassId) : Met l yX9_valuesOf (.code yX9_valuesOf cX9_valuesOf 5 (some (.array .char)) :: wsL_law) ({ frames := 3, cells := 1, slots := 40, locals := 64 }) (va_Pc [.ref h0, .int 0] (PC (dC, dI) [(h0, ce21 h1 o0 o1 o2), (h1, ce201 h2), (h2, ce200 kc0 h3 h4 h5 h6 h7), (h3, ce49), (h4, ce49), (h5, ce49), (h6, ce49), (h7, ce49)] [(kc0, .object "java/lang/Object")] sz z)) (va_Qr (fun (_ : Unit) => True) (fun (_ : Unit) (ra : Nat) (t : State) => ∃ (n0 : Nat), ∃ (m0 : ClassId), ra = n0 ∧ PG (dC, dI) [(h0, ce21 h1 o0 o1 o2), (h1, ce201 h2), (h2, ce200 kc0 h3 h4 h5 h6 h7), (h3, ce49), (h4, ce49), (h5, ce49), (h6, ce49), (h7, ce49), (n0, ce299 m0)] [(kc0, .object "java/lang/Object"), (m0, .char)] (va_A [(h0, ce21 h1 o0 o1 o2), (h1, ce201 h2), (h2, ce200 kc0 h3 h4 h5 h6 h7), (h3, ce49), (h4, ce49), (h5, ce49), (h6, ce49), (h7, ce49)] sz) sz 1 t) (va_A [(h0, ce21 h1 o0 o1 o2), (h1, ce201 h2), (h2, ce200 kc0 h3 h4 h5 h6 h7), (h3, ce49), (h4, ce49), (h5, ce49), (h6, ce49), (h7, ce49)] sz)) 1 40 (va_A [(h0, ce21 h1 o0 o1 o2), (h1, ce201 h2), (h2, ce200 kc0 h3 h4 h5 h6 h7), (h3, ce49), (h4, ce49), (h5, ce49), (h6, ce49), (h7, ce49)] sz) := by
  refine Met.ofW (cc := cX9_valuesOf) (maxL := 5) (ret := (some (.array .char))) (by decide) rfl ?_
  intro p e s m args below meth c s₁ B hml hv
  obtain ⟨rfl, hsz, hP, hK, hD0, hX, hT⟩ := hv
  have hx := B.exec
  have hb := B.bytes
  have hr := B.returns
  have hts0 := atoms_spec (ws := .code yX9_valuesOf cX9_valuesOf 5 (some (.array .char)) :: wsL_law) B.pre
  have hts := xTail hts0
  have hown : s.vm.findClass RX9 = some m.cls := findClass_of_methodNamed B.named
  have hlocks := B.notSynchronized
  subst hsz
  have hD := hD0.self (sz := s.heap.size)
  generalize hAe : va_A [(h0, ce21 h1 o0 o1 o2), (h1, ce201 h2), (h2, ce200 kc0 h3 h4 h5 h6 h7), (h3, ce49), (h4, ce49), (h5, ce49), (h6, ce49), (h7, ce49)] s.heap.size = A at hD hX ⊢
  have hA : ∀ q : Nat, s.heap.size ≤ q → A q := fun q h => by rw [← hAe]; exact Or.inr h
  have hS : va_S A s.heap s.heap [] := va_S.rf
  have hG : s.heap.size + 0 ≤ s.heap.size := Nat.le_refl _
  have hl := lv_entry ([.ref h0, .int 0]) (n := 5) (Nat.le_of_ble_eq_true rfl)
  rw [lg_entry_eq]
  generalize (lg_sl ([.ref h0, .int 0]) ++ List.replicate (5 - (lg_sl ([.ref h0, .int 0])).length) Slot.unset).toArray = ls at hl ⊢
  have hl : lv_has ls 5 [(0, .ref h0), (1, .int 0)] := hl
  refine lv_bipush (v := 40) hx hb dX9_valuesOf_0 (by decide) ?_
  refine xa_newa (atype := .char) hx hb (hts _ q_314) rfl hK hP hD hS hA (n := 40) (N' := 40) (a0 := (40, .inl (fun _ => 0))) (fun _ => rfl) (by decide) (by decide) (Nat.le_of_ble_eq_true rfl) (Nat.le_of_ble_eq_true rfl) (Nat.le_of_ble_eq_true rfl) dX9_valuesOf_2 (fun a1 k2 H3 hg8 hK hP hD hS => ?_)
  have hG : s.heap.size + 1 ≤ H3.size := by rw [hg8]; exact Nat.succ_le_succ hG
  have hK : va_K (dC, dI) xCl [(kc0, .object "java/lang/Object"), (k2, .char)] s := hK
  have hP : va_P (dC, dI) xCl [(h0, ce21 h1 o0 o1 o2), (h1, ce201 h2), (h2, ce200 kc0 h3 h4 h5 h6 h7), (h3, ce49), (h4, ce49), (h5, ce49), (h6, ce49), (h7, ce49), (a1, ce51 k2)] H3 := hP
  have hD := vd_as hP hD rfl
  refine W.widen (k := 1) (n := 40) (by decide) (by decide) ?_
  refine lv_astore_n (lv' := [(2, .ref a1), (0, .ref h0), (1, .int 0)]) hx hb dX9_valuesOf_4 rfl hl (by decide) rfl (fun ls hl => ?_)
  refine lv_iconst (v := 0) hx hb dX9_valuesOf_5 (by decide) ?_
  refine lv_istore_n (lv' := [(3, .int 0), (2, .ref a1), (0, .ref h0), (1, .int 0)]) hx hb dX9_valuesOf_6 rfl hl (by decide) rfl (fun ls hl => ?_)
  refine lv_iconst (v := 0) hx hb dX9_valuesOf_7 (by decide) ?_
  refine lv_istore (lv' := [(4, .int 0), (3, .int 0), (2, .ref a1), (0, .ref h0), (1, .int 0)]) hx hb dX9_valuesOf_8 hl (by decide) rfl (fun ls hl => ?_)
  refine lv_iload hx hb dX9_valuesOf_10 (lv_at hl 0 rfl) ?_
  refine lv_aload_n hx hb dX9_valuesOf_12 rfl (lv_at hl 3 rfl) ?_
  refine va_get (D := (dC, dI)) (ci := 8) (v := .ref h1) (C := RX9) (T := TX9) (N := 6) hx hb hts in_X9 hown hK hP 0 rfl rfl 1 (by decide) (hts _ q_64) (fun _ h9 => h9) rfl dX9_valuesOf_13 ?_
  have hM6 := k20_size l hl9 dC dI z h1 h2 H3.size 5 5
  obtain ⟨hF4, hC7⟩ := pc_M hM6 hP hD hK hS hX hT hA [1] [] rfl rfl rfl
  refine va_calli (va_runV (As := []) (rest := [.int 0]) ⟨hx, hb, hml, hown, hts⟩ hM6 (cwV 0 hts (gV q_272 q_77 q_78 q_12 q_75) rfl rfl rfl hV_Jx4a65c_size_8abf5 ⟨Nat.le_of_ble_eq_true rfl, Nat.le_of_ble_eq_true rfl⟩) ⟨pc_blind, va_recv hK hP (ci := 0) (q0 := 1) rfl rfl, fun U hU hW => ⟨rfl, hC7 U hU hW⟩⟩ rfl rfl hl.1 rfl (lv_room (Nat.le_of_ble_eq_true rfl)) dX9_valuesOf_16 ⟨(Nat.le_of_ble_eq_true rfl), (Nat.le_of_ble_eq_true rfl)⟩) hS (fun q9 _ h9 => hF4 q9 h9) hF4 (fun r9 u8 t8 H8 L8 ht8 hvm8 hw8 hB8 hz8 hk8 hS => ?_)
  have hP := pq_keep hP hD [1] rfl hk8 hB8.1 ht8
  have hG : s.heap.size + 1 ≤ H8.size := Nat.le_trans hG hz8
  refine W.eq (g2 := F0 m 19 ls [.int 5, .int 0]) (by rw [hw8]) ?_
  refine lv_icmp_ge (tgt := 69) hx hb dX9_valuesOf_19 (by decide) (fun cz => absurd cz (by decide)) (fun _ => ?_)
  refine lv_aload_n hx hb dX9_valuesOf_22 rfl (lv_at hl 3 rfl) ?_
  refine va_get (D := (dC, dI)) (ci := 8) (v := .ref h1) (C := RX9) (T := TX9) (N := 6) hx hb hts in_X9 hown hK hP 0 rfl rfl 1 (by decide) (hts _ q_64) (fun _ h9 => h9) rfl dX9_valuesOf_23 ?_
  refine lv_iload hx hb dX9_valuesOf_26 (lv_at hl 0 rfl) ?_
  have hM12 := k368_get l hl9 dC dI z h1 h2 h3 h4 h5 h6 h7 H8.size kc0
  obtain ⟨hF10, hC13⟩ := pc_M hM12 hP hD hK hS hX hT hA [1, 2] [0] rfl rfl rfl
  refine va_callr (va_runV (As := [.int 0]) (rest := []) ⟨hx, hb, hml, hown, hts⟩ hM12 (cwV 1 hts (gV q_315 q_157 q_158 q_12 q_155) rfl rfl rfl hV_Jx4a65c_get_915e3 ⟨Nat.le_of_ble_eq_true rfl, Nat.le_of_ble_eq_true rfl⟩) ⟨pc_blind, va_recv hK hP (ci := 0) (q0 := 1) rfl rfl, fun U hU hW => ⟨rfl, hC13 U hU hW⟩⟩ rfl rfl hl.1 rfl (lv_room (Nat.le_of_ble_eq_true rfl)) dX9_valuesOf_28 ⟨(Nat.le_of_ble_eq_true rfl), (Nat.le_of_ble_eq_true rfl)⟩) hS (fun q9 _ h9 => hF10 q9 h9) hF10 (fun u14 r15 t14 H14 L14 ht14 hvm14 hw14 hB14 hz14 hk14 hS => ?_)
  obtain ⟨hr14, hB14⟩ := hB14
  have hP := pq_keep hP hD [1, 2] rfl hk14 hB14.1 ht14
  have hG : s.heap.size + 1 ≤ H14.size := Nat.le_trans hG hz14
  refine W.eq (g2 := F0 m 31 ls [.ref h3]) (by rw [hr14]) ?_
  refine va_castE (nm := RX8) hx hb hown (hts _ q_273) (va_recv hK hP (ci := 7) (q0 := 3) rfl rfl) dX9_valuesOf_31 ?_
  have hM18 := k121_isSource l hl9 dC dI z h3 H14.size
  obtain ⟨hF16, hC19⟩ := pc_M hM18 hP hD hK hS hX hT hA [3] [] rfl rfl rfl
  refine va_calli (va_runV (As := []) (rest := []) ⟨hx, hb, hml, hown, hts⟩ hM18 (cwV 0 hts (gV q_344 q_345 q_346 q_275 q_343) rfl rfl rfl hV_X8_isSource ⟨Nat.le_of_ble_eq_true rfl, Nat.le_of_ble_eq_true rfl⟩) ⟨pc_blind, va_recv hK hP (ci := 7) (q0 := 3) rfl rfl, fun U hU hW => ⟨rfl, hC19 U hU hW⟩⟩ rfl rfl hl.1 rfl (lv_room (Nat.le_of_ble_eq_true rfl)) dX9_valuesOf_34 ⟨(Nat.le_of_ble_eq_true rfl), (Nat.le_of_ble_eq_true rfl)⟩) hS (fun q9 _ h9 => hF16 q9 h9) hF16 (fun r21 u20 t20 H20 L20 ht20 hvm20 hw20 hB20 hz20 hk20 hS => ?_)
  have hP := pq_keep hP hD [3] rfl hk20 hB20.1 ht20
  have hG : s.heap.size + 1 ≤ H20.size := Nat.le_trans hG hz20
  refine W.eq (g2 := F0 m 37 ls [.int 1]) (by rw [hw20]) ?_
  refine lv_if_eq (tgt := 63) hx hb dX9_valuesOf_37 (by decide) (fun cz => absurd cz (by decide)) (fun _ => ?_)
  refine lv_aload_n hx hb dX9_valuesOf_40 rfl (lv_at hl 2 rfl) ?_
  refine lv_iload hx hb dX9_valuesOf_41 (lv_at hl 0 rfl) ?_
  refine lv_iload_n hx hb dX9_valuesOf_43 rfl (lv_at hl 4 rfl) ?_
  refine lv_iload_n hx hb dX9_valuesOf_44 rfl (lv_at hl 1 rfl) ?_
  refine lv_ishr hx hb dX9_valuesOf_45 ?_
  refine lv_topi (fun y22 ey22 => ?_)
  obtain rfl : y22 = 0 := ey22.trans (by decide)
  refine lv_iconst (v := 1) hx hb dX9_valuesOf_46 (by decide) ?_
  refine lv_iand hx hb dX9_valuesOf_47 ?_
  refine lv_topi (fun y23 ey23 => ?_)
  obtain rfl : y23 = 0 := ey23.trans (by decide)
  refine lv_iconst (v := 1) hx hb dX9_valuesOf_48 (by decide) ?_
  refine lv_icmp_ne (tgt := 57) hx hb dX9_valuesOf_49 (by decide) (fun _ => ?_) (fun cz => absurd cz (by decide))
  refine lv_bipush (v := 48) hx hb dX9_valuesOf_57 (by decide) ?_
  refine va_cast hx hb hK hP hD (va_Sre hS) 8 1 rfl rfl (i := 0) (by unfold vp_in; decide) dX9_valuesOf_59 (fun H24 _ hP hD hS' => ?_)
  have hG : s.heap.size + 1 ≤ H24.size := Nat.le_trans hG hS'.1
  have hS := va_Str hS hS'
  have hP : va_P (dC, dI) xCl [(h0, ce21 h1 o0 o1 o2), (h1, ce201 h2), (h2, ce200 kc0 h3 h4 h5 h6 h7), (h3, ce49), (h4, ce49), (h5, ce49), (h6, ce49), (h7, ce49), (a1, ce295 k2)] H24 := hP
  have hD := vd_as hP hD rfl
  refine lv_iinc (v := 1) (lv' := [(3, .int 1), (4, .int 0), (2, .ref a1), (0, .ref h0), (1, .int 0)]) hx hb dX9_valuesOf_60 hl (k := 1) rfl (by decide) (by decide) rfl (fun ls hl => ?_)
  refine lv_iinc (v := 1) (lv' := [(4, .int 1), (3, .int 1), (2, .ref a1), (0, .ref h0), (1, .int 0)]) hx hb dX9_valuesOf_63 hl (k := 1) rfl (by decide) (by decide) rfl (fun ls hl => ?_)
  refine lv_goto (tgt := 10) hx hb dX9_valuesOf_66 (by decide) ?_
  refine lv_iload hx hb dX9_valuesOf_10 (lv_at hl 0 rfl) ?_
  refine lv_aload_n hx hb dX9_valuesOf_12 rfl (lv_at hl 3 rfl) ?_
  refine va_get (D := (dC, dI)) (ci := 8) (v := .ref h1) (C := RX9) (T := TX9) (N := 6) hx hb hts in_X9 hown hK hP 0 rfl rfl 1 (by decide) (hts _ q_64) (fun _ h9 => h9) rfl dX9_valuesOf_13 ?_
  have hM27 := k20_size l hl9 dC dI z h1 h2 H24.size 5 5
  obtain ⟨hF25, hC28⟩ := pc_M hM27 hP hD hK hS hX hT hA [1] [] rfl rfl rfl
  refine va_calli (va_runV (As := []) (rest := [.int 1]) ⟨hx, hb, hml, hown, hts⟩ hM27 (cwV 0 hts (gV q_272 q_77 q_78 q_12 q_75) rfl rfl rfl hV_Jx4a65c_size_8abf5 ⟨Nat.le_of_ble_eq_true rfl, Nat.le_of_ble_eq_true rfl⟩) ⟨pc_blind, va_recv hK hP (ci := 0) (q0 := 1) rfl rfl, fun U hU hW => ⟨rfl, hC28 U hU hW⟩⟩ rfl rfl hl.1 rfl (lv_room (Nat.le_of_ble_eq_true rfl)) dX9_valuesOf_16 ⟨(Nat.le_of_ble_eq_true rfl), (Nat.le_of_ble_eq_true rfl)⟩) hS (fun q9 _ h9 => hF25 q9 h9) hF25 (fun r30 u29 t29 H29 L29 ht29 hvm29 hw29 hB29 hz29 hk29 hS => ?_)
  have hP := pq_keep hP hD [1] rfl hk29 hB29.1 ht29
  have hG : s.heap.size + 1 ≤ H29.size := Nat.le_trans hG hz29
  refine W.eq (g2 := F0 m 19 ls [.int 5, .int 1]) (by rw [hw29]) ?_
  refine lv_icmp_ge (tgt := 69) hx hb dX9_valuesOf_19 (by decide) (fun cz => absurd cz (by decide)) (fun _ => ?_)
  refine lv_aload_n hx hb dX9_valuesOf_22 rfl (lv_at hl 3 rfl) ?_
  refine va_get (D := (dC, dI)) (ci := 8) (v := .ref h1) (C := RX9) (T := TX9) (N := 6) hx hb hts in_X9 hown hK hP 0 rfl rfl 1 (by decide) (hts _ q_64) (fun _ h9 => h9) rfl dX9_valuesOf_23 ?_
  refine lv_iload hx hb dX9_valuesOf_26 (lv_at hl 0 rfl) ?_
  have hM33 := k372_get l hl9 dC dI z h1 h2 h3 h4 h5 h6 h7 H29.size kc0
  obtain ⟨hF31, hC34⟩ := pc_M hM33 hP hD hK hS hX hT hA [1, 2] [0] rfl rfl rfl
  refine va_callr (va_runV (As := [.int 1]) (rest := []) ⟨hx, hb, hml, hown, hts⟩ hM33 (cwV 1 hts (gV q_315 q_157 q_158 q_12 q_155) rfl rfl rfl hV_Jx4a65c_get_915e3 ⟨Nat.le_of_ble_eq_true rfl, Nat.le_of_ble_eq_true rfl⟩) ⟨pc_blind, va_recv hK hP (ci := 0) (q0 := 1) rfl rfl, fun U hU hW => ⟨rfl, hC34 U hU hW⟩⟩ rfl rfl hl.1 rfl (lv_room (Nat.le_of_ble_eq_true rfl)) dX9_valuesOf_28 ⟨(Nat.le_of_ble_eq_true rfl), (Nat.le_of_ble_eq_true rfl)⟩) hS (fun q9 _ h9 => hF31 q9 h9) hF31 (fun u35 r36 t35 H35 L35 ht35 hvm35 hw35 hB35 hz35 hk35 hS => ?_)
  obtain ⟨hr35, hB35⟩ := hB35
  have hP := pq_keep hP hD [1, 2] rfl hk35 hB35.1 ht35
  have hG : s.heap.size + 1 ≤ H35.size := Nat.le_trans hG hz35
  refine W.eq (g2 := F0 m 31 ls [.ref h4]) (by rw [hr35]) ?_
  refine va_castE (nm := RX8) hx hb hown (hts _ q_273) (va_recv hK hP (ci := 7) (q0 := 4) rfl rfl) dX9_valuesOf_31 ?_
  have hM39 := k121_isSource l hl9 dC dI z h4 H35.size
  obtain ⟨hF37, hC40⟩ := pc_M hM39 hP hD hK hS hX hT hA [4] [] rfl rfl rfl
  refine va_calli (va_runV (As := []) (rest := []) ⟨hx, hb, hml, hown, hts⟩ hM39 (cwV 0 hts (gV q_344 q_345 q_346 q_275 q_343) rfl rfl rfl hV_X8_isSource ⟨Nat.le_of_ble_eq_true rfl, Nat.le_of_ble_eq_true rfl⟩) ⟨pc_blind, va_recv hK hP (ci := 7) (q0 := 4) rfl rfl, fun U hU hW => ⟨rfl, hC40 U hU hW⟩⟩ rfl rfl hl.1 rfl (lv_room (Nat.le_of_ble_eq_true rfl)) dX9_valuesOf_34 ⟨(Nat.le_of_ble_eq_true rfl), (Nat.le_of_ble_eq_true rfl)⟩) hS (fun q9 _ h9 => hF37 q9 h9) hF37 (fun r42 u41 t41 H41 L41 ht41 hvm41 hw41 hB41 hz41 hk41 hS => ?_)
  have hP := pq_keep hP hD [4] rfl hk41 hB41.1 ht41
  have hG : s.heap.size + 1 ≤ H41.size := Nat.le_trans hG hz41
  refine W.eq (g2 := F0 m 37 ls [.int 1]) (by rw [hw41]) ?_
  refine lv_if_eq (tgt := 63) hx hb dX9_valuesOf_37 (by decide) (fun cz => absurd cz (by decide)) (fun _ => ?_)
  refine lv_aload_n hx hb dX9_valuesOf_40 rfl (lv_at hl 2 rfl) ?_
  refine lv_iload hx hb dX9_valuesOf_41 (lv_at hl 0 rfl) ?_
  refine lv_iload_n hx hb dX9_valuesOf_43 rfl (lv_at hl 4 rfl) ?_
  refine lv_iload_n hx hb dX9_valuesOf_44 rfl (lv_at hl 1 rfl) ?_
  refine lv_ishr hx hb dX9_valuesOf_45 ?_
  refine lv_topi (fun y43 ey43 => ?_)
  obtain rfl : y43 = 0 := ey43.trans (by decide)
  refine lv_iconst (v := 1) hx hb dX9_valuesOf_46 (by decide) ?_
  refine lv_iand hx hb dX9_valuesOf_47 ?_
  refine lv_topi (fun y44 ey44 => ?_)
  obtain rfl : y44 = 0 := ey44.trans (by decide)
  refine lv_iconst (v := 1) hx hb dX9_valuesOf_48 (by decide) ?_
  refine lv_icmp_ne (tgt := 57) hx hb dX9_valuesOf_49 (by decide) (fun _ => ?_) (fun cz => absurd cz (by decide))
  refine lv_bipush (v := 48) hx hb dX9_valuesOf_57 (by decide) ?_
  refine va_cast hx hb hK hP hD (va_Sre hS) 8 1 rfl rfl (i := 1) (by unfold vp_in; decide) dX9_valuesOf_59 (fun H45 _ hP hD hS' => ?_)
  have hG : s.heap.size + 1 ≤ H45.size := Nat.le_trans hG hS'.1
  have hS := va_Str hS hS'
  have hP : va_P (dC, dI) xCl [(h0, ce21 h1 o0 o1 o2), (h1, ce201 h2), (h2, ce200 kc0 h3 h4 h5 h6 h7), (h3, ce49), (h4, ce49), (h5, ce49), (h6, ce49), (h7, ce49), (a1, ce296 k2)] H45 := hP
  have hD := vd_as hP hD rfl
  refine lv_iinc (v := 2) (lv' := [(3, .int 2), (4, .int 1), (2, .ref a1), (0, .ref h0), (1, .int 0)]) hx hb dX9_valuesOf_60 hl (k := 1) rfl (by decide) (by decide) rfl (fun ls hl => ?_)
  refine lv_iinc (v := 2) (lv' := [(4, .int 2), (3, .int 2), (2, .ref a1), (0, .ref h0), (1, .int 0)]) hx hb dX9_valuesOf_63 hl (k := 1) rfl (by decide) (by decide) rfl (fun ls hl => ?_)
  refine lv_goto (tgt := 10) hx hb dX9_valuesOf_66 (by decide) ?_
  refine lv_iload hx hb dX9_valuesOf_10 (lv_at hl 0 rfl) ?_
  refine lv_aload_n hx hb dX9_valuesOf_12 rfl (lv_at hl 3 rfl) ?_
  refine va_get (D := (dC, dI)) (ci := 8) (v := .ref h1) (C := RX9) (T := TX9) (N := 6) hx hb hts in_X9 hown hK hP 0 rfl rfl 1 (by decide) (hts _ q_64) (fun _ h9 => h9) rfl dX9_valuesOf_13 ?_
  have hM48 := k20_size l hl9 dC dI z h1 h2 H45.size 5 5
  obtain ⟨hF46, hC49⟩ := pc_M hM48 hP hD hK hS hX hT hA [1] [] rfl rfl rfl
  refine va_calli (va_runV (As := []) (rest := [.int 2]) ⟨hx, hb, hml, hown, hts⟩ hM48 (cwV 0 hts (gV q_272 q_77 q_78 q_12 q_75) rfl rfl rfl hV_Jx4a65c_size_8abf5 ⟨Nat.le_of_ble_eq_true rfl, Nat.le_of_ble_eq_true rfl⟩) ⟨pc_blind, va_recv hK hP (ci := 0) (q0 := 1) rfl rfl, fun U hU hW => ⟨rfl, hC49 U hU hW⟩⟩ rfl rfl hl.1 rfl (lv_room (Nat.le_of_ble_eq_true rfl)) dX9_valuesOf_16 ⟨(Nat.le_of_ble_eq_true rfl), (Nat.le_of_ble_eq_true rfl)⟩) hS (fun q9 _ h9 => hF46 q9 h9) hF46 (fun r51 u50 t50 H50 L50 ht50 hvm50 hw50 hB50 hz50 hk50 hS => ?_)
  have hP := pq_keep hP hD [1] rfl hk50 hB50.1 ht50
  have hG : s.heap.size + 1 ≤ H50.size := Nat.le_trans hG hz50
  refine W.eq (g2 := F0 m 19 ls [.int 5, .int 2]) (by rw [hw50]) ?_
  refine lv_icmp_ge (tgt := 69) hx hb dX9_valuesOf_19 (by decide) (fun cz => absurd cz (by decide)) (fun _ => ?_)
  refine lv_aload_n hx hb dX9_valuesOf_22 rfl (lv_at hl 3 rfl) ?_
  refine va_get (D := (dC, dI)) (ci := 8) (v := .ref h1) (C := RX9) (T := TX9) (N := 6) hx hb hts in_X9 hown hK hP 0 rfl rfl 1 (by decide) (hts _ q_64) (fun _ h9 => h9) rfl dX9_valuesOf_23 ?_
  refine lv_iload hx hb dX9_valuesOf_26 (lv_at hl 0 rfl) ?_
  have hM54 := k376_get l hl9 dC dI z h1 h2 h3 h4 h5 h6 h7 H50.size kc0
  obtain ⟨hF52, hC55⟩ := pc_M hM54 hP hD hK hS hX hT hA [1, 2] [0] rfl rfl rfl
  refine va_callr (va_runV (As := [.int 2]) (rest := []) ⟨hx, hb, hml, hown, hts⟩ hM54 (cwV 1 hts (gV q_315 q_157 q_158 q_12 q_155) rfl rfl rfl hV_Jx4a65c_get_915e3 ⟨Nat.le_of_ble_eq_true rfl, Nat.le_of_ble_eq_true rfl⟩) ⟨pc_blind, va_recv hK hP (ci := 0) (q0 := 1) rfl rfl, fun U hU hW => ⟨rfl, hC55 U hU hW⟩⟩ rfl rfl hl.1 rfl (lv_room (Nat.le_of_ble_eq_true rfl)) dX9_valuesOf_28 ⟨(Nat.le_of_ble_eq_true rfl), (Nat.le_of_ble_eq_true rfl)⟩) hS (fun q9 _ h9 => hF52 q9 h9) hF52 (fun u56 r57 t56 H56 L56 ht56 hvm56 hw56 hB56 hz56 hk56 hS => ?_)
  obtain ⟨hr56, hB56⟩ := hB56
  have hP := pq_keep hP hD [1, 2] rfl hk56 hB56.1 ht56
  have hG : s.heap.size + 1 ≤ H56.size := Nat.le_trans hG hz56
  refine W.eq (g2 := F0 m 31 ls [.ref h5]) (by rw [hr56]) ?_
  refine va_castE (nm := RX8) hx hb hown (hts _ q_273) (va_recv hK hP (ci := 7) (q0 := 5) rfl rfl) dX9_valuesOf_31 ?_
  have hM60 := k121_isSource l hl9 dC dI z h5 H56.size
  obtain ⟨hF58, hC61⟩ := pc_M hM60 hP hD hK hS hX hT hA [5] [] rfl rfl rfl
  refine va_calli (va_runV (As := []) (rest := []) ⟨hx, hb, hml, hown, hts⟩ hM60 (cwV 0 hts (gV q_344 q_345 q_346 q_275 q_343) rfl rfl rfl hV_X8_isSource ⟨Nat.le_of_ble_eq_true rfl, Nat.le_of_ble_eq_true rfl⟩) ⟨pc_blind, va_recv hK hP (ci := 7) (q0 := 5) rfl rfl, fun U hU hW => ⟨rfl, hC61 U hU hW⟩⟩ rfl rfl hl.1 rfl (lv_room (Nat.le_of_ble_eq_true rfl)) dX9_valuesOf_34 ⟨(Nat.le_of_ble_eq_true rfl), (Nat.le_of_ble_eq_true rfl)⟩) hS (fun q9 _ h9 => hF58 q9 h9) hF58 (fun r63 u62 t62 H62 L62 ht62 hvm62 hw62 hB62 hz62 hk62 hS => ?_)
  have hP := pq_keep hP hD [5] rfl hk62 hB62.1 ht62
  have hG : s.heap.size + 1 ≤ H62.size := Nat.le_trans hG hz62
  refine W.eq (g2 := F0 m 37 ls [.int 1]) (by rw [hw62]) ?_
  refine lv_if_eq (tgt := 63) hx hb dX9_valuesOf_37 (by decide) (fun cz => absurd cz (by decide)) (fun _ => ?_)
  refine lv_aload_n hx hb dX9_valuesOf_40 rfl (lv_at hl 2 rfl) ?_
  refine lv_iload hx hb dX9_valuesOf_41 (lv_at hl 0 rfl) ?_
  refine lv_iload_n hx hb dX9_valuesOf_43 rfl (lv_at hl 4 rfl) ?_
  refine lv_iload_n hx hb dX9_valuesOf_44 rfl (lv_at hl 1 rfl) ?_
  refine lv_ishr hx hb dX9_valuesOf_45 ?_
  refine lv_topi (fun y64 ey64 => ?_)
  obtain rfl : y64 = 0 := ey64.trans (by decide)
  refine lv_iconst (v := 1) hx hb dX9_valuesOf_46 (by decide) ?_
  refine lv_iand hx hb dX9_valuesOf_47 ?_
  refine lv_topi (fun y65 ey65 => ?_)
  obtain rfl : y65 = 0 := ey65.trans (by decide)
  refine lv_iconst (v := 1) hx hb dX9_valuesOf_48 (by decide) ?_
  refine lv_icmp_ne (tgt := 57) hx hb dX9_valuesOf_49 (by decide) (fun _ => ?_) (fun cz => absurd cz (by decide))
  refine lv_bipush (v := 48) hx hb dX9_valuesOf_57 (by decide) ?_
  refine va_cast hx hb hK hP hD (va_Sre hS) 8 1 rfl rfl (i := 2) (by unfold vp_in; decide) dX9_valuesOf_59 (fun H66 _ hP hD hS' => ?_)
  have hG : s.heap.size + 1 ≤ H66.size := Nat.le_trans hG hS'.1
  have hS := va_Str hS hS'
  have hP : va_P (dC, dI) xCl [(h0, ce21 h1 o0 o1 o2), (h1, ce201 h2), (h2, ce200 kc0 h3 h4 h5 h6 h7), (h3, ce49), (h4, ce49), (h5, ce49), (h6, ce49), (h7, ce49), (a1, ce297 k2)] H66 := hP
  have hD := vd_as hP hD rfl
  refine lv_iinc (v := 3) (lv' := [(3, .int 3), (4, .int 2), (2, .ref a1), (0, .ref h0), (1, .int 0)]) hx hb dX9_valuesOf_60 hl (k := 1) rfl (by decide) (by decide) rfl (fun ls hl => ?_)
  refine lv_iinc (v := 3) (lv' := [(4, .int 3), (3, .int 3), (2, .ref a1), (0, .ref h0), (1, .int 0)]) hx hb dX9_valuesOf_63 hl (k := 1) rfl (by decide) (by decide) rfl (fun ls hl => ?_)
  refine lv_goto (tgt := 10) hx hb dX9_valuesOf_66 (by decide) ?_
  refine lv_iload hx hb dX9_valuesOf_10 (lv_at hl 0 rfl) ?_
  refine lv_aload_n hx hb dX9_valuesOf_12 rfl (lv_at hl 3 rfl) ?_
  refine va_get (D := (dC, dI)) (ci := 8) (v := .ref h1) (C := RX9) (T := TX9) (N := 6) hx hb hts in_X9 hown hK hP 0 rfl rfl 1 (by decide) (hts _ q_64) (fun _ h9 => h9) rfl dX9_valuesOf_13 ?_
  have hM69 := k20_size l hl9 dC dI z h1 h2 H66.size 5 5
  obtain ⟨hF67, hC70⟩ := pc_M hM69 hP hD hK hS hX hT hA [1] [] rfl rfl rfl
  refine va_calli (va_runV (As := []) (rest := [.int 3]) ⟨hx, hb, hml, hown, hts⟩ hM69 (cwV 0 hts (gV q_272 q_77 q_78 q_12 q_75) rfl rfl rfl hV_Jx4a65c_size_8abf5 ⟨Nat.le_of_ble_eq_true rfl, Nat.le_of_ble_eq_true rfl⟩) ⟨pc_blind, va_recv hK hP (ci := 0) (q0 := 1) rfl rfl, fun U hU hW => ⟨rfl, hC70 U hU hW⟩⟩ rfl rfl hl.1 rfl (lv_room (Nat.le_of_ble_eq_true rfl)) dX9_valuesOf_16 ⟨(Nat.le_of_ble_eq_true rfl), (Nat.le_of_ble_eq_true rfl)⟩) hS (fun q9 _ h9 => hF67 q9 h9) hF67 (fun r72 u71 t71 H71 L71 ht71 hvm71 hw71 hB71 hz71 hk71 hS => ?_)
  have hP := pq_keep hP hD [1] rfl hk71 hB71.1 ht71
  have hG : s.heap.size + 1 ≤ H71.size := Nat.le_trans hG hz71
  refine W.eq (g2 := F0 m 19 ls [.int 5, .int 3]) (by rw [hw71]) ?_
  refine lv_icmp_ge (tgt := 69) hx hb dX9_valuesOf_19 (by decide) (fun cz => absurd cz (by decide)) (fun _ => ?_)
  refine lv_aload_n hx hb dX9_valuesOf_22 rfl (lv_at hl 3 rfl) ?_
  refine va_get (D := (dC, dI)) (ci := 8) (v := .ref h1) (C := RX9) (T := TX9) (N := 6) hx hb hts in_X9 hown hK hP 0 rfl rfl 1 (by decide) (hts _ q_64) (fun _ h9 => h9) rfl dX9_valuesOf_23 ?_
  refine lv_iload hx hb dX9_valuesOf_26 (lv_at hl 0 rfl) ?_
  have hM75 := k380_get l hl9 dC dI z h1 h2 h3 h4 h5 h6 h7 H71.size kc0
  obtain ⟨hF73, hC76⟩ := pc_M hM75 hP hD hK hS hX hT hA [1, 2] [0] rfl rfl rfl
  refine va_callr (va_runV (As := [.int 3]) (rest := []) ⟨hx, hb, hml, hown, hts⟩ hM75 (cwV 1 hts (gV q_315 q_157 q_158 q_12 q_155) rfl rfl rfl hV_Jx4a65c_get_915e3 ⟨Nat.le_of_ble_eq_true rfl, Nat.le_of_ble_eq_true rfl⟩) ⟨pc_blind, va_recv hK hP (ci := 0) (q0 := 1) rfl rfl, fun U hU hW => ⟨rfl, hC76 U hU hW⟩⟩ rfl rfl hl.1 rfl (lv_room (Nat.le_of_ble_eq_true rfl)) dX9_valuesOf_28 ⟨(Nat.le_of_ble_eq_true rfl), (Nat.le_of_ble_eq_true rfl)⟩) hS (fun q9 _ h9 => hF73 q9 h9) hF73 (fun u77 r78 t77 H77 L77 ht77 hvm77 hw77 hB77 hz77 hk77 hS => ?_)
  obtain ⟨hr77, hB77⟩ := hB77
  have hP := pq_keep hP hD [1, 2] rfl hk77 hB77.1 ht77
  have hG : s.heap.size + 1 ≤ H77.size := Nat.le_trans hG hz77
  refine W.eq (g2 := F0 m 31 ls [.ref h6]) (by rw [hr77]) ?_
  refine va_castE (nm := RX8) hx hb hown (hts _ q_273) (va_recv hK hP (ci := 7) (q0 := 6) rfl rfl) dX9_valuesOf_31 ?_
  have hM81 := k121_isSource l hl9 dC dI z h6 H77.size
  obtain ⟨hF79, hC82⟩ := pc_M hM81 hP hD hK hS hX hT hA [6] [] rfl rfl rfl
  refine va_calli (va_runV (As := []) (rest := []) ⟨hx, hb, hml, hown, hts⟩ hM81 (cwV 0 hts (gV q_344 q_345 q_346 q_275 q_343) rfl rfl rfl hV_X8_isSource ⟨Nat.le_of_ble_eq_true rfl, Nat.le_of_ble_eq_true rfl⟩) ⟨pc_blind, va_recv hK hP (ci := 7) (q0 := 6) rfl rfl, fun U hU hW => ⟨rfl, hC82 U hU hW⟩⟩ rfl rfl hl.1 rfl (lv_room (Nat.le_of_ble_eq_true rfl)) dX9_valuesOf_34 ⟨(Nat.le_of_ble_eq_true rfl), (Nat.le_of_ble_eq_true rfl)⟩) hS (fun q9 _ h9 => hF79 q9 h9) hF79 (fun r84 u83 t83 H83 L83 ht83 hvm83 hw83 hB83 hz83 hk83 hS => ?_)
  have hP := pq_keep hP hD [6] rfl hk83 hB83.1 ht83
  have hG : s.heap.size + 1 ≤ H83.size := Nat.le_trans hG hz83
  refine W.eq (g2 := F0 m 37 ls [.int 1]) (by rw [hw83]) ?_
  refine lv_if_eq (tgt := 63) hx hb dX9_valuesOf_37 (by decide) (fun cz => absurd cz (by decide)) (fun _ => ?_)
  refine lv_aload_n hx hb dX9_valuesOf_40 rfl (lv_at hl 2 rfl) ?_
  refine lv_iload hx hb dX9_valuesOf_41 (lv_at hl 0 rfl) ?_
  refine lv_iload_n hx hb dX9_valuesOf_43 rfl (lv_at hl 4 rfl) ?_
  refine lv_iload_n hx hb dX9_valuesOf_44 rfl (lv_at hl 1 rfl) ?_
  refine lv_ishr hx hb dX9_valuesOf_45 ?_
  refine lv_topi (fun y85 ey85 => ?_)
  obtain rfl : y85 = 0 := ey85.trans (by decide)
  refine lv_iconst (v := 1) hx hb dX9_valuesOf_46 (by decide) ?_
  refine lv_iand hx hb dX9_valuesOf_47 ?_
  refine lv_topi (fun y86 ey86 => ?_)
  obtain rfl : y86 = 0 := ey86.trans (by decide)
  refine lv_iconst (v := 1) hx hb dX9_valuesOf_48 (by decide) ?_
  refine lv_icmp_ne (tgt := 57) hx hb dX9_valuesOf_49 (by decide) (fun _ => ?_) (fun cz => absurd cz (by decide))
  refine lv_bipush (v := 48) hx hb dX9_valuesOf_57 (by decide) ?_
  refine va_cast hx hb hK hP hD (va_Sre hS) 8 1 rfl rfl (i := 3) (by unfold vp_in; decide) dX9_valuesOf_59 (fun H87 _ hP hD hS' => ?_)
  have hG : s.heap.size + 1 ≤ H87.size := Nat.le_trans hG hS'.1
  have hS := va_Str hS hS'
  have hP : va_P (dC, dI) xCl [(h0, ce21 h1 o0 o1 o2), (h1, ce201 h2), (h2, ce200 kc0 h3 h4 h5 h6 h7), (h3, ce49), (h4, ce49), (h5, ce49), (h6, ce49), (h7, ce49), (a1, ce298 k2)] H87 := hP
  have hD := vd_as hP hD rfl
  refine lv_iinc (v := 4) (lv' := [(3, .int 4), (4, .int 3), (2, .ref a1), (0, .ref h0), (1, .int 0)]) hx hb dX9_valuesOf_60 hl (k := 1) rfl (by decide) (by decide) rfl (fun ls hl => ?_)
  refine lv_iinc (v := 4) (lv' := [(4, .int 4), (3, .int 4), (2, .ref a1), (0, .ref h0), (1, .int 0)]) hx hb dX9_valuesOf_63 hl (k := 1) rfl (by decide) (by decide) rfl (fun ls hl => ?_)
  refine lv_goto (tgt := 10) hx hb dX9_valuesOf_66 (by decide) ?_
  refine lv_iload hx hb dX9_valuesOf_10 (lv_at hl 0 rfl) ?_
  refine lv_aload_n hx hb dX9_valuesOf_12 rfl (lv_at hl 3 rfl) ?_
  refine va_get (D := (dC, dI)) (ci := 8) (v := .ref h1) (C := RX9) (T := TX9) (N := 6) hx hb hts in_X9 hown hK hP 0 rfl rfl 1 (by decide) (hts _ q_64) (fun _ h9 => h9) rfl dX9_valuesOf_13 ?_
  have hM90 := k20_size l hl9 dC dI z h1 h2 H87.size 5 5
  obtain ⟨hF88, hC91⟩ := pc_M hM90 hP hD hK hS hX hT hA [1] [] rfl rfl rfl
  refine va_calli (va_runV (As := []) (rest := [.int 4]) ⟨hx, hb, hml, hown, hts⟩ hM90 (cwV 0 hts (gV q_272 q_77 q_78 q_12 q_75) rfl rfl rfl hV_Jx4a65c_size_8abf5 ⟨Nat.le_of_ble_eq_true rfl, Nat.le_of_ble_eq_true rfl⟩) ⟨pc_blind, va_recv hK hP (ci := 0) (q0 := 1) rfl rfl, fun U hU hW => ⟨rfl, hC91 U hU hW⟩⟩ rfl rfl hl.1 rfl (lv_room (Nat.le_of_ble_eq_true rfl)) dX9_valuesOf_16 ⟨(Nat.le_of_ble_eq_true rfl), (Nat.le_of_ble_eq_true rfl)⟩) hS (fun q9 _ h9 => hF88 q9 h9) hF88 (fun r93 u92 t92 H92 L92 ht92 hvm92 hw92 hB92 hz92 hk92 hS => ?_)
  have hP := pq_keep hP hD [1] rfl hk92 hB92.1 ht92
  have hG : s.heap.size + 1 ≤ H92.size := Nat.le_trans hG hz92
  refine W.eq (g2 := F0 m 19 ls [.int 5, .int 4]) (by rw [hw92]) ?_
  refine lv_icmp_ge (tgt := 69) hx hb dX9_valuesOf_19 (by decide) (fun cz => absurd cz (by decide)) (fun _ => ?_)
  refine lv_aload_n hx hb dX9_valuesOf_22 rfl (lv_at hl 3 rfl) ?_
  refine va_get (D := (dC, dI)) (ci := 8) (v := .ref h1) (C := RX9) (T := TX9) (N := 6) hx hb hts in_X9 hown hK hP 0 rfl rfl 1 (by decide) (hts _ q_64) (fun _ h9 => h9) rfl dX9_valuesOf_23 ?_
  refine lv_iload hx hb dX9_valuesOf_26 (lv_at hl 0 rfl) ?_
  have hM96 := k384_get l hl9 dC dI z h1 h2 h3 h4 h5 h6 h7 H92.size kc0
  obtain ⟨hF94, hC97⟩ := pc_M hM96 hP hD hK hS hX hT hA [1, 2] [0] rfl rfl rfl
  refine va_callr (va_runV (As := [.int 4]) (rest := []) ⟨hx, hb, hml, hown, hts⟩ hM96 (cwV 1 hts (gV q_315 q_157 q_158 q_12 q_155) rfl rfl rfl hV_Jx4a65c_get_915e3 ⟨Nat.le_of_ble_eq_true rfl, Nat.le_of_ble_eq_true rfl⟩) ⟨pc_blind, va_recv hK hP (ci := 0) (q0 := 1) rfl rfl, fun U hU hW => ⟨rfl, hC97 U hU hW⟩⟩ rfl rfl hl.1 rfl (lv_room (Nat.le_of_ble_eq_true rfl)) dX9_valuesOf_28 ⟨(Nat.le_of_ble_eq_true rfl), (Nat.le_of_ble_eq_true rfl)⟩) hS (fun q9 _ h9 => hF94 q9 h9) hF94 (fun u98 r99 t98 H98 L98 ht98 hvm98 hw98 hB98 hz98 hk98 hS => ?_)
  obtain ⟨hr98, hB98⟩ := hB98
  have hP := pq_keep hP hD [1, 2] rfl hk98 hB98.1 ht98
  have hG : s.heap.size + 1 ≤ H98.size := Nat.le_trans hG hz98
  refine W.eq (g2 := F0 m 31 ls [.ref h7]) (by rw [hr98]) ?_
  refine va_castE (nm := RX8) hx hb hown (hts _ q_273) (va_recv hK hP (ci := 7) (q0 := 7) rfl rfl) dX9_valuesOf_31 ?_
  have hM102 := k121_isSource l hl9 dC dI z h7 H98.size
  obtain ⟨hF100, hC103⟩ := pc_M hM102 hP hD hK hS hX hT hA [7] [] rfl rfl rfl
  refine va_calli (va_runV (As := []) (rest := []) ⟨hx, hb, hml, hown, hts⟩ hM102 (cwV 0 hts (gV q_344 q_345 q_346 q_275 q_343) rfl rfl rfl hV_X8_isSource ⟨Nat.le_of_ble_eq_true rfl, Nat.le_of_ble_eq_true rfl⟩) ⟨pc_blind, va_recv hK hP (ci := 7) (q0 := 7) rfl rfl, fun U hU hW => ⟨rfl, hC103 U hU hW⟩⟩ rfl rfl hl.1 rfl (lv_room (Nat.le_of_ble_eq_true rfl)) dX9_valuesOf_34 ⟨(Nat.le_of_ble_eq_true rfl), (Nat.le_of_ble_eq_true rfl)⟩) hS (fun q9 _ h9 => hF100 q9 h9) hF100 (fun r105 u104 t104 H104 L104 ht104 hvm104 hw104 hB104 hz104 hk104 hS => ?_)
  have hP := pq_keep hP hD [7] rfl hk104 hB104.1 ht104
  have hG : s.heap.size + 1 ≤ H104.size := Nat.le_trans hG hz104
  refine W.eq (g2 := F0 m 37 ls [.int 1]) (by rw [hw104]) ?_
  refine lv_if_eq (tgt := 63) hx hb dX9_valuesOf_37 (by decide) (fun cz => absurd cz (by decide)) (fun _ => ?_)
  refine lv_aload_n hx hb dX9_valuesOf_40 rfl (lv_at hl 2 rfl) ?_
  refine lv_iload hx hb dX9_valuesOf_41 (lv_at hl 0 rfl) ?_
  refine lv_iload_n hx hb dX9_valuesOf_43 rfl (lv_at hl 4 rfl) ?_
  refine lv_iload_n hx hb dX9_valuesOf_44 rfl (lv_at hl 1 rfl) ?_
  refine lv_ishr hx hb dX9_valuesOf_45 ?_
  refine lv_topi (fun y106 ey106 => ?_)
  obtain rfl : y106 = 0 := ey106.trans (by decide)
  refine lv_iconst (v := 1) hx hb dX9_valuesOf_46 (by decide) ?_
  refine lv_iand hx hb dX9_valuesOf_47 ?_
  refine lv_topi (fun y107 ey107 => ?_)
  obtain rfl : y107 = 0 := ey107.trans (by decide)
  refine lv_iconst (v := 1) hx hb dX9_valuesOf_48 (by decide) ?_
  refine lv_icmp_ne (tgt := 57) hx hb dX9_valuesOf_49 (by decide) (fun _ => ?_) (fun cz => absurd cz (by decide))
  refine lv_bipush (v := 48) hx hb dX9_valuesOf_57 (by decide) ?_
  refine va_cast hx hb hK hP hD (va_Sre hS) 8 1 rfl rfl (i := 4) (by unfold vp_in; decide) dX9_valuesOf_59 (fun H108 _ hP hD hS' => ?_)
  have hG : s.heap.size + 1 ≤ H108.size := Nat.le_trans hG hS'.1
  have hS := va_Str hS hS'
  have hP : va_P (dC, dI) xCl [(h0, ce21 h1 o0 o1 o2), (h1, ce201 h2), (h2, ce200 kc0 h3 h4 h5 h6 h7), (h3, ce49), (h4, ce49), (h5, ce49), (h6, ce49), (h7, ce49), (a1, ce299 k2)] H108 := hP
  have hD := vd_as hP hD rfl
  refine lv_iinc (v := 5) (lv' := [(3, .int 5), (4, .int 4), (2, .ref a1), (0, .ref h0), (1, .int 0)]) hx hb dX9_valuesOf_60 hl (k := 1) rfl (by decide) (by decide) rfl (fun ls hl => ?_)
  refine lv_iinc (v := 5) (lv' := [(4, .int 5), (3, .int 5), (2, .ref a1), (0, .ref h0), (1, .int 0)]) hx hb dX9_valuesOf_63 hl (k := 1) rfl (by decide) (by decide) rfl (fun ls hl => ?_)
  refine lv_goto (tgt := 10) hx hb dX9_valuesOf_66 (by decide) ?_
  refine lv_iload hx hb dX9_valuesOf_10 (lv_at hl 0 rfl) ?_
  refine lv_aload_n hx hb dX9_valuesOf_12 rfl (lv_at hl 3 rfl) ?_
  refine va_get (D := (dC, dI)) (ci := 8) (v := .ref h1) (C := RX9) (T := TX9) (N := 6) hx hb hts in_X9 hown hK hP 0 rfl rfl 1 (by decide) (hts _ q_64) (fun _ h9 => h9) rfl dX9_valuesOf_13 ?_
  have hM111 := k20_size l hl9 dC dI z h1 h2 H108.size 5 5
  obtain ⟨hF109, hC112⟩ := pc_M hM111 hP hD hK hS hX hT hA [1] [] rfl rfl rfl
  refine va_calli (va_runV (As := []) (rest := [.int 5]) ⟨hx, hb, hml, hown, hts⟩ hM111 (cwV 0 hts (gV q_272 q_77 q_78 q_12 q_75) rfl rfl rfl hV_Jx4a65c_size_8abf5 ⟨Nat.le_of_ble_eq_true rfl, Nat.le_of_ble_eq_true rfl⟩) ⟨pc_blind, va_recv hK hP (ci := 0) (q0 := 1) rfl rfl, fun U hU hW => ⟨rfl, hC112 U hU hW⟩⟩ rfl rfl hl.1 rfl (lv_room (Nat.le_of_ble_eq_true rfl)) dX9_valuesOf_16 ⟨(Nat.le_of_ble_eq_true rfl), (Nat.le_of_ble_eq_true rfl)⟩) hS (fun q9 _ h9 => hF109 q9 h9) hF109 (fun r114 u113 t113 H113 L113 ht113 hvm113 hw113 hB113 hz113 hk113 hS => ?_)
  have hP := pq_keep hP hD [1] rfl hk113 hB113.1 ht113
  have hG : s.heap.size + 1 ≤ H113.size := Nat.le_trans hG hz113
  refine W.eq (g2 := F0 m 19 ls [.int 5, .int 5]) (by rw [hw113]) ?_
  refine lv_icmp_ge (tgt := 69) hx hb dX9_valuesOf_19 (by decide) (fun _ => ?_) (fun cz => absurd (by decide) cz)
  refine lv_aload_n hx hb dX9_valuesOf_69 rfl (lv_at hl 2 rfl) ?_
  exact W.aret (v := .ref a1) hx hb hr (by first | exact Or.inl ⟨_, rfl⟩ | exact Or.inr ⟨_, rfl⟩) (Or.inr ⟨_, rfl⟩) (fun t9 ht9 hW9 => ⟨⟨(), a1, rfl, trivial, ⟨a1, k2, rfl, ⟨pq_mk2 hP hD hK [0, 1, 2, 3, 4, 5, 6, 7, 8] [0, 1] rfl rfl rfl ht9 hW9, by rw [ht9]; exact Nat.le_trans (Nat.add_le_add_left (Nat.le_of_ble_eq_true rfl) _) hG⟩⟩⟩, hS.F ht9⟩) hS.2.2 dX9_valuesOf_70
