set_option maxHeartbeats 16000000 in
set_option maxRecDepth 100000 in
/-- the law on this script, from its entry -/
theorem zq_start {p : Program} {e : Env} {s : State} {m : MethodId} {below : List Frame} {meth : Method} {c : Code} (l : Launch) (hflags : l.flags = flags0) {b : Nat} {xs : Nat → Int32} (hZ : ∀ n : Nat, n < 2540 → xs n = zf n) (C0 : lw_At p s m meth c b 2540 xs) : W p l e room9 s m #[Value.ref b] below meth c s.heap [] 0 0 (zq_Z below s) (entryFrame m ([Value.ref b] : List Value).toArray 9) := by
  obtain ⟨hx, hb, hr, hml, hown, hts0, hX9, hbl, hlocks, hgv⟩ := id C0
  have hl9 : l.stackTraces = false := by unfold Launch.stackTraces; rw [hflags]; decide +kernel
  have hown : s.vm.findClass RL = some m.cls := hown
  have hts : ∀ w ∈ wsL_law, w.before #[Value.ref b] s = true := fun w h => hts0 w (wsL_law_in w h)
  obtain ⟨z, hX, hT⟩ := x_env (A := (fun q : Nat => s.heap.size ≤ q)) hts0 hgv (fun a ha => Nat.not_le.mpr ha)
  obtain ⟨kc0, ki0, hk0⟩ := u_known (C := RJx4a65c) (T := TJx4a65c) (N := 3) (n := 3) hts in_Jx4a65c (hts _ q_11)
  obtain ⟨kc1, ki1, hk1⟩ := u_known (C := RJx35411) (T := TJx35411) (N := 4) (n := 4) hts in_Jx35411 (hts _ q_245)
  obtain ⟨kc2, ki2, hk2⟩ := u_known (C := RX0) (T := TX0) (N := 4) (n := 4) hts in_X0 (hts _ q_7)
  obtain ⟨kc3, ki3, hk3⟩ := u_known (C := RX2) (T := TX2) (N := 19) (n := 19) hts in_X2 (hts _ q_90)
  obtain ⟨kc4, ki4, hk4⟩ := u_known (C := RX4) (T := TX4) (N := 3) (n := 3) hts in_X4 (hts _ q_45)
  obtain ⟨kc5, ki5, hk5⟩ := u_known (C := RX5) (T := TX5) (N := 2) (n := 2) hts in_X5 (hts _ q_36)
  obtain ⟨kc6, ki6, hk6⟩ := u_known (C := RX6) (T := TX6) (N := 3) (n := 3) hts in_X6 (hts _ q_1)
  obtain ⟨kc7, ki7, hk7⟩ := u_known (C := RX8) (T := TX8) (N := 6) (n := 6) hts in_X8 (hts _ q_274)
  obtain ⟨kc8, ki8, hk8⟩ := u_known (C := RX9) (T := TX9) (N := 6) (n := 6) hts in_X9 (hts _ q_59)
  obtain ⟨dC, dI, hKc⟩ : ∃ (dC : Nat → ClassId) (dI : Nat → Nat → Nat), ∀ (k : Nat) (q : vw_C), xCl[k]? = some q → u_Kn s q.1 q.2.1 q.2.2 (dC k) (dI k) := by
    refine ⟨fun k => match k with | 0 => kc0 | 1 => kc1 | 2 => kc2 | 3 => kc3 | 4 => kc4 | 5 => kc5 | 6 => kc6 | 7 => kc7 | _ => kc8, fun k => match k with | 0 => ki0 | 1 => ki1 | 2 => ki2 | 3 => ki3 | 4 => ki4 | 5 => ki5 | 6 => ki6 | 7 => ki7 | _ => ki8, ?_⟩
    intro k q hq
    match k, hq with
    | 0, hq => cases hq; exact hk0
    | 1, hq => cases hq; exact hk1
    | 2, hq => cases hq; exact hk2
    | 3, hq => cases hq; exact hk3
    | 4, hq => cases hq; exact hk4
    | 5, hq => cases hq; exact hk5
    | 6, hq => cases hq; exact hk6
    | 7, hq => cases hq; exact hk7
    | 8, hq => cases hq; exact hk8
    | k + 9, hq => simp [xCl] at hq
  obtain ⟨A, hAe⟩ : ∃ A : Nat → Prop, A = (fun q : Nat => s.heap.size ≤ q) := ⟨_, rfl⟩
  rw [← hAe] at hX
  have hA : ∀ q : Nat, s.heap.size ≤ q → A q := fun q h => by rw [hAe]; exact h
  have hA9 : ∀ q : Nat, A q → s.heap.size ≤ q := fun q h => by rw [hAe] at h; exact h
  have hbA : ¬ A b := fun h => Nat.not_le.mpr hbl (hA9 b h)
  have hS : va_S A s.heap s.heap [] := va_S.rf
  have hG : s.heap.size + 0 ≤ s.heap.size := Nat.le_refl _
  have hK : va_K (dC, dI) xCl [] s := ⟨hKc, fun k q h => by simp at h⟩
  have hP : va_P (dC, dI) xCl [] s.heap := fun k q h => by simp at h
  have hD : va_D A [] := ⟨fun i j p q h => by simp at h, fun k q h => by simp at h⟩
  have hl := lv_entry ([.ref b]) (n := 9) (Nat.le_of_ble_eq_true rfl)
  rw [lg_entry_eq]
  generalize (lg_sl ([.ref b]) ++ List.replicate (9 - (lg_sl ([.ref b])).length) Slot.unset).toArray = ls at hl ⊢
  have hl : lv_has ls 9 [(0, .ref b)] := hl
  refine xa_new (ci := 6) (fs := [.null, .null, .null]) (C := RX6) (T := TX6) (N := 3) hx hb hts in_X6 tyX6 tyX6_ok hown (hts _ q_0) (hts _ q_1) (hts _ q_2) hK hP hD hS hA rfl nf_X6 (Nat.le_of_ble_eq_true rfl) (Nat.le_of_ble_eq_true rfl) dL_law_0 (fun a1 H2 hg8 hP hD hS => ?_)
  have hG : s.heap.size + 1 ≤ H2.size := by rw [hg8]; exact Nat.succ_le_succ hG
  have hP : va_P (dC, dI) xCl [(a1, ce0)] H2 := hP
  have hD := vd_as hP hD rfl
  refine W.widen (k := 1) (n := 3) (by decide) (by decide) ?_
  refine lv_dup hx hb dL_law_3 rfl ?_
  have hM5 := k7_init l hl9 dC dI z a1 H2.size
  obtain ⟨hF3, hC6⟩ := pc_M hM5 hP hD hK hS hX hT hA [0] [] rfl rfl rfl
  refine va_callv (va_runI (As := []) (rest := [.ref a1]) ⟨hx, hb, hml, hown, hts⟩ hM5 (cwI 0 hts (gIL q_55) rfl rfl rfl (hts _ q_2) (hts _ q_56) (hts _ q_57) rfl hS_X6_init ⟨Nat.le_of_ble_eq_true rfl, Nat.le_of_ble_eq_true rfl⟩) ⟨pc_blind, fun U hU hW => ⟨rfl, hC6 U hU hW⟩⟩ rfl rfl hl.1 rfl (lv_room (Nat.le_of_ble_eq_true rfl)) dL_law_4 ⟨(Nat.le_of_ble_eq_true rfl), (Nat.le_of_ble_eq_true rfl)⟩) hS (fun q9 _ h9 => hF3 q9 h9) hF3 (fun u7 t7 H7 L7 ht7 hvm7 hw7 hB7 hz7 hk7 hS => ?_)
  obtain ⟨a9, a10, a11, a12, a13, a14, a15, a16, k17, hB7⟩ := hB7
  obtain ⟨hP, hD, hK⟩ := pq_jn (wz := [(a1, ce16 a9 a10 a11), (a9, ce7 a12 a13 a14 a15), (a10, ce10 a9), (a11, ce15 a9 a16), (a12, ce3 z.1), (a13, ce3 z.1), (a14, ce3 z.1), (a15, ce3 z.1), (a16, ce13 k17)]) (tz := [(k17, .int)]) hP hD hK [0] [] rfl hk7 hF3 hB7.1 ht7 hvm7 rfl rfl
  have hG : s.heap.size + 9 ≤ H7.size := va_gr (g := 1) (g1 := 8) hG (by rw [← ht7]; exact hB7.2)
  refine W.widen (k := 9) (n := 32) (by decide) (by decide) ?_
  refine lv_astore_n (lv' := [(1, .ref a1), (0, .ref b)]) hx hb dL_law_7 rfl hl (by decide) rfl (fun ls hl => ?_)
  refine xa_new (ci := 8) (fs := [.int 0, .null, .null, .null, .null, .int 0]) (C := RX9) (T := TX9) (N := 6) hx hb hts in_X9 tyX9 tyX9_ok hown (hts _ q_58) (hts _ q_59) (hts _ q_60) hK hP hD hS hA rfl nf_X9 (Nat.le_of_ble_eq_true rfl) (Nat.le_of_ble_eq_true rfl) dL_law_8 (fun a18 H19 hg8 hP hD hS => ?_)
  have hG : s.heap.size + 10 ≤ H19.size := by rw [hg8]; exact Nat.succ_le_succ hG
  have hP : va_P (dC, dI) xCl [(a1, ce16 a9 a10 a11), (a9, ce7 a12 a13 a14 a15), (a10, ce10 a9), (a11, ce15 a9 a16), (a12, ce3 z.1), (a13, ce3 z.1), (a14, ce3 z.1), (a15, ce3 z.1), (a16, ce13 k17), (a18, ce17)] H19 := hP
  have hD := vd_as hP hD rfl
  refine W.widen (k := 10) (n := 38) (by decide) (by decide) ?_
  refine lv_dup hx hb dL_law_11 rfl ?_
  have hM22 := k8_init l hl9 dC dI z a18 H19.size
  obtain ⟨hF20, hC23⟩ := pc_M hM22 hP hD hK hS hX hT hA [9] [] rfl rfl rfl
  refine va_callv (va_runI (As := []) (rest := [.ref a18]) ⟨hx, hb, hml, hown, hts⟩ hM22 (cwI 0 hts (gIL q_68) rfl rfl rfl (hts _ q_60) (hts _ q_69) (hts _ q_70) rfl hS_X9_init ⟨Nat.le_of_ble_eq_true rfl, Nat.le_of_ble_eq_true rfl⟩) ⟨pc_blind, fun U hU hW => ⟨rfl, hC23 U hU hW⟩⟩ rfl rfl hl.1 rfl (lv_room (Nat.le_of_ble_eq_true rfl)) dL_law_12 ⟨(Nat.le_of_ble_eq_true rfl), (Nat.le_of_ble_eq_true rfl)⟩) hS (fun q9 _ h9 => hF20 q9 h9) hF20 (fun u24 t24 H24 L24 ht24 hvm24 hw24 hB24 hz24 hk24 hS => ?_)
  obtain ⟨a26, a27, a28, a29, hB24⟩ := hB24
  obtain ⟨hP, hD, hK⟩ := pq_jn (wz := [(a1, ce16 a9 a10 a11), (a9, ce7 a12 a13 a14 a15), (a10, ce10 a9), (a11, ce15 a9 a16), (a12, ce3 z.1), (a13, ce3 z.1), (a14, ce3 z.1), (a15, ce3 z.1), (a16, ce13 k17), (a18, ce21 a26 a27 a28 a29), (a26, ce3 z.1), (a27, ce3 z.1), (a28, ce3 z.1), (a29, ce3 z.1)]) (tz := [(k17, .int)]) hP hD hK [9] [0] rfl hk24 hF20 hB24.1 ht24 hvm24 rfl rfl
  have hG : s.heap.size + 14 ≤ H24.size := va_gr (g := 10) (g1 := 4) hG (by rw [← ht24]; exact hB24.2)
  refine W.widen (k := 14) (n := 50) (by decide) (by decide) ?_
  refine lv_astore_n (lv' := [(2, .ref a18), (1, .ref a1), (0, .ref b)]) hx hb dL_law_15 rfl hl (by decide) rfl (fun ls hl => ?_)
  refine lv_iconst (v := 1) hx hb dL_law_16 (by decide) ?_
  refine xa_newa (atype := .long) hx hb (hts _ q_71) rfl hK hP hD hS hA (n := 1) (N' := 1) (a0 := (1, .inr (.inl (fun _ => 0)))) (fun _ => rfl) (by decide) (by decide) (Nat.le_of_ble_eq_true rfl) (Nat.le_of_ble_eq_true rfl) (Nat.le_of_ble_eq_true rfl) dL_law_17 (fun a30 k31 H32 hg8 hK hP hD hS => ?_)
  have hG : s.heap.size + 15 ≤ H32.size := by rw [hg8]; exact Nat.succ_le_succ hG
  have hK : va_K (dC, dI) xCl [(k17, .int), (k31, .long)] s := hK
  have hP : va_P (dC, dI) xCl [(a1, ce16 a9 a10 a11), (a9, ce7 a12 a13 a14 a15), (a10, ce10 a9), (a11, ce15 a9 a16), (a12, ce3 z.1), (a13, ce3 z.1), (a14, ce3 z.1), (a15, ce3 z.1), (a16, ce13 k17), (a18, ce21 a26 a27 a28 a29), (a26, ce3 z.1), (a27, ce3 z.1), (a28, ce3 z.1), (a29, ce3 z.1), (a30, ce22 k31)] H32 := hP
  have hD := vd_as hP hD rfl
  refine W.widen (k := 15) (n := 51) (by decide) (by decide) ?_
  refine lv_astore_n (lv' := [(3, .ref a30), (2, .ref a18), (1, .ref a1), (0, .ref b)]) hx hb dL_law_19 rfl hl (by decide) rfl (fun ls hl => ?_)
  refine lv_iconst (v := 1) hx hb dL_law_20 (by decide) ?_
  refine xa_newa (atype := .double) hx hb (hts _ q_72) rfl hK hP hD hS hA (n := 1) (N' := 1) (a0 := (1, .inr (.inr (.inr (.inl (fun _ => 0)))))) (fun _ => rfl) (by decide) (by decide) (Nat.le_of_ble_eq_true rfl) (Nat.le_of_ble_eq_true rfl) (Nat.le_of_ble_eq_true rfl) dL_law_21 (fun a33 k34 H35 hg8 hK hP hD hS => ?_)
  have hG : s.heap.size + 16 ≤ H35.size := by rw [hg8]; exact Nat.succ_le_succ hG
  have hK : va_K (dC, dI) xCl [(k17, .int), (k31, .long), (k34, .double)] s := hK
  have hP : va_P (dC, dI) xCl [(a1, ce16 a9 a10 a11), (a9, ce7 a12 a13 a14 a15), (a10, ce10 a9), (a11, ce15 a9 a16), (a12, ce3 z.1), (a13, ce3 z.1), (a14, ce3 z.1), (a15, ce3 z.1), (a16, ce13 k17), (a18, ce21 a26 a27 a28 a29), (a26, ce3 z.1), (a27, ce3 z.1), (a28, ce3 z.1), (a29, ce3 z.1), (a30, ce22 k31), (a33, ce23 k34)] H35 := hP
  have hD := vd_as hP hD rfl
  refine W.widen (k := 16) (n := 52) (by decide) (by decide) ?_
  refine lv_astore (lv' := [(4, .ref a33), (3, .ref a30), (2, .ref a18), (1, .ref a1), (0, .ref b)]) hx hb dL_law_23 hl (by decide) rfl (fun ls hl => ?_)
  refine lv_iconst (v := 0) hx hb dL_law_25 (by decide) ?_
  refine lv_istore (lv' := [(5, .int 0), (4, .ref a33), (3, .ref a30), (2, .ref a18), (1, .ref a1), (0, .ref b)]) hx hb dL_law_26 hl (by decide) rfl (fun ls hl => ?_)
  refine lv_iload hx hb dL_law_28 (lv_at hl 0 rfl) ?_
  refine lv_aload_n hx hb dL_law_30 rfl (lv_at hl 5 rfl) ?_
  refine va_slen hx hb hX9 hbl hbA hS dL_law_31 ?_
  refine W.eq (g2 := F0 m 32 ls [.int 2540, .int 0]) rfl ?_
  refine lv_iconst (v := 5) hx hb dL_law_32 (by decide) ?_
  refine lv_isub hx hb dL_law_33 ?_
  refine lv_topi (fun y36 ey36 => ?_)
  obtain rfl : y36 = 2535 := ey36.trans (by decide)
  refine lv_icmp_gt (tgt := 1063) hx hb dL_law_34 (by decide) (fun cz => absurd cz (by decide)) (fun _ => ?_)
  refine lv_aload_n hx hb dL_law_37 rfl (lv_at hl 5 rfl) ?_
  refine lv_iload hx hb dL_law_38 (lv_at hl 0 rfl) ?_
  refine va_sld hx hb hX9 hbl hbA hS (i := 0) (by unfold vp_in; decide) dL_law_40 ?_
  refine W.eq (g2 := F0 m 41 ls [.int 0]) (by rw [show xs (Int32.toNatClampNeg 0) = xs 0 from rfl, hZ 0 (by decide)]; rfl) ?_
  refine lv_bipush (v := 31) hx hb dL_law_41 (by decide) ?_
  refine lv_iand hx hb dL_law_43 ?_
  refine lv_topi (fun y37 ey37 => ?_)
  obtain rfl : y37 = 0 := ey37.trans (by decide)
  refine lv_tableIn (tgt := 172) hx hb dL_law_44 (by decide) (by decide) rfl (by decide) ?_
  refine lv_aload_n hx hb dL_law_172 rfl (lv_at hl 4 rfl) ?_
  refine lv_aload_n hx hb dL_law_173 rfl (lv_at hl 2 rfl) ?_
  have hM40 := k47_addInput l hl9 dC dI z a1 a30 a9 a10 a12 a13 a14 a15 a11 H35.size k31
  obtain ⟨hF38, hC41⟩ := pc_M hM40 hP hD hK hS hX hT hA [0, 14, 1, 2, 4, 5, 6, 7] [1] rfl rfl rfl
  refine va_calli (vx_runSW (As := [.ref a1, .ref a30]) (rest := []) ⟨hx, hb, hml, hown, hts⟩ hM40 (vx_cwSW 2 hts (gS q_240 q_241 q_242 q_239) rfl rfl rfl hS_L_addInput ⟨Nat.le_of_ble_eq_true rfl, Nat.le_of_ble_eq_true rfl⟩) ⟨pc_blind, fun U hU hW => ⟨rfl, hC41 U hU hW⟩⟩ rfl rfl hl.1 rfl (lv_room (Nat.le_of_ble_eq_true rfl)) dL_law_174 ⟨(Nat.le_of_ble_eq_true rfl), (Nat.le_of_ble_eq_true rfl)⟩) hS (fun q9 _ h9 => hF38 q9 h9) hF38 (fun r43 u42 t42 H42 L42 ht42 hvm42 hw42 hB42 hz42 hk42 hS => ?_)
  obtain ⟨a44, a45, a46, a47, a48, k49, k50, k51, hB42⟩ := hB42
  obtain ⟨hP, hD, hK⟩ := pq_jn (wz := [(a11, ce15 a9 a16), (a16, ce13 k17), (a18, ce21 a26 a27 a28 a29), (a26, ce3 z.1), (a27, ce3 z.1), (a28, ce3 z.1), (a29, ce3 z.1), (a33, ce23 k34), (a1, ce16 a9 a10 a11), (a30, ce41 k31), (a9, ce7 a12 a13 a14 a15), (a10, ce10 a9), (a12, ce36 a44), (a13, ce36 a45), (a14, ce3 z.1), (a15, ce40 a46), (a44, ce35 k49 a47), (a45, ce35 k50 a47), (a46, ce35 k51 a47), (a47, ce38 (z.2.1 0) a48 a47), (a48, ce3 z.1)]) (tz := [(k17, .int), (k34, .double), (k31, .long), (k49, .object "java/lang/Object"), (k50, .object "java/lang/Object"), (k51, .object "java/lang/Object")]) hP hD hK [0, 14, 1, 2, 4, 5, 6, 7] [0, 2] rfl hk42 hF38 hB42.1 ht42 hvm42 rfl rfl
  have hG : s.heap.size + 21 ≤ H42.size := va_gr (g := 16) (g1 := 5) hG (by rw [← ht42]; exact hB42.2)
  refine W.eq (g2 := F0 m 177 ls [.int 0]) (by rw [hw42]) ?_
  refine W.widen (k := 21) (n := 104) (by decide) (by decide) ?_
  refine lv_istore (lv' := [(6, .int 0), (5, .int 0), (4, .ref a33), (3, .ref a30), (2, .ref a18), (1, .ref a1), (0, .ref b)]) hx hb dL_law_177 hl (by decide) rfl (fun ls hl => ?_)
  refine lv_aload_n hx hb dL_law_179 rfl (lv_at hl 4 rfl) ?_
  have hM54 := k79_addInput l hl9 dC dI z a18 a26 a27 a29 a28 H42.size
  obtain ⟨hF52, hC55⟩ := pc_M hM54 hP hD hK hS hX hT hA [2, 3, 4, 6] [] rfl rfl rfl
  refine va_calli (va_runV (As := []) (rest := []) ⟨hx, hb, hml, hown, hts⟩ hM54 (cwV 0 hts (gV q_340 q_341 q_342 q_60 q_339) rfl rfl rfl hV_X9_addInput ⟨Nat.le_of_ble_eq_true rfl, Nat.le_of_ble_eq_true rfl⟩) ⟨pc_blind, va_recv hK hP (ci := 8) (q := (RX9, TX9, 6)) (q0 := 2) rfl rfl, fun U hU hW => ⟨rfl, hC55 U hU hW⟩⟩ rfl rfl hl.1 rfl (lv_room (Nat.le_of_ble_eq_true rfl)) dL_law_180 ⟨(Nat.le_of_ble_eq_true rfl), (Nat.le_of_ble_eq_true rfl)⟩) hS (fun q9 _ h9 => hF52 q9 h9) hF52 (fun r57 u56 t56 H56 L56 ht56 hvm56 hw56 hB56 hz56 hk56 hS => ?_)
  obtain ⟨a58, a59, a60, k61, k62, hB56⟩ := hB56
  obtain ⟨hP, hD, hK⟩ := pq_jn (wz := [(a11, ce15 a9 a16), (a16, ce13 k17), (a28, ce3 z.1), (a33, ce23 k34), (a1, ce16 a9 a10 a11), (a30, ce41 k31), (a9, ce7 a12 a13 a14 a15), (a10, ce10 a9), (a12, ce36 a44), (a13, ce36 a45), (a14, ce3 z.1), (a15, ce40 a46), (a44, ce35 k49 a47), (a45, ce35 k50 a47), (a46, ce35 k51 a47), (a47, ce38 (z.2.1 0) a48 a47), (a48, ce3 z.1), (a18, ce21 a26 a27 a28 a29), (a26, ce36 a58), (a27, ce3 z.1), (a29, ce40 a59), (a58, ce35 k61 a60), (a59, ce35 k62 (z.2.2.1 128)), (a60, ce49)]) (tz := [(k17, .int), (k34, .double), (k31, .long), (k49, .object "java/lang/Object"), (k50, .object "java/lang/Object"), (k51, .object "java/lang/Object"), (k61, .object "java/lang/Object"), (k62, .object "java/lang/Object")]) hP hD hK [2, 3, 4, 6] [0, 1, 2, 3, 4, 5] rfl hk56 hF52 hB56.1 ht56 hvm56 rfl rfl
  have hG : s.heap.size + 33 ≤ H56.size := va_gr (g := 21) (g1 := 12) hG (by rw [← ht56]; exact hB56.2)
  refine W.eq (g2 := F0 m 183 ls [.int 0]) (by rw [hw56]) ?_
  refine W.widen (k := 33) (n := 274) (by decide) (by decide) ?_
  refine lv_istore (lv' := [(7, .int 0), (6, .int 0), (5, .int 0), (4, .ref a33), (3, .ref a30), (2, .ref a18), (1, .ref a1), (0, .ref b)]) hx hb dL_law_183 hl (by decide) rfl (fun ls hl => ?_)
  refine lv_goto (tgt := 1057) hx hb dL_law_185 (by decide) ?_
  refine lv_iinc (v := 5) (lv' := [(5, .int 5), (7, .int 0), (6, .int 0), (4, .ref a33), (3, .ref a30), (2, .ref a18), (1, .ref a1), (0, .ref b)]) hx hb dL_law_1057 hl (k := 2) rfl (by decide) (by decide) rfl (fun ls hl => ?_)
  refine lv_goto (tgt := 28) hx hb dL_law_1060 (by decide) ?_
  refine lv_iload hx hb dL_law_28 (lv_at hl 0 rfl) ?_
  refine lv_aload_n hx hb dL_law_30 rfl (lv_at hl 7 rfl) ?_
  refine va_slen hx hb hX9 hbl hbA hS dL_law_31 ?_
  refine W.eq (g2 := F0 m 32 ls [.int 2540, .int 5]) rfl ?_
  refine lv_iconst (v := 5) hx hb dL_law_32 (by decide) ?_
  refine lv_isub hx hb dL_law_33 ?_
  refine lv_topi (fun y63 ey63 => ?_)
  obtain rfl : y63 = 2535 := ey63.trans (by decide)
  refine lv_icmp_gt (tgt := 1063) hx hb dL_law_34 (by decide) (fun cz => absurd cz (by decide)) (fun _ => ?_)
  refine lv_aload_n hx hb dL_law_37 rfl (lv_at hl 7 rfl) ?_
  refine lv_iload hx hb dL_law_38 (lv_at hl 0 rfl) ?_
  refine va_sld hx hb hX9 hbl hbA hS (i := 5) (by unfold vp_in; decide) dL_law_40 ?_
  refine W.eq (g2 := F0 m 41 ls [.int 0]) (by rw [show xs (Int32.toNatClampNeg 5) = xs 5 from rfl, hZ 5 (by decide)]; rfl) ?_
  refine lv_bipush (v := 31) hx hb dL_law_41 (by decide) ?_
  refine lv_iand hx hb dL_law_43 ?_
  refine lv_topi (fun y64 ey64 => ?_)
  obtain rfl : y64 = 0 := ey64.trans (by decide)
  refine lv_tableIn (tgt := 172) hx hb dL_law_44 (by decide) (by decide) rfl (by decide) ?_
  refine lv_aload_n hx hb dL_law_172 rfl (lv_at hl 6 rfl) ?_
  refine lv_aload_n hx hb dL_law_173 rfl (lv_at hl 4 rfl) ?_
  have hM67 := k120_addInput l hl9 dC dI z a1 a30 a9 a10 a12 a13 a14 a15 a44 a45 a46 a47 a48 a11 H56.size k31 k49 k50 k51
  obtain ⟨hF65, hC68⟩ := pc_M hM67 hP hD hK hS hX hT hA [4, 5, 6, 7, 8, 9, 10, 11, 12, 13, 14, 15, 16] [2, 3, 4, 5] rfl rfl rfl
  refine va_calli (vx_runSW (As := [.ref a1, .ref a30]) (rest := []) ⟨hx, hb, hml, hown, hts⟩ hM67 (vx_cwSW 2 hts (gS q_240 q_241 q_242 q_239) rfl rfl rfl hS_L_addInput ⟨Nat.le_of_ble_eq_true rfl, Nat.le_of_ble_eq_true rfl⟩) ⟨pc_blind, fun U hU hW => ⟨rfl, hC68 U hU hW⟩⟩ rfl rfl hl.1 rfl (lv_room (Nat.le_of_ble_eq_true rfl)) dL_law_174 ⟨(Nat.le_of_ble_eq_true rfl), (Nat.le_of_ble_eq_true rfl)⟩) hS (fun q9 _ h9 => hF65 q9 h9) hF65 (fun r70 u69 t69 H69 L69 ht69 hvm69 hw69 hB69 hz69 hk69 hS => ?_)
  obtain ⟨a71, a72, hB69⟩ := hB69
  obtain ⟨hP, hD, hK⟩ := pq_jn (wz := [(a11, ce15 a9 a16), (a16, ce13 k17), (a28, ce3 z.1), (a33, ce23 k34), (a18, ce21 a26 a27 a28 a29), (a26, ce36 a58), (a27, ce3 z.1), (a29, ce40 a59), (a58, ce35 k61 a60), (a59, ce35 k62 (z.2.2.1 128)), (a60, ce49), (a1, ce16 a9 a10 a11), (a30, ce81 k31), (a9, ce7 a12 a13 a14 a15), (a10, ce10 a9), (a12, ce69 a44), (a13, ce69 a45), (a14, ce3 z.1), (a15, ce79 a46), (a44, ce68 k49 a47 a71), (a45, ce68 k50 a47 a71), (a46, ce68 k51 a47 a71), (a47, ce38 (z.2.1 0) a48 a47), (a48, ce3 z.1), (a71, ce77 (z.2.1 0) a72 a71), (a72, ce3 z.1)]) (tz := [(k17, .int), (k34, .double), (k61, .object "java/lang/Object"), (k62, .object "java/lang/Object"), (k31, .long), (k49, .object "java/lang/Object"), (k50, .object "java/lang/Object"), (k51, .object "java/lang/Object")]) hP hD hK [4, 5, 6, 7, 8, 9, 10, 11, 12, 13, 14, 15, 16] [0, 1, 6, 7] rfl hk69 hF65 hB69.1 ht69 hvm69 rfl rfl
  have hG : s.heap.size + 35 ≤ H69.size := va_gr (g := 33) (g1 := 2) hG (by rw [← ht69]; exact hB69.2)
  refine W.eq (g2 := F0 m 177 ls [.int 0]) (by rw [hw69]) ?_
  refine W.widen (k := 35) (n := 296) (by decide) (by decide) ?_
  refine lv_istore (lv' := [(6, .int 0), (5, .int 5), (7, .int 0), (4, .ref a33), (3, .ref a30), (2, .ref a18), (1, .ref a1), (0, .ref b)]) hx hb dL_law_177 hl (by decide) rfl (fun ls hl => ?_)
  refine lv_aload_n hx hb dL_law_179 rfl (lv_at hl 5 rfl) ?_
  have hM75 := k156_addInput l hl9 dC dI z a18 a26 a27 a29 a58 a59 a60 a28 H69.size k61 k62
  obtain ⟨hF73, hC76⟩ := pc_M hM75 hP hD hK hS hX hT hA [4, 5, 6, 7, 8, 9, 10] [2, 3] rfl rfl rfl
  refine va_calli (va_runV (As := []) (rest := []) ⟨hx, hb, hml, hown, hts⟩ hM75 (cwV 0 hts (gV q_340 q_341 q_342 q_60 q_339) rfl rfl rfl hV_X9_addInput ⟨Nat.le_of_ble_eq_true rfl, Nat.le_of_ble_eq_true rfl⟩) ⟨pc_blind, va_recv hK hP (ci := 8) (q := (RX9, TX9, 6)) (q0 := 4) rfl rfl, fun U hU hW => ⟨rfl, hC76 U hU hW⟩⟩ rfl rfl hl.1 rfl (lv_room (Nat.le_of_ble_eq_true rfl)) dL_law_180 ⟨(Nat.le_of_ble_eq_true rfl), (Nat.le_of_ble_eq_true rfl)⟩) hS (fun q9 _ h9 => hF73 q9 h9) hF73 (fun r78 u77 t77 H77 L77 ht77 hvm77 hw77 hB77 hz77 hk77 hS => ?_)
  obtain ⟨a79, hB77⟩ := hB77
  obtain ⟨hP, hD, hK⟩ := pq_jn (wz := [(a11, ce15 a9 a16), (a16, ce13 k17), (a28, ce3 z.1), (a33, ce23 k34), (a1, ce16 a9 a10 a11), (a30, ce81 k31), (a9, ce7 a12 a13 a14 a15), (a10, ce10 a9), (a12, ce69 a44), (a13, ce69 a45), (a14, ce3 z.1), (a15, ce79 a46), (a44, ce68 k49 a47 a71), (a45, ce68 k50 a47 a71), (a46, ce68 k51 a47 a71), (a47, ce38 (z.2.1 0) a48 a47), (a48, ce3 z.1), (a71, ce77 (z.2.1 0) a72 a71), (a72, ce3 z.1), (a18, ce21 a26 a27 a28 a29), (a26, ce69 a58), (a27, ce3 z.1), (a29, ce79 a59), (a58, ce68 k61 a60 a79), (a59, ce68 k62 (z.2.2.1 128) (z.2.2.1 129)), (a60, ce49), (a79, ce49)]) (tz := [(k17, .int), (k34, .double), (k31, .long), (k49, .object "java/lang/Object"), (k50, .object "java/lang/Object"), (k51, .object "java/lang/Object"), (k61, .object "java/lang/Object"), (k62, .object "java/lang/Object")]) hP hD hK [4, 5, 6, 7, 8, 9, 10] [0, 1, 4, 5, 6, 7] rfl hk77 hF73 hB77.1 ht77 hvm77 rfl rfl
  have hG : s.heap.size + 47 ≤ H77.size := va_gr (g := 35) (g1 := 12) hG (by rw [← ht77]; exact hB77.2)
  refine W.eq (g2 := F0 m 183 ls [.int 1]) (by rw [hw77]) ?_
  refine W.widen (k := 47) (n := 454) (by decide) (by decide) ?_
  refine lv_istore (lv' := [(7, .int 1), (6, .int 0), (5, .int 5), (4, .ref a33), (3, .ref a30), (2, .ref a18), (1, .ref a1), (0, .ref b)]) hx hb dL_law_183 hl (by decide) rfl (fun ls hl => ?_)
  refine lv_goto (tgt := 1057) hx hb dL_law_185 (by decide) ?_
  refine lv_iinc (v := 10) (lv' := [(5, .int 10), (7, .int 1), (6, .int 0), (4, .ref a33), (3, .ref a30), (2, .ref a18), (1, .ref a1), (0, .ref b)]) hx hb dL_law_1057 hl (k := 2) rfl (by decide) (by decide) rfl (fun ls hl => ?_)
  refine lv_goto (tgt := 28) hx hb dL_law_1060 (by decide) ?_
  refine lv_iload hx hb dL_law_28 (lv_at hl 0 rfl) ?_
  refine lv_aload_n hx hb dL_law_30 rfl (lv_at hl 7 rfl) ?_
  refine va_slen hx hb hX9 hbl hbA hS dL_law_31 ?_
  refine W.eq (g2 := F0 m 32 ls [.int 2540, .int 10]) rfl ?_
  refine lv_iconst (v := 5) hx hb dL_law_32 (by decide) ?_
  refine lv_isub hx hb dL_law_33 ?_
  refine lv_topi (fun y80 ey80 => ?_)
  obtain rfl : y80 = 2535 := ey80.trans (by decide)
  refine lv_icmp_gt (tgt := 1063) hx hb dL_law_34 (by decide) (fun cz => absurd cz (by decide)) (fun _ => ?_)
  refine lv_aload_n hx hb dL_law_37 rfl (lv_at hl 7 rfl) ?_
  refine lv_iload hx hb dL_law_38 (lv_at hl 0 rfl) ?_
  refine va_sld hx hb hX9 hbl hbA hS (i := 10) (by unfold vp_in; decide) dL_law_40 ?_
  refine W.eq (g2 := F0 m 41 ls [.int 0]) (by rw [show xs (Int32.toNatClampNeg 10) = xs 10 from rfl, hZ 10 (by decide)]; rfl) ?_
  refine lv_bipush (v := 31) hx hb dL_law_41 (by decide) ?_
  refine lv_iand hx hb dL_law_43 ?_
  refine lv_topi (fun y81 ey81 => ?_)
  obtain rfl : y81 = 0 := ey81.trans (by decide)
  refine lv_tableIn (tgt := 172) hx hb dL_law_44 (by decide) (by decide) rfl (by decide) ?_
  refine lv_aload_n hx hb dL_law_172 rfl (lv_at hl 6 rfl) ?_
  refine lv_aload_n hx hb dL_law_173 rfl (lv_at hl 4 rfl) ?_
  have hM84 := k205_addInput l hl9 dC dI z a1 a30 a9 a10 a12 a13 a14 a15 a44 a45 a46 a47 a71 a48 a72 a11 H77.size k31 k49 k50 k51
  obtain ⟨hF82, hC85⟩ := pc_M hM84 hP hD hK hS hX hT hA [4, 5, 6, 7, 8, 9, 10, 11, 12, 13, 14, 15, 17, 16, 18] [2, 3, 4, 5] rfl rfl rfl
  refine va_calli (vx_runSW (As := [.ref a1, .ref a30]) (rest := []) ⟨hx, hb, hml, hown, hts⟩ hM84 (vx_cwSW 2 hts (gS q_240 q_241 q_242 q_239) rfl rfl rfl hS_L_addInput ⟨Nat.le_of_ble_eq_true rfl, Nat.le_of_ble_eq_true rfl⟩) ⟨pc_blind, fun U hU hW => ⟨rfl, hC85 U hU hW⟩⟩ rfl rfl hl.1 rfl (lv_room (Nat.le_of_ble_eq_true rfl)) dL_law_174 ⟨(Nat.le_of_ble_eq_true rfl), (Nat.le_of_ble_eq_true rfl)⟩) hS (fun q9 _ h9 => hF82 q9 h9) hF82 (fun r87 u86 t86 H86 L86 ht86 hvm86 hw86 hB86 hz86 hk86 hS => ?_)
  obtain ⟨a88, a89, hB86⟩ := hB86
  obtain ⟨hP, hD, hK⟩ := pq_jn (wz := [(a11, ce15 a9 a16), (a16, ce13 k17), (a28, ce3 z.1), (a33, ce23 k34), (a18, ce21 a26 a27 a28 a29), (a26, ce69 a58), (a27, ce3 z.1), (a29, ce79 a59), (a58, ce68 k61 a60 a79), (a59, ce68 k62 (z.2.2.1 128) (z.2.2.1 129)), (a60, ce49), (a79, ce49), (a1, ce16 a9 a10 a11), (a30, ce119 k31), (a9, ce7 a12 a13 a14 a15), (a10, ce10 a9), (a12, ce102 a44), (a13, ce102 a45), (a14, ce3 z.1), (a15, ce117 a46), (a44, ce101 k49 a47 a71 a88), (a45, ce101 k50 a47 a71 a88), (a46, ce101 k51 a47 a71 a88), (a47, ce38 (z.2.1 0) a48 a47), (a71, ce77 (z.2.1 0) a72 a71), (a48, ce3 z.1), (a72, ce3 z.1), (a88, ce115 (z.2.1 0) a89 a88), (a89, ce3 z.1)]) (tz := [(k17, .int), (k34, .double), (k61, .object "java/lang/Object"), (k62, .object "java/lang/Object"), (k31, .long), (k49, .object "java/lang/Object"), (k50, .object "java/lang/Object"), (k51, .object "java/lang/Object")]) hP hD hK [4, 5, 6, 7, 8, 9, 10, 11, 12, 13, 14, 15, 17, 16, 18] [0, 1, 6, 7] rfl hk86 hF82 hB86.1 ht86 hvm86 rfl rfl
  have hG : s.heap.size + 49 ≤ H86.size := va_gr (g := 47) (g1 := 2) hG (by rw [← ht86]; exact hB86.2)
  refine W.eq (g2 := F0 m 177 ls [.int 0]) (by rw [hw86]) ?_
  refine W.widen (k := 49) (n := 476) (by decide) (by decide) ?_
  refine lv_istore (lv' := [(6, .int 0), (5, .int 10), (7, .int 1), (4, .ref a33), (3, .ref a30), (2, .ref a18), (1, .ref a1), (0, .ref b)]) hx hb dL_law_177 hl (by decide) rfl (fun ls hl => ?_)
  refine lv_aload_n hx hb dL_law_179 rfl (lv_at hl 5 rfl) ?_
  have hM92 := k248_addInput l hl9 dC dI z a18 a26 a27 a29 a58 a59 a60 a79 a28 H86.size k61 k62
  obtain ⟨hF90, hC93⟩ := pc_M hM92 hP hD hK hS hX hT hA [4, 5, 6, 7, 8, 9, 10, 11] [2, 3] rfl rfl rfl
  refine va_calli (va_runV (As := []) (rest := []) ⟨hx, hb, hml, hown, hts⟩ hM92 (cwV 0 hts (gV q_340 q_341 q_342 q_60 q_339) rfl rfl rfl hV_X9_addInput ⟨Nat.le_of_ble_eq_true rfl, Nat.le_of_ble_eq_true rfl⟩) ⟨pc_blind, va_recv hK hP (ci := 8) (q := (RX9, TX9, 6)) (q0 := 4) rfl rfl, fun U hU hW => ⟨rfl, hC93 U hU hW⟩⟩ rfl rfl hl.1 rfl (lv_room (Nat.le_of_ble_eq_true rfl)) dL_law_180 ⟨(Nat.le_of_ble_eq_true rfl), (Nat.le_of_ble_eq_true rfl)⟩) hS (fun q9 _ h9 => hF90 q9 h9) hF90 (fun r95 u94 t94 H94 L94 ht94 hvm94 hw94 hB94 hz94 hk94 hS => ?_)
  obtain ⟨a96, hB94⟩ := hB94
  obtain ⟨hP, hD, hK⟩ := pq_jn (wz := [(a11, ce15 a9 a16), (a16, ce13 k17), (a28, ce3 z.1), (a33, ce23 k34), (a1, ce16 a9 a10 a11), (a30, ce119 k31), (a9, ce7 a12 a13 a14 a15), (a10, ce10 a9), (a12, ce102 a44), (a13, ce102 a45), (a14, ce3 z.1), (a15, ce117 a46), (a44, ce101 k49 a47 a71 a88), (a45, ce101 k50 a47 a71 a88), (a46, ce101 k51 a47 a71 a88), (a47, ce38 (z.2.1 0) a48 a47), (a71, ce77 (z.2.1 0) a72 a71), (a48, ce3 z.1), (a72, ce3 z.1), (a88, ce115 (z.2.1 0) a89 a88), (a89, ce3 z.1), (a18, ce21 a26 a27 a28 a29), (a26, ce102 a58), (a27, ce3 z.1), (a29, ce117 a59), (a58, ce101 k61 a60 a79 a96), (a59, ce101 k62 (z.2.2.1 128) (z.2.2.1 129) (z.2.2.1 130)), (a60, ce49), (a79, ce49), (a96, ce49)]) (tz := [(k17, .int), (k34, .double), (k31, .long), (k49, .object "java/lang/Object"), (k50, .object "java/lang/Object"), (k51, .object "java/lang/Object"), (k61, .object "java/lang/Object"), (k62, .object "java/lang/Object")]) hP hD hK [4, 5, 6, 7, 8, 9, 10, 11] [0, 1, 4, 5, 6, 7] rfl hk94 hF90 hB94.1 ht94 hvm94 rfl rfl
  have hG : s.heap.size + 63 ≤ H94.size := va_gr (g := 49) (g1 := 14) hG (by rw [← ht94]; exact hB94.2)
  refine W.eq (g2 := F0 m 183 ls [.int 2]) (by rw [hw94]) ?_
  refine W.widen (k := 63) (n := 642) (by decide) (by decide) ?_
  refine lv_istore (lv' := [(7, .int 2), (6, .int 0), (5, .int 10), (4, .ref a33), (3, .ref a30), (2, .ref a18), (1, .ref a1), (0, .ref b)]) hx hb dL_law_183 hl (by decide) rfl (fun ls hl => ?_)
  refine lv_goto (tgt := 1057) hx hb dL_law_185 (by decide) ?_
  refine lv_iinc (v := 15) (lv' := [(5, .int 15), (7, .int 2), (6, .int 0), (4, .ref a33), (3, .ref a30), (2, .ref a18), (1, .ref a1), (0, .ref b)]) hx hb dL_law_1057 hl (k := 2) rfl (by decide) (by decide) rfl (fun ls hl => ?_)
  refine lv_goto (tgt := 28) hx hb dL_law_1060 (by decide) ?_
  refine lv_iload hx hb dL_law_28 (lv_at hl 0 rfl) ?_
  refine lv_aload_n hx hb dL_law_30 rfl (lv_at hl 7 rfl) ?_
  refine va_slen hx hb hX9 hbl hbA hS dL_law_31 ?_
  refine W.eq (g2 := F0 m 32 ls [.int 2540, .int 15]) rfl ?_
  refine lv_iconst (v := 5) hx hb dL_law_32 (by decide) ?_
  refine lv_isub hx hb dL_law_33 ?_
  refine lv_topi (fun y97 ey97 => ?_)
  obtain rfl : y97 = 2535 := ey97.trans (by decide)
  refine lv_icmp_gt (tgt := 1063) hx hb dL_law_34 (by decide) (fun cz => absurd cz (by decide)) (fun _ => ?_)
  refine lv_aload_n hx hb dL_law_37 rfl (lv_at hl 7 rfl) ?_
  refine lv_iload hx hb dL_law_38 (lv_at hl 0 rfl) ?_
  refine va_sld hx hb hX9 hbl hbA hS (i := 15) (by unfold vp_in; decide) dL_law_40 ?_
  refine W.eq (g2 := F0 m 41 ls [.int 0]) (by rw [show xs (Int32.toNatClampNeg 15) = xs 15 from rfl, hZ 15 (by decide)]; rfl) ?_
  refine lv_bipush (v := 31) hx hb dL_law_41 (by decide) ?_
  refine lv_iand hx hb dL_law_43 ?_
  refine lv_topi (fun y98 ey98 => ?_)
  obtain rfl : y98 = 0 := ey98.trans (by decide)
  refine lv_tableIn (tgt := 172) hx hb dL_law_44 (by decide) (by decide) rfl (by decide) ?_
  refine lv_aload_n hx hb dL_law_172 rfl (lv_at hl 6 rfl) ?_
  refine lv_aload_n hx hb dL_law_173 rfl (lv_at hl 4 rfl) ?_
  have hM101 := k305_addInput l hl9 dC dI z a1 a30 a9 a10 a12 a13 a14 a15 a44 a45 a46 a47 a71 a88 a48 a72 a89 a11 H94.size k31 k49 k50 k51
  obtain ⟨hF99, hC102⟩ := pc_M hM101 hP hD hK hS hX hT hA [4, 5, 6, 7, 8, 9, 10, 11, 12, 13, 14, 15, 16, 19, 17, 18, 20] [2, 3, 4, 5] rfl rfl rfl
  refine va_calli (vx_runSW (As := [.ref a1, .ref a30]) (rest := []) ⟨hx, hb, hml, hown, hts⟩ hM101 (vx_cwSW 2 hts (gS q_240 q_241 q_242 q_239) rfl rfl rfl hS_L_addInput ⟨Nat.le_of_ble_eq_true rfl, Nat.le_of_ble_eq_true rfl⟩) ⟨pc_blind, fun U hU hW => ⟨rfl, hC102 U hU hW⟩⟩ rfl rfl hl.1 rfl (lv_room (Nat.le_of_ble_eq_true rfl)) dL_law_174 ⟨(Nat.le_of_ble_eq_true rfl), (Nat.le_of_ble_eq_true rfl)⟩) hS (fun q9 _ h9 => hF99 q9 h9) hF99 (fun r104 u103 t103 H103 L103 ht103 hvm103 hw103 hB103 hz103 hk103 hS => ?_)
  obtain ⟨a105, a106, hB103⟩ := hB103
  obtain ⟨hP, hD, hK⟩ := pq_jn (wz := [(a11, ce15 a9 a16), (a16, ce13 k17), (a28, ce3 z.1), (a33, ce23 k34), (a18, ce21 a26 a27 a28 a29), (a26, ce102 a58), (a27, ce3 z.1), (a29, ce117 a59), (a58, ce101 k61 a60 a79 a96), (a59, ce101 k62 (z.2.2.1 128) (z.2.2.1 129) (z.2.2.1 130)), (a60, ce49), (a79, ce49), (a96, ce49), (a1, ce16 a9 a10 a11), (a30, ce169 k31), (a9, ce7 a12 a13 a14 a15), (a10, ce10 a9), (a12, ce147 a44), (a13, ce147 a45), (a14, ce3 z.1), (a15, ce167 a46), (a44, ce146 k49 a47 a71 a88 a105), (a45, ce146 k50 a47 a71 a88 a105), (a46, ce146 k51 a47 a71 a88 a105), (a47, ce38 (z.2.1 0) a48 a47), (a71, ce77 (z.2.1 0) a72 a71), (a88, ce115 (z.2.1 0) a89 a88), (a48, ce3 z.1), (a72, ce3 z.1), (a89, ce3 z.1), (a105, ce165 (z.2.1 0) a106 a105), (a106, ce3 z.1)]) (tz := [(k17, .int), (k34, .double), (k61, .object "java/lang/Object"), (k62, .object "java/lang/Object"), (k31, .long), (k49, .object "java/lang/Object"), (k50, .object "java/lang/Object"), (k51, .object "java/lang/Object")]) hP hD hK [4, 5, 6, 7, 8, 9, 10, 11, 12, 13, 14, 15, 16, 19, 17, 18, 20] [0, 1, 6, 7] rfl hk103 hF99 hB103.1 ht103 hvm103 rfl rfl
  have hG : s.heap.size + 65 ≤ H103.size := va_gr (g := 63) (g1 := 2) hG (by rw [← ht103]; exact hB103.2)
  refine W.eq (g2 := F0 m 177 ls [.int 0]) (by rw [hw103]) ?_
  refine W.widen (k := 65) (n := 664) (by decide) (by decide) ?_
  refine lv_istore (lv' := [(6, .int 0), (5, .int 15), (7, .int 2), (4, .ref a33), (3, .ref a30), (2, .ref a18), (1, .ref a1), (0, .ref b)]) hx hb dL_law_177 hl (by decide) rfl (fun ls hl => ?_)
  refine lv_aload_n hx hb dL_law_179 rfl (lv_at hl 5 rfl) ?_
  have hM109 := k356_addInput l hl9 dC dI z a18 a26 a27 a29 a58 a59 a60 a79 a96 a28 H103.size k61 k62
  obtain ⟨hF107, hC110⟩ := pc_M hM109 hP hD hK hS hX hT hA [4, 5, 6, 7, 8, 9, 10, 11, 12] [2, 3] rfl rfl rfl
  refine va_calli (va_runV (As := []) (rest := []) ⟨hx, hb, hml, hown, hts⟩ hM109 (cwV 0 hts (gV q_340 q_341 q_342 q_60 q_339) rfl rfl rfl hV_X9_addInput ⟨Nat.le_of_ble_eq_true rfl, Nat.le_of_ble_eq_true rfl⟩) ⟨pc_blind, va_recv hK hP (ci := 8) (q := (RX9, TX9, 6)) (q0 := 4) rfl rfl, fun U hU hW => ⟨rfl, hC110 U hU hW⟩⟩ rfl rfl hl.1 rfl (lv_room (Nat.le_of_ble_eq_true rfl)) dL_law_180 ⟨(Nat.le_of_ble_eq_true rfl), (Nat.le_of_ble_eq_true rfl)⟩) hS (fun q9 _ h9 => hF107 q9 h9) hF107 (fun r112 u111 t111 H111 L111 ht111 hvm111 hw111 hB111 hz111 hk111 hS => ?_)
  obtain ⟨a113, hB111⟩ := hB111
  obtain ⟨hP, hD, hK⟩ := pq_jn (wz := [(a11, ce15 a9 a16), (a16, ce13 k17), (a28, ce3 z.1), (a33, ce23 k34), (a1, ce16 a9 a10 a11), (a30, ce169 k31), (a9, ce7 a12 a13 a14 a15), (a10, ce10 a9), (a12, ce147 a44), (a13, ce147 a45), (a14, ce3 z.1), (a15, ce167 a46), (a44, ce146 k49 a47 a71 a88 a105), (a45, ce146 k50 a47 a71 a88 a105), (a46, ce146 k51 a47 a71 a88 a105), (a47, ce38 (z.2.1 0) a48 a47), (a71, ce77 (z.2.1 0) a72 a71), (a88, ce115 (z.2.1 0) a89 a88), (a48, ce3 z.1), (a72, ce3 z.1), (a89, ce3 z.1), (a105, ce165 (z.2.1 0) a106 a105), (a106, ce3 z.1), (a18, ce21 a26 a27 a28 a29), (a26, ce147 a58), (a27, ce3 z.1), (a29, ce167 a59), (a58, ce146 k61 a60 a79 a96 a113), (a59, ce146 k62 (z.2.2.1 128) (z.2.2.1 129) (z.2.2.1 130) (z.2.2.1 131)), (a60, ce49), (a79, ce49), (a96, ce49), (a113, ce49)]) (tz := [(k17, .int), (k34, .double), (k31, .long), (k49, .object "java/lang/Object"), (k50, .object "java/lang/Object"), (k51, .object "java/lang/Object"), (k61, .object "java/lang/Object"), (k62, .object "java/lang/Object")]) hP hD hK [4, 5, 6, 7, 8, 9, 10, 11, 12] [0, 1, 4, 5, 6, 7] rfl hk111 hF107 hB111.1 ht111 hvm111 rfl rfl
  have hG : s.heap.size + 81 ≤ H111.size := va_gr (g := 65) (g1 := 16) hG (by rw [← ht111]; exact hB111.2)
  refine W.eq (g2 := F0 m 183 ls [.int 3]) (by rw [hw111]) ?_
  refine W.widen (k := 81) (n := 838) (by decide) (by decide) ?_
  refine lv_istore (lv' := [(7, .int 3), (6, .int 0), (5, .int 15), (4, .ref a33), (3, .ref a30), (2, .ref a18), (1, .ref a1), (0, .ref b)]) hx hb dL_law_183 hl (by decide) rfl (fun ls hl => ?_)
  refine lv_goto (tgt := 1057) hx hb dL_law_185 (by decide) ?_
  refine lv_iinc (v := 20) (lv' := [(5, .int 20), (7, .int 3), (6, .int 0), (4, .ref a33), (3, .ref a30), (2, .ref a18), (1, .ref a1), (0, .ref b)]) hx hb dL_law_1057 hl (k := 2) rfl (by decide) (by decide) rfl (fun ls hl => ?_)
  refine lv_goto (tgt := 28) hx hb dL_law_1060 (by decide) ?_
  refine lv_iload hx hb dL_law_28 (lv_at hl 0 rfl) ?_
  refine lv_aload_n hx hb dL_law_30 rfl (lv_at hl 7 rfl) ?_
  refine va_slen hx hb hX9 hbl hbA hS dL_law_31 ?_
  refine W.eq (g2 := F0 m 32 ls [.int 2540, .int 20]) rfl ?_
  refine lv_iconst (v := 5) hx hb dL_law_32 (by decide) ?_
  refine lv_isub hx hb dL_law_33 ?_
  refine lv_topi (fun y114 ey114 => ?_)
  obtain rfl : y114 = 2535 := ey114.trans (by decide)
  refine lv_icmp_gt (tgt := 1063) hx hb dL_law_34 (by decide) (fun cz => absurd cz (by decide)) (fun _ => ?_)
  refine lv_aload_n hx hb dL_law_37 rfl (lv_at hl 7 rfl) ?_
  refine lv_iload hx hb dL_law_38 (lv_at hl 0 rfl) ?_
  refine va_sld hx hb hX9 hbl hbA hS (i := 20) (by unfold vp_in; decide) dL_law_40 ?_
  refine W.eq (g2 := F0 m 41 ls [.int 0]) (by rw [show xs (Int32.toNatClampNeg 20) = xs 20 from rfl, hZ 20 (by decide)]; rfl) ?_
  refine lv_bipush (v := 31) hx hb dL_law_41 (by decide) ?_
  refine lv_iand hx hb dL_law_43 ?_
  refine lv_topi (fun y115 ey115 => ?_)
  obtain rfl : y115 = 0 := ey115.trans (by decide)
  refine lv_tableIn (tgt := 172) hx hb dL_law_44 (by decide) (by decide) rfl (by decide) ?_
  refine lv_aload_n hx hb dL_law_172 rfl (lv_at hl 6 rfl) ?_
  refine lv_aload_n hx hb dL_law_173 rfl (lv_at hl 4 rfl) ?_
  have hM118 := k421_addInput l hl9 dC dI z a1 a30 a9 a10 a12 a13 a14 a15 a44 a45 a46 a47 a71 a88 a105 a48 a72 a89 a106 a11 H111.size k31 k49 k50 k51
  obtain ⟨hF116, hC119⟩ := pc_M hM118 hP hD hK hS hX hT hA [4, 5, 6, 7, 8, 9, 10, 11, 12, 13, 14, 15, 16, 17, 21, 18, 19, 20, 22] [2, 3, 4, 5] rfl rfl rfl
  refine va_calli (vx_runSW (As := [.ref a1, .ref a30]) (rest := []) ⟨hx, hb, hml, hown, hts⟩ hM118 (vx_cwSW 2 hts (gS q_240 q_241 q_242 q_239) rfl rfl rfl hS_L_addInput ⟨Nat.le_of_ble_eq_true rfl, Nat.le_of_ble_eq_true rfl⟩) ⟨pc_blind, fun U hU hW => ⟨rfl, hC119 U hU hW⟩⟩ rfl rfl hl.1 rfl (lv_room (Nat.le_of_ble_eq_true rfl)) dL_law_174 ⟨(Nat.le_of_ble_eq_true rfl), (Nat.le_of_ble_eq_true rfl)⟩) hS (fun q9 _ h9 => hF116 q9 h9) hF116 (fun r121 u120 t120 H120 L120 ht120 hvm120 hw120 hB120 hz120 hk120 hS => ?_)
  obtain ⟨a122, a123, hB120⟩ := hB120
  obtain ⟨hP, hD, hK⟩ := pq_jn (wz := [(a11, ce15 a9 a16), (a16, ce13 k17), (a28, ce3 z.1), (a33, ce23 k34), (a18, ce21 a26 a27 a28 a29), (a26, ce147 a58), (a27, ce3 z.1), (a29, ce167 a59), (a58, ce146 k61 a60 a79 a96 a113), (a59, ce146 k62 (z.2.2.1 128) (z.2.2.1 129) (z.2.2.1 130) (z.2.2.1 131)), (a60, ce49), (a79, ce49), (a96, ce49), (a113, ce49), (a1, ce16 a9 a10 a11), (a30, ce228 k31), (a9, ce7 a12 a13 a14 a15), (a10, ce10 a9), (a12, ce201 a44), (a13, ce201 a45), (a14, ce3 z.1), (a15, ce226 a46), (a44, ce200 k49 a47 a71 a88 a105 a122), (a45, ce200 k50 a47 a71 a88 a105 a122), (a46, ce200 k51 a47 a71 a88 a105 a122), (a47, ce38 (z.2.1 0) a48 a47), (a71, ce77 (z.2.1 0) a72 a71), (a88, ce115 (z.2.1 0) a89 a88), (a105, ce165 (z.2.1 0) a106 a105), (a48, ce3 z.1), (a72, ce3 z.1), (a89, ce3 z.1), (a106, ce3 z.1), (a122, ce224 (z.2.1 0) a123 a122), (a123, ce3 z.1)]) (tz := [(k17, .int), (k34, .double), (k61, .object "java/lang/Object"), (k62, .object "java/lang/Object"), (k31, .long), (k49, .object "java/lang/Object"), (k50, .object "java/lang/Object"), (k51, .object "java/lang/Object")]) hP hD hK [4, 5, 6, 7, 8, 9, 10, 11, 12, 13, 14, 15, 16, 17, 21, 18, 19, 20, 22] [0, 1, 6, 7] rfl hk120 hF116 hB120.1 ht120 hvm120 rfl rfl
  have hG : s.heap.size + 83 ≤ H120.size := va_gr (g := 81) (g1 := 2) hG (by rw [← ht120]; exact hB120.2)
  refine W.eq (g2 := F0 m 177 ls [.int 0]) (by rw [hw120]) ?_
  refine W.widen (k := 83) (n := 860) (by decide) (by decide) ?_
  refine lv_istore (lv' := [(6, .int 0), (5, .int 20), (7, .int 3), (4, .ref a33), (3, .ref a30), (2, .ref a18), (1, .ref a1), (0, .ref b)]) hx hb dL_law_177 hl (by decide) rfl (fun ls hl => ?_)
  refine lv_aload_n hx hb dL_law_179 rfl (lv_at hl 5 rfl) ?_
  have hM126 := k480_addInput l hl9 dC dI z a18 a26 a27 a29 a58 a59 a60 a79 a96 a113 a28 H120.size k61 k62
  obtain ⟨hF124, hC127⟩ := pc_M hM126 hP hD hK hS hX hT hA [4, 5, 6, 7, 8, 9, 10, 11, 12, 13] [2, 3] rfl rfl rfl
  refine va_calli (va_runV (As := []) (rest := []) ⟨hx, hb, hml, hown, hts⟩ hM126 (cwV 0 hts (gV q_340 q_341 q_342 q_60 q_339) rfl rfl rfl hV_X9_addInput ⟨Nat.le_of_ble_eq_true rfl, Nat.le_of_ble_eq_true rfl⟩) ⟨pc_blind, va_recv hK hP (ci := 8) (q := (RX9, TX9, 6)) (q0 := 4) rfl rfl, fun U hU hW => ⟨rfl, hC127 U hU hW⟩⟩ rfl rfl hl.1 rfl (lv_room (Nat.le_of_ble_eq_true rfl)) dL_law_180 ⟨(Nat.le_of_ble_eq_true rfl), (Nat.le_of_ble_eq_true rfl)⟩) hS (fun q9 _ h9 => hF124 q9 h9) hF124 (fun r129 u128 t128 H128 L128 ht128 hvm128 hw128 hB128 hz128 hk128 hS => ?_)
  obtain ⟨a130, hB128⟩ := hB128
  obtain ⟨hP, hD, hK⟩ := pq_jn (wz := [(a11, ce15 a9 a16), (a16, ce13 k17), (a28, ce3 z.1), (a33, ce23 k34), (a1, ce16 a9 a10 a11), (a30, ce228 k31), (a9, ce7 a12 a13 a14 a15), (a10, ce10 a9), (a12, ce201 a44), (a13, ce201 a45), (a14, ce3 z.1), (a15, ce226 a46), (a44, ce200 k49 a47 a71 a88 a105 a122), (a45, ce200 k50 a47 a71 a88 a105 a122), (a46, ce200 k51 a47 a71 a88 a105 a122), (a47, ce38 (z.2.1 0) a48 a47), (a71, ce77 (z.2.1 0) a72 a71), (a88, ce115 (z.2.1 0) a89 a88), (a105, ce165 (z.2.1 0) a106 a105), (a48, ce3 z.1), (a72, ce3 z.1), (a89, ce3 z.1), (a106, ce3 z.1), (a122, ce224 (z.2.1 0) a123 a122), (a123, ce3 z.1), (a18, ce21 a26 a27 a28 a29), (a26, ce201 a58), (a27, ce3 z.1), (a29, ce226 a59), (a58, ce200 k61 a60 a79 a96 a113 a130), (a59, ce200 k62 (z.2.2.1 128) (z.2.2.1 129) (z.2.2.1 130) (z.2.2.1 131) (z.2.2.1 132)), (a60, ce49), (a79, ce49), (a96, ce49), (a113, ce49), (a130, ce49)]) (tz := [(k17, .int), (k34, .double), (k31, .long), (k49, .object "java/lang/Object"), (k50, .object "java/lang/Object"), (k51, .object "java/lang/Object"), (k61, .object "java/lang/Object"), (k62, .object "java/lang/Object")]) hP hD hK [4, 5, 6, 7, 8, 9, 10, 11, 12, 13] [0, 1, 4, 5, 6, 7] rfl hk128 hF124 hB128.1 ht128 hvm128 rfl rfl
  have hG : s.heap.size + 101 ≤ H128.size := va_gr (g := 83) (g1 := 18) hG (by rw [← ht128]; exact hB128.2)
  refine W.eq (g2 := F0 m 183 ls [.int 4]) (by rw [hw128]) ?_
  refine W.widen (k := 101) (n := 1042) (by decide) (by decide) ?_
  refine lv_istore (lv' := [(7, .int 4), (6, .int 0), (5, .int 20), (4, .ref a33), (3, .ref a30), (2, .ref a18), (1, .ref a1), (0, .ref b)]) hx hb dL_law_183 hl (by decide) rfl (fun ls hl => ?_)
  refine lv_goto (tgt := 1057) hx hb dL_law_185 (by decide) ?_
  refine lv_iinc (v := 25) (lv' := [(5, .int 25), (7, .int 4), (6, .int 0), (4, .ref a33), (3, .ref a30), (2, .ref a18), (1, .ref a1), (0, .ref b)]) hx hb dL_law_1057 hl (k := 2) rfl (by decide) (by decide) rfl (fun ls hl => ?_)
  refine lv_goto (tgt := 28) hx hb dL_law_1060 (by decide) ?_
  refine lv_iload hx hb dL_law_28 (lv_at hl 0 rfl) ?_
  refine lv_aload_n hx hb dL_law_30 rfl (lv_at hl 7 rfl) ?_
  refine va_slen hx hb hX9 hbl hbA hS dL_law_31 ?_
  refine W.eq (g2 := F0 m 32 ls [.int 2540, .int 25]) rfl ?_
  refine lv_iconst (v := 5) hx hb dL_law_32 (by decide) ?_
  refine lv_isub hx hb dL_law_33 ?_
  refine lv_topi (fun y131 ey131 => ?_)
  obtain rfl : y131 = 2535 := ey131.trans (by decide)
  refine lv_icmp_gt (tgt := 1063) hx hb dL_law_34 (by decide) (fun cz => absurd cz (by decide)) (fun _ => ?_)
  refine lv_aload_n hx hb dL_law_37 rfl (lv_at hl 7 rfl) ?_
  refine lv_iload hx hb dL_law_38 (lv_at hl 0 rfl) ?_
  refine va_sld hx hb hX9 hbl hbA hS (i := 25) (by unfold vp_in; decide) dL_law_40 ?_
  refine W.eq (g2 := F0 m 41 ls [.int 0]) (by rw [show xs (Int32.toNatClampNeg 25) = xs 25 from rfl, hZ 25 (by decide)]; rfl) ?_
  refine lv_bipush (v := 31) hx hb dL_law_41 (by decide) ?_
  refine lv_iand hx hb dL_law_43 ?_
  refine lv_topi (fun y132 ey132 => ?_)
  obtain rfl : y132 = 0 := ey132.trans (by decide)
  refine lv_tableIn (tgt := 172) hx hb dL_law_44 (by decide) (by decide) rfl (by decide) ?_
  refine lv_aload_n hx hb dL_law_172 rfl (lv_at hl 6 rfl) ?_
  refine lv_aload_n hx hb dL_law_173 rfl (lv_at hl 4 rfl) ?_
  have hM135 := k553_addInput l hl9 dC dI z a1 a30 a9 a10 a12 a13 a14 a15 a44 a45 a46 a47 a71 a88 a105 a122 a48 a72 a89 a106 a123 a11 H128.size k31 k49 k50 k51
  obtain ⟨hF133, hC136⟩ := pc_M hM135 hP hD hK hS hX hT hA [4, 5, 6, 7, 8, 9, 10, 11, 12, 13, 14, 15, 16, 17, 18, 23, 19, 20, 21, 22, 24] [2, 3, 4, 5] rfl rfl rfl
  refine va_calli (vx_runSW (As := [.ref a1, .ref a30]) (rest := []) ⟨hx, hb, hml, hown, hts⟩ hM135 (vx_cwSW 2 hts (gS q_240 q_241 q_242 q_239) rfl rfl rfl hS_L_addInput ⟨Nat.le_of_ble_eq_true rfl, Nat.le_of_ble_eq_true rfl⟩) ⟨pc_blind, fun U hU hW => ⟨rfl, hC136 U hU hW⟩⟩ rfl rfl hl.1 rfl (lv_room (Nat.le_of_ble_eq_true rfl)) dL_law_174 ⟨(Nat.le_of_ble_eq_true rfl), (Nat.le_of_ble_eq_true rfl)⟩) hS (fun q9 _ h9 => hF133 q9 h9) hF133 (fun r138 u137 t137 H137 L137 ht137 hvm137 hw137 hB137 hz137 hk137 hS => ?_)
  obtain ⟨a139, a140, hB137⟩ := hB137
  obtain ⟨hP, hD, hK⟩ := pq_jn (wz := [(a11, ce15 a9 a16), (a16, ce13 k17), (a28, ce3 z.1), (a33, ce23 k34), (a18, ce21 a26 a27 a28 a29), (a26, ce201 a58), (a27, ce3 z.1), (a29, ce226 a59), (a58, ce200 k61 a60 a79 a96 a113 a130), (a59, ce200 k62 (z.2.2.1 128) (z.2.2.1 129) (z.2.2.1 130) (z.2.2.1 131) (z.2.2.1 132)), (a60, ce49), (a79, ce49), (a96, ce49), (a113, ce49), (a130, ce49), (a1, ce16 a9 a10 a11), (a30, ce291 k31), (a9, ce7 a12 a13 a14 a15), (a10, ce10 a9), (a12, ce259 a44), (a13, ce259 a45), (a14, ce3 z.1), (a15, ce289 a46), (a44, ce258 k49 a47 a71 a88 a105 a122 a139), (a45, ce258 k50 a47 a71 a88 a105 a122 a139), (a46, ce258 k51 a47 a71 a88 a105 a122 a139), (a47, ce38 (z.2.1 0) a48 a47), (a71, ce77 (z.2.1 0) a72 a71), (a88, ce115 (z.2.1 0) a89 a88), (a105, ce165 (z.2.1 0) a106 a105), (a122, ce224 (z.2.1 0) a123 a122), (a48, ce3 z.1), (a72, ce3 z.1), (a89, ce3 z.1), (a106, ce3 z.1), (a123, ce3 z.1), (a139, ce287 (z.2.1 0) a140 a139), (a140, ce3 z.1)]) (tz := [(k17, .int), (k34, .double), (k61, .object "java/lang/Object"), (k62, .object "java/lang/Object"), (k31, .long), (k49, .object "java/lang/Object"), (k50, .object "java/lang/Object"), (k51, .object "java/lang/Object")]) hP hD hK [4, 5, 6, 7, 8, 9, 10, 11, 12, 13, 14, 15, 16, 17, 18, 23, 19, 20, 21, 22, 24] [0, 1, 6, 7] rfl hk137 hF133 hB137.1 ht137 hvm137 rfl rfl
  have hG : s.heap.size + 103 ≤ H137.size := va_gr (g := 101) (g1 := 2) hG (by rw [← ht137]; exact hB137.2)
  refine W.eq (g2 := F0 m 177 ls [.int 0]) (by rw [hw137]) ?_
  refine W.widen (k := 103) (n := 1064) (by decide) (by decide) ?_
  refine lv_istore (lv' := [(6, .int 0), (5, .int 25), (7, .int 4), (4, .ref a33), (3, .ref a30), (2, .ref a18), (1, .ref a1), (0, .ref b)]) hx hb dL_law_177 hl (by decide) rfl (fun ls hl => ?_)
  refine lv_aload_n hx hb dL_law_179 rfl (lv_at hl 5 rfl) ?_
  have hM143 := k620_addInput l hl9 dC dI z a18 a26 a27 a29 a58 a59 a60 a79 a96 a113 a130 a28 H137.size k61 k62
  obtain ⟨hF141, hC144⟩ := pc_M hM143 hP hD hK hS hX hT hA [4, 5, 6, 7, 8, 9, 10, 11, 12, 13, 14] [2, 3] rfl rfl rfl
  refine va_calli (va_runV (As := []) (rest := []) ⟨hx, hb, hml, hown, hts⟩ hM143 (cwV 0 hts (gV q_340 q_341 q_342 q_60 q_339) rfl rfl rfl hV_X9_addInput ⟨Nat.le_of_ble_eq_true rfl, Nat.le_of_ble_eq_true rfl⟩) ⟨pc_blind, va_recv hK hP (ci := 8) (q := (RX9, TX9, 6)) (q0 := 4) rfl rfl, fun U hU hW => ⟨rfl, hC144 U hU hW⟩⟩ rfl rfl hl.1 rfl (lv_room (Nat.le_of_ble_eq_true rfl)) dL_law_180 ⟨(Nat.le_of_ble_eq_true rfl), (Nat.le_of_ble_eq_true rfl)⟩) hS (fun q9 _ h9 => hF141 q9 h9) hF141 (fun r146 u145 t145 H145 L145 ht145 hvm145 hw145 hB145 hz145 hk145 hS => ?_)
  obtain ⟨a147, hB145⟩ := hB145
  obtain ⟨hP, hD, hK⟩ := pq_jn (wz := [(a11, ce15 a9 a16), (a16, ce13 k17), (a28, ce3 z.1), (a33, ce23 k34), (a1, ce16 a9 a10 a11), (a30, ce291 k31), (a9, ce7 a12 a13 a14 a15), (a10, ce10 a9), (a12, ce259 a44), (a13, ce259 a45), (a14, ce3 z.1), (a15, ce289 a46), (a44, ce258 k49 a47 a71 a88 a105 a122 a139), (a45, ce258 k50 a47 a71 a88 a105 a122 a139), (a46, ce258 k51 a47 a71 a88 a105 a122 a139), (a47, ce38 (z.2.1 0) a48 a47), (a71, ce77 (z.2.1 0) a72 a71), (a88, ce115 (z.2.1 0) a89 a88), (a105, ce165 (z.2.1 0) a106 a105), (a122, ce224 (z.2.1 0) a123 a122), (a48, ce3 z.1), (a72, ce3 z.1), (a89, ce3 z.1), (a106, ce3 z.1), (a123, ce3 z.1), (a139, ce287 (z.2.1 0) a140 a139), (a140, ce3 z.1), (a18, ce21 a26 a27 a28 a29), (a26, ce259 a58), (a27, ce3 z.1), (a29, ce289 a59), (a58, ce258 k61 a60 a79 a96 a113 a130 a147), (a59, ce258 k62 (z.2.2.1 128) (z.2.2.1 129) (z.2.2.1 130) (z.2.2.1 131) (z.2.2.1 132) (z.2.2.1 133)), (a60, ce49), (a79, ce49), (a96, ce49), (a113, ce49), (a130, ce49), (a147, ce49)]) (tz := [(k17, .int), (k34, .double), (k31, .long), (k49, .object "java/lang/Object"), (k50, .object "java/lang/Object"), (k51, .object "java/lang/Object"), (k61, .object "java/lang/Object"), (k62, .object "java/lang/Object")]) hP hD hK [4, 5, 6, 7, 8, 9, 10, 11, 12, 13, 14] [0, 1, 4, 5, 6, 7] rfl hk145 hF141 hB145.1 ht145 hvm145 rfl rfl
  have hG : s.heap.size + 123 ≤ H145.size := va_gr (g := 103) (g1 := 20) hG (by rw [← ht145]; exact hB145.2)
  refine W.eq (g2 := F0 m 183 ls [.int 5]) (by rw [hw145]) ?_
  refine W.widen (k := 123) (n := 1254) (by decide) (by decide) ?_
  refine lv_istore (lv' := [(7, .int 5), (6, .int 0), (5, .int 25), (4, .ref a33), (3, .ref a30), (2, .ref a18), (1, .ref a1), (0, .ref b)]) hx hb dL_law_183 hl (by decide) rfl (fun ls hl => ?_)
  refine lv_goto (tgt := 1057) hx hb dL_law_185 (by decide) ?_
  refine lv_iinc (v := 30) (lv' := [(5, .int 30), (7, .int 5), (6, .int 0), (4, .ref a33), (3, .ref a30), (2, .ref a18), (1, .ref a1), (0, .ref b)]) hx hb dL_law_1057 hl (k := 2) rfl (by decide) (by decide) rfl (fun ls hl => ?_)
  refine lv_goto (tgt := 28) hx hb dL_law_1060 (by decide) ?_
  refine lv_iload hx hb dL_law_28 (lv_at hl 0 rfl) ?_
  refine lv_aload_n hx hb dL_law_30 rfl (lv_at hl 7 rfl) ?_
  refine va_slen hx hb hX9 hbl hbA hS dL_law_31 ?_
  refine W.eq (g2 := F0 m 32 ls [.int 2540, .int 30]) rfl ?_
  refine lv_iconst (v := 5) hx hb dL_law_32 (by decide) ?_
  refine lv_isub hx hb dL_law_33 ?_
  refine lv_topi (fun y148 ey148 => ?_)
  obtain rfl : y148 = 2535 := ey148.trans (by decide)
  refine lv_icmp_gt (tgt := 1063) hx hb dL_law_34 (by decide) (fun cz => absurd cz (by decide)) (fun _ => ?_)
  refine lv_aload_n hx hb dL_law_37 rfl (lv_at hl 7 rfl) ?_
  refine lv_iload hx hb dL_law_38 (lv_at hl 0 rfl) ?_
  refine va_sld hx hb hX9 hbl hbA hS (i := 30) (by unfold vp_in; decide) dL_law_40 ?_
  refine W.eq (g2 := F0 m 41 ls [.int 0]) (by rw [show xs (Int32.toNatClampNeg 30) = xs 30 from rfl, hZ 30 (by decide)]; rfl) ?_
  refine lv_bipush (v := 31) hx hb dL_law_41 (by decide) ?_
  refine lv_iand hx hb dL_law_43 ?_
  refine lv_topi (fun y149 ey149 => ?_)
  obtain rfl : y149 = 0 := ey149.trans (by decide)
  refine lv_tableIn (tgt := 172) hx hb dL_law_44 (by decide) (by decide) rfl (by decide) ?_
  refine lv_aload_n hx hb dL_law_172 rfl (lv_at hl 6 rfl) ?_
  refine lv_aload_n hx hb dL_law_173 rfl (lv_at hl 4 rfl) ?_
  have hM152 := k701_addInput l hl9 dC dI z a1 a30 a9 a10 a12 a13 a14 a15 a44 a45 a46 a47 a71 a88 a105 a122 a139 a48 a72 a89 a106 a123 a140 a11 H145.size k31 k49 k50 k51
  obtain ⟨hF150, hC153⟩ := pc_M hM152 hP hD hK hS hX hT hA [4, 5, 6, 7, 8, 9, 10, 11, 12, 13, 14, 15, 16, 17, 18, 19, 25, 20, 21, 22, 23, 24, 26] [2, 3, 4, 5] rfl rfl rfl
  refine va_calli (vx_runSW (As := [.ref a1, .ref a30]) (rest := []) ⟨hx, hb, hml, hown, hts⟩ hM152 (vx_cwSW 2 hts (gS q_240 q_241 q_242 q_239) rfl rfl rfl hS_L_addInput ⟨Nat.le_of_ble_eq_true rfl, Nat.le_of_ble_eq_true rfl⟩) ⟨pc_blind, fun U hU hW => ⟨rfl, hC153 U hU hW⟩⟩ rfl rfl hl.1 rfl (lv_room (Nat.le_of_ble_eq_true rfl)) dL_law_174 ⟨(Nat.le_of_ble_eq_true rfl), (Nat.le_of_ble_eq_true rfl)⟩) hS (fun q9 _ h9 => hF150 q9 h9) hF150 (fun r155 u154 t154 H154 L154 ht154 hvm154 hw154 hB154 hz154 hk154 hS => ?_)
  obtain ⟨a156, a157, hB154⟩ := hB154
  obtain ⟨hP, hD, hK⟩ := pq_jn (wz := [(a11, ce15 a9 a16), (a16, ce13 k17), (a28, ce3 z.1), (a33, ce23 k34), (a18, ce21 a26 a27 a28 a29), (a26, ce259 a58), (a27, ce3 z.1), (a29, ce289 a59), (a58, ce258 k61 a60 a79 a96 a113 a130 a147), (a59, ce258 k62 (z.2.2.1 128) (z.2.2.1 129) (z.2.2.1 130) (z.2.2.1 131) (z.2.2.1 132) (z.2.2.1 133)), (a60, ce49), (a79, ce49), (a96, ce49), (a113, ce49), (a130, ce49), (a147, ce49), (a1, ce16 a9 a10 a11), (a30, ce368 k31), (a9, ce7 a12 a13 a14 a15), (a10, ce10 a9), (a12, ce331 a44), (a13, ce331 a45), (a14, ce3 z.1), (a15, ce366 a46), (a44, ce330 k49 a47 a71 a88 a105 a122 a139 a156), (a45, ce330 k50 a47 a71 a88 a105 a122 a139 a156), (a46, ce330 k51 a47 a71 a88 a105 a122 a139 a156), (a47, ce38 (z.2.1 0) a48 a47), (a71, ce77 (z.2.1 0) a72 a71), (a88, ce115 (z.2.1 0) a89 a88), (a105, ce165 (z.2.1 0) a106 a105), (a122, ce224 (z.2.1 0) a123 a122), (a139, ce287 (z.2.1 0) a140 a139), (a48, ce3 z.1), (a72, ce3 z.1), (a89, ce3 z.1), (a106, ce3 z.1), (a123, ce3 z.1), (a140, ce3 z.1), (a156, ce364 (z.2.1 0) a157 a156), (a157, ce3 z.1)]) (tz := [(k17, .int), (k34, .double), (k61, .object "java/lang/Object"), (k62, .object "java/lang/Object"), (k31, .long), (k49, .object "java/lang/Object"), (k50, .object "java/lang/Object"), (k51, .object "java/lang/Object")]) hP hD hK [4, 5, 6, 7, 8, 9, 10, 11, 12, 13, 14, 15, 16, 17, 18, 19, 25, 20, 21, 22, 23, 24, 26] [0, 1, 6, 7] rfl hk154 hF150 hB154.1 ht154 hvm154 rfl rfl
  have hG : s.heap.size + 125 ≤ H154.size := va_gr (g := 123) (g1 := 2) hG (by rw [← ht154]; exact hB154.2)
  refine W.eq (g2 := F0 m 177 ls [.int 0]) (by rw [hw154]) ?_
  refine W.widen (k := 125) (n := 1276) (by decide) (by decide) ?_
  refine lv_istore (lv' := [(6, .int 0), (5, .int 30), (7, .int 5), (4, .ref a33), (3, .ref a30), (2, .ref a18), (1, .ref a1), (0, .ref b)]) hx hb dL_law_177 hl (by decide) rfl (fun ls hl => ?_)
  refine lv_aload_n hx hb dL_law_179 rfl (lv_at hl 5 rfl) ?_
  have hM160 := k776_addInput l hl9 dC dI z a18 a26 a27 a29 a58 a59 a60 a79 a96 a113 a130 a147 a28 H154.size k61 k62
  obtain ⟨hF158, hC161⟩ := pc_M hM160 hP hD hK hS hX hT hA [4, 5, 6, 7, 8, 9, 10, 11, 12, 13, 14, 15] [2, 3] rfl rfl rfl
  refine va_calli (va_runV (As := []) (rest := []) ⟨hx, hb, hml, hown, hts⟩ hM160 (cwV 0 hts (gV q_340 q_341 q_342 q_60 q_339) rfl rfl rfl hV_X9_addInput ⟨Nat.le_of_ble_eq_true rfl, Nat.le_of_ble_eq_true rfl⟩) ⟨pc_blind, va_recv hK hP (ci := 8) (q := (RX9, TX9, 6)) (q0 := 4) rfl rfl, fun U hU hW => ⟨rfl, hC161 U hU hW⟩⟩ rfl rfl hl.1 rfl (lv_room (Nat.le_of_ble_eq_true rfl)) dL_law_180 ⟨(Nat.le_of_ble_eq_true rfl), (Nat.le_of_ble_eq_true rfl)⟩) hS (fun q9 _ h9 => hF158 q9 h9) hF158 (fun r163 u162 t162 H162 L162 ht162 hvm162 hw162 hB162 hz162 hk162 hS => ?_)
  obtain ⟨a164, hB162⟩ := hB162
  obtain ⟨hP, hD, hK⟩ := pq_jn (wz := [(a11, ce15 a9 a16), (a16, ce13 k17), (a28, ce3 z.1), (a33, ce23 k34), (a1, ce16 a9 a10 a11), (a30, ce368 k31), (a9, ce7 a12 a13 a14 a15), (a10, ce10 a9), (a12, ce331 a44), (a13, ce331 a45), (a14, ce3 z.1), (a15, ce366 a46), (a44, ce330 k49 a47 a71 a88 a105 a122 a139 a156), (a45, ce330 k50 a47 a71 a88 a105 a122 a139 a156), (a46, ce330 k51 a47 a71 a88 a105 a122 a139 a156), (a47, ce38 (z.2.1 0) a48 a47), (a71, ce77 (z.2.1 0) a72 a71), (a88, ce115 (z.2.1 0) a89 a88), (a105, ce165 (z.2.1 0) a106 a105), (a122, ce224 (z.2.1 0) a123 a122), (a139, ce287 (z.2.1 0) a140 a139), (a48, ce3 z.1), (a72, ce3 z.1), (a89, ce3 z.1), (a106, ce3 z.1), (a123, ce3 z.1), (a140, ce3 z.1), (a156, ce364 (z.2.1 0) a157 a156), (a157, ce3 z.1), (a18, ce21 a26 a27 a28 a29), (a26, ce331 a58), (a27, ce3 z.1), (a29, ce366 a59), (a58, ce330 k61 a60 a79 a96 a113 a130 a147 a164), (a59, ce330 k62 (z.2.2.1 128) (z.2.2.1 129) (z.2.2.1 130) (z.2.2.1 131) (z.2.2.1 132) (z.2.2.1 133) (z.2.2.1 134)), (a60, ce49), (a79, ce49), (a96, ce49), (a113, ce49), (a130, ce49), (a147, ce49), (a164, ce49)]) (tz := [(k17, .int), (k34, .double), (k31, .long), (k49, .object "java/lang/Object"), (k50, .object "java/lang/Object"), (k51, .object "java/lang/Object"), (k61, .object "java/lang/Object"), (k62, .object "java/lang/Object")]) hP hD hK [4, 5, 6, 7, 8, 9, 10, 11, 12, 13, 14, 15] [0, 1, 4, 5, 6, 7] rfl hk162 hF158 hB162.1 ht162 hvm162 rfl rfl
  have hG : s.heap.size + 147 ≤ H162.size := va_gr (g := 125) (g1 := 22) hG (by rw [← ht162]; exact hB162.2)
  refine W.eq (g2 := F0 m 183 ls [.int 6]) (by rw [hw162]) ?_
  refine W.widen (k := 147) (n := 1474) (by decide) (by decide) ?_
  refine lv_istore (lv' := [(7, .int 6), (6, .int 0), (5, .int 30), (4, .ref a33), (3, .ref a30), (2, .ref a18), (1, .ref a1), (0, .ref b)]) hx hb dL_law_183 hl (by decide) rfl (fun ls hl => ?_)
  refine lv_goto (tgt := 1057) hx hb dL_law_185 (by decide) ?_
  refine lv_iinc (v := 35) (lv' := [(5, .int 35), (7, .int 6), (6, .int 0), (4, .ref a33), (3, .ref a30), (2, .ref a18), (1, .ref a1), (0, .ref b)]) hx hb dL_law_1057 hl (k := 2) rfl (by decide) (by decide) rfl (fun ls hl => ?_)
  refine lv_goto (tgt := 28) hx hb dL_law_1060 (by decide) ?_
  refine lv_iload hx hb dL_law_28 (lv_at hl 0 rfl) ?_
  refine lv_aload_n hx hb dL_law_30 rfl (lv_at hl 7 rfl) ?_
  refine va_slen hx hb hX9 hbl hbA hS dL_law_31 ?_
  refine W.eq (g2 := F0 m 32 ls [.int 2540, .int 35]) rfl ?_
  refine lv_iconst (v := 5) hx hb dL_law_32 (by decide) ?_
  refine lv_isub hx hb dL_law_33 ?_
  refine lv_topi (fun y165 ey165 => ?_)
  obtain rfl : y165 = 2535 := ey165.trans (by decide)
  refine lv_icmp_gt (tgt := 1063) hx hb dL_law_34 (by decide) (fun cz => absurd cz (by decide)) (fun _ => ?_)
  refine lv_aload_n hx hb dL_law_37 rfl (lv_at hl 7 rfl) ?_
  refine lv_iload hx hb dL_law_38 (lv_at hl 0 rfl) ?_
  refine va_sld hx hb hX9 hbl hbA hS (i := 35) (by unfold vp_in; decide) dL_law_40 ?_
  refine W.eq (g2 := F0 m 41 ls [.int 22]) (by rw [show xs (Int32.toNatClampNeg 35) = xs 35 from rfl, hZ 35 (by decide)]; rfl) ?_
  refine lv_bipush (v := 31) hx hb dL_law_41 (by decide) ?_
  refine lv_iand hx hb dL_law_43 ?_
  refine lv_topi (fun y166 ey166 => ?_)
  obtain rfl : y166 = 22 := ey166.trans (by decide)
  refine lv_tableIn (tgt := 956) hx hb dL_law_44 (by decide) (by decide) rfl (by decide) ?_
  refine lv_aload_n hx hb dL_law_956 rfl (lv_at hl 6 rfl) ?_
  refine lv_aload_n hx hb dL_law_957 rfl (lv_at hl 7 rfl) ?_
  refine lv_iload hx hb dL_law_958 (lv_at hl 0 rfl) ?_
  refine lv_iconst (v := 1) hx hb dL_law_960 (by decide) ?_
  refine lv_iadd hx hb dL_law_961 ?_
  refine lv_topi (fun y167 ey167 => ?_)
  obtain rfl : y167 = 36 := ey167.trans (by decide)
  refine va_sld hx hb hX9 hbl hbA hS (i := 36) (by unfold vp_in; decide) dL_law_962 ?_
  refine W.eq (g2 := F0 m 963 ls [.int 0, .ref a1]) (by rw [show xs (Int32.toNatClampNeg 36) = xs 36 from rfl, hZ 36 (by decide)]; rfl) ?_
  refine lv_aload_n hx hb dL_law_963 rfl (lv_at hl 4 rfl) ?_
  have hM170 := k781_addTest l hl9 dC dI z a1 a30 a9 a11 a13 a16 a10 a12 a14 a15 a45 H162.size k31 k17
  obtain ⟨hF168, hC171⟩ := pc_M hM170 hP hD hK hS hX hT hA [4, 5, 6, 0, 9, 1] [2, 0] rfl rfl rfl
  refine va_calli (vx_runSW (As := [.ref a1, .int 0, .ref a30]) (rest := []) ⟨hx, hb, hml, hown, hts⟩ hM170 (vx_cwSW 3 hts (gS q_368 q_369 q_242 q_367) rfl rfl rfl hS_L_addTest ⟨Nat.le_of_ble_eq_true rfl, Nat.le_of_ble_eq_true rfl⟩) ⟨pc_blind, fun U hU hW => ⟨rfl, hC171 U hU hW⟩⟩ rfl rfl hl.1 rfl (lv_room (Nat.le_of_ble_eq_true rfl)) dL_law_964 ⟨(Nat.le_of_ble_eq_true rfl), (Nat.le_of_ble_eq_true rfl)⟩) hS (fun q9 _ h9 => hF168 q9 h9) hF168 (fun r173 u172 t172 H172 L172 ht172 hvm172 hw172 hB172 hz172 hk172 hS => ?_)
  obtain ⟨hP, hD, hK⟩ := pq_jn (wz := [(a28, ce3 z.1), (a33, ce23 k34), (a10, ce10 a9), (a12, ce331 a44), (a14, ce3 z.1), (a15, ce366 a46), (a44, ce330 k49 a47 a71 a88 a105 a122 a139 a156), (a45, ce330 k50 a47 a71 a88 a105 a122 a139 a156), (a46, ce330 k51 a47 a71 a88 a105 a122 a139 a156), (a47, ce38 (z.2.1 0) a48 a47), (a71, ce77 (z.2.1 0) a72 a71), (a88, ce115 (z.2.1 0) a89 a88), (a105, ce165 (z.2.1 0) a106 a105), (a122, ce224 (z.2.1 0) a123 a122), (a139, ce287 (z.2.1 0) a140 a139), (a48, ce3 z.1), (a72, ce3 z.1), (a89, ce3 z.1), (a106, ce3 z.1), (a123, ce3 z.1), (a140, ce3 z.1), (a156, ce364 (z.2.1 0) a157 a156), (a157, ce3 z.1), (a18, ce21 a26 a27 a28 a29), (a26, ce331 a58), (a27, ce3 z.1), (a29, ce366 a59), (a58, ce330 k61 a60 a79 a96 a113 a130 a147 a164), (a59, ce330 k62 (z.2.2.1 128) (z.2.2.1 129) (z.2.2.1 130) (z.2.2.1 131) (z.2.2.1 132) (z.2.2.1 133) (z.2.2.1 134)), (a60, ce49), (a79, ce49), (a96, ce49), (a113, ce49), (a130, ce49), (a147, ce49), (a164, ce49), (a1, ce16 a9 a10 a11), (a30, ce81 k31), (a9, ce7 a12 a13 a14 a15), (a11, ce404 a9 a16), (a13, ce331 a45), (a16, ce403 k17)]) (tz := [(k34, .double), (k49, .object "java/lang/Object"), (k50, .object "java/lang/Object"), (k51, .object "java/lang/Object"), (k61, .object "java/lang/Object"), (k62, .object "java/lang/Object"), (k31, .long), (k17, .int)]) hP hD hK [4, 5, 6, 0, 9, 1] [1, 3, 4, 5, 6, 7] rfl hk172 hF168 hB172.1 ht172 hvm172 rfl rfl
  have hG : s.heap.size + 147 ≤ H172.size := Nat.le_trans hG hz172
  refine W.eq (g2 := F0 m 967 ls [.int 0]) (by rw [hw172]) ?_
  refine lv_istore (lv' := [(6, .int 0), (5, .int 35), (7, .int 6), (4, .ref a33), (3, .ref a30), (2, .ref a18), (1, .ref a1), (0, .ref b)]) hx hb dL_law_967 hl (by decide) rfl (fun ls hl => ?_)
  refine lv_aload_n hx hb dL_law_969 rfl (lv_at hl 5 rfl) ?_
  refine lv_aload_n hx hb dL_law_970 rfl (lv_at hl 7 rfl) ?_
  refine lv_iload hx hb dL_law_971 (lv_at hl 1 rfl) ?_
  refine lv_iconst (v := 1) hx hb dL_law_973 (by decide) ?_
  refine lv_iadd hx hb dL_law_974 ?_
  refine lv_topi (fun y174 ey174 => ?_)
  obtain rfl : y174 = 36 := ey174.trans (by decide)
  refine va_sld hx hb hX9 hbl hbA hS (i := 36) (by unfold vp_in; decide) dL_law_975 ?_
  refine W.eq (g2 := F0 m 976 ls [.int 0, .ref a18]) (by rw [show xs (Int32.toNatClampNeg 36) = xs 36 from rfl, hZ 36 (by decide)]; rfl) ?_
  have hM177 := k787_addTest l hl9 dC dI z a18 a26 a28 a58 a60 a79 a96 a113 a130 a147 a164 a27 a29 H172.size k61
  obtain ⟨hF175, hC178⟩ := pc_M hM177 hP hD hK hS hX hT hA [23, 24, 0, 27, 29, 30, 31, 32, 33, 34, 35] [4] rfl rfl rfl
  refine va_calli (va_runV (As := [.int 0]) (rest := []) ⟨hx, hb, hml, hown, hts⟩ hM177 (cwV 1 hts (gV q_378 q_379 q_380 q_60 q_377) rfl rfl rfl hV_X9_addTest ⟨Nat.le_of_ble_eq_true rfl, Nat.le_of_ble_eq_true rfl⟩) ⟨pc_blind, va_recv hK hP (ci := 8) (q := (RX9, TX9, 6)) (q0 := 23) rfl rfl, fun U hU hW => ⟨rfl, hC178 U hU hW⟩⟩ rfl rfl hl.1 rfl (lv_room (Nat.le_of_ble_eq_true rfl)) dL_law_976 ⟨(Nat.le_of_ble_eq_true rfl), (Nat.le_of_ble_eq_true rfl)⟩) hS (fun q9 _ h9 => hF175 q9 h9) hF175 (fun r180 u179 t179 H179 L179 ht179 hvm179 hw179 hB179 hz179 hk179 hS => ?_)
  obtain ⟨a181, k182, hB179⟩ := hB179
  obtain ⟨hP, hD, hK⟩ := pq_jn (wz := [(a33, ce23 k34), (a10, ce10 a9), (a12, ce331 a44), (a14, ce3 z.1), (a15, ce366 a46), (a44, ce330 k49 a47 a71 a88 a105 a122 a139 a156), (a45, ce330 k50 a47 a71 a88 a105 a122 a139 a156), (a46, ce330 k51 a47 a71 a88 a105 a122 a139 a156), (a47, ce38 (z.2.1 0) a48 a47), (a71, ce77 (z.2.1 0) a72 a71), (a88, ce115 (z.2.1 0) a89 a88), (a105, ce165 (z.2.1 0) a106 a105), (a122, ce224 (z.2.1 0) a123 a122), (a139, ce287 (z.2.1 0) a140 a139), (a48, ce3 z.1), (a72, ce3 z.1), (a89, ce3 z.1), (a106, ce3 z.1), (a123, ce3 z.1), (a140, ce3 z.1), (a156, ce364 (z.2.1 0) a157 a156), (a157, ce3 z.1), (a27, ce3 z.1), (a29, ce366 a59), (a59, ce330 k62 (z.2.2.1 128) (z.2.2.1 129) (z.2.2.1 130) (z.2.2.1 131) (z.2.2.1 132) (z.2.2.1 133) (z.2.2.1 134)), (a1, ce16 a9 a10 a11), (a30, ce81 k31), (a9, ce7 a12 a13 a14 a15), (a11, ce404 a9 a16), (a13, ce331 a45), (a16, ce403 k17), (a18, ce21 a26 a27 a28 a29), (a26, ce331 a58), (a28, ce36 a181), (a58, ce330 k61 a60 a79 a96 a113 a130 a147 a164), (a60, ce49), (a79, ce49), (a96, ce49), (a113, ce49), (a130, ce49), (a147, ce49), (a164, ce49), (a181, ce35 k182 (z.2.2.1 128))]) (tz := [(k34, .double), (k49, .object "java/lang/Object"), (k50, .object "java/lang/Object"), (k51, .object "java/lang/Object"), (k62, .object "java/lang/Object"), (k31, .long), (k17, .int), (k61, .object "java/lang/Object"), (k182, .object "java/lang/Object")]) hP hD hK [23, 24, 0, 27, 29, 30, 31, 32, 33, 34, 35] [0, 1, 2, 3, 5, 6, 7] rfl hk179 hF175 hB179.1 ht179 hvm179 rfl rfl
  have hG : s.heap.size + 149 ≤ H179.size := va_gr (g := 147) (g1 := 2) hG (by rw [← ht179]; exact hB179.2)
  refine W.eq (g2 := F0 m 979 ls [.int 1]) (by rw [hw179]) ?_
  refine W.widen (k := 149) (n := 1488) (by decide) (by decide) ?_
  refine lv_istore (lv' := [(7, .int 1), (6, .int 0), (5, .int 35), (4, .ref a33), (3, .ref a30), (2, .ref a18), (1, .ref a1), (0, .ref b)]) hx hb dL_law_979 hl (by decide) rfl (fun ls hl => ?_)
  refine lv_goto (tgt := 1057) hx hb dL_law_981 (by decide) ?_
  refine lv_iinc (v := 40) (lv' := [(5, .int 40), (7, .int 1), (6, .int 0), (4, .ref a33), (3, .ref a30), (2, .ref a18), (1, .ref a1), (0, .ref b)]) hx hb dL_law_1057 hl (k := 2) rfl (by decide) (by decide) rfl (fun ls hl => ?_)
  refine lv_goto (tgt := 28) hx hb dL_law_1060 (by decide) ?_
  refine lv_iload hx hb dL_law_28 (lv_at hl 0 rfl) ?_
  refine lv_aload_n hx hb dL_law_30 rfl (lv_at hl 7 rfl) ?_
  refine va_slen hx hb hX9 hbl hbA hS dL_law_31 ?_
  refine W.eq (g2 := F0 m 32 ls [.int 2540, .int 40]) rfl ?_
  refine lv_iconst (v := 5) hx hb dL_law_32 (by decide) ?_
  refine lv_isub hx hb dL_law_33 ?_
  refine lv_topi (fun y183 ey183 => ?_)
  obtain rfl : y183 = 2535 := ey183.trans (by decide)
  refine lv_icmp_gt (tgt := 1063) hx hb dL_law_34 (by decide) (fun cz => absurd cz (by decide)) (fun _ => ?_)
  refine lv_aload_n hx hb dL_law_37 rfl (lv_at hl 7 rfl) ?_
  refine lv_iload hx hb dL_law_38 (lv_at hl 0 rfl) ?_
  refine va_sld hx hb hX9 hbl hbA hS (i := 40) (by unfold vp_in; decide) dL_law_40 ?_
  refine W.eq (g2 := F0 m 41 ls [.int 22]) (by rw [show xs (Int32.toNatClampNeg 40) = xs 40 from rfl, hZ 40 (by decide)]; rfl) ?_
  refine lv_bipush (v := 31) hx hb dL_law_41 (by decide) ?_
  refine lv_iand hx hb dL_law_43 ?_
  refine lv_topi (fun y184 ey184 => ?_)
  obtain rfl : y184 = 22 := ey184.trans (by decide)
  refine lv_tableIn (tgt := 956) hx hb dL_law_44 (by decide) (by decide) rfl (by decide) ?_
  refine lv_aload_n hx hb dL_law_956 rfl (lv_at hl 6 rfl) ?_
  refine lv_aload_n hx hb dL_law_957 rfl (lv_at hl 7 rfl) ?_
  refine lv_iload hx hb dL_law_958 (lv_at hl 0 rfl) ?_
  refine lv_iconst (v := 1) hx hb dL_law_960 (by decide) ?_
  refine lv_iadd hx hb dL_law_961 ?_
  refine lv_topi (fun y185 ey185 => ?_)
  obtain rfl : y185 = 41 := ey185.trans (by decide)
  refine va_sld hx hb hX9 hbl hbA hS (i := 41) (by unfold vp_in; decide) dL_law_962 ?_
  refine W.eq (g2 := F0 m 963 ls [.int 0, .ref a1]) (by rw [show xs (Int32.toNatClampNeg 41) = xs 41 from rfl, hZ 41 (by decide)]; rfl) ?_
  refine lv_aload_n hx hb dL_law_963 rfl (lv_at hl 4 rfl) ?_
  have hM188 := k792_addTest l hl9 dC dI z a1 a30 a9 a11 a13 a16 a10 a12 a14 a15 a45 H179.size k31 k17
  obtain ⟨hF186, hC189⟩ := pc_M hM188 hP hD hK hS hX hT hA [25, 26, 27, 28, 29, 30] [5, 6] rfl rfl rfl
  refine va_calli (vx_runSW (As := [.ref a1, .int 0, .ref a30]) (rest := []) ⟨hx, hb, hml, hown, hts⟩ hM188 (vx_cwSW 3 hts (gS q_368 q_369 q_242 q_367) rfl rfl rfl hS_L_addTest ⟨Nat.le_of_ble_eq_true rfl, Nat.le_of_ble_eq_true rfl⟩) ⟨pc_blind, fun U hU hW => ⟨rfl, hC189 U hU hW⟩⟩ rfl rfl hl.1 rfl (lv_room (Nat.le_of_ble_eq_true rfl)) dL_law_964 ⟨(Nat.le_of_ble_eq_true rfl), (Nat.le_of_ble_eq_true rfl)⟩) hS (fun q9 _ h9 => hF186 q9 h9) hF186 (fun r191 u190 t190 H190 L190 ht190 hvm190 hw190 hB190 hz190 hk190 hS => ?_)
  obtain ⟨hP, hD, hK⟩ := pq_jn (wz := [(a33, ce23 k34), (a10, ce10 a9), (a12, ce331 a44), (a14, ce3 z.1), (a15, ce366 a46), (a44, ce330 k49 a47 a71 a88 a105 a122 a139 a156), (a45, ce330 k50 a47 a71 a88 a105 a122 a139 a156), (a46, ce330 k51 a47 a71 a88 a105 a122 a139 a156), (a47, ce38 (z.2.1 0) a48 a47), (a71, ce77 (z.2.1 0) a72 a71), (a88, ce115 (z.2.1 0) a89 a88), (a105, ce165 (z.2.1 0) a106 a105), (a122, ce224 (z.2.1 0) a123 a122), (a139, ce287 (z.2.1 0) a140 a139), (a48, ce3 z.1), (a72, ce3 z.1), (a89, ce3 z.1), (a106, ce3 z.1), (a123, ce3 z.1), (a140, ce3 z.1), (a156, ce364 (z.2.1 0) a157 a156), (a157, ce3 z.1), (a27, ce3 z.1), (a29, ce366 a59), (a59, ce330 k62 (z.2.2.1 128) (z.2.2.1 129) (z.2.2.1 130) (z.2.2.1 131) (z.2.2.1 132) (z.2.2.1 133) (z.2.2.1 134)), (a18, ce21 a26 a27 a28 a29), (a26, ce331 a58), (a28, ce36 a181), (a58, ce330 k61 a60 a79 a96 a113 a130 a147 a164), (a60, ce49), (a79, ce49), (a96, ce49), (a113, ce49), (a130, ce49), (a147, ce49), (a164, ce49), (a181, ce35 k182 (z.2.2.1 128)), (a1, ce16 a9 a10 a11), (a30, ce119 k31), (a9, ce7 a12 a13 a14 a15), (a11, ce407 a9 a16), (a13, ce331 a45), (a16, ce406 k17)]) (tz := [(k34, .double), (k49, .object "java/lang/Object"), (k50, .object "java/lang/Object"), (k51, .object "java/lang/Object"), (k62, .object "java/lang/Object"), (k61, .object "java/lang/Object"), (k182, .object "java/lang/Object"), (k31, .long), (k17, .int)]) hP hD hK [25, 26, 27, 28, 29, 30] [0, 1, 2, 3, 4, 7, 8] rfl hk190 hF186 hB190.1 ht190 hvm190 rfl rfl
  have hG : s.heap.size + 149 ≤ H190.size := Nat.le_trans hG hz190
  refine W.eq (g2 := F0 m 967 ls [.int 0]) (by rw [hw190]) ?_
  refine lv_istore (lv' := [(6, .int 0), (5, .int 40), (7, .int 1), (4, .ref a33), (3, .ref a30), (2, .ref a18), (1, .ref a1), (0, .ref b)]) hx hb dL_law_967 hl (by decide) rfl (fun ls hl => ?_)
  refine lv_aload_n hx hb dL_law_969 rfl (lv_at hl 5 rfl) ?_
  refine lv_aload_n hx hb dL_law_970 rfl (lv_at hl 7 rfl) ?_
  refine lv_iload hx hb dL_law_971 (lv_at hl 1 rfl) ?_
  refine lv_iconst (v := 1) hx hb dL_law_973 (by decide) ?_
  refine lv_iadd hx hb dL_law_974 ?_
  refine lv_topi (fun y192 ey192 => ?_)
  obtain rfl : y192 = 41 := ey192.trans (by decide)
  refine va_sld hx hb hX9 hbl hbA hS (i := 41) (by unfold vp_in; decide) dL_law_975 ?_
  refine W.eq (g2 := F0 m 976 ls [.int 0, .ref a18]) (by rw [show xs (Int32.toNatClampNeg 41) = xs 41 from rfl, hZ 41 (by decide)]; rfl) ?_
  have hM195 := k795_addTest l hl9 dC dI z a18 a26 a28 a58 a181 a60 a79 a96 a113 a130 a147 a164 a27 a29 H190.size k61 k182
  obtain ⟨hF193, hC196⟩ := pc_M hM195 hP hD hK hS hX hT hA [25, 26, 27, 28, 36, 29, 30, 31, 32, 33, 34, 35] [5, 6] rfl rfl rfl
  refine va_calli (va_runV (As := [.int 0]) (rest := []) ⟨hx, hb, hml, hown, hts⟩ hM195 (cwV 1 hts (gV q_378 q_379 q_380 q_60 q_377) rfl rfl rfl hV_X9_addTest ⟨Nat.le_of_ble_eq_true rfl, Nat.le_of_ble_eq_true rfl⟩) ⟨pc_blind, va_recv hK hP (ci := 8) (q := (RX9, TX9, 6)) (q0 := 25) rfl rfl, fun U hU hW => ⟨rfl, hC196 U hU hW⟩⟩ rfl rfl hl.1 rfl (lv_room (Nat.le_of_ble_eq_true rfl)) dL_law_976 ⟨(Nat.le_of_ble_eq_true rfl), (Nat.le_of_ble_eq_true rfl)⟩) hS (fun q9 _ h9 => hF193 q9 h9) hF193 (fun r198 u197 t197 H197 L197 ht197 hvm197 hw197 hB197 hz197 hk197 hS => ?_)
  obtain ⟨hP, hD, hK⟩ := pq_jn (wz := [(a33, ce23 k34), (a10, ce10 a9), (a12, ce331 a44), (a14, ce3 z.1), (a15, ce366 a46), (a44, ce330 k49 a47 a71 a88 a105 a122 a139 a156), (a45, ce330 k50 a47 a71 a88 a105 a122 a139 a156), (a46, ce330 k51 a47 a71 a88 a105 a122 a139 a156), (a47, ce38 (z.2.1 0) a48 a47), (a71, ce77 (z.2.1 0) a72 a71), (a88, ce115 (z.2.1 0) a89 a88), (a105, ce165 (z.2.1 0) a106 a105), (a122, ce224 (z.2.1 0) a123 a122), (a139, ce287 (z.2.1 0) a140 a139), (a48, ce3 z.1), (a72, ce3 z.1), (a89, ce3 z.1), (a106, ce3 z.1), (a123, ce3 z.1), (a140, ce3 z.1), (a156, ce364 (z.2.1 0) a157 a156), (a157, ce3 z.1), (a27, ce3 z.1), (a29, ce366 a59), (a59, ce330 k62 (z.2.2.1 128) (z.2.2.1 129) (z.2.2.1 130) (z.2.2.1 131) (z.2.2.1 132) (z.2.2.1 133) (z.2.2.1 134)), (a1, ce16 a9 a10 a11), (a30, ce119 k31), (a9, ce7 a12 a13 a14 a15), (a11, ce407 a9 a16), (a13, ce331 a45), (a16, ce406 k17), (a18, ce21 a26 a27 a28 a29), (a26, ce331 a58), (a28, ce69 a181), (a58, ce330 k61 a60 a79 a96 a113 a130 a147 a164), (a181, ce68 k182 (z.2.2.1 128) (z.2.2.1 128)), (a60, ce49), (a79, ce49), (a96, ce49), (a113, ce49), (a130, ce49), (a147, ce49), (a164, ce49)]) (tz := [(k34, .double), (k49, .object "java/lang/Object"), (k50, .object "java/lang/Object"), (k51, .object "java/lang/Object"), (k62, .object "java/lang/Object"), (k31, .long), (k17, .int), (k61, .object "java/lang/Object"), (k182, .object "java/lang/Object")]) hP hD hK [25, 26, 27, 28, 36, 29, 30, 31, 32, 33, 34, 35] [0, 1, 2, 3, 4, 7, 8] rfl hk197 hF193 hB197.1 ht197 hvm197 rfl rfl
  have hG : s.heap.size + 150 ≤ H197.size := va_gr (g := 149) (g1 := 1) hG (by rw [← ht197]; exact hB197.2)
  refine W.eq (g2 := F0 m 979 ls [.int 2]) (by rw [hw197]) ?_
  refine W.widen (k := 150) (n := 1492) (by decide) (by decide) ?_
  refine lv_istore (lv' := [(7, .int 2), (6, .int 0), (5, .int 40), (4, .ref a33), (3, .ref a30), (2, .ref a18), (1, .ref a1), (0, .ref b)]) hx hb dL_law_979 hl (by decide) rfl (fun ls hl => ?_)
  refine lv_goto (tgt := 1057) hx hb dL_law_981 (by decide) ?_
  refine lv_iinc (v := 45) (lv' := [(5, .int 45), (7, .int 2), (6, .int 0), (4, .ref a33), (3, .ref a30), (2, .ref a18), (1, .ref a1), (0, .ref b)]) hx hb dL_law_1057 hl (k := 2) rfl (by decide) (by decide) rfl (fun ls hl => ?_)
  refine lv_goto (tgt := 28) hx hb dL_law_1060 (by decide) ?_
  refine lv_iload hx hb dL_law_28 (lv_at hl 0 rfl) ?_
  refine lv_aload_n hx hb dL_law_30 rfl (lv_at hl 7 rfl) ?_
  refine va_slen hx hb hX9 hbl hbA hS dL_law_31 ?_
  refine W.eq (g2 := F0 m 32 ls [.int 2540, .int 45]) rfl ?_
  refine lv_iconst (v := 5) hx hb dL_law_32 (by decide) ?_
  refine lv_isub hx hb dL_law_33 ?_
  refine lv_topi (fun y199 ey199 => ?_)
  obtain rfl : y199 = 2535 := ey199.trans (by decide)
  refine lv_icmp_gt (tgt := 1063) hx hb dL_law_34 (by decide) (fun cz => absurd cz (by decide)) (fun _ => ?_)
  refine lv_aload_n hx hb dL_law_37 rfl (lv_at hl 7 rfl) ?_
  refine lv_iload hx hb dL_law_38 (lv_at hl 0 rfl) ?_
  refine va_sld hx hb hX9 hbl hbA hS (i := 45) (by unfold vp_in; decide) dL_law_40 ?_
  refine W.eq (g2 := F0 m 41 ls [.int 22]) (by rw [show xs (Int32.toNatClampNeg 45) = xs 45 from rfl, hZ 45 (by decide)]; rfl) ?_
  refine lv_bipush (v := 31) hx hb dL_law_41 (by decide) ?_
  refine lv_iand hx hb dL_law_43 ?_
  refine lv_topi (fun y200 ey200 => ?_)
  obtain rfl : y200 = 22 := ey200.trans (by decide)
  refine lv_tableIn (tgt := 956) hx hb dL_law_44 (by decide) (by decide) rfl (by decide) ?_
  refine lv_aload_n hx hb dL_law_956 rfl (lv_at hl 6 rfl) ?_
  refine lv_aload_n hx hb dL_law_957 rfl (lv_at hl 7 rfl) ?_
  refine lv_iload hx hb dL_law_958 (lv_at hl 0 rfl) ?_
  refine lv_iconst (v := 1) hx hb dL_law_960 (by decide) ?_
  refine lv_iadd hx hb dL_law_961 ?_
  refine lv_topi (fun y201 ey201 => ?_)
  obtain rfl : y201 = 46 := ey201.trans (by decide)
  refine va_sld hx hb hX9 hbl hbA hS (i := 46) (by unfold vp_in; decide) dL_law_962 ?_
  refine W.eq (g2 := F0 m 963 ls [.int 0, .ref a1]) (by rw [show xs (Int32.toNatClampNeg 46) = xs 46 from rfl, hZ 46 (by decide)]; rfl) ?_
  refine lv_aload_n hx hb dL_law_963 rfl (lv_at hl 4 rfl) ?_
  have hM204 := k800_addTest l hl9 dC dI z a1 a30 a9 a11 a13 a16 a10 a12 a14 a15 a45 H197.size k31 k17
  obtain ⟨hF202, hC205⟩ := pc_M hM204 hP hD hK hS hX hT hA [25, 26, 27, 28, 29, 30] [5, 6] rfl rfl rfl
  refine va_calli (vx_runSW (As := [.ref a1, .int 0, .ref a30]) (rest := []) ⟨hx, hb, hml, hown, hts⟩ hM204 (vx_cwSW 3 hts (gS q_368 q_369 q_242 q_367) rfl rfl rfl hS_L_addTest ⟨Nat.le_of_ble_eq_true rfl, Nat.le_of_ble_eq_true rfl⟩) ⟨pc_blind, fun U hU hW => ⟨rfl, hC205 U hU hW⟩⟩ rfl rfl hl.1 rfl (lv_room (Nat.le_of_ble_eq_true rfl)) dL_law_964 ⟨(Nat.le_of_ble_eq_true rfl), (Nat.le_of_ble_eq_true rfl)⟩) hS (fun q9 _ h9 => hF202 q9 h9) hF202 (fun r207 u206 t206 H206 L206 ht206 hvm206 hw206 hB206 hz206 hk206 hS => ?_)
  obtain ⟨hP, hD, hK⟩ := pq_jn (wz := [(a33, ce23 k34), (a10, ce10 a9), (a12, ce331 a44), (a14, ce3 z.1), (a15, ce366 a46), (a44, ce330 k49 a47 a71 a88 a105 a122 a139 a156), (a45, ce330 k50 a47 a71 a88 a105 a122 a139 a156), (a46, ce330 k51 a47 a71 a88 a105 a122 a139 a156), (a47, ce38 (z.2.1 0) a48 a47), (a71, ce77 (z.2.1 0) a72 a71), (a88, ce115 (z.2.1 0) a89 a88), (a105, ce165 (z.2.1 0) a106 a105), (a122, ce224 (z.2.1 0) a123 a122), (a139, ce287 (z.2.1 0) a140 a139), (a48, ce3 z.1), (a72, ce3 z.1), (a89, ce3 z.1), (a106, ce3 z.1), (a123, ce3 z.1), (a140, ce3 z.1), (a156, ce364 (z.2.1 0) a157 a156), (a157, ce3 z.1), (a27, ce3 z.1), (a29, ce366 a59), (a59, ce330 k62 (z.2.2.1 128) (z.2.2.1 129) (z.2.2.1 130) (z.2.2.1 131) (z.2.2.1 132) (z.2.2.1 133) (z.2.2.1 134)), (a18, ce21 a26 a27 a28 a29), (a26, ce331 a58), (a28, ce69 a181), (a58, ce330 k61 a60 a79 a96 a113 a130 a147 a164), (a181, ce68 k182 (z.2.2.1 128) (z.2.2.1 128)), (a60, ce49), (a79, ce49), (a96, ce49), (a113, ce49), (a130, ce49), (a147, ce49), (a164, ce49), (a1, ce16 a9 a10 a11), (a30, ce169 k31), (a9, ce7 a12 a13 a14 a15), (a11, ce409 a9 a16), (a13, ce331 a45), (a16, ce408 k17)]) (tz := [(k34, .double), (k49, .object "java/lang/Object"), (k50, .object "java/lang/Object"), (k51, .object "java/lang/Object"), (k62, .object "java/lang/Object"), (k61, .object "java/lang/Object"), (k182, .object "java/lang/Object"), (k31, .long), (k17, .int)]) hP hD hK [25, 26, 27, 28, 29, 30] [0, 1, 2, 3, 4, 7, 8] rfl hk206 hF202 hB206.1 ht206 hvm206 rfl rfl
  have hG : s.heap.size + 150 ≤ H206.size := Nat.le_trans hG hz206
  refine W.eq (g2 := F0 m 967 ls [.int 0]) (by rw [hw206]) ?_
  refine lv_istore (lv' := [(6, .int 0), (5, .int 45), (7, .int 2), (4, .ref a33), (3, .ref a30), (2, .ref a18), (1, .ref a1), (0, .ref b)]) hx hb dL_law_967 hl (by decide) rfl (fun ls hl => ?_)
  refine lv_aload_n hx hb dL_law_969 rfl (lv_at hl 5 rfl) ?_
  refine lv_aload_n hx hb dL_law_970 rfl (lv_at hl 7 rfl) ?_
  refine lv_iload hx hb dL_law_971 (lv_at hl 1 rfl) ?_
  refine lv_iconst (v := 1) hx hb dL_law_973 (by decide) ?_
  refine lv_iadd hx hb dL_law_974 ?_
  refine lv_topi (fun y208 ey208 => ?_)
  obtain rfl : y208 = 46 := ey208.trans (by decide)
  refine va_sld hx hb hX9 hbl hbA hS (i := 46) (by unfold vp_in; decide) dL_law_975 ?_
  refine W.eq (g2 := F0 m 976 ls [.int 0, .ref a18]) (by rw [show xs (Int32.toNatClampNeg 46) = xs 46 from rfl, hZ 46 (by decide)]; rfl) ?_
  have hM211 := k803_addTest l hl9 dC dI z a18 a26 a28 a58 a181 a60 a79 a96 a113 a130 a147 a164 a27 a29 H206.size k61 k182
  obtain ⟨hF209, hC212⟩ := pc_M hM211 hP hD hK hS hX hT hA [25, 26, 27, 28, 29, 30, 31, 32, 33, 34, 35, 36] [5, 6] rfl rfl rfl
  refine va_calli (va_runV (As := [.int 0]) (rest := []) ⟨hx, hb, hml, hown, hts⟩ hM211 (cwV 1 hts (gV q_378 q_379 q_380 q_60 q_377) rfl rfl rfl hV_X9_addTest ⟨Nat.le_of_ble_eq_true rfl, Nat.le_of_ble_eq_true rfl⟩) ⟨pc_blind, va_recv hK hP (ci := 8) (q := (RX9, TX9, 6)) (q0 := 25) rfl rfl, fun U hU hW => ⟨rfl, hC212 U hU hW⟩⟩ rfl rfl hl.1 rfl (lv_room (Nat.le_of_ble_eq_true rfl)) dL_law_976 ⟨(Nat.le_of_ble_eq_true rfl), (Nat.le_of_ble_eq_true rfl)⟩) hS (fun q9 _ h9 => hF209 q9 h9) hF209 (fun r214 u213 t213 H213 L213 ht213 hvm213 hw213 hB213 hz213 hk213 hS => ?_)
  obtain ⟨hP, hD, hK⟩ := pq_jn (wz := [(a33, ce23 k34), (a10, ce10 a9), (a12, ce331 a44), (a14, ce3 z.1), (a15, ce366 a46), (a44, ce330 k49 a47 a71 a88 a105 a122 a139 a156), (a45, ce330 k50 a47 a71 a88 a105 a122 a139 a156), (a46, ce330 k51 a47 a71 a88 a105 a122 a139 a156), (a47, ce38 (z.2.1 0) a48 a47), (a71, ce77 (z.2.1 0) a72 a71), (a88, ce115 (z.2.1 0) a89 a88), (a105, ce165 (z.2.1 0) a106 a105), (a122, ce224 (z.2.1 0) a123 a122), (a139, ce287 (z.2.1 0) a140 a139), (a48, ce3 z.1), (a72, ce3 z.1), (a89, ce3 z.1), (a106, ce3 z.1), (a123, ce3 z.1), (a140, ce3 z.1), (a156, ce364 (z.2.1 0) a157 a156), (a157, ce3 z.1), (a27, ce3 z.1), (a29, ce366 a59), (a59, ce330 k62 (z.2.2.1 128) (z.2.2.1 129) (z.2.2.1 130) (z.2.2.1 131) (z.2.2.1 132) (z.2.2.1 133) (z.2.2.1 134)), (a1, ce16 a9 a10 a11), (a30, ce169 k31), (a9, ce7 a12 a13 a14 a15), (a11, ce409 a9 a16), (a13, ce331 a45), (a16, ce408 k17), (a18, ce21 a26 a27 a28 a29), (a26, ce331 a58), (a28, ce102 a181), (a58, ce330 k61 a60 a79 a96 a113 a130 a147 a164), (a181, ce101 k182 (z.2.2.1 128) (z.2.2.1 128) (z.2.2.1 128)), (a60, ce49), (a79, ce49), (a96, ce49), (a113, ce49), (a130, ce49), (a147, ce49), (a164, ce49)]) (tz := [(k34, .double), (k49, .object "java/lang/Object"), (k50, .object "java/lang/Object"), (k51, .object "java/lang/Object"), (k62, .object "java/lang/Object"), (k31, .long), (k17, .int), (k61, .object "java/lang/Object"), (k182, .object "java/lang/Object")]) hP hD hK [25, 26, 27, 28, 29, 30, 31, 32, 33, 34, 35, 36] [0, 1, 2, 3, 4, 7, 8] rfl hk213 hF209 hB213.1 ht213 hvm213 rfl rfl
  have hG : s.heap.size + 151 ≤ H213.size := va_gr (g := 150) (g1 := 1) hG (by rw [← ht213]; exact hB213.2)
  refine W.eq (g2 := F0 m 979 ls [.int 3]) (by rw [hw213]) ?_
  refine W.widen (k := 151) (n := 1496) (by decide) (by decide) ?_
  refine lv_istore (lv' := [(7, .int 3), (6, .int 0), (5, .int 45), (4, .ref a33), (3, .ref a30), (2, .ref a18), (1, .ref a1), (0, .ref b)]) hx hb dL_law_979 hl (by decide) rfl (fun ls hl => ?_)
  refine lv_goto (tgt := 1057) hx hb dL_law_981 (by decide) ?_
  refine lv_iinc (v := 50) (lv' := [(5, .int 50), (7, .int 3), (6, .int 0), (4, .ref a33), (3, .ref a30), (2, .ref a18), (1, .ref a1), (0, .ref b)]) hx hb dL_law_1057 hl (k := 2) rfl (by decide) (by decide) rfl (fun ls hl => ?_)
  refine lv_goto (tgt := 28) hx hb dL_law_1060 (by decide) ?_
  refine lv_iload hx hb dL_law_28 (lv_at hl 0 rfl) ?_
  refine lv_aload_n hx hb dL_law_30 rfl (lv_at hl 7 rfl) ?_
  refine va_slen hx hb hX9 hbl hbA hS dL_law_31 ?_
  refine W.eq (g2 := F0 m 32 ls [.int 2540, .int 50]) rfl ?_
  refine lv_iconst (v := 5) hx hb dL_law_32 (by decide) ?_
  refine lv_isub hx hb dL_law_33 ?_
  refine lv_topi (fun y215 ey215 => ?_)
  obtain rfl : y215 = 2535 := ey215.trans (by decide)
  refine lv_icmp_gt (tgt := 1063) hx hb dL_law_34 (by decide) (fun cz => absurd cz (by decide)) (fun _ => ?_)
  refine lv_aload_n hx hb dL_law_37 rfl (lv_at hl 7 rfl) ?_
  refine lv_iload hx hb dL_law_38 (lv_at hl 0 rfl) ?_
  refine va_sld hx hb hX9 hbl hbA hS (i := 50) (by unfold vp_in; decide) dL_law_40 ?_
  refine W.eq (g2 := F0 m 41 ls [.int 22]) (by rw [show xs (Int32.toNatClampNeg 50) = xs 50 from rfl, hZ 50 (by decide)]; rfl) ?_
  refine lv_bipush (v := 31) hx hb dL_law_41 (by decide) ?_
  refine lv_iand hx hb dL_law_43 ?_
  refine lv_topi (fun y216 ey216 => ?_)
  obtain rfl : y216 = 22 := ey216.trans (by decide)
  refine lv_tableIn (tgt := 956) hx hb dL_law_44 (by decide) (by decide) rfl (by decide) ?_
  refine lv_aload_n hx hb dL_law_956 rfl (lv_at hl 6 rfl) ?_
  refine lv_aload_n hx hb dL_law_957 rfl (lv_at hl 7 rfl) ?_
  refine lv_iload hx hb dL_law_958 (lv_at hl 0 rfl) ?_
  refine lv_iconst (v := 1) hx hb dL_law_960 (by decide) ?_
  refine lv_iadd hx hb dL_law_961 ?_
  refine lv_topi (fun y217 ey217 => ?_)
  obtain rfl : y217 = 51 := ey217.trans (by decide)
  refine va_sld hx hb hX9 hbl hbA hS (i := 51) (by unfold vp_in; decide) dL_law_962 ?_
  refine W.eq (g2 := F0 m 963 ls [.int 0, .ref a1]) (by rw [show xs (Int32.toNatClampNeg 51) = xs 51 from rfl, hZ 51 (by decide)]; rfl) ?_
  refine lv_aload_n hx hb dL_law_963 rfl (lv_at hl 4 rfl) ?_
  have hM220 := k808_addTest l hl9 dC dI z a1 a30 a9 a11 a13 a16 a10 a12 a14 a15 a45 H213.size k31 k17
  obtain ⟨hF218, hC221⟩ := pc_M hM220 hP hD hK hS hX hT hA [25, 26, 27, 28, 29, 30] [5, 6] rfl rfl rfl
  refine va_calli (vx_runSW (As := [.ref a1, .int 0, .ref a30]) (rest := []) ⟨hx, hb, hml, hown, hts⟩ hM220 (vx_cwSW 3 hts (gS q_368 q_369 q_242 q_367) rfl rfl rfl hS_L_addTest ⟨Nat.le_of_ble_eq_true rfl, Nat.le_of_ble_eq_true rfl⟩) ⟨pc_blind, fun U hU hW => ⟨rfl, hC221 U hU hW⟩⟩ rfl rfl hl.1 rfl (lv_room (Nat.le_of_ble_eq_true rfl)) dL_law_964 ⟨(Nat.le_of_ble_eq_true rfl), (Nat.le_of_ble_eq_true rfl)⟩) hS (fun q9 _ h9 => hF218 q9 h9) hF218 (fun r223 u222 t222 H222 L222 ht222 hvm222 hw222 hB222 hz222 hk222 hS => ?_)
  obtain ⟨hP, hD, hK⟩ := pq_jn (wz := [(a33, ce23 k34), (a10, ce10 a9), (a12, ce331 a44), (a14, ce3 z.1), (a15, ce366 a46), (a44, ce330 k49 a47 a71 a88 a105 a122 a139 a156), (a45, ce330 k50 a47 a71 a88 a105 a122 a139 a156), (a46, ce330 k51 a47 a71 a88 a105 a122 a139 a156), (a47, ce38 (z.2.1 0) a48 a47), (a71, ce77 (z.2.1 0) a72 a71), (a88, ce115 (z.2.1 0) a89 a88), (a105, ce165 (z.2.1 0) a106 a105), (a122, ce224 (z.2.1 0) a123 a122), (a139, ce287 (z.2.1 0) a140 a139), (a48, ce3 z.1), (a72, ce3 z.1), (a89, ce3 z.1), (a106, ce3 z.1), (a123, ce3 z.1), (a140, ce3 z.1), (a156, ce364 (z.2.1 0) a157 a156), (a157, ce3 z.1), (a27, ce3 z.1), (a29, ce366 a59), (a59, ce330 k62 (z.2.2.1 128) (z.2.2.1 129) (z.2.2.1 130) (z.2.2.1 131) (z.2.2.1 132) (z.2.2.1 133) (z.2.2.1 134)), (a18, ce21 a26 a27 a28 a29), (a26, ce331 a58), (a28, ce102 a181), (a58, ce330 k61 a60 a79 a96 a113 a130 a147 a164), (a181, ce101 k182 (z.2.2.1 128) (z.2.2.1 128) (z.2.2.1 128)), (a60, ce49), (a79, ce49), (a96, ce49), (a113, ce49), (a130, ce49), (a147, ce49), (a164, ce49), (a1, ce16 a9 a10 a11), (a30, ce228 k31), (a9, ce7 a12 a13 a14 a15), (a11, ce411 a9 a16), (a13, ce331 a45), (a16, ce410 k17)]) (tz := [(k34, .double), (k49, .object "java/lang/Object"), (k50, .object "java/lang/Object"), (k51, .object "java/lang/Object"), (k62, .object "java/lang/Object"), (k61, .object "java/lang/Object"), (k182, .object "java/lang/Object"), (k31, .long), (k17, .int)]) hP hD hK [25, 26, 27, 28, 29, 30] [0, 1, 2, 3, 4, 7, 8] rfl hk222 hF218 hB222.1 ht222 hvm222 rfl rfl
  have hG : s.heap.size + 151 ≤ H222.size := Nat.le_trans hG hz222
  refine W.eq (g2 := F0 m 967 ls [.int 0]) (by rw [hw222]) ?_
  refine lv_istore (lv' := [(6, .int 0), (5, .int 50), (7, .int 3), (4, .ref a33), (3, .ref a30), (2, .ref a18), (1, .ref a1), (0, .ref b)]) hx hb dL_law_967 hl (by decide) rfl (fun ls hl => ?_)
  refine lv_aload_n hx hb dL_law_969 rfl (lv_at hl 5 rfl) ?_
  refine lv_aload_n hx hb dL_law_970 rfl (lv_at hl 7 rfl) ?_
  refine lv_iload hx hb dL_law_971 (lv_at hl 1 rfl) ?_
  refine lv_iconst (v := 1) hx hb dL_law_973 (by decide) ?_
  refine lv_iadd hx hb dL_law_974 ?_
  refine lv_topi (fun y224 ey224 => ?_)
  obtain rfl : y224 = 51 := ey224.trans (by decide)
  refine va_sld hx hb hX9 hbl hbA hS (i := 51) (by unfold vp_in; decide) dL_law_975 ?_
  refine W.eq (g2 := F0 m 976 ls [.int 0, .ref a18]) (by rw [show xs (Int32.toNatClampNeg 51) = xs 51 from rfl, hZ 51 (by decide)]; rfl) ?_
  have hM227 := k811_addTest l hl9 dC dI z a18 a26 a28 a58 a181 a60 a79 a96 a113 a130 a147 a164 a27 a29 H222.size k61 k182
  obtain ⟨hF225, hC228⟩ := pc_M hM227 hP hD hK hS hX hT hA [25, 26, 27, 28, 29, 30, 31, 32, 33, 34, 35, 36] [5, 6] rfl rfl rfl
  refine va_calli (va_runV (As := [.int 0]) (rest := []) ⟨hx, hb, hml, hown, hts⟩ hM227 (cwV 1 hts (gV q_378 q_379 q_380 q_60 q_377) rfl rfl rfl hV_X9_addTest ⟨Nat.le_of_ble_eq_true rfl, Nat.le_of_ble_eq_true rfl⟩) ⟨pc_blind, va_recv hK hP (ci := 8) (q := (RX9, TX9, 6)) (q0 := 25) rfl rfl, fun U hU hW => ⟨rfl, hC228 U hU hW⟩⟩ rfl rfl hl.1 rfl (lv_room (Nat.le_of_ble_eq_true rfl)) dL_law_976 ⟨(Nat.le_of_ble_eq_true rfl), (Nat.le_of_ble_eq_true rfl)⟩) hS (fun q9 _ h9 => hF225 q9 h9) hF225 (fun r230 u229 t229 H229 L229 ht229 hvm229 hw229 hB229 hz229 hk229 hS => ?_)
  obtain ⟨hP, hD, hK⟩ := pq_jn (wz := [(a33, ce23 k34), (a10, ce10 a9), (a12, ce331 a44), (a14, ce3 z.1), (a15, ce366 a46), (a44, ce330 k49 a47 a71 a88 a105 a122 a139 a156), (a45, ce330 k50 a47 a71 a88 a105 a122 a139 a156), (a46, ce330 k51 a47 a71 a88 a105 a122 a139 a156), (a47, ce38 (z.2.1 0) a48 a47), (a71, ce77 (z.2.1 0) a72 a71), (a88, ce115 (z.2.1 0) a89 a88), (a105, ce165 (z.2.1 0) a106 a105), (a122, ce224 (z.2.1 0) a123 a122), (a139, ce287 (z.2.1 0) a140 a139), (a48, ce3 z.1), (a72, ce3 z.1), (a89, ce3 z.1), (a106, ce3 z.1), (a123, ce3 z.1), (a140, ce3 z.1), (a156, ce364 (z.2.1 0) a157 a156), (a157, ce3 z.1), (a27, ce3 z.1), (a29, ce366 a59), (a59, ce330 k62 (z.2.2.1 128) (z.2.2.1 129) (z.2.2.1 130) (z.2.2.1 131) (z.2.2.1 132) (z.2.2.1 133) (z.2.2.1 134)), (a1, ce16 a9 a10 a11), (a30, ce228 k31), (a9, ce7 a12 a13 a14 a15), (a11, ce411 a9 a16), (a13, ce331 a45), (a16, ce410 k17), (a18, ce21 a26 a27 a28 a29), (a26, ce331 a58), (a28, ce147 a181), (a58, ce330 k61 a60 a79 a96 a113 a130 a147 a164), (a181, ce146 k182 (z.2.2.1 128) (z.2.2.1 128) (z.2.2.1 128) (z.2.2.1 128)), (a60, ce49), (a79, ce49), (a96, ce49), (a113, ce49), (a130, ce49), (a147, ce49), (a164, ce49)]) (tz := [(k34, .double), (k49, .object "java/lang/Object"), (k50, .object "java/lang/Object"), (k51, .object "java/lang/Object"), (k62, .object "java/lang/Object"), (k31, .long), (k17, .int), (k61, .object "java/lang/Object"), (k182, .object "java/lang/Object")]) hP hD hK [25, 26, 27, 28, 29, 30, 31, 32, 33, 34, 35, 36] [0, 1, 2, 3, 4, 7, 8] rfl hk229 hF225 hB229.1 ht229 hvm229 rfl rfl
  have hG : s.heap.size + 152 ≤ H229.size := va_gr (g := 151) (g1 := 1) hG (by rw [← ht229]; exact hB229.2)
  refine W.eq (g2 := F0 m 979 ls [.int 4]) (by rw [hw229]) ?_
  refine W.widen (k := 152) (n := 1500) (by decide) (by decide) ?_
  refine lv_istore (lv' := [(7, .int 4), (6, .int 0), (5, .int 50), (4, .ref a33), (3, .ref a30), (2, .ref a18), (1, .ref a1), (0, .ref b)]) hx hb dL_law_979 hl (by decide) rfl (fun ls hl => ?_)
  refine lv_goto (tgt := 1057) hx hb dL_law_981 (by decide) ?_
  refine lv_iinc (v := 55) (lv' := [(5, .int 55), (7, .int 4), (6, .int 0), (4, .ref a33), (3, .ref a30), (2, .ref a18), (1, .ref a1), (0, .ref b)]) hx hb dL_law_1057 hl (k := 2) rfl (by decide) (by decide) rfl (fun ls hl => ?_)
  refine lv_goto (tgt := 28) hx hb dL_law_1060 (by decide) ?_
  refine lv_iload hx hb dL_law_28 (lv_at hl 0 rfl) ?_
  refine lv_aload_n hx hb dL_law_30 rfl (lv_at hl 7 rfl) ?_
  refine va_slen hx hb hX9 hbl hbA hS dL_law_31 ?_
  refine W.eq (g2 := F0 m 32 ls [.int 2540, .int 55]) rfl ?_
  refine lv_iconst (v := 5) hx hb dL_law_32 (by decide) ?_
  refine lv_isub hx hb dL_law_33 ?_
  refine lv_topi (fun y231 ey231 => ?_)
  obtain rfl : y231 = 2535 := ey231.trans (by decide)
  refine lv_icmp_gt (tgt := 1063) hx hb dL_law_34 (by decide) (fun cz => absurd cz (by decide)) (fun _ => ?_)
  refine lv_aload_n hx hb dL_law_37 rfl (lv_at hl 7 rfl) ?_
  refine lv_iload hx hb dL_law_38 (lv_at hl 0 rfl) ?_
  refine va_sld hx hb hX9 hbl hbA hS (i := 55) (by unfold vp_in; decide) dL_law_40 ?_
  refine W.eq (g2 := F0 m 41 ls [.int 22]) (by rw [show xs (Int32.toNatClampNeg 55) = xs 55 from rfl, hZ 55 (by decide)]; rfl) ?_
  refine lv_bipush (v := 31) hx hb dL_law_41 (by decide) ?_
  refine lv_iand hx hb dL_law_43 ?_
  refine lv_topi (fun y232 ey232 => ?_)
  obtain rfl : y232 = 22 := ey232.trans (by decide)
  refine lv_tableIn (tgt := 956) hx hb dL_law_44 (by decide) (by decide) rfl (by decide) ?_
  refine lv_aload_n hx hb dL_law_956 rfl (lv_at hl 6 rfl) ?_
  refine lv_aload_n hx hb dL_law_957 rfl (lv_at hl 7 rfl) ?_
  refine lv_iload hx hb dL_law_958 (lv_at hl 0 rfl) ?_
  refine lv_iconst (v := 1) hx hb dL_law_960 (by decide) ?_
  refine lv_iadd hx hb dL_law_961 ?_
  refine lv_topi (fun y233 ey233 => ?_)
  obtain rfl : y233 = 56 := ey233.trans (by decide)
  refine va_sld hx hb hX9 hbl hbA hS (i := 56) (by unfold vp_in; decide) dL_law_962 ?_
  refine W.eq (g2 := F0 m 963 ls [.int 0, .ref a1]) (by rw [show xs (Int32.toNatClampNeg 56) = xs 56 from rfl, hZ 56 (by decide)]; rfl) ?_
  refine lv_aload_n hx hb dL_law_963 rfl (lv_at hl 4 rfl) ?_
  have hM236 := k816_addTest l hl9 dC dI z a1 a30 a9 a11 a13 a16 a10 a12 a14 a15 a45 H229.size k31 k17
  obtain ⟨hF234, hC237⟩ := pc_M hM236 hP hD hK hS hX hT hA [25, 26, 27, 28, 29, 30] [5, 6] rfl rfl rfl
  refine va_calli (vx_runSW (As := [.ref a1, .int 0, .ref a30]) (rest := []) ⟨hx, hb, hml, hown, hts⟩ hM236 (vx_cwSW 3 hts (gS q_368 q_369 q_242 q_367) rfl rfl rfl hS_L_addTest ⟨Nat.le_of_ble_eq_true rfl, Nat.le_of_ble_eq_true rfl⟩) ⟨pc_blind, fun U hU hW => ⟨rfl, hC237 U hU hW⟩⟩ rfl rfl hl.1 rfl (lv_room (Nat.le_of_ble_eq_true rfl)) dL_law_964 ⟨(Nat.le_of_ble_eq_true rfl), (Nat.le_of_ble_eq_true rfl)⟩) hS (fun q9 _ h9 => hF234 q9 h9) hF234 (fun r239 u238 t238 H238 L238 ht238 hvm238 hw238 hB238 hz238 hk238 hS => ?_)
  obtain ⟨hP, hD, hK⟩ := pq_jn (wz := [(a33, ce23 k34), (a10, ce10 a9), (a12, ce331 a44), (a14, ce3 z.1), (a15, ce366 a46), (a44, ce330 k49 a47 a71 a88 a105 a122 a139 a156), (a45, ce330 k50 a47 a71 a88 a105 a122 a139 a156), (a46, ce330 k51 a47 a71 a88 a105 a122 a139 a156), (a47, ce38 (z.2.1 0) a48 a47), (a71, ce77 (z.2.1 0) a72 a71), (a88, ce115 (z.2.1 0) a89 a88), (a105, ce165 (z.2.1 0) a106 a105), (a122, ce224 (z.2.1 0) a123 a122), (a139, ce287 (z.2.1 0) a140 a139), (a48, ce3 z.1), (a72, ce3 z.1), (a89, ce3 z.1), (a106, ce3 z.1), (a123, ce3 z.1), (a140, ce3 z.1), (a156, ce364 (z.2.1 0) a157 a156), (a157, ce3 z.1), (a27, ce3 z.1), (a29, ce366 a59), (a59, ce330 k62 (z.2.2.1 128) (z.2.2.1 129) (z.2.2.1 130) (z.2.2.1 131) (z.2.2.1 132) (z.2.2.1 133) (z.2.2.1 134)), (a18, ce21 a26 a27 a28 a29), (a26, ce331 a58), (a28, ce147 a181), (a58, ce330 k61 a60 a79 a96 a113 a130 a147 a164), (a181, ce146 k182 (z.2.2.1 128) (z.2.2.1 128) (z.2.2.1 128) (z.2.2.1 128)), (a60, ce49), (a79, ce49), (a96, ce49), (a113, ce49), (a130, ce49), (a147, ce49), (a164, ce49), (a1, ce16 a9 a10 a11), (a30, ce291 k31), (a9, ce7 a12 a13 a14 a15), (a11, ce413 a9 a16), (a13, ce331 a45), (a16, ce412 k17)]) (tz := [(k34, .double), (k49, .object "java/lang/Object"), (k50, .object "java/lang/Object"), (k51, .object "java/lang/Object"), (k62, .object "java/lang/Object"), (k61, .object "java/lang/Object"), (k182, .object "java/lang/Object"), (k31, .long), (k17, .int)]) hP hD hK [25, 26, 27, 28, 29, 30] [0, 1, 2, 3, 4, 7, 8] rfl hk238 hF234 hB238.1 ht238 hvm238 rfl rfl
  have hG : s.heap.size + 152 ≤ H238.size := Nat.le_trans hG hz238
  refine W.eq (g2 := F0 m 967 ls [.int 0]) (by rw [hw238]) ?_
  refine lv_istore (lv' := [(6, .int 0), (5, .int 55), (7, .int 4), (4, .ref a33), (3, .ref a30), (2, .ref a18), (1, .ref a1), (0, .ref b)]) hx hb dL_law_967 hl (by decide) rfl (fun ls hl => ?_)
  refine lv_aload_n hx hb dL_law_969 rfl (lv_at hl 5 rfl) ?_
  refine lv_aload_n hx hb dL_law_970 rfl (lv_at hl 7 rfl) ?_
  refine lv_iload hx hb dL_law_971 (lv_at hl 1 rfl) ?_
  refine lv_iconst (v := 1) hx hb dL_law_973 (by decide) ?_
  refine lv_iadd hx hb dL_law_974 ?_
  refine lv_topi (fun y240 ey240 => ?_)
  obtain rfl : y240 = 56 := ey240.trans (by decide)
  refine va_sld hx hb hX9 hbl hbA hS (i := 56) (by unfold vp_in; decide) dL_law_975 ?_
  refine W.eq (g2 := F0 m 976 ls [.int 0, .ref a18]) (by rw [show xs (Int32.toNatClampNeg 56) = xs 56 from rfl, hZ 56 (by decide)]; rfl) ?_
  have hM243 := k819_addTest l hl9 dC dI z a18 a26 a28 a58 a181 a60 a79 a96 a113 a130 a147 a164 a27 a29 H238.size k61 k182
  obtain ⟨hF241, hC244⟩ := pc_M hM243 hP hD hK hS hX hT hA [25, 26, 27, 28, 29, 30, 31, 32, 33, 34, 35, 36] [5, 6] rfl rfl rfl
  refine va_calli (va_runV (As := [.int 0]) (rest := []) ⟨hx, hb, hml, hown, hts⟩ hM243 (cwV 1 hts (gV q_378 q_379 q_380 q_60 q_377) rfl rfl rfl hV_X9_addTest ⟨Nat.le_of_ble_eq_true rfl, Nat.le_of_ble_eq_true rfl⟩) ⟨pc_blind, va_recv hK hP (ci := 8) (q := (RX9, TX9, 6)) (q0 := 25) rfl rfl, fun U hU hW => ⟨rfl, hC244 U hU hW⟩⟩ rfl rfl hl.1 rfl (lv_room (Nat.le_of_ble_eq_true rfl)) dL_law_976 ⟨(Nat.le_of_ble_eq_true rfl), (Nat.le_of_ble_eq_true rfl)⟩) hS (fun q9 _ h9 => hF241 q9 h9) hF241 (fun r246 u245 t245 H245 L245 ht245 hvm245 hw245 hB245 hz245 hk245 hS => ?_)
  obtain ⟨hP, hD, hK⟩ := pq_jn (wz := [(a33, ce23 k34), (a10, ce10 a9), (a12, ce331 a44), (a14, ce3 z.1), (a15, ce366 a46), (a44, ce330 k49 a47 a71 a88 a105 a122 a139 a156), (a45, ce330 k50 a47 a71 a88 a105 a122 a139 a156), (a46, ce330 k51 a47 a71 a88 a105 a122 a139 a156), (a47, ce38 (z.2.1 0) a48 a47), (a71, ce77 (z.2.1 0) a72 a71), (a88, ce115 (z.2.1 0) a89 a88), (a105, ce165 (z.2.1 0) a106 a105), (a122, ce224 (z.2.1 0) a123 a122), (a139, ce287 (z.2.1 0) a140 a139), (a48, ce3 z.1), (a72, ce3 z.1), (a89, ce3 z.1), (a106, ce3 z.1), (a123, ce3 z.1), (a140, ce3 z.1), (a156, ce364 (z.2.1 0) a157 a156), (a157, ce3 z.1), (a27, ce3 z.1), (a29, ce366 a59), (a59, ce330 k62 (z.2.2.1 128) (z.2.2.1 129) (z.2.2.1 130) (z.2.2.1 131) (z.2.2.1 132) (z.2.2.1 133) (z.2.2.1 134)), (a1, ce16 a9 a10 a11), (a30, ce291 k31), (a9, ce7 a12 a13 a14 a15), (a11, ce413 a9 a16), (a13, ce331 a45), (a16, ce412 k17), (a18, ce21 a26 a27 a28 a29), (a26, ce331 a58), (a28, ce201 a181), (a58, ce330 k61 a60 a79 a96 a113 a130 a147 a164), (a181, ce200 k182 (z.2.2.1 128) (z.2.2.1 128) (z.2.2.1 128) (z.2.2.1 128) (z.2.2.1 128)), (a60, ce49), (a79, ce49), (a96, ce49), (a113, ce49), (a130, ce49), (a147, ce49), (a164, ce49)]) (tz := [(k34, .double), (k49, .object "java/lang/Object"), (k50, .object "java/lang/Object"), (k51, .object "java/lang/Object"), (k62, .object "java/lang/Object"), (k31, .long), (k17, .int), (k61, .object "java/lang/Object"), (k182, .object "java/lang/Object")]) hP hD hK [25, 26, 27, 28, 29, 30, 31, 32, 33, 34, 35, 36] [0, 1, 2, 3, 4, 7, 8] rfl hk245 hF241 hB245.1 ht245 hvm245 rfl rfl
  have hG : s.heap.size + 153 ≤ H245.size := va_gr (g := 152) (g1 := 1) hG (by rw [← ht245]; exact hB245.2)
  refine W.eq (g2 := F0 m 979 ls [.int 5]) (by rw [hw245]) ?_
  refine W.widen (k := 153) (n := 1504) (by decide) (by decide) ?_
  refine lv_istore (lv' := [(7, .int 5), (6, .int 0), (5, .int 55), (4, .ref a33), (3, .ref a30), (2, .ref a18), (1, .ref a1), (0, .ref b)]) hx hb dL_law_979 hl (by decide) rfl (fun ls hl => ?_)
  refine lv_goto (tgt := 1057) hx hb dL_law_981 (by decide) ?_
  refine lv_iinc (v := 60) (lv' := [(5, .int 60), (7, .int 5), (6, .int 0), (4, .ref a33), (3, .ref a30), (2, .ref a18), (1, .ref a1), (0, .ref b)]) hx hb dL_law_1057 hl (k := 2) rfl (by decide) (by decide) rfl (fun ls hl => ?_)
  refine lv_goto (tgt := 28) hx hb dL_law_1060 (by decide) ?_
  refine lv_iload hx hb dL_law_28 (lv_at hl 0 rfl) ?_
  refine lv_aload_n hx hb dL_law_30 rfl (lv_at hl 7 rfl) ?_
  refine va_slen hx hb hX9 hbl hbA hS dL_law_31 ?_
  refine W.eq (g2 := F0 m 32 ls [.int 2540, .int 60]) rfl ?_
  refine lv_iconst (v := 5) hx hb dL_law_32 (by decide) ?_
  refine lv_isub hx hb dL_law_33 ?_
  refine lv_topi (fun y247 ey247 => ?_)
  obtain rfl : y247 = 2535 := ey247.trans (by decide)
  refine lv_icmp_gt (tgt := 1063) hx hb dL_law_34 (by decide) (fun cz => absurd cz (by decide)) (fun _ => ?_)
  refine lv_aload_n hx hb dL_law_37 rfl (lv_at hl 7 rfl) ?_
  refine lv_iload hx hb dL_law_38 (lv_at hl 0 rfl) ?_
  refine va_sld hx hb hX9 hbl hbA hS (i := 60) (by unfold vp_in; decide) dL_law_40 ?_
  refine W.eq (g2 := F0 m 41 ls [.int 22]) (by rw [show xs (Int32.toNatClampNeg 60) = xs 60 from rfl, hZ 60 (by decide)]; rfl) ?_
  refine lv_bipush (v := 31) hx hb dL_law_41 (by decide) ?_
  refine lv_iand hx hb dL_law_43 ?_
  refine lv_topi (fun y248 ey248 => ?_)
  obtain rfl : y248 = 22 := ey248.trans (by decide)
  refine lv_tableIn (tgt := 956) hx hb dL_law_44 (by decide) (by decide) rfl (by decide) ?_
  refine lv_aload_n hx hb dL_law_956 rfl (lv_at hl 6 rfl) ?_
  refine lv_aload_n hx hb dL_law_957 rfl (lv_at hl 7 rfl) ?_
  refine lv_iload hx hb dL_law_958 (lv_at hl 0 rfl) ?_
  refine lv_iconst (v := 1) hx hb dL_law_960 (by decide) ?_
  refine lv_iadd hx hb dL_law_961 ?_
  refine lv_topi (fun y249 ey249 => ?_)
  obtain rfl : y249 = 61 := ey249.trans (by decide)
  refine va_sld hx hb hX9 hbl hbA hS (i := 61) (by unfold vp_in; decide) dL_law_962 ?_
  refine W.eq (g2 := F0 m 963 ls [.int 0, .ref a1]) (by rw [show xs (Int32.toNatClampNeg 61) = xs 61 from rfl, hZ 61 (by decide)]; rfl) ?_
  refine lv_aload_n hx hb dL_law_963 rfl (lv_at hl 4 rfl) ?_
  have hM252 := k824_addTest l hl9 dC dI z a1 a30 a9 a11 a13 a16 a10 a12 a14 a15 a45 H245.size k31 k17
  obtain ⟨hF250, hC253⟩ := pc_M hM252 hP hD hK hS hX hT hA [25, 26, 27, 28, 29, 30] [5, 6] rfl rfl rfl
  refine va_calli (vx_runSW (As := [.ref a1, .int 0, .ref a30]) (rest := []) ⟨hx, hb, hml, hown, hts⟩ hM252 (vx_cwSW 3 hts (gS q_368 q_369 q_242 q_367) rfl rfl rfl hS_L_addTest ⟨Nat.le_of_ble_eq_true rfl, Nat.le_of_ble_eq_true rfl⟩) ⟨pc_blind, fun U hU hW => ⟨rfl, hC253 U hU hW⟩⟩ rfl rfl hl.1 rfl (lv_room (Nat.le_of_ble_eq_true rfl)) dL_law_964 ⟨(Nat.le_of_ble_eq_true rfl), (Nat.le_of_ble_eq_true rfl)⟩) hS (fun q9 _ h9 => hF250 q9 h9) hF250 (fun r255 u254 t254 H254 L254 ht254 hvm254 hw254 hB254 hz254 hk254 hS => ?_)
  obtain ⟨hP, hD, hK⟩ := pq_jn (wz := [(a33, ce23 k34), (a10, ce10 a9), (a12, ce331 a44), (a14, ce3 z.1), (a15, ce366 a46), (a44, ce330 k49 a47 a71 a88 a105 a122 a139 a156), (a45, ce330 k50 a47 a71 a88 a105 a122 a139 a156), (a46, ce330 k51 a47 a71 a88 a105 a122 a139 a156), (a47, ce38 (z.2.1 0) a48 a47), (a71, ce77 (z.2.1 0) a72 a71), (a88, ce115 (z.2.1 0) a89 a88), (a105, ce165 (z.2.1 0) a106 a105), (a122, ce224 (z.2.1 0) a123 a122), (a139, ce287 (z.2.1 0) a140 a139), (a48, ce3 z.1), (a72, ce3 z.1), (a89, ce3 z.1), (a106, ce3 z.1), (a123, ce3 z.1), (a140, ce3 z.1), (a156, ce364 (z.2.1 0) a157 a156), (a157, ce3 z.1), (a27, ce3 z.1), (a29, ce366 a59), (a59, ce330 k62 (z.2.2.1 128) (z.2.2.1 129) (z.2.2.1 130) (z.2.2.1 131) (z.2.2.1 132) (z.2.2.1 133) (z.2.2.1 134)), (a18, ce21 a26 a27 a28 a29), (a26, ce331 a58), (a28, ce201 a181), (a58, ce330 k61 a60 a79 a96 a113 a130 a147 a164), (a181, ce200 k182 (z.2.2.1 128) (z.2.2.1 128) (z.2.2.1 128) (z.2.2.1 128) (z.2.2.1 128)), (a60, ce49), (a79, ce49), (a96, ce49), (a113, ce49), (a130, ce49), (a147, ce49), (a164, ce49), (a1, ce16 a9 a10 a11), (a30, ce368 k31), (a9, ce7 a12 a13 a14 a15), (a11, ce415 a9 a16), (a13, ce331 a45), (a16, ce414 k17)]) (tz := [(k34, .double), (k49, .object "java/lang/Object"), (k50, .object "java/lang/Object"), (k51, .object "java/lang/Object"), (k62, .object "java/lang/Object"), (k61, .object "java/lang/Object"), (k182, .object "java/lang/Object"), (k31, .long), (k17, .int)]) hP hD hK [25, 26, 27, 28, 29, 30] [0, 1, 2, 3, 4, 7, 8] rfl hk254 hF250 hB254.1 ht254 hvm254 rfl rfl
  have hG : s.heap.size + 153 ≤ H254.size := Nat.le_trans hG hz254
  refine W.eq (g2 := F0 m 967 ls [.int 0]) (by rw [hw254]) ?_
  refine lv_istore (lv' := [(6, .int 0), (5, .int 60), (7, .int 5), (4, .ref a33), (3, .ref a30), (2, .ref a18), (1, .ref a1), (0, .ref b)]) hx hb dL_law_967 hl (by decide) rfl (fun ls hl => ?_)
  refine lv_aload_n hx hb dL_law_969 rfl (lv_at hl 5 rfl) ?_
  refine lv_aload_n hx hb dL_law_970 rfl (lv_at hl 7 rfl) ?_
  refine lv_iload hx hb dL_law_971 (lv_at hl 1 rfl) ?_
  refine lv_iconst (v := 1) hx hb dL_law_973 (by decide) ?_
  refine lv_iadd hx hb dL_law_974 ?_
  refine lv_topi (fun y256 ey256 => ?_)
  obtain rfl : y256 = 61 := ey256.trans (by decide)
  refine va_sld hx hb hX9 hbl hbA hS (i := 61) (by unfold vp_in; decide) dL_law_975 ?_
  refine W.eq (g2 := F0 m 976 ls [.int 0, .ref a18]) (by rw [show xs (Int32.toNatClampNeg 61) = xs 61 from rfl, hZ 61 (by decide)]; rfl) ?_
  have hM259 := k827_addTest l hl9 dC dI z a18 a26 a28 a58 a181 a60 a79 a96 a113 a130 a147 a164 a27 a29 H254.size k61 k182
  obtain ⟨hF257, hC260⟩ := pc_M hM259 hP hD hK hS hX hT hA [25, 26, 27, 28, 29, 30, 31, 32, 33, 34, 35, 36] [5, 6] rfl rfl rfl
  refine va_calli (va_runV (As := [.int 0]) (rest := []) ⟨hx, hb, hml, hown, hts⟩ hM259 (cwV 1 hts (gV q_378 q_379 q_380 q_60 q_377) rfl rfl rfl hV_X9_addTest ⟨Nat.le_of_ble_eq_true rfl, Nat.le_of_ble_eq_true rfl⟩) ⟨pc_blind, va_recv hK hP (ci := 8) (q := (RX9, TX9, 6)) (q0 := 25) rfl rfl, fun U hU hW => ⟨rfl, hC260 U hU hW⟩⟩ rfl rfl hl.1 rfl (lv_room (Nat.le_of_ble_eq_true rfl)) dL_law_976 ⟨(Nat.le_of_ble_eq_true rfl), (Nat.le_of_ble_eq_true rfl)⟩) hS (fun q9 _ h9 => hF257 q9 h9) hF257 (fun r262 u261 t261 H261 L261 ht261 hvm261 hw261 hB261 hz261 hk261 hS => ?_)
  obtain ⟨hP, hD, hK⟩ := pq_jn (wz := [(a33, ce23 k34), (a10, ce10 a9), (a12, ce331 a44), (a14, ce3 z.1), (a15, ce366 a46), (a44, ce330 k49 a47 a71 a88 a105 a122 a139 a156), (a45, ce330 k50 a47 a71 a88 a105 a122 a139 a156), (a46, ce330 k51 a47 a71 a88 a105 a122 a139 a156), (a47, ce38 (z.2.1 0) a48 a47), (a71, ce77 (z.2.1 0) a72 a71), (a88, ce115 (z.2.1 0) a89 a88), (a105, ce165 (z.2.1 0) a106 a105), (a122, ce224 (z.2.1 0) a123 a122), (a139, ce287 (z.2.1 0) a140 a139), (a48, ce3 z.1), (a72, ce3 z.1), (a89, ce3 z.1), (a106, ce3 z.1), (a123, ce3 z.1), (a140, ce3 z.1), (a156, ce364 (z.2.1 0) a157 a156), (a157, ce3 z.1), (a27, ce3 z.1), (a29, ce366 a59), (a59, ce330 k62 (z.2.2.1 128) (z.2.2.1 129) (z.2.2.1 130) (z.2.2.1 131) (z.2.2.1 132) (z.2.2.1 133) (z.2.2.1 134)), (a1, ce16 a9 a10 a11), (a30, ce368 k31), (a9, ce7 a12 a13 a14 a15), (a11, ce415 a9 a16), (a13, ce331 a45), (a16, ce414 k17), (a18, ce21 a26 a27 a28 a29), (a26, ce331 a58), (a28, ce259 a181), (a58, ce330 k61 a60 a79 a96 a113 a130 a147 a164), (a181, ce258 k182 (z.2.2.1 128) (z.2.2.1 128) (z.2.2.1 128) (z.2.2.1 128) (z.2.2.1 128) (z.2.2.1 128)), (a60, ce49), (a79, ce49), (a96, ce49), (a113, ce49), (a130, ce49), (a147, ce49), (a164, ce49)]) (tz := [(k34, .double), (k49, .object "java/lang/Object"), (k50, .object "java/lang/Object"), (k51, .object "java/lang/Object"), (k62, .object "java/lang/Object"), (k31, .long), (k17, .int), (k61, .object "java/lang/Object"), (k182, .object "java/lang/Object")]) hP hD hK [25, 26, 27, 28, 29, 30, 31, 32, 33, 34, 35, 36] [0, 1, 2, 3, 4, 7, 8] rfl hk261 hF257 hB261.1 ht261 hvm261 rfl rfl
  have hG : s.heap.size + 154 ≤ H261.size := va_gr (g := 153) (g1 := 1) hG (by rw [← ht261]; exact hB261.2)
  refine W.eq (g2 := F0 m 979 ls [.int 6]) (by rw [hw261]) ?_
  refine W.widen (k := 154) (n := 1508) (by decide) (by decide) ?_
  refine lv_istore (lv' := [(7, .int 6), (6, .int 0), (5, .int 60), (4, .ref a33), (3, .ref a30), (2, .ref a18), (1, .ref a1), (0, .ref b)]) hx hb dL_law_979 hl (by decide) rfl (fun ls hl => ?_)
  refine lv_goto (tgt := 1057) hx hb dL_law_981 (by decide) ?_
  refine lv_iinc (v := 65) (lv' := [(5, .int 65), (7, .int 6), (6, .int 0), (4, .ref a33), (3, .ref a30), (2, .ref a18), (1, .ref a1), (0, .ref b)]) hx hb dL_law_1057 hl (k := 2) rfl (by decide) (by decide) rfl (fun ls hl => ?_)
  refine lv_goto (tgt := 28) hx hb dL_law_1060 (by decide) ?_
  refine lv_iload hx hb dL_law_28 (lv_at hl 0 rfl) ?_
  refine lv_aload_n hx hb dL_law_30 rfl (lv_at hl 7 rfl) ?_
  refine va_slen hx hb hX9 hbl hbA hS dL_law_31 ?_
  refine W.eq (g2 := F0 m 32 ls [.int 2540, .int 65]) rfl ?_
  refine lv_iconst (v := 5) hx hb dL_law_32 (by decide) ?_
  refine lv_isub hx hb dL_law_33 ?_
  refine lv_topi (fun y263 ey263 => ?_)
  obtain rfl : y263 = 2535 := ey263.trans (by decide)
  refine lv_icmp_gt (tgt := 1063) hx hb dL_law_34 (by decide) (fun cz => absurd cz (by decide)) (fun _ => ?_)
  refine lv_aload_n hx hb dL_law_37 rfl (lv_at hl 7 rfl) ?_
  refine lv_iload hx hb dL_law_38 (lv_at hl 0 rfl) ?_
  refine va_sld hx hb hX9 hbl hbA hS (i := 65) (by unfold vp_in; decide) dL_law_40 ?_
  refine W.eq (g2 := F0 m 41 ls [.int 22]) (by rw [show xs (Int32.toNatClampNeg 65) = xs 65 from rfl, hZ 65 (by decide)]; rfl) ?_
  refine lv_bipush (v := 31) hx hb dL_law_41 (by decide) ?_
  refine lv_iand hx hb dL_law_43 ?_
  refine lv_topi (fun y264 ey264 => ?_)
  obtain rfl : y264 = 22 := ey264.trans (by decide)
  refine lv_tableIn (tgt := 956) hx hb dL_law_44 (by decide) (by decide) rfl (by decide) ?_
  refine lv_aload_n hx hb dL_law_956 rfl (lv_at hl 6 rfl) ?_
  refine lv_aload_n hx hb dL_law_957 rfl (lv_at hl 7 rfl) ?_
  refine lv_iload hx hb dL_law_958 (lv_at hl 0 rfl) ?_
  refine lv_iconst (v := 1) hx hb dL_law_960 (by decide) ?_
  refine lv_iadd hx hb dL_law_961 ?_
  refine lv_topi (fun y265 ey265 => ?_)
  obtain rfl : y265 = 66 := ey265.trans (by decide)
  refine va_sld hx hb hX9 hbl hbA hS (i := 66) (by unfold vp_in; decide) dL_law_962 ?_
  refine W.eq (g2 := F0 m 963 ls [.int 0, .ref a1]) (by rw [show xs (Int32.toNatClampNeg 66) = xs 66 from rfl, hZ 66 (by decide)]; rfl) ?_
  refine lv_aload_n hx hb dL_law_963 rfl (lv_at hl 4 rfl) ?_
  have hM268 := k832_addTest l hl9 dC dI z a1 a30 a9 a11 a13 a16 a10 a12 a14 a15 a45 H261.size k31 k17
  obtain ⟨hF266, hC269⟩ := pc_M hM268 hP hD hK hS hX hT hA [25, 26, 27, 28, 29, 30] [5, 6] rfl rfl rfl
  refine va_calli (vx_runSW (As := [.ref a1, .int 0, .ref a30]) (rest := []) ⟨hx, hb, hml, hown, hts⟩ hM268 (vx_cwSW 3 hts (gS q_368 q_369 q_242 q_367) rfl rfl rfl hS_L_addTest ⟨Nat.le_of_ble_eq_true rfl, Nat.le_of_ble_eq_true rfl⟩) ⟨pc_blind, fun U hU hW => ⟨rfl, hC269 U hU hW⟩⟩ rfl rfl hl.1 rfl (lv_room (Nat.le_of_ble_eq_true rfl)) dL_law_964 ⟨(Nat.le_of_ble_eq_true rfl), (Nat.le_of_ble_eq_true rfl)⟩) hS (fun q9 _ h9 => hF266 q9 h9) hF266 (fun r271 u270 t270 H270 L270 ht270 hvm270 hw270 hB270 hz270 hk270 hS => ?_)
  obtain ⟨hP, hD, hK⟩ := pq_jn (wz := [(a33, ce23 k34), (a10, ce10 a9), (a12, ce331 a44), (a14, ce3 z.1), (a15, ce366 a46), (a44, ce330 k49 a47 a71 a88 a105 a122 a139 a156), (a45, ce330 k50 a47 a71 a88 a105 a122 a139 a156), (a46, ce330 k51 a47 a71 a88 a105 a122 a139 a156), (a47, ce38 (z.2.1 0) a48 a47), (a71, ce77 (z.2.1 0) a72 a71), (a88, ce115 (z.2.1 0) a89 a88), (a105, ce165 (z.2.1 0) a106 a105), (a122, ce224 (z.2.1 0) a123 a122), (a139, ce287 (z.2.1 0) a140 a139), (a48, ce3 z.1), (a72, ce3 z.1), (a89, ce3 z.1), (a106, ce3 z.1), (a123, ce3 z.1), (a140, ce3 z.1), (a156, ce364 (z.2.1 0) a157 a156), (a157, ce3 z.1), (a27, ce3 z.1), (a29, ce366 a59), (a59, ce330 k62 (z.2.2.1 128) (z.2.2.1 129) (z.2.2.1 130) (z.2.2.1 131) (z.2.2.1 132) (z.2.2.1 133) (z.2.2.1 134)), (a18, ce21 a26 a27 a28 a29), (a26, ce331 a58), (a28, ce259 a181), (a58, ce330 k61 a60 a79 a96 a113 a130 a147 a164), (a181, ce258 k182 (z.2.2.1 128) (z.2.2.1 128) (z.2.2.1 128) (z.2.2.1 128) (z.2.2.1 128) (z.2.2.1 128)), (a60, ce49), (a79, ce49), (a96, ce49), (a113, ce49), (a130, ce49), (a147, ce49), (a164, ce49), (a1, ce16 a9 a10 a11), (a30, ce419 k31), (a9, ce7 a12 a13 a14 a15), (a11, ce417 a9 a16), (a13, ce331 a45), (a16, ce416 k17)]) (tz := [(k34, .double), (k49, .object "java/lang/Object"), (k50, .object "java/lang/Object"), (k51, .object "java/lang/Object"), (k62, .object "java/lang/Object"), (k61, .object "java/lang/Object"), (k182, .object "java/lang/Object"), (k31, .long), (k17, .int)]) hP hD hK [25, 26, 27, 28, 29, 30] [0, 1, 2, 3, 4, 7, 8] rfl hk270 hF266 hB270.1 ht270 hvm270 rfl rfl
  have hG : s.heap.size + 154 ≤ H270.size := Nat.le_trans hG hz270
  refine W.eq (g2 := F0 m 967 ls [.int 0]) (by rw [hw270]) ?_
  refine lv_istore (lv' := [(6, .int 0), (5, .int 65), (7, .int 6), (4, .ref a33), (3, .ref a30), (2, .ref a18), (1, .ref a1), (0, .ref b)]) hx hb dL_law_967 hl (by decide) rfl (fun ls hl => ?_)
  refine lv_aload_n hx hb dL_law_969 rfl (lv_at hl 5 rfl) ?_
  refine lv_aload_n hx hb dL_law_970 rfl (lv_at hl 7 rfl) ?_
  refine lv_iload hx hb dL_law_971 (lv_at hl 1 rfl) ?_
  refine lv_iconst (v := 1) hx hb dL_law_973 (by decide) ?_
  refine lv_iadd hx hb dL_law_974 ?_
  refine lv_topi (fun y272 ey272 => ?_)
  obtain rfl : y272 = 66 := ey272.trans (by decide)
  refine va_sld hx hb hX9 hbl hbA hS (i := 66) (by unfold vp_in; decide) dL_law_975 ?_
  refine W.eq (g2 := F0 m 976 ls [.int 0, .ref a18]) (by rw [show xs (Int32.toNatClampNeg 66) = xs 66 from rfl, hZ 66 (by decide)]; rfl) ?_
  have hM275 := k835_addTest l hl9 dC dI z a18 a26 a28 a58 a181 a60 a79 a96 a113 a130 a147 a164 a27 a29 H270.size k61 k182
  obtain ⟨hF273, hC276⟩ := pc_M hM275 hP hD hK hS hX hT hA [25, 26, 27, 28, 29, 30, 31, 32, 33, 34, 35, 36] [5, 6] rfl rfl rfl
  refine va_calli (va_runV (As := [.int 0]) (rest := []) ⟨hx, hb, hml, hown, hts⟩ hM275 (cwV 1 hts (gV q_378 q_379 q_380 q_60 q_377) rfl rfl rfl hV_X9_addTest ⟨Nat.le_of_ble_eq_true rfl, Nat.le_of_ble_eq_true rfl⟩) ⟨pc_blind, va_recv hK hP (ci := 8) (q := (RX9, TX9, 6)) (q0 := 25) rfl rfl, fun U hU hW => ⟨rfl, hC276 U hU hW⟩⟩ rfl rfl hl.1 rfl (lv_room (Nat.le_of_ble_eq_true rfl)) dL_law_976 ⟨(Nat.le_of_ble_eq_true rfl), (Nat.le_of_ble_eq_true rfl)⟩) hS (fun q9 _ h9 => hF273 q9 h9) hF273 (fun r278 u277 t277 H277 L277 ht277 hvm277 hw277 hB277 hz277 hk277 hS => ?_)
  obtain ⟨hP, hD, hK⟩ := pq_jn (wz := [(a33, ce23 k34), (a10, ce10 a9), (a12, ce331 a44), (a14, ce3 z.1), (a15, ce366 a46), (a44, ce330 k49 a47 a71 a88 a105 a122 a139 a156), (a45, ce330 k50 a47 a71 a88 a105 a122 a139 a156), (a46, ce330 k51 a47 a71 a88 a105 a122 a139 a156), (a47, ce38 (z.2.1 0) a48 a47), (a71, ce77 (z.2.1 0) a72 a71), (a88, ce115 (z.2.1 0) a89 a88), (a105, ce165 (z.2.1 0) a106 a105), (a122, ce224 (z.2.1 0) a123 a122), (a139, ce287 (z.2.1 0) a140 a139), (a48, ce3 z.1), (a72, ce3 z.1), (a89, ce3 z.1), (a106, ce3 z.1), (a123, ce3 z.1), (a140, ce3 z.1), (a156, ce364 (z.2.1 0) a157 a156), (a157, ce3 z.1), (a27, ce3 z.1), (a29, ce366 a59), (a59, ce330 k62 (z.2.2.1 128) (z.2.2.1 129) (z.2.2.1 130) (z.2.2.1 131) (z.2.2.1 132) (z.2.2.1 133) (z.2.2.1 134)), (a1, ce16 a9 a10 a11), (a30, ce419 k31), (a9, ce7 a12 a13 a14 a15), (a11, ce417 a9 a16), (a13, ce331 a45), (a16, ce416 k17), (a18, ce21 a26 a27 a28 a29), (a26, ce331 a58), (a28, ce331 a181), (a58, ce330 k61 a60 a79 a96 a113 a130 a147 a164), (a181, ce330 k182 (z.2.2.1 128) (z.2.2.1 128) (z.2.2.1 128) (z.2.2.1 128) (z.2.2.1 128) (z.2.2.1 128) (z.2.2.1 128)), (a60, ce49), (a79, ce49), (a96, ce49), (a113, ce49), (a130, ce49), (a147, ce49), (a164, ce49)]) (tz := [(k34, .double), (k49, .object "java/lang/Object"), (k50, .object "java/lang/Object"), (k51, .object "java/lang/Object"), (k62, .object "java/lang/Object"), (k31, .long), (k17, .int), (k61, .object "java/lang/Object"), (k182, .object "java/lang/Object")]) hP hD hK [25, 26, 27, 28, 29, 30, 31, 32, 33, 34, 35, 36] [0, 1, 2, 3, 4, 7, 8] rfl hk277 hF273 hB277.1 ht277 hvm277 rfl rfl
  have hG : s.heap.size + 155 ≤ H277.size := va_gr (g := 154) (g1 := 1) hG (by rw [← ht277]; exact hB277.2)
  refine W.eq (g2 := F0 m 979 ls [.int 7]) (by rw [hw277]) ?_
  refine W.widen (k := 155) (n := 1512) (by decide) (by decide) ?_
  refine lv_istore (lv' := [(7, .int 7), (6, .int 0), (5, .int 65), (4, .ref a33), (3, .ref a30), (2, .ref a18), (1, .ref a1), (0, .ref b)]) hx hb dL_law_979 hl (by decide) rfl (fun ls hl => ?_)
  refine lv_goto (tgt := 1057) hx hb dL_law_981 (by decide) ?_
  refine lv_iinc (v := 70) (lv' := [(5, .int 70), (7, .int 7), (6, .int 0), (4, .ref a33), (3, .ref a30), (2, .ref a18), (1, .ref a1), (0, .ref b)]) hx hb dL_law_1057 hl (k := 2) rfl (by decide) (by decide) rfl (fun ls hl => ?_)
  refine lv_goto (tgt := 28) hx hb dL_law_1060 (by decide) ?_
  refine lv_iload hx hb dL_law_28 (lv_at hl 0 rfl) ?_
  refine lv_aload_n hx hb dL_law_30 rfl (lv_at hl 7 rfl) ?_
  refine va_slen hx hb hX9 hbl hbA hS dL_law_31 ?_
  refine W.eq (g2 := F0 m 32 ls [.int 2540, .int 70]) rfl ?_
  refine lv_iconst (v := 5) hx hb dL_law_32 (by decide) ?_
  refine lv_isub hx hb dL_law_33 ?_
  refine lv_topi (fun y279 ey279 => ?_)
  obtain rfl : y279 = 2535 := ey279.trans (by decide)
  refine lv_icmp_gt (tgt := 1063) hx hb dL_law_34 (by decide) (fun cz => absurd cz (by decide)) (fun _ => ?_)
  refine lv_aload_n hx hb dL_law_37 rfl (lv_at hl 7 rfl) ?_
  refine lv_iload hx hb dL_law_38 (lv_at hl 0 rfl) ?_
  refine va_sld hx hb hX9 hbl hbA hS (i := 70) (by unfold vp_in; decide) dL_law_40 ?_
  refine W.eq (g2 := F0 m 41 ls [.int 23]) (by rw [show xs (Int32.toNatClampNeg 70) = xs 70 from rfl, hZ 70 (by decide)]; rfl) ?_
  refine lv_bipush (v := 31) hx hb dL_law_41 (by decide) ?_
  refine lv_iand hx hb dL_law_43 ?_
  refine lv_topi (fun y280 ey280 => ?_)
  obtain rfl : y280 = 23 := ey280.trans (by decide)
  refine lv_tableIn (tgt := 984) hx hb dL_law_44 (by decide) (by decide) rfl (by decide) ?_
  refine lv_aload_n hx hb dL_law_984 rfl (lv_at hl 6 rfl) ?_
  have hM283 := k941_shown l hl9 dC dI z a1 a9 a11 a12 a13 a15 a16 a44 a45 a46 a47 a71 a88 a105 a122 a139 a156 a10 a14 a48 a72 a89 a106 a123 a140 a157 H277.size k17 k49 k50 k51
  obtain ⟨hF281, hC284⟩ := pc_M hM283 hP hD hK hS hX hT hA [25, 27, 28, 2, 29, 4, 30, 5, 6, 7, 8, 9, 10, 11, 12, 13, 20] [6, 1, 2, 3] rfl rfl rfl
  refine va_calli (va_runV (As := []) (rest := []) ⟨hx, hb, hml, hown, hts⟩ hM283 (cwV 0 hts (gV q_415 q_416 q_417 q_2 q_414) rfl rfl rfl hV_X6_shown ⟨Nat.le_of_ble_eq_true rfl, Nat.le_of_ble_eq_true rfl⟩) ⟨pc_blind, va_recv hK hP (ci := 6) (q := (RX6, TX6, 3)) (q0 := 25) rfl rfl, fun U hU hW => ⟨rfl, hC284 U hU hW⟩⟩ rfl rfl hl.1 rfl (lv_room (Nat.le_of_ble_eq_true rfl)) dL_law_985 ⟨(Nat.le_of_ble_eq_true rfl), (Nat.le_of_ble_eq_true rfl)⟩) hS (fun q9 _ h9 => hF281 q9 h9) hF281 (fun r286 u285 t285 H285 L285 ht285 hvm285 hw285 hB285 hz285 hk285 hS => ?_)
  obtain ⟨hP, hD, hK⟩ := pq_jn (wz := [(a33, ce23 k34), (a10, ce10 a9), (a14, ce3 z.1), (a48, ce3 z.1), (a72, ce3 z.1), (a89, ce3 z.1), (a106, ce3 z.1), (a123, ce3 z.1), (a140, ce3 z.1), (a157, ce3 z.1), (a27, ce3 z.1), (a29, ce366 a59), (a59, ce330 k62 (z.2.2.1 128) (z.2.2.1 129) (z.2.2.1 130) (z.2.2.1 131) (z.2.2.1 132) (z.2.2.1 133) (z.2.2.1 134)), (a30, ce419 k31), (a18, ce21 a26 a27 a28 a29), (a26, ce331 a58), (a28, ce331 a181), (a58, ce330 k61 a60 a79 a96 a113 a130 a147 a164), (a181, ce330 k182 (z.2.2.1 128) (z.2.2.1 128) (z.2.2.1 128) (z.2.2.1 128) (z.2.2.1 128) (z.2.2.1 128) (z.2.2.1 128)), (a60, ce49), (a79, ce49), (a96, ce49), (a113, ce49), (a130, ce49), (a147, ce49), (a164, ce49), (a1, ce16 a9 a10 a11), (a9, ce7 a12 a13 a14 a15), (a11, ce417 a9 a16), (a12, ce331 a44), (a13, ce331 a45), (a15, ce366 a46), (a16, ce416 k17), (a44, ce330 k49 a47 a71 a88 a105 a122 a139 a156), (a45, ce330 k50 a47 a71 a88 a105 a122 a139 a156), (a46, ce330 k51 a47 a71 a88 a105 a122 a139 a156), (a47, ce427 (z.2.1 0) a48 a47), (a71, ce428 (z.2.1 0) a72 a71), (a88, ce429 (z.2.1 0) a89 a88), (a105, ce430 (z.2.1 0) a106 a105), (a122, ce431 (z.2.1 0) a123 a122), (a139, ce432 (z.2.1 0) a140 a139), (a156, ce440 (z.2.1 0) a157 a156)]) (tz := [(k34, .double), (k62, .object "java/lang/Object"), (k31, .long), (k61, .object "java/lang/Object"), (k182, .object "java/lang/Object"), (k17, .int), (k49, .object "java/lang/Object"), (k50, .object "java/lang/Object"), (k51, .object "java/lang/Object")]) hP hD hK [25, 27, 28, 2, 29, 4, 30, 5, 6, 7, 8, 9, 10, 11, 12, 13, 20] [0, 4, 5, 7, 8] rfl hk285 hF281 hB285.1 ht285 hvm285 rfl rfl
  have hG : s.heap.size + 155 ≤ H285.size := Nat.le_trans hG hz285
  refine W.eq (g2 := F0 m 988 ls [.int 0]) (by rw [hw285]) ?_
  refine lv_pop hx hb dL_law_988 rfl ?_
  refine lv_aload_n hx hb dL_law_989 rfl (lv_at hl 5 rfl) ?_
  have hM289 := k986_shown l hl9 dC dI z a18 a26 a27 a28 a29 a58 a181 a59 a60 a79 a96 a113 a130 a147 a164 H285.size k61 k182 k62
  obtain ⟨hF287, hC290⟩ := pc_M hM289 hP hD hK hS hX hT hA [14, 15, 10, 16, 11, 17, 18, 12, 19, 20, 21, 22, 23, 24, 25] [3, 4, 1] rfl rfl rfl
  refine va_calli (va_runV (As := []) (rest := []) ⟨hx, hb, hml, hown, hts⟩ hM289 (cwV 0 hts (gV q_433 q_434 q_435 q_60 q_432) rfl rfl rfl hV_X9_shown ⟨Nat.le_of_ble_eq_true rfl, Nat.le_of_ble_eq_true rfl⟩) ⟨pc_blind, va_recv hK hP (ci := 8) (q := (RX9, TX9, 6)) (q0 := 14) rfl rfl, fun U hU hW => ⟨rfl, hC290 U hU hW⟩⟩ rfl rfl hl.1 rfl (lv_room (Nat.le_of_ble_eq_true rfl)) dL_law_990 ⟨(Nat.le_of_ble_eq_true rfl), (Nat.le_of_ble_eq_true rfl)⟩) hS (fun q9 _ h9 => hF287 q9 h9) hF287 (fun r292 u291 t291 H291 L291 ht291 hvm291 hw291 hB291 hz291 hk291 hS => ?_)
  have hP := pq_keep hP hD [14, 15, 10, 16, 11, 17, 18, 12, 19, 20, 21, 22, 23, 24, 25] rfl hk291 hB291.1 ht291
  have hG : s.heap.size + 2815 ≤ H291.size := va_gr (g := 155) (g1 := 2660) hG (by rw [← ht291]; exact hB291.2)
  refine W.eq (g2 := F0 m 993 ls [.int 0]) (by rw [hw291]) ?_
  refine W.widen (k := 2815) (n := 26264) (by decide) (by decide) ?_
  refine lv_pop hx hb dL_law_993 rfl ?_
  refine lv_goto (tgt := 1057) hx hb dL_law_994 (by decide) ?_
  refine lv_iinc (v := 75) (lv' := [(5, .int 75), (7, .int 7), (6, .int 0), (4, .ref a33), (3, .ref a30), (2, .ref a18), (1, .ref a1), (0, .ref b)]) hx hb dL_law_1057 hl (k := 0) rfl (by decide) (by decide) rfl (fun ls hl => ?_)
  refine lv_goto (tgt := 28) hx hb dL_law_1060 (by decide) ?_
  refine lv_iload hx hb dL_law_28 (lv_at hl 0 rfl) ?_
  refine lv_aload_n hx hb dL_law_30 rfl (lv_at hl 7 rfl) ?_
  refine va_slen hx hb hX9 hbl hbA hS dL_law_31 ?_
  refine W.eq (g2 := F0 m 32 ls [.int 2540, .int 75]) rfl ?_
  refine lv_iconst (v := 5) hx hb dL_law_32 (by decide) ?_
  refine lv_isub hx hb dL_law_33 ?_
  refine lv_topi (fun y293 ey293 => ?_)
  obtain rfl : y293 = 2535 := ey293.trans (by decide)
  refine lv_icmp_gt (tgt := 1063) hx hb dL_law_34 (by decide) (fun cz => absurd cz (by decide)) (fun _ => ?_)
  refine lv_aload_n hx hb dL_law_37 rfl (lv_at hl 7 rfl) ?_
  refine lv_iload hx hb dL_law_38 (lv_at hl 0 rfl) ?_
  refine va_sld hx hb hX9 hbl hbA hS (i := 75) (by unfold vp_in; decide) dL_law_40 ?_
  refine W.eq (g2 := F0 m 41 ls [.int 23]) (by rw [show xs (Int32.toNatClampNeg 75) = xs 75 from rfl, hZ 75 (by decide)]; rfl) ?_
  refine lv_bipush (v := 31) hx hb dL_law_41 (by decide) ?_
  refine lv_iand hx hb dL_law_43 ?_
  refine lv_topi (fun y294 ey294 => ?_)
  obtain rfl : y294 = 23 := ey294.trans (by decide)
  refine lv_tableIn (tgt := 984) hx hb dL_law_44 (by decide) (by decide) rfl (by decide) ?_
  refine lv_aload_n hx hb dL_law_984 rfl (lv_at hl 6 rfl) ?_
  have hM297 := k992_shown l hl9 dC dI z a1 a9 a11 a12 a13 a15 a16 a44 a45 a46 a47 a71 a88 a105 a122 a139 a156 a10 a14 a48 a72 a89 a106 a123 a140 a157 H291.size k17 k49 k50 k51
  obtain ⟨hF295, hC298⟩ := pc_M hM297 hP hD hK hS hX hT hA [26, 27, 28, 29, 30, 31, 32, 33, 34, 35, 36, 37, 38, 39, 40, 41, 42] [5, 6, 7, 8] rfl rfl rfl
  refine va_calli (va_runV (As := []) (rest := []) ⟨hx, hb, hml, hown, hts⟩ hM297 (cwV 0 hts (gV q_415 q_416 q_417 q_2 q_414) rfl rfl rfl hV_X6_shown ⟨Nat.le_of_ble_eq_true rfl, Nat.le_of_ble_eq_true rfl⟩) ⟨pc_blind, va_recv hK hP (ci := 6) (q := (RX6, TX6, 3)) (q0 := 26) rfl rfl, fun U hU hW => ⟨rfl, hC298 U hU hW⟩⟩ rfl rfl hl.1 rfl (lv_room (Nat.le_of_ble_eq_true rfl)) dL_law_985 ⟨(Nat.le_of_ble_eq_true rfl), (Nat.le_of_ble_eq_true rfl)⟩) hS (fun q9 _ h9 => hF295 q9 h9) hF295 (fun r300 u299 t299 H299 L299 ht299 hvm299 hw299 hB299 hz299 hk299 hS => ?_)
  have hP := pq_keep hP hD [26, 27, 28, 29, 30, 31, 32, 33, 34, 35, 36, 37, 38, 39, 40, 41, 42] rfl hk299 hB299.1 ht299
  have hG : s.heap.size + 2815 ≤ H299.size := Nat.le_trans hG hz299
  refine W.eq (g2 := F0 m 988 ls [.int 0]) (by rw [hw299]) ?_
  refine lv_pop hx hb dL_law_988 rfl ?_
  refine lv_aload_n hx hb dL_law_989 rfl (lv_at hl 5 rfl) ?_
  have hM303 := k986_shown l hl9 dC dI z a18 a26 a27 a28 a29 a58 a181 a59 a60 a79 a96 a113 a130 a147 a164 H299.size k61 k182 k62
  obtain ⟨hF301, hC304⟩ := pc_M hM303 hP hD hK hS hX hT hA [14, 15, 10, 16, 11, 17, 18, 12, 19, 20, 21, 22, 23, 24, 25] [3, 4, 1] rfl rfl rfl
  refine va_calli (va_runV (As := []) (rest := []) ⟨hx, hb, hml, hown, hts⟩ hM303 (cwV 0 hts (gV q_433 q_434 q_435 q_60 q_432) rfl rfl rfl hV_X9_shown ⟨Nat.le_of_ble_eq_true rfl, Nat.le_of_ble_eq_true rfl⟩) ⟨pc_blind, va_recv hK hP (ci := 8) (q := (RX9, TX9, 6)) (q0 := 14) rfl rfl, fun U hU hW => ⟨rfl, hC304 U hU hW⟩⟩ rfl rfl hl.1 rfl (lv_room (Nat.le_of_ble_eq_true rfl)) dL_law_990 ⟨(Nat.le_of_ble_eq_true rfl), (Nat.le_of_ble_eq_true rfl)⟩) hS (fun q9 _ h9 => hF301 q9 h9) hF301 (fun r306 u305 t305 H305 L305 ht305 hvm305 hw305 hB305 hz305 hk305 hS => ?_)
  have hP := pq_keep hP hD [14, 15, 10, 16, 11, 17, 18, 12, 19, 20, 21, 22, 23, 24, 25] rfl hk305 hB305.1 ht305
  have hG : s.heap.size + 5475 ≤ H305.size := va_gr (g := 2815) (g1 := 2660) hG (by rw [← ht305]; exact hB305.2)
  refine W.eq (g2 := F0 m 993 ls [.int 0]) (by rw [hw305]) ?_
  refine W.widen (k := 5475) (n := 51016) (by decide) (by decide) ?_
  refine lv_pop hx hb dL_law_993 rfl ?_
  refine lv_goto (tgt := 1057) hx hb dL_law_994 (by decide) ?_
  refine lv_iinc (v := 80) (lv' := [(5, .int 80), (7, .int 7), (6, .int 0), (4, .ref a33), (3, .ref a30), (2, .ref a18), (1, .ref a1), (0, .ref b)]) hx hb dL_law_1057 hl (k := 0) rfl (by decide) (by decide) rfl (fun ls hl => ?_)
  refine lv_goto (tgt := 28) hx hb dL_law_1060 (by decide) ?_
  exact zq_loop hr hlocks hl9 hx hb hml hown hts hX9 hbl hbA hA hX hT hZ hS hP hD hK hl hG
