set_option maxHeartbeats 16000000 in
set_option maxRecDepth 100000 in
/-- the law on this script, from its entry -/
theorem zq_start {p : Program} {e : Env} {s : State} {m : MethodId} {below : List Frame} {meth : Method} {c : Code} (l : Launch) (hflags : l.flags = flags0) {b : Nat} {xs : Nat → Int32} (hZ : ∀ n : Nat, n < 2540 → xs n = zf n) (C0 : lw_At p s m meth c b 2540 xs) : W p l e room9 s m #[Value.ref b] below meth c s.heap [] 0 0 (zq_Z below s) (entryFrame m ([Value.ref b] : List Value).toArray 9) := by
  obtain ⟨hx, hb, hr, hml, hown, hts0, hX9, hbl, hlocks, hgv⟩ := id C0
  have hl9 : l.stackTraces = false := by unfold Launch.stackTraces; rw [hflags]; decide +kernel
  have hown : s.vm.findClass RL = some m.cls := hown
  have hts : ∀ w ∈ wsL_law, w.before #[Value.ref b] s = true := fun w h => hts0 w (wsL_law_in w h)
  obtain ⟨z, hX, hT⟩ := x_env (A := (fun q : Nat => s.heap.size ≤ q)) hts0 hgv (fun a ha => Nat.not_le.mpr ha)
  obtain ⟨kc0, ki0, hk0⟩ := u_known (C := RJx4a65c) (T := TJx4a65c) (N := 3) (n := 3) hts in_Jx4a65c (hts _ q_11)
  obtain ⟨kc1, ki1, hk1⟩ := u_known (C := RJx35411) (T := TJx35411) (N := 4) (n := 4) hts in_Jx35411 (hts _ q_245)
  obtain ⟨kc2, ki2, hk2⟩ := u_known (C := RX0) (T := TX0) (N := 4) (n := 4) hts in_X0 (hts _ q_7)
  obtain ⟨kc3, ki3, hk3⟩ := u_known (C := RX2) (T := TX2) (N := 19) (n := 19) hts in_X2 (hts _ q_90)
  obtain ⟨kc4, ki4, hk4⟩ := u_known (C := RX4) (T := TX4) (N := 3) (n := 3) hts in_X4 (hts _ q_45)
  obtain ⟨kc5, ki5, hk5⟩ := u_known (C := RX5) (T := TX5) (N := 2) (n := 2) hts in_X5 (hts _ q_36)
  obtain ⟨kc6, ki6, hk6⟩ := u_known (C := RX6) (T := TX6) (N := 3) (n := 3) hts in_X6 (hts _ q_1)
  obtain ⟨kc7, ki7, hk7⟩ := u_known (C := RX8) (T := TX8) (N := 6) (n := 6) hts in_X8 (hts _ q_274)
  obtain ⟨kc8, ki8, hk8⟩ := u_known (C := RX9) (T := TX9) (N := 6) (n := 6) hts in_X9 (hts _ q_59)
  obtain ⟨dC, dI, hKc⟩ : ∃ (dC : Nat → ClassId) (dI : Nat → Nat → Nat), ∀ (k : Nat) (q : vw_C), xCl[k]? = some q → u_Kn s q.1 q.2.1 q.2.2 (dC k) (dI k) := by
    refine ⟨fun k => match k with | 0 => kc0 | 1 => kc1 | 2 => kc2 | 3 => kc3 | 4 => kc4 | 5 => kc5 | 6 => kc6 | 7 => kc7 | _ => kc8, fun k => match k with | 0 => ki0 | 1 => ki1 | 2 => ki2 | 3 => ki3 | 4 => ki4 | 5 => ki5 | 6 => ki6 | 7 => ki7 | _ => ki8, ?_⟩
    intro k q hq
    match k, hq with
    | 0, hq => cases hq; exact hk0
    | 1, hq => cases hq; exact hk1
    | 2, hq => cases hq; exact hk2
    | 3, hq => cases hq; exact hk3
    | 4, hq => cases hq; exact hk4
    | 5, hq => cases hq; exact hk5
    | 6, hq => cases hq; exact hk6
    | 7, hq => cases hq; exact hk7
    | 8, hq => cases hq; exact hk8
    | k + 9, hq => simp [xCl] at hq
  obtain ⟨A, hAe⟩ : ∃ A : Nat → Prop, A = (fun q : Nat => s.heap.size ≤ q) := ⟨_, rfl⟩
  rw [← hAe] at hX
  have hA : ∀ q : Nat, s.heap.size ≤ q → A q := fun q h => by rw [hAe]; exact h
  have hA9 : ∀ q : Nat, A q → s.heap.size ≤ q := fun q h => by rw [hAe] at h; exact h
  have hbA : ¬ A b := fun h => Nat.not_le.mpr hbl (hA9 b h)
  have hS : va_S A s.heap s.heap [] := va_S.rf
  have hG : s.heap.size + 0 ≤ s.heap.size := Nat.le_refl _
  have hK : va_K (dC, dI) xCl [] s := ⟨hKc, fun k q h => by simp at h⟩
  have hP : va_P (dC, dI) xCl [] s.heap := fun k q h => by simp at h
  have hD : va_D A [] := ⟨fun i j p q h => by simp at h, fun k q h => by simp at h⟩
  have hl := lv_entry ([.ref b]) (n := 9) (Nat.le_of_ble_eq_true rfl)
  rw [lg_entry_eq]
  generalize (lg_sl ([.ref b]) ++ List.replicate (9 - (lg_sl ([.ref b])).length) Slot.unset).toArray = ls at hl ⊢
  have hl : lv_has ls 9 [(0, .ref b)] := hl
  refine xa_new (ci := 6) (fs := [.null, .null, .null]) (C := RX6) (T := TX6) (N := 3) hx hb hts in_X6 tyX6 tyX6_ok hown (hts _ q_0) (hts _ q_1) (hts _ q_2) hK hP hD hS hA rfl nf_X6 (Nat.le_of_ble_eq_true rfl) (Nat.le_of_ble_eq_true rfl) dL_law_0 (fun a1 H2 hg8 hP hD hS => ?_)
  have hG : s.heap.size + 1 ≤ H2.size := by rw [hg8]; exact Nat.succ_le_succ hG
  have hP : va_P (dC, dI) xCl [(a1, ce0)] H2 := hP
  have hD := vd_as hP hD rfl
  refine W.widen (k := 1) (n := 3) (by decide) (by decide) ?_
  refine lv_dup hx hb dL_law_3 rfl ?_
  have hM5 := k7_init l hl9 dC dI z a1 H2.size
  obtain ⟨hF3, hC6⟩ := pc_M hM5 hP hD hK hS hX hT hA [0] [] rfl rfl rfl
  refine va_callv (va_runI (As := []) (rest := [.ref a1]) ⟨hx, hb, hml, hown, hts⟩ hM5 (cwI 0 hts (gIL q_55) rfl rfl rfl (hts _ q_2) (hts _ q_56) (hts _ q_57) rfl hS_X6_init ⟨Nat.le_of_ble_eq_true rfl, Nat.le_of_ble_eq_true rfl⟩) ⟨pc_blind, fun U hU hW => ⟨rfl, hC6 U hU hW⟩⟩ rfl rfl hl.1 rfl (lv_room (Nat.le_of_ble_eq_true rfl)) dL_law_4 ⟨(Nat.le_of_ble_eq_true rfl), (Nat.le_of_ble_eq_true rfl)⟩) hS (fun q9 _ h9 => hF3 q9 h9) hF3 (fun u7 t7 H7 L7 ht7 hvm7 hw7 hB7 hz7 hk7 hS => ?_)
  obtain ⟨a9, a10, a11, a12, a13, a14, a15, a16, k17, hB7⟩ := hB7
  obtain ⟨hP, hD, hK⟩ := pq_jn (wz := [(a1, ce16 a9 a10 a11), (a9, ce7 a12 a13 a14 a15), (a10, ce10 a9), (a11, ce15 a9 a16), (a12, ce3 z.1), (a13, ce3 z.1), (a14, ce3 z.1), (a15, ce3 z.1), (a16, ce13 k17)]) (tz := [(k17, .int)]) hP hD hK [0] [] rfl hk7 hF3 hB7.1 ht7 hvm7 rfl rfl
  have hG : s.heap.size + 9 ≤ H7.size := va_gr (g := 1) (g1 := 8) hG (by rw [← ht7]; exact hB7.2)
  refine W.widen (k := 9) (n := 32) (by decide) (by decide) ?_
  refine lv_astore_n (lv' := [(1, .ref a1), (0, .ref b)]) hx hb dL_law_7 rfl hl (by decide) rfl (fun ls hl => ?_)
  refine xa_new (ci := 8) (fs := [.int 0, .null, .null, .null, .null, .int 0]) (C := RX9) (T := TX9) (N := 6) hx hb hts in_X9 tyX9 tyX9_ok hown (hts _ q_58) (hts _ q_59) (hts _ q_60) hK hP hD hS hA rfl nf_X9 (Nat.le_of_ble_eq_true rfl) (Nat.le_of_ble_eq_true rfl) dL_law_8 (fun a18 H19 hg8 hP hD hS => ?_)
  have hG : s.heap.size + 10 ≤ H19.size := by rw [hg8]; exact Nat.succ_le_succ hG
  have hP : va_P (dC, dI) xCl [(a1, ce16 a9 a10 a11), (a9, ce7 a12 a13 a14 a15), (a10, ce10 a9), (a11, ce15 a9 a16), (a12, ce3 z.1), (a13, ce3 z.1), (a14, ce3 z.1), (a15, ce3 z.1), (a16, ce13 k17), (a18, ce17)] H19 := hP
  have hD := vd_as hP hD rfl
  refine W.widen (k := 10) (n := 38) (by decide) (by decide) ?_
  refine lv_dup hx hb dL_law_11 rfl ?_
  have hM22 := k8_init l hl9 dC dI z a18 H19.size
  obtain ⟨hF20, hC23⟩ := pc_M hM22 hP hD hK hS hX hT hA [9] [] rfl rfl rfl
  refine va_callv (va_runI (As := []) (rest := [.ref a18]) ⟨hx, hb, hml, hown, hts⟩ hM22 (cwI 0 hts (gIL q_68) rfl rfl rfl (hts _ q_60) (hts _ q_69) (hts _ q_70) rfl hS_X9_init ⟨Nat.le_of_ble_eq_true rfl, Nat.le_of_ble_eq_true rfl⟩) ⟨pc_blind, fun U hU hW => ⟨rfl, hC23 U hU hW⟩⟩ rfl rfl hl.1 rfl (lv_room (Nat.le_of_ble_eq_true rfl)) dL_law_12 ⟨(Nat.le_of_ble_eq_true rfl), (Nat.le_of_ble_eq_true rfl)⟩) hS (fun q9 _ h9 => hF20 q9 h9) hF20 (fun u24 t24 H24 L24 ht24 hvm24 hw24 hB24 hz24 hk24 hS => ?_)
  obtain ⟨a26, a27, a28, a29, hB24⟩ := hB24
  obtain ⟨hP, hD, hK⟩ := pq_jn (wz := [(a1, ce16 a9 a10 a11), (a9, ce7 a12 a13 a14 a15), (a10, ce10 a9), (a11, ce15 a9 a16), (a12, ce3 z.1), (a13, ce3 z.1), (a14, ce3 z.1), (a15, ce3 z.1), (a16, ce13 k17), (a18, ce21 a26 a27 a28 a29), (a26, ce3 z.1), (a27, ce3 z.1), (a28, ce3 z.1), (a29, ce3 z.1)]) (tz := [(k17, .int)]) hP hD hK [9] [0] rfl hk24 hF20 hB24.1 ht24 hvm24 rfl rfl
  have hG : s.heap.size + 14 ≤ H24.size := va_gr (g := 10) (g1 := 4) hG (by rw [← ht24]; exact hB24.2)
  refine W.widen (k := 14) (n := 50) (by decide) (by decide) ?_
  refine lv_astore_n (lv' := [(2, .ref a18), (1, .ref a1), (0, .ref b)]) hx hb dL_law_15 rfl hl (by decide) rfl (fun ls hl => ?_)
  refine lv_iconst (v := 1) hx hb dL_law_16 (by decide) ?_
  refine xa_newa (atype := .long) hx hb (hts _ q_71) rfl hK hP hD hS hA (n := 1) (N' := 1) (a0 := (1, .inr (.inl (fun _ => 0)))) (fun _ => rfl) (by decide) (by decide) (Nat.le_of_ble_eq_true rfl) (Nat.le_of_ble_eq_true rfl) (Nat.le_of_ble_eq_true rfl) dL_law_17 (fun a30 k31 H32 hg8 hK hP hD hS => ?_)
  have hG : s.heap.size + 15 ≤ H32.size := by rw [hg8]; exact Nat.succ_le_succ hG
  have hK : va_K (dC, dI) xCl [(k17, .int), (k31, .long)] s := hK
  have hP : va_P (dC, dI) xCl [(a1, ce16 a9 a10 a11), (a9, ce7 a12 a13 a14 a15), (a10, ce10 a9), (a11, ce15 a9 a16), (a12, ce3 z.1), (a13, ce3 z.1), (a14, ce3 z.1), (a15, ce3 z.1), (a16, ce13 k17), (a18, ce21 a26 a27 a28 a29), (a26, ce3 z.1), (a27, ce3 z.1), (a28, ce3 z.1), (a29, ce3 z.1), (a30, ce22 k31)] H32 := hP
  have hD := vd_as hP hD rfl
  refine W.widen (k := 15) (n := 51) (by decide) (by decide) ?_
  refine lv_astore_n (lv' := [(3, .ref a30), (2, .ref a18), (1, .ref a1), (0, .ref b)]) hx hb dL_law_19 rfl hl (by decide) rfl (fun ls hl => ?_)
  refine lv_iconst (v := 1) hx hb dL_law_20 (by decide) ?_
  refine xa_newa (atype := .double) hx hb (hts _ q_72) rfl hK hP hD hS hA (n := 1) (N' := 1) (a0 := (1, .inr (.inr (.inr (.inl (fun _ => 0)))))) (fun _ => rfl) (by decide) (by decide) (Nat.le_of_ble_eq_true rfl) (Nat.le_of_ble_eq_true rfl) (Nat.le_of_ble_eq_true rfl) dL_law_21 (fun a33 k34 H35 hg8 hK hP hD hS => ?_)
  have hG : s.heap.size + 16 ≤ H35.size := by rw [hg8]; exact Nat.succ_le_succ hG
  have hK : va_K (dC, dI) xCl [(k17, .int), (k31, .long), (k34, .double)] s := hK
  have hP : va_P (dC, dI) xCl [(a1, ce16 a9 a10 a11), (a9, ce7 a12 a13 a14 a15), (a10, ce10 a9), (a11, ce15 a9 a16), (a12, ce3 z.1), (a13, ce3 z.1), (a14, ce3 z.1), (a15, ce3 z.1), (a16, ce13 k17), (a18, ce21 a26 a27 a28 a29), (a26, ce3 z.1), (a27, ce3 z.1), (a28, ce3 z.1), (a29, ce3 z.1), (a30, ce22 k31), (a33, ce23 k34)] H35 := hP
  have hD := vd_as hP hD rfl
  refine W.widen (k := 16) (n := 52) (by decide) (by decide) ?_
  refine lv_astore (lv' := [(4, .ref a33), (3, .ref a30), (2, .ref a18), (1, .ref a1), (0, .ref b)]) hx hb dL_law_23 hl (by decide) rfl (fun ls hl => ?_)
  refine lv_iconst (v := 0) hx hb dL_law_25 (by decide) ?_
  refine lv_istore (lv' := [(5, .int 0), (4, .ref a33), (3, .ref a30), (2, .ref a18), (1, .ref a1), (0, .ref b)]) hx hb dL_law_26 hl (by decide) rfl (fun ls hl => ?_)
  refine lv_iload hx hb dL_law_28 (lv_at hl 0 rfl) ?_
  refine lv_aload_n hx hb dL_law_30 rfl (lv_at hl 5 rfl) ?_
  refine va_slen hx hb hX9 hbl hbA hS dL_law_31 ?_
  refine W.eq (g2 := F0 m 32 ls [.int 2540, .int 0]) rfl ?_
  refine lv_iconst (v := 5) hx hb dL_law_32 (by decide) ?_
  refine lv_isub hx hb dL_law_33 ?_
  refine lv_topi (fun y36 ey36 => ?_)
  obtain rfl : y36 = 2535 := ey36.trans (by decide)
  refine lv_icmp_gt (tgt := 1035) hx hb dL_law_34 (by decide) (fun cz => absurd cz (by decide)) (fun _ => ?_)
  refine lv_aload_n hx hb dL_law_37 rfl (lv_at hl 5 rfl) ?_
  refine lv_iload hx hb dL_law_38 (lv_at hl 0 rfl) ?_
  refine va_sld hx hb hX9 hbl hbA hS (i := 0) (by unfold vp_in; decide) dL_law_40 ?_
  refine W.eq (g2 := F0 m 41 ls [.int 0]) (by rw [show xs (Int32.toNatClampNeg 0) = xs 0 from rfl, hZ 0 (by decide)]; rfl) ?_
  refine lv_bipush (v := 31) hx hb dL_law_41 (by decide) ?_
  refine lv_iand hx hb dL_law_43 ?_
  refine lv_topi (fun y37 ey37 => ?_)
  obtain rfl : y37 = 0 := ey37.trans (by decide)
  refine lv_tableIn (tgt := 172) hx hb dL_law_44 (by decide) (by decide) rfl (by decide) ?_
  refine lv_aload_n hx hb dL_law_172 rfl (lv_at hl 4 rfl) ?_
  refine lv_aload_n hx hb dL_law_173 rfl (lv_at hl 2 rfl) ?_
  have hM40 := k47_addInput l hl9 dC dI z a1 a30 a9 a10 a12 a13 a14 a15 a11 H35.size k31
  obtain ⟨hF38, hC41⟩ := pc_M hM40 hP hD hK hS hX hT hA [0, 14, 1, 2, 4, 5, 6, 7] [1] rfl rfl rfl
  refine va_calli (vx_runSW (As := [.ref a1, .ref a30]) (rest := []) ⟨hx, hb, hml, hown, hts⟩ hM40 (vx_cwSW 2 hts (gS q_240 q_241 q_242 q_239) rfl rfl rfl hS_L_addInput ⟨Nat.le_of_ble_eq_true rfl, Nat.le_of_ble_eq_true rfl⟩) ⟨pc_blind, fun U hU hW => ⟨rfl, hC41 U hU hW⟩⟩ rfl rfl hl.1 rfl (lv_room (Nat.le_of_ble_eq_true rfl)) dL_law_174 ⟨(Nat.le_of_ble_eq_true rfl), (Nat.le_of_ble_eq_true rfl)⟩) hS (fun q9 _ h9 => hF38 q9 h9) hF38 (fun r43 u42 t42 H42 L42 ht42 hvm42 hw42 hB42 hz42 hk42 hS => ?_)
  obtain ⟨a44, a45, a46, a47, a48, k49, k50, k51, hB42⟩ := hB42
  obtain ⟨hP, hD, hK⟩ := pq_jn (wz := [(a11, ce15 a9 a16), (a16, ce13 k17), (a18, ce21 a26 a27 a28 a29), (a26, ce3 z.1), (a27, ce3 z.1), (a28, ce3 z.1), (a29, ce3 z.1), (a33, ce23 k34), (a1, ce16 a9 a10 a11), (a30, ce41 k31), (a9, ce7 a12 a13 a14 a15), (a10, ce10 a9), (a12, ce36 a44), (a13, ce36 a45), (a14, ce3 z.1), (a15, ce40 a46), (a44, ce35 k49 a47), (a45, ce35 k50 a47), (a46, ce35 k51 a47), (a47, ce38 (z.2.1 0) a48 a47), (a48, ce3 z.1)]) (tz := [(k17, .int), (k34, .double), (k31, .long), (k49, .object "java/lang/Object"), (k50, .object "java/lang/Object"), (k51, .object "java/lang/Object")]) hP hD hK [0, 14, 1, 2, 4, 5, 6, 7] [0, 2] rfl hk42 hF38 hB42.1 ht42 hvm42 rfl rfl
  have hG : s.heap.size + 21 ≤ H42.size := va_gr (g := 16) (g1 := 5) hG (by rw [← ht42]; exact hB42.2)
  refine W.eq (g2 := F0 m 177 ls [.int 0]) (by rw [hw42]) ?_
  refine W.widen (k := 21) (n := 104) (by decide) (by decide) ?_
  refine lv_istore (lv' := [(6, .int 0), (5, .int 0), (4, .ref a33), (3, .ref a30), (2, .ref a18), (1, .ref a1), (0, .ref b)]) hx hb dL_law_177 hl (by decide) rfl (fun ls hl => ?_)
  refine lv_aload_n hx hb dL_law_179 rfl (lv_at hl 4 rfl) ?_
  have hM54 := k79_addInput l hl9 dC dI z a18 a26 a27 a29 a28 H42.size
  obtain ⟨hF52, hC55⟩ := pc_M hM54 hP hD hK hS hX hT hA [2, 3, 4, 6] [] rfl rfl rfl
  refine va_calli (va_runV (As := []) (rest := []) ⟨hx, hb, hml, hown, hts⟩ hM54 (cwV 0 hts (gV q_340 q_341 q_342 q_60 q_339) rfl rfl rfl hV_X9_addInput ⟨Nat.le_of_ble_eq_true rfl, Nat.le_of_ble_eq_true rfl⟩) ⟨pc_blind, va_recv hK hP (ci := 8) (q := (RX9, TX9, 6)) (q0 := 2) rfl rfl, fun U hU hW => ⟨rfl, hC55 U hU hW⟩⟩ rfl rfl hl.1 rfl (lv_room (Nat.le_of_ble_eq_true rfl)) dL_law_180 ⟨(Nat.le_of_ble_eq_true rfl), (Nat.le_of_ble_eq_true rfl)⟩) hS (fun q9 _ h9 => hF52 q9 h9) hF52 (fun r57 u56 t56 H56 L56 ht56 hvm56 hw56 hB56 hz56 hk56 hS => ?_)
  obtain ⟨a58, a59, a60, k61, k62, hB56⟩ := hB56
  obtain ⟨hP, hD, hK⟩ := pq_jn (wz := [(a11, ce15 a9 a16), (a16, ce13 k17), (a28, ce3 z.1), (a33, ce23 k34), (a1, ce16 a9 a10 a11), (a30, ce41 k31), (a9, ce7 a12 a13 a14 a15), (a10, ce10 a9), (a12, ce36 a44), (a13, ce36 a45), (a14, ce3 z.1), (a15, ce40 a46), (a44, ce35 k49 a47), (a45, ce35 k50 a47), (a46, ce35 k51 a47), (a47, ce38 (z.2.1 0) a48 a47), (a48, ce3 z.1), (a18, ce21 a26 a27 a28 a29), (a26, ce36 a58), (a27, ce3 z.1), (a29, ce40 a59), (a58, ce35 k61 a60), (a59, ce35 k62 (z.2.2.1 128)), (a60, ce49)]) (tz := [(k17, .int), (k34, .double), (k31, .long), (k49, .object "java/lang/Object"), (k50, .object "java/lang/Object"), (k51, .object "java/lang/Object"), (k61, .object "java/lang/Object"), (k62, .object "java/lang/Object")]) hP hD hK [2, 3, 4, 6] [0, 1, 2, 3, 4, 5] rfl hk56 hF52 hB56.1 ht56 hvm56 rfl rfl
  have hG : s.heap.size + 33 ≤ H56.size := va_gr (g := 21) (g1 := 12) hG (by rw [← ht56]; exact hB56.2)
  refine W.eq (g2 := F0 m 183 ls [.int 0]) (by rw [hw56]) ?_
  refine W.widen (k := 33) (n := 274) (by decide) (by decide) ?_
  refine lv_istore (lv' := [(7, .int 0), (6, .int 0), (5, .int 0), (4, .ref a33), (3, .ref a30), (2, .ref a18), (1, .ref a1), (0, .ref b)]) hx hb dL_law_183 hl (by decide) rfl (fun ls hl => ?_)
  refine lv_goto (tgt := 1029) hx hb dL_law_185 (by decide) ?_
  refine lv_iinc (v := 5) (lv' := [(5, .int 5), (7, .int 0), (6, .int 0), (4, .ref a33), (3, .ref a30), (2, .ref a18), (1, .ref a1), (0, .ref b)]) hx hb dL_law_1029 hl (k := 2) rfl (by decide) (by decide) rfl (fun ls hl => ?_)
  refine lv_goto (tgt := 28) hx hb dL_law_1032 (by decide) ?_
  refine lv_iload hx hb dL_law_28 (lv_at hl 0 rfl) ?_
  refine lv_aload_n hx hb dL_law_30 rfl (lv_at hl 7 rfl) ?_
  refine va_slen hx hb hX9 hbl hbA hS dL_law_31 ?_
  refine W.eq (g2 := F0 m 32 ls [.int 2540, .int 5]) rfl ?_
  refine lv_iconst (v := 5) hx hb dL_law_32 (by decide) ?_
  refine lv_isub hx hb dL_law_33 ?_
  refine lv_topi (fun y63 ey63 => ?_)
  obtain rfl : y63 = 2535 := ey63.trans (by decide)
  refine lv_icmp_gt (tgt := 1035) hx hb dL_law_34 (by decide) (fun cz => absurd cz (by decide)) (fun _ => ?_)
  refine lv_aload_n hx hb dL_law_37 rfl (lv_at hl 7 rfl) ?_
  refine lv_iload hx hb dL_law_38 (lv_at hl 0 rfl) ?_
  refine va_sld hx hb hX9 hbl hbA hS (i := 5) (by unfold vp_in; decide) dL_law_40 ?_
  refine W.eq (g2 := F0 m 41 ls [.int 0]) (by rw [show xs (Int32.toNatClampNeg 5) = xs 5 from rfl, hZ 5 (by decide)]; rfl) ?_
  refine lv_bipush (v := 31) hx hb dL_law_41 (by decide) ?_
  refine lv_iand hx hb dL_law_43 ?_
  refine lv_topi (fun y64 ey64 => ?_)
  obtain rfl : y64 = 0 := ey64.trans (by decide)
  refine lv_tableIn (tgt := 172) hx hb dL_law_44 (by decide) (by decide) rfl (by decide) ?_
  refine lv_aload_n hx hb dL_law_172 rfl (lv_at hl 6 rfl) ?_
  refine lv_aload_n hx hb dL_law_173 rfl (lv_at hl 4 rfl) ?_
  have hM67 := k120_addInput l hl9 dC dI z a1 a30 a9 a10 a12 a13 a14 a15 a44 a45 a46 a47 a48 a11 H56.size k31 k49 k50 k51
  obtain ⟨hF65, hC68⟩ := pc_M hM67 hP hD hK hS hX hT hA [4, 5, 6, 7, 8, 9, 10, 11, 12, 13, 14, 15, 16] [2, 3, 4, 5] rfl rfl rfl
  refine va_calli (vx_runSW (As := [.ref a1, .ref a30]) (rest := []) ⟨hx, hb, hml, hown, hts⟩ hM67 (vx_cwSW 2 hts (gS q_240 q_241 q_242 q_239) rfl rfl rfl hS_L_addInput ⟨Nat.le_of_ble_eq_true rfl, Nat.le_of_ble_eq_true rfl⟩) ⟨pc_blind, fun U hU hW => ⟨rfl, hC68 U hU hW⟩⟩ rfl rfl hl.1 rfl (lv_room (Nat.le_of_ble_eq_true rfl)) dL_law_174 ⟨(Nat.le_of_ble_eq_true rfl), (Nat.le_of_ble_eq_true rfl)⟩) hS (fun q9 _ h9 => hF65 q9 h9) hF65 (fun r70 u69 t69 H69 L69 ht69 hvm69 hw69 hB69 hz69 hk69 hS => ?_)
  obtain ⟨a71, a72, hB69⟩ := hB69
  obtain ⟨hP, hD, hK⟩ := pq_jn (wz := [(a11, ce15 a9 a16), (a16, ce13 k17), (a28, ce3 z.1), (a33, ce23 k34), (a18, ce21 a26 a27 a28 a29), (a26, ce36 a58), (a27, ce3 z.1), (a29, ce40 a59), (a58, ce35 k61 a60), (a59, ce35 k62 (z.2.2.1 128)), (a60, ce49), (a1, ce16 a9 a10 a11), (a30, ce81 k31), (a9, ce7 a12 a13 a14 a15), (a10, ce10 a9), (a12, ce69 a44), (a13, ce69 a45), (a14, ce3 z.1), (a15, ce79 a46), (a44, ce68 k49 a47 a71), (a45, ce68 k50 a47 a71), (a46, ce68 k51 a47 a71), (a47, ce38 (z.2.1 0) a48 a47), (a48, ce3 z.1), (a71, ce77 (z.2.1 0) a72 a71), (a72, ce3 z.1)]) (tz := [(k17, .int), (k34, .double), (k61, .object "java/lang/Object"), (k62, .object "java/lang/Object"), (k31, .long), (k49, .object "java/lang/Object"), (k50, .object "java/lang/Object"), (k51, .object "java/lang/Object")]) hP hD hK [4, 5, 6, 7, 8, 9, 10, 11, 12, 13, 14, 15, 16] [0, 1, 6, 7] rfl hk69 hF65 hB69.1 ht69 hvm69 rfl rfl
  have hG : s.heap.size + 35 ≤ H69.size := va_gr (g := 33) (g1 := 2) hG (by rw [← ht69]; exact hB69.2)
  refine W.eq (g2 := F0 m 177 ls [.int 0]) (by rw [hw69]) ?_
  refine W.widen (k := 35) (n := 296) (by decide) (by decide) ?_
  refine lv_istore (lv' := [(6, .int 0), (5, .int 5), (7, .int 0), (4, .ref a33), (3, .ref a30), (2, .ref a18), (1, .ref a1), (0, .ref b)]) hx hb dL_law_177 hl (by decide) rfl (fun ls hl => ?_)
  refine lv_aload_n hx hb dL_law_179 rfl (lv_at hl 5 rfl) ?_
  have hM75 := k156_addInput l hl9 dC dI z a18 a26 a27 a29 a58 a59 a60 a28 H69.size k61 k62
  obtain ⟨hF73, hC76⟩ := pc_M hM75 hP hD hK hS hX hT hA [4, 5, 6, 7, 8, 9, 10] [2, 3] rfl rfl rfl
  refine va_calli (va_runV (As := []) (rest := []) ⟨hx, hb, hml, hown, hts⟩ hM75 (cwV 0 hts (gV q_340 q_341 q_342 q_60 q_339) rfl rfl rfl hV_X9_addInput ⟨Nat.le_of_ble_eq_true rfl, Nat.le_of_ble_eq_true rfl⟩) ⟨pc_blind, va_recv hK hP (ci := 8) (q := (RX9, TX9, 6)) (q0 := 4) rfl rfl, fun U hU hW => ⟨rfl, hC76 U hU hW⟩⟩ rfl rfl hl.1 rfl (lv_room (Nat.le_of_ble_eq_true rfl)) dL_law_180 ⟨(Nat.le_of_ble_eq_true rfl), (Nat.le_of_ble_eq_true rfl)⟩) hS (fun q9 _ h9 => hF73 q9 h9) hF73 (fun r78 u77 t77 H77 L77 ht77 hvm77 hw77 hB77 hz77 hk77 hS => ?_)
  obtain ⟨a79, hB77⟩ := hB77
  obtain ⟨hP, hD, hK⟩ := pq_jn (wz := [(a11, ce15 a9 a16), (a16, ce13 k17), (a28, ce3 z.1), (a33, ce23 k34), (a1, ce16 a9 a10 a11), (a30, ce81 k31), (a9, ce7 a12 a13 a14 a15), (a10, ce10 a9), (a12, ce69 a44), (a13, ce69 a45), (a14, ce3 z.1), (a15, ce79 a46), (a44, ce68 k49 a47 a71), (a45, ce68 k50 a47 a71), (a46, ce68 k51 a47 a71), (a47, ce38 (z.2.1 0) a48 a47), (a48, ce3 z.1), (a71, ce77 (z.2.1 0) a72 a71), (a72, ce3 z.1), (a18, ce21 a26 a27 a28 a29), (a26, ce69 a58), (a27, ce3 z.1), (a29, ce79 a59), (a58, ce68 k61 a60 a79), (a59, ce68 k62 (z.2.2.1 128) (z.2.2.1 129)), (a60, ce49), (a79, ce49)]) (tz := [(k17, .int), (k34, .double), (k31, .long), (k49, .object "java/lang/Object"), (k50, .object "java/lang/Object"), (k51, .object "java/lang/Object"), (k61, .object "java/lang/Object"), (k62, .object "java/lang/Object")]) hP hD hK [4, 5, 6, 7, 8, 9, 10] [0, 1, 4, 5, 6, 7] rfl hk77 hF73 hB77.1 ht77 hvm77 rfl rfl
  have hG : s.heap.size + 47 ≤ H77.size := va_gr (g := 35) (g1 := 12) hG (by rw [← ht77]; exact hB77.2)
  refine W.eq (g2 := F0 m 183 ls [.int 1]) (by rw [hw77]) ?_
  refine W.widen (k := 47) (n := 454) (by decide) (by decide) ?_
  refine lv_istore (lv' := [(7, .int 1), (6, .int 0), (5, .int 5), (4, .ref a33), (3, .ref a30), (2, .ref a18), (1, .ref a1), (0, .ref b)]) hx hb dL_law_183 hl (by decide) rfl (fun ls hl => ?_)
  refine lv_goto (tgt := 1029) hx hb dL_law_185 (by decide) ?_
  refine lv_iinc (v := 10) (lv' := [(5, .int 10), (7, .int 1), (6, .int 0), (4, .ref a33), (3, .ref a30), (2, .ref a18), (1, .ref a1), (0, .ref b)]) hx hb dL_law_1029 hl (k := 2) rfl (by decide) (by decide) rfl (fun ls hl => ?_)
  refine lv_goto (tgt := 28) hx hb dL_law_1032 (by decide) ?_
  refine lv_iload hx hb dL_law_28 (lv_at hl 0 rfl) ?_
  refine lv_aload_n hx hb dL_law_30 rfl (lv_at hl 7 rfl) ?_
  refine va_slen hx hb hX9 hbl hbA hS dL_law_31 ?_
  refine W.eq (g2 := F0 m 32 ls [.int 2540, .int 10]) rfl ?_
  refine lv_iconst (v := 5) hx hb dL_law_32 (by decide) ?_
  refine lv_isub hx hb dL_law_33 ?_
  refine lv_topi (fun y80 ey80 => ?_)
  obtain rfl : y80 = 2535 := ey80.trans (by decide)
  refine lv_icmp_gt (tgt := 1035) hx hb dL_law_34 (by decide) (fun cz => absurd cz (by decide)) (fun _ => ?_)
  refine lv_aload_n hx hb dL_law_37 rfl (lv_at hl 7 rfl) ?_
  refine lv_iload hx hb dL_law_38 (lv_at hl 0 rfl) ?_
  refine va_sld hx hb hX9 hbl hbA hS (i := 10) (by unfold vp_in; decide) dL_law_40 ?_
  refine W.eq (g2 := F0 m 41 ls [.int 0]) (by rw [show xs (Int32.toNatClampNeg 10) = xs 10 from rfl, hZ 10 (by decide)]; rfl) ?_
  refine lv_bipush (v := 31) hx hb dL_law_41 (by decide) ?_
  refine lv_iand hx hb dL_law_43 ?_
  refine lv_topi (fun y81 ey81 => ?_)
  obtain rfl : y81 = 0 := ey81.trans (by decide)
  refine lv_tableIn (tgt := 172) hx hb dL_law_44 (by decide) (by decide) rfl (by decide) ?_
  refine lv_aload_n hx hb dL_law_172 rfl (lv_at hl 6 rfl) ?_
  refine lv_aload_n hx hb dL_law_173 rfl (lv_at hl 4 rfl) ?_
  have hM84 := k205_addInput l hl9 dC dI z a1 a30 a9 a10 a12 a13 a14 a15 a44 a45 a46 a47 a71 a48 a72 a11 H77.size k31 k49 k50 k51
  obtain ⟨hF82, hC85⟩ := pc_M hM84 hP hD hK hS hX hT hA [4, 5, 6, 7, 8, 9, 10, 11, 12, 13, 14, 15, 17, 16, 18] [2, 3, 4, 5] rfl rfl rfl
  refine va_calli (vx_runSW (As := [.ref a1, .ref a30]) (rest := []) ⟨hx, hb, hml, hown, hts⟩ hM84 (vx_cwSW 2 hts (gS q_240 q_241 q_242 q_239) rfl rfl rfl hS_L_addInput ⟨Nat.le_of_ble_eq_true rfl, Nat.le_of_ble_eq_true rfl⟩) ⟨pc_blind, fun U hU hW => ⟨rfl, hC85 U hU hW⟩⟩ rfl rfl hl.1 rfl (lv_room (Nat.le_of_ble_eq_true rfl)) dL_law_174 ⟨(Nat.le_of_ble_eq_true rfl), (Nat.le_of_ble_eq_true rfl)⟩) hS (fun q9 _ h9 => hF82 q9 h9) hF82 (fun r87 u86 t86 H86 L86 ht86 hvm86 hw86 hB86 hz86 hk86 hS => ?_)
  obtain ⟨a88, a89, hB86⟩ := hB86
  obtain ⟨hP, hD, hK⟩ := pq_jn (wz := [(a11, ce15 a9 a16), (a16, ce13 k17), (a28, ce3 z.1), (a33, ce23 k34), (a18, ce21 a26 a27 a28 a29), (a26, ce69 a58), (a27, ce3 z.1), (a29, ce79 a59), (a58, ce68 k61 a60 a79), (a59, ce68 k62 (z.2.2.1 128) (z.2.2.1 129)), (a60, ce49), (a79, ce49), (a1, ce16 a9 a10 a11), (a30, ce119 k31), (a9, ce7 a12 a13 a14 a15), (a10, ce10 a9), (a12, ce102 a44), (a13, ce102 a45), (a14, ce3 z.1), (a15, ce117 a46), (a44, ce101 k49 a47 a71 a88), (a45, ce101 k50 a47 a71 a88), (a46, ce101 k51 a47 a71 a88), (a47, ce38 (z.2.1 0) a48 a47), (a71, ce77 (z.2.1 0) a72 a71), (a48, ce3 z.1), (a72, ce3 z.1), (a88, ce115 (z.2.1 0) a89 a88), (a89, ce3 z.1)]) (tz := [(k17, .int), (k34, .double), (k61, .object "java/lang/Object"), (k62, .object "java/lang/Object"), (k31, .long), (k49, .object "java/lang/Object"), (k50, .object "java/lang/Object"), (k51, .object "java/lang/Object")]) hP hD hK [4, 5, 6, 7, 8, 9, 10, 11, 12, 13, 14, 15, 17, 16, 18] [0, 1, 6, 7] rfl hk86 hF82 hB86.1 ht86 hvm86 rfl rfl
  have hG : s.heap.size + 49 ≤ H86.size := va_gr (g := 47) (g1 := 2) hG (by rw [← ht86]; exact hB86.2)
  refine W.eq (g2 := F0 m 177 ls [.int 0]) (by rw [hw86]) ?_
  refine W.widen (k := 49) (n := 476) (by decide) (by decide) ?_
  refine lv_istore (lv' := [(6, .int 0), (5, .int 10), (7, .int 1), (4, .ref a33), (3, .ref a30), (2, .ref a18), (1, .ref a1), (0, .ref b)]) hx hb dL_law_177 hl (by decide) rfl (fun ls hl => ?_)
  refine lv_aload_n hx hb dL_law_179 rfl (lv_at hl 5 rfl) ?_
  have hM92 := k248_addInput l hl9 dC dI z a18 a26 a27 a29 a58 a59 a60 a79 a28 H86.size k61 k62
  obtain ⟨hF90, hC93⟩ := pc_M hM92 hP hD hK hS hX hT hA [4, 5, 6, 7, 8, 9, 10, 11] [2, 3] rfl rfl rfl
  refine va_calli (va_runV (As := []) (rest := []) ⟨hx, hb, hml, hown, hts⟩ hM92 (cwV 0 hts (gV q_340 q_341 q_342 q_60 q_339) rfl rfl rfl hV_X9_addInput ⟨Nat.le_of_ble_eq_true rfl, Nat.le_of_ble_eq_true rfl⟩) ⟨pc_blind, va_recv hK hP (ci := 8) (q := (RX9, TX9, 6)) (q0 := 4) rfl rfl, fun U hU hW => ⟨rfl, hC93 U hU hW⟩⟩ rfl rfl hl.1 rfl (lv_room (Nat.le_of_ble_eq_true rfl)) dL_law_180 ⟨(Nat.le_of_ble_eq_true rfl), (Nat.le_of_ble_eq_true rfl)⟩) hS (fun q9 _ h9 => hF90 q9 h9) hF90 (fun r95 u94 t94 H94 L94 ht94 hvm94 hw94 hB94 hz94 hk94 hS => ?_)
  obtain ⟨a96, hB94⟩ := hB94
  obtain ⟨hP, hD, hK⟩ := pq_jn (wz := [(a11, ce15 a9 a16), (a16, ce13 k17), (a28, ce3 z.1), (a33, ce23 k34), (a1, ce16 a9 a10 a11), (a30, ce119 k31), (a9, ce7 a12 a13 a14 a15), (a10, ce10 a9), (a12, ce102 a44), (a13, ce102 a45), (a14, ce3 z.1), (a15, ce117 a46), (a44, ce101 k49 a47 a71 a88), (a45, ce101 k50 a47 a71 a88), (a46, ce101 k51 a47 a71 a88), (a47, ce38 (z.2.1 0) a48 a47), (a71, ce77 (z.2.1 0) a72 a71), (a48, ce3 z.1), (a72, ce3 z.1), (a88, ce115 (z.2.1 0) a89 a88), (a89, ce3 z.1), (a18, ce21 a26 a27 a28 a29), (a26, ce102 a58), (a27, ce3 z.1), (a29, ce117 a59), (a58, ce101 k61 a60 a79 a96), (a59, ce101 k62 (z.2.2.1 128) (z.2.2.1 129) (z.2.2.1 130)), (a60, ce49), (a79, ce49), (a96, ce49)]) (tz := [(k17, .int), (k34, .double), (k31, .long), (k49, .object "java/lang/Object"), (k50, .object "java/lang/Object"), (k51, .object "java/lang/Object"), (k61, .object "java/lang/Object"), (k62, .object "java/lang/Object")]) hP hD hK [4, 5, 6, 7, 8, 9, 10, 11] [0, 1, 4, 5, 6, 7] rfl hk94 hF90 hB94.1 ht94 hvm94 rfl rfl
  have hG : s.heap.size + 63 ≤ H94.size := va_gr (g := 49) (g1 := 14) hG (by rw [← ht94]; exact hB94.2)
  refine W.eq (g2 := F0 m 183 ls [.int 2]) (by rw [hw94]) ?_
  refine W.widen (k := 63) (n := 642) (by decide) (by decide) ?_
  refine lv_istore (lv' := [(7, .int 2), (6, .int 0), (5, .int 10), (4, .ref a33), (3, .ref a30), (2, .ref a18), (1, .ref a1), (0, .ref b)]) hx hb dL_law_183 hl (by decide) rfl (fun ls hl => ?_)
  refine lv_goto (tgt := 1029) hx hb dL_law_185 (by decide) ?_
  refine lv_iinc (v := 15) (lv' := [(5, .int 15), (7, .int 2), (6, .int 0), (4, .ref a33), (3, .ref a30), (2, .ref a18), (1, .ref a1), (0, .ref b)]) hx hb dL_law_1029 hl (k := 2) rfl (by decide) (by decide) rfl (fun ls hl => ?_)
  refine lv_goto (tgt := 28) hx hb dL_law_1032 (by decide) ?_
  refine lv_iload hx hb dL_law_28 (lv_at hl 0 rfl) ?_
  refine lv_aload_n hx hb dL_law_30 rfl (lv_at hl 7 rfl) ?_
  refine va_slen hx hb hX9 hbl hbA hS dL_law_31 ?_
  refine W.eq (g2 := F0 m 32 ls [.int 2540, .int 15]) rfl ?_
  refine lv_iconst (v := 5) hx hb dL_law_32 (by decide) ?_
  refine lv_isub hx hb dL_law_33 ?_
  refine lv_topi (fun y97 ey97 => ?_)
  obtain rfl : y97 = 2535 := ey97.trans (by decide)
  refine lv_icmp_gt (tgt := 1035) hx hb dL_law_34 (by decide) (fun cz => absurd cz (by decide)) (fun _ => ?_)
  refine lv_aload_n hx hb dL_law_37 rfl (lv_at hl 7 rfl) ?_
  refine lv_iload hx hb dL_law_38 (lv_at hl 0 rfl) ?_
  refine va_sld hx hb hX9 hbl hbA hS (i := 15) (by unfold vp_in; decide) dL_law_40 ?_
  refine W.eq (g2 := F0 m 41 ls [.int 0]) (by rw [show xs (Int32.toNatClampNeg 15) = xs 15 from rfl, hZ 15 (by decide)]; rfl) ?_
  refine lv_bipush (v := 31) hx hb dL_law_41 (by decide) ?_
  refine lv_iand hx hb dL_law_43 ?_
  refine lv_topi (fun y98 ey98 => ?_)
  obtain rfl : y98 = 0 := ey98.trans (by decide)
  refine lv_tableIn (tgt := 172) hx hb dL_law_44 (by decide) (by decide) rfl (by decide) ?_
  refine lv_aload_n hx hb dL_law_172 rfl (lv_at hl 6 rfl) ?_
  refine lv_aload_n hx hb dL_law_173 rfl (lv_at hl 4 rfl) ?_
  have hM101 := k305_addInput l hl9 dC dI z a1 a30 a9 a10 a12 a13 a14 a15 a44 a45 a46 a47 a71 a88 a48 a72 a89 a11 H94.size k31 k49 k50 k51
  obtain ⟨hF99, hC102⟩ := pc_M hM101 hP hD hK hS hX hT hA [4, 5, 6, 7, 8, 9, 10, 11, 12, 13, 14, 15, 16, 19, 17, 18, 20] [2, 3, 4, 5] rfl rfl rfl
  refine va_calli (vx_runSW (As := [.ref a1, .ref a30]) (rest := []) ⟨hx, hb, hml, hown, hts⟩ hM101 (vx_cwSW 2 hts (gS q_240 q_241 q_242 q_239) rfl rfl rfl hS_L_addInput ⟨Nat.le_of_ble_eq_true rfl, Nat.le_of_ble_eq_true rfl⟩) ⟨pc_blind, fun U hU hW => ⟨rfl, hC102 U hU hW⟩⟩ rfl rfl hl.1 rfl (lv_room (Nat.le_of_ble_eq_true rfl)) dL_law_174 ⟨(Nat.le_of_ble_eq_true rfl), (Nat.le_of_ble_eq_true rfl)⟩) hS (fun q9 _ h9 => hF99 q9 h9) hF99 (fun r104 u103 t103 H103 L103 ht103 hvm103 hw103 hB103 hz103 hk103 hS => ?_)
  obtain ⟨a105, a106, hB103⟩ := hB103
  obtain ⟨hP, hD, hK⟩ := pq_jn (wz := [(a11, ce15 a9 a16), (a16, ce13 k17), (a28, ce3 z.1), (a33, ce23 k34), (a18, ce21 a26 a27 a28 a29), (a26, ce102 a58), (a27, ce3 z.1), (a29, ce117 a59), (a58, ce101 k61 a60 a79 a96), (a59, ce101 k62 (z.2.2.1 128) (z.2.2.1 129) (z.2.2.1 130)), (a60, ce49), (a79, ce49), (a96, ce49), (a1, ce16 a9 a10 a11), (a30, ce169 k31), (a9, ce7 a12 a13 a14 a15), (a10, ce10 a9), (a12, ce147 a44), (a13, ce147 a45), (a14, ce3 z.1), (a15, ce167 a46), (a44, ce146 k49 a47 a71 a88 a105), (a45, ce146 k50 a47 a71 a88 a105), (a46, ce146 k51 a47 a71 a88 a105), (a47, ce38 (z.2.1 0) a48 a47), (a71, ce77 (z.2.1 0) a72 a71), (a88, ce115 (z.2.1 0) a89 a88), (a48, ce3 z.1), (a72, ce3 z.1), (a89, ce3 z.1), (a105, ce165 (z.2.1 0) a106 a105), (a106, ce3 z.1)]) (tz := [(k17, .int), (k34, .double), (k61, .object "java/lang/Object"), (k62, .object "java/lang/Object"), (k31, .long), (k49, .object "java/lang/Object"), (k50, .object "java/lang/Object"), (k51, .object "java/lang/Object")]) hP hD hK [4, 5, 6, 7, 8, 9, 10, 11, 12, 13, 14, 15, 16, 19, 17, 18, 20] [0, 1, 6, 7] rfl hk103 hF99 hB103.1 ht103 hvm103 rfl rfl
  have hG : s.heap.size + 65 ≤ H103.size := va_gr (g := 63) (g1 := 2) hG (by rw [← ht103]; exact hB103.2)
  refine W.eq (g2 := F0 m 177 ls [.int 0]) (by rw [hw103]) ?_
  refine W.widen (k := 65) (n := 664) (by decide) (by decide) ?_
  refine lv_istore (lv' := [(6, .int 0), (5, .int 15), (7, .int 2), (4, .ref a33), (3, .ref a30), (2, .ref a18), (1, .ref a1), (0, .ref b)]) hx hb dL_law_177 hl (by decide) rfl (fun ls hl => ?_)
  refine lv_aload_n hx hb dL_law_179 rfl (lv_at hl 5 rfl) ?_
  have hM109 := k356_addInput l hl9 dC dI z a18 a26 a27 a29 a58 a59 a60 a79 a96 a28 H103.size k61 k62
  obtain ⟨hF107, hC110⟩ := pc_M hM109 hP hD hK hS hX hT hA [4, 5, 6, 7, 8, 9, 10, 11, 12] [2, 3] rfl rfl rfl
  refine va_calli (va_runV (As := []) (rest := []) ⟨hx, hb, hml, hown, hts⟩ hM109 (cwV 0 hts (gV q_340 q_341 q_342 q_60 q_339) rfl rfl rfl hV_X9_addInput ⟨Nat.le_of_ble_eq_true rfl, Nat.le_of_ble_eq_true rfl⟩) ⟨pc_blind, va_recv hK hP (ci := 8) (q := (RX9, TX9, 6)) (q0 := 4) rfl rfl, fun U hU hW => ⟨rfl, hC110 U hU hW⟩⟩ rfl rfl hl.1 rfl (lv_room (Nat.le_of_ble_eq_true rfl)) dL_law_180 ⟨(Nat.le_of_ble_eq_true rfl), (Nat.le_of_ble_eq_true rfl)⟩) hS (fun q9 _ h9 => hF107 q9 h9) hF107 (fun r112 u111 t111 H111 L111 ht111 hvm111 hw111 hB111 hz111 hk111 hS => ?_)
  obtain ⟨a113, hB111⟩ := hB111
  obtain ⟨hP, hD, hK⟩ := pq_jn (wz := [(a11, ce15 a9 a16), (a16, ce13 k17), (a28, ce3 z.1), (a33, ce23 k34), (a1, ce16 a9 a10 a11), (a30, ce169 k31), (a9, ce7 a12 a13 a14 a15), (a10, ce10 a9), (a12, ce147 a44), (a13, ce147 a45), (a14, ce3 z.1), (a15, ce167 a46), (a44, ce146 k49 a47 a71 a88 a105), (a45, ce146 k50 a47 a71 a88 a105), (a46, ce146 k51 a47 a71 a88 a105), (a47, ce38 (z.2.1 0) a48 a47), (a71, ce77 (z.2.1 0) a72 a71), (a88, ce115 (z.2.1 0) a89 a88), (a48, ce3 z.1), (a72, ce3 z.1), (a89, ce3 z.1), (a105, ce165 (z.2.1 0) a106 a105), (a106, ce3 z.1), (a18, ce21 a26 a27 a28 a29), (a26, ce147 a58), (a27, ce3 z.1), (a29, ce167 a59), (a58, ce146 k61 a60 a79 a96 a113), (a59, ce146 k62 (z.2.2.1 128) (z.2.2.1 129) (z.2.2.1 130) (z.2.2.1 131)), (a60, ce49), (a79, ce49), (a96, ce49), (a113, ce49)]) (tz := [(k17, .int), (k34, .double), (k31, .long), (k49, .object "java/lang/Object"), (k50, .object "java/lang/Object"), (k51, .object "java/lang/Object"), (k61, .object "java/lang/Object"), (k62, .object "java/lang/Object")]) hP hD hK [4, 5, 6, 7, 8, 9, 10, 11, 12] [0, 1, 4, 5, 6, 7] rfl hk111 hF107 hB111.1 ht111 hvm111 rfl rfl
  have hG : s.heap.size + 81 ≤ H111.size := va_gr (g := 65) (g1 := 16) hG (by rw [← ht111]; exact hB111.2)
  refine W.eq (g2 := F0 m 183 ls [.int 3]) (by rw [hw111]) ?_
  refine W.widen (k := 81) (n := 838) (by decide) (by decide) ?_
  refine lv_istore (lv' := [(7, .int 3), (6, .int 0), (5, .int 15), (4, .ref a33), (3, .ref a30), (2, .ref a18), (1, .ref a1), (0, .ref b)]) hx hb dL_law_183 hl (by decide) rfl (fun ls hl => ?_)
  refine lv_goto (tgt := 1029) hx hb dL_law_185 (by decide) ?_
  refine lv_iinc (v := 20) (lv' := [(5, .int 20), (7, .int 3), (6, .int 0), (4, .ref a33), (3, .ref a30), (2, .ref a18), (1, .ref a1), (0, .ref b)]) hx hb dL_law_1029 hl (k := 2) rfl (by decide) (by decide) rfl (fun ls hl => ?_)
  refine lv_goto (tgt := 28) hx hb dL_law_1032 (by decide) ?_
  refine lv_iload hx hb dL_law_28 (lv_at hl 0 rfl) ?_
  refine lv_aload_n hx hb dL_law_30 rfl (lv_at hl 7 rfl) ?_
  refine va_slen hx hb hX9 hbl hbA hS dL_law_31 ?_
  refine W.eq (g2 := F0 m 32 ls [.int 2540, .int 20]) rfl ?_
  refine lv_iconst (v := 5) hx hb dL_law_32 (by decide) ?_
  refine lv_isub hx hb dL_law_33 ?_
  refine lv_topi (fun y114 ey114 => ?_)
  obtain rfl : y114 = 2535 := ey114.trans (by decide)
  refine lv_icmp_gt (tgt := 1035) hx hb dL_law_34 (by decide) (fun cz => absurd cz (by decide)) (fun _ => ?_)
  refine lv_aload_n hx hb dL_law_37 rfl (lv_at hl 7 rfl) ?_
  refine lv_iload hx hb dL_law_38 (lv_at hl 0 rfl) ?_
  refine va_sld hx hb hX9 hbl hbA hS (i := 20) (by unfold vp_in; decide) dL_law_40 ?_
  refine W.eq (g2 := F0 m 41 ls [.int 0]) (by rw [show xs (Int32.toNatClampNeg 20) = xs 20 from rfl, hZ 20 (by decide)]; rfl) ?_
  refine lv_bipush (v := 31) hx hb dL_law_41 (by decide) ?_
  refine lv_iand hx hb dL_law_43 ?_
  refine lv_topi (fun y115 ey115 => ?_)
  obtain rfl : y115 = 0 := ey115.trans (by decide)
  refine lv_tableIn (tgt := 172) hx hb dL_law_44 (by decide) (by decide) rfl (by decide) ?_
  refine lv_aload_n hx hb dL_law_172 rfl (lv_at hl 6 rfl) ?_
  refine lv_aload_n hx hb dL_law_173 rfl (lv_at hl 4 rfl) ?_
  have hM118 := k421_addInput l hl9 dC dI z a1 a30 a9 a10 a12 a13 a14 a15 a44 a45 a46 a47 a71 a88 a105 a48 a72 a89 a106 a11 H111.size k31 k49 k50 k51
  obtain ⟨hF116, hC119⟩ := pc_M hM118 hP hD hK hS hX hT hA [4, 5, 6, 7, 8, 9, 10, 11, 12, 13, 14, 15, 16, 17, 21, 18, 19, 20, 22] [2, 3, 4, 5] rfl rfl rfl
  refine va_calli (vx_runSW (As := [.ref a1, .ref a30]) (rest := []) ⟨hx, hb, hml, hown, hts⟩ hM118 (vx_cwSW 2 hts (gS q_240 q_241 q_242 q_239) rfl rfl rfl hS_L_addInput ⟨Nat.le_of_ble_eq_true rfl, Nat.le_of_ble_eq_true rfl⟩) ⟨pc_blind, fun U hU hW => ⟨rfl, hC119 U hU hW⟩⟩ rfl rfl hl.1 rfl (lv_room (Nat.le_of_ble_eq_true rfl)) dL_law_174 ⟨(Nat.le_of_ble_eq_true rfl), (Nat.le_of_ble_eq_true rfl)⟩) hS (fun q9 _ h9 => hF116 q9 h9) hF116 (fun r121 u120 t120 H120 L120 ht120 hvm120 hw120 hB120 hz120 hk120 hS => ?_)
  obtain ⟨a122, a123, hB120⟩ := hB120
  obtain ⟨hP, hD, hK⟩ := pq_jn (wz := [(a11, ce15 a9 a16), (a16, ce13 k17), (a28, ce3 z.1), (a33, ce23 k34), (a18, ce21 a26 a27 a28 a29), (a26, ce147 a58), (a27, ce3 z.1), (a29, ce167 a59), (a58, ce146 k61 a60 a79 a96 a113), (a59, ce146 k62 (z.2.2.1 128) (z.2.2.1 129) (z.2.2.1 130) (z.2.2.1 131)), (a60, ce49), (a79, ce49), (a96, ce49), (a113, ce49), (a1, ce16 a9 a10 a11), (a30, ce228 k31), (a9, ce7 a12 a13 a14 a15), (a10, ce10 a9), (a12, ce201 a44), (a13, ce201 a45), (a14, ce3 z.1), (a15, ce226 a46), (a44, ce200 k49 a47 a71 a88 a105 a122), (a45, ce200 k50 a47 a71 a88 a105 a122), (a46, ce200 k51 a47 a71 a88 a105 a122), (a47, ce38 (z.2.1 0) a48 a47), (a71, ce77 (z.2.1 0) a72 a71), (a88, ce115 (z.2.1 0) a89 a88), (a105, ce165 (z.2.1 0) a106 a105), (a48, ce3 z.1), (a72, ce3 z.1), (a89, ce3 z.1), (a106, ce3 z.1), (a122, ce224 (z.2.1 0) a123 a122), (a123, ce3 z.1)]) (tz := [(k17, .int), (k34, .double), (k61, .object "java/lang/Object"), (k62, .object "java/lang/Object"), (k31, .long), (k49, .object "java/lang/Object"), (k50, .object "java/lang/Object"), (k51, .object "java/lang/Object")]) hP hD hK [4, 5, 6, 7, 8, 9, 10, 11, 12, 13, 14, 15, 16, 17, 21, 18, 19, 20, 22] [0, 1, 6, 7] rfl hk120 hF116 hB120.1 ht120 hvm120 rfl rfl
  have hG : s.heap.size + 83 ≤ H120.size := va_gr (g := 81) (g1 := 2) hG (by rw [← ht120]; exact hB120.2)
  refine W.eq (g2 := F0 m 177 ls [.int 0]) (by rw [hw120]) ?_
  refine W.widen (k := 83) (n := 860) (by decide) (by decide) ?_
  refine lv_istore (lv' := [(6, .int 0), (5, .int 20), (7, .int 3), (4, .ref a33), (3, .ref a30), (2, .ref a18), (1, .ref a1), (0, .ref b)]) hx hb dL_law_177 hl (by decide) rfl (fun ls hl => ?_)
  refine lv_aload_n hx hb dL_law_179 rfl (lv_at hl 5 rfl) ?_
  have hM126 := k480_addInput l hl9 dC dI z a18 a26 a27 a29 a58 a59 a60 a79 a96 a113 a28 H120.size k61 k62
  obtain ⟨hF124, hC127⟩ := pc_M hM126 hP hD hK hS hX hT hA [4, 5, 6, 7, 8, 9, 10, 11, 12, 13] [2, 3] rfl rfl rfl
  refine va_calli (va_runV (As := []) (rest := []) ⟨hx, hb, hml, hown, hts⟩ hM126 (cwV 0 hts (gV q_340 q_341 q_342 q_60 q_339) rfl rfl rfl hV_X9_addInput ⟨Nat.le_of_ble_eq_true rfl, Nat.le_of_ble_eq_true rfl⟩) ⟨pc_blind, va_recv hK hP (ci := 8) (q := (RX9, TX9, 6)) (q0 := 4) rfl rfl, fun U hU hW => ⟨rfl, hC127 U hU hW⟩⟩ rfl rfl hl.1 rfl (lv_room (Nat.le_of_ble_eq_true rfl)) dL_law_180 ⟨(Nat.le_of_ble_eq_true rfl), (Nat.le_of_ble_eq_true rfl)⟩) hS (fun q9 _ h9 => hF124 q9 h9) hF124 (fun r129 u128 t128 H128 L128 ht128 hvm128 hw128 hB128 hz128 hk128 hS => ?_)
  obtain ⟨a130, hB128⟩ := hB128
  obtain ⟨hP, hD, hK⟩ := pq_jn (wz := [(a11, ce15 a9 a16), (a16, ce13 k17), (a28, ce3 z.1), (a33, ce23 k34), (a1, ce16 a9 a10 a11), (a30, ce228 k31), (a9, ce7 a12 a13 a14 a15), (a10, ce10 a9), (a12, ce201 a44), (a13, ce201 a45), (a14, ce3 z.1), (a15, ce226 a46), (a44, ce200 k49 a47 a71 a88 a105 a122), (a45, ce200 k50 a47 a71 a88 a105 a122), (a46, ce200 k51 a47 a71 a88 a105 a122), (a47, ce38 (z.2.1 0) a48 a47), (a71, ce77 (z.2.1 0) a72 a71), (a88, ce115 (z.2.1 0) a89 a88), (a105, ce165 (z.2.1 0) a106 a105), (a48, ce3 z.1), (a72, ce3 z.1), (a89, ce3 z.1), (a106, ce3 z.1), (a122, ce224 (z.2.1 0) a123 a122), (a123, ce3 z.1), (a18, ce21 a26 a27 a28 a29), (a26, ce201 a58), (a27, ce3 z.1), (a29, ce226 a59), (a58, ce200 k61 a60 a79 a96 a113 a130), (a59, ce200 k62 (z.2.2.1 128) (z.2.2.1 129) (z.2.2.1 130) (z.2.2.1 131) (z.2.2.1 132)), (a60, ce49), (a79, ce49), (a96, ce49), (a113, ce49), (a130, ce49)]) (tz := [(k17, .int), (k34, .double), (k31, .long), (k49, .object "java/lang/Object"), (k50, .object "java/lang/Object"), (k51, .object "java/lang/Object"), (k61, .object "java/lang/Object"), (k62, .object "java/lang/Object")]) hP hD hK [4, 5, 6, 7, 8, 9, 10, 11, 12, 13] [0, 1, 4, 5, 6, 7] rfl hk128 hF124 hB128.1 ht128 hvm128 rfl rfl
  have hG : s.heap.size + 101 ≤ H128.size := va_gr (g := 83) (g1 := 18) hG (by rw [← ht128]; exact hB128.2)
  refine W.eq (g2 := F0 m 183 ls [.int 4]) (by rw [hw128]) ?_
  refine W.widen (k := 101) (n := 1042) (by decide) (by decide) ?_
  refine lv_istore (lv' := [(7, .int 4), (6, .int 0), (5, .int 20), (4, .ref a33), (3, .ref a30), (2, .ref a18), (1, .ref a1), (0, .ref b)]) hx hb dL_law_183 hl (by decide) rfl (fun ls hl => ?_)
  refine lv_goto (tgt := 1029) hx hb dL_law_185 (by decide) ?_
  refine lv_iinc (v := 25) (lv' := [(5, .int 25), (7, .int 4), (6, .int 0), (4, .ref a33), (3, .ref a30), (2, .ref a18), (1, .ref a1), (0, .ref b)]) hx hb dL_law_1029 hl (k := 2) rfl (by decide) (by decide) rfl (fun ls hl => ?_)
  refine lv_goto (tgt := 28) hx hb dL_law_1032 (by decide) ?_
  refine lv_iload hx hb dL_law_28 (lv_at hl 0 rfl) ?_
  refine lv_aload_n hx hb dL_law_30 rfl (lv_at hl 7 rfl) ?_
  refine va_slen hx hb hX9 hbl hbA hS dL_law_31 ?_
  refine W.eq (g2 := F0 m 32 ls [.int 2540, .int 25]) rfl ?_
  refine lv_iconst (v := 5) hx hb dL_law_32 (by decide) ?_
  refine lv_isub hx hb dL_law_33 ?_
  refine lv_topi (fun y131 ey131 => ?_)
  obtain rfl : y131 = 2535 := ey131.trans (by decide)
  refine lv_icmp_gt (tgt := 1035) hx hb dL_law_34 (by decide) (fun cz => absurd cz (by decide)) (fun _ => ?_)
  refine lv_aload_n hx hb dL_law_37 rfl (lv_at hl 7 rfl) ?_
  refine lv_iload hx hb dL_law_38 (lv_at hl 0 rfl) ?_
  refine va_sld hx hb hX9 hbl hbA hS (i := 25) (by unfold vp_in; decide) dL_law_40 ?_
  refine W.eq (g2 := F0 m 41 ls [.int 22]) (by rw [show xs (Int32.toNatClampNeg 25) = xs 25 from rfl, hZ 25 (by decide)]; rfl) ?_
  refine lv_bipush (v := 31) hx hb dL_law_41 (by decide) ?_
  refine lv_iand hx hb dL_law_43 ?_
  refine lv_topi (fun y132 ey132 => ?_)
  obtain rfl : y132 = 22 := ey132.trans (by decide)
  refine lv_tableIn (tgt := 928) hx hb dL_law_44 (by decide) (by decide) rfl (by decide) ?_
  refine lv_aload_n hx hb dL_law_928 rfl (lv_at hl 6 rfl) ?_
  refine lv_aload_n hx hb dL_law_929 rfl (lv_at hl 7 rfl) ?_
  refine lv_iload hx hb dL_law_930 (lv_at hl 0 rfl) ?_
  refine lv_iconst (v := 1) hx hb dL_law_932 (by decide) ?_
  refine lv_iadd hx hb dL_law_933 ?_
  refine lv_topi (fun y133 ey133 => ?_)
  obtain rfl : y133 = 26 := ey133.trans (by decide)
  refine va_sld hx hb hX9 hbl hbA hS (i := 26) (by unfold vp_in; decide) dL_law_934 ?_
  refine W.eq (g2 := F0 m 935 ls [.int 0, .ref a1]) (by rw [show xs (Int32.toNatClampNeg 26) = xs 26 from rfl, hZ 26 (by decide)]; rfl) ?_
  refine lv_aload_n hx hb dL_law_935 rfl (lv_at hl 4 rfl) ?_
  have hM136 := k485_addTest l hl9 dC dI z a1 a30 a9 a11 a13 a16 a10 a12 a14 a15 a45 H128.size k31 k17
  obtain ⟨hF134, hC137⟩ := pc_M hM136 hP hD hK hS hX hT hA [4, 5, 6, 0, 9, 1] [2, 0] rfl rfl rfl
  refine va_calli (vx_runSW (As := [.ref a1, .int 0, .ref a30]) (rest := []) ⟨hx, hb, hml, hown, hts⟩ hM136 (vx_cwSW 3 hts (gS q_368 q_369 q_242 q_367) rfl rfl rfl hS_L_addTest ⟨Nat.le_of_ble_eq_true rfl, Nat.le_of_ble_eq_true rfl⟩) ⟨pc_blind, fun U hU hW => ⟨rfl, hC137 U hU hW⟩⟩ rfl rfl hl.1 rfl (lv_room (Nat.le_of_ble_eq_true rfl)) dL_law_936 ⟨(Nat.le_of_ble_eq_true rfl), (Nat.le_of_ble_eq_true rfl)⟩) hS (fun q9 _ h9 => hF134 q9 h9) hF134 (fun r139 u138 t138 H138 L138 ht138 hvm138 hw138 hB138 hz138 hk138 hS => ?_)
  obtain ⟨hP, hD, hK⟩ := pq_jn (wz := [(a28, ce3 z.1), (a33, ce23 k34), (a10, ce10 a9), (a12, ce201 a44), (a14, ce3 z.1), (a15, ce226 a46), (a44, ce200 k49 a47 a71 a88 a105 a122), (a45, ce200 k50 a47 a71 a88 a105 a122), (a46, ce200 k51 a47 a71 a88 a105 a122), (a47, ce38 (z.2.1 0) a48 a47), (a71, ce77 (z.2.1 0) a72 a71), (a88, ce115 (z.2.1 0) a89 a88), (a105, ce165 (z.2.1 0) a106 a105), (a48, ce3 z.1), (a72, ce3 z.1), (a89, ce3 z.1), (a106, ce3 z.1), (a122, ce224 (z.2.1 0) a123 a122), (a123, ce3 z.1), (a18, ce21 a26 a27 a28 a29), (a26, ce201 a58), (a27, ce3 z.1), (a29, ce226 a59), (a58, ce200 k61 a60 a79 a96 a113 a130), (a59, ce200 k62 (z.2.2.1 128) (z.2.2.1 129) (z.2.2.1 130) (z.2.2.1 131) (z.2.2.1 132)), (a60, ce49), (a79, ce49), (a96, ce49), (a113, ce49), (a130, ce49), (a1, ce16 a9 a10 a11), (a30, ce81 k31), (a9, ce7 a12 a13 a14 a15), (a11, ce251 a9 a16), (a13, ce201 a45), (a16, ce250 k17)]) (tz := [(k34, .double), (k49, .object "java/lang/Object"), (k50, .object "java/lang/Object"), (k51, .object "java/lang/Object"), (k61, .object "java/lang/Object"), (k62, .object "java/lang/Object"), (k31, .long), (k17, .int)]) hP hD hK [4, 5, 6, 0, 9, 1] [1, 3, 4, 5, 6, 7] rfl hk138 hF134 hB138.1 ht138 hvm138 rfl rfl
  have hG : s.heap.size + 101 ≤ H138.size := Nat.le_trans hG hz138
  refine W.eq (g2 := F0 m 939 ls [.int 0]) (by rw [hw138]) ?_
  refine lv_istore (lv' := [(6, .int 0), (5, .int 25), (7, .int 4), (4, .ref a33), (3, .ref a30), (2, .ref a18), (1, .ref a1), (0, .ref b)]) hx hb dL_law_939 hl (by decide) rfl (fun ls hl => ?_)
  refine lv_aload_n hx hb dL_law_941 rfl (lv_at hl 5 rfl) ?_
  refine lv_aload_n hx hb dL_law_942 rfl (lv_at hl 7 rfl) ?_
  refine lv_iload hx hb dL_law_943 (lv_at hl 1 rfl) ?_
  refine lv_iconst (v := 1) hx hb dL_law_945 (by decide) ?_
  refine lv_iadd hx hb dL_law_946 ?_
  refine lv_topi (fun y140 ey140 => ?_)
  obtain rfl : y140 = 26 := ey140.trans (by decide)
  refine va_sld hx hb hX9 hbl hbA hS (i := 26) (by unfold vp_in; decide) dL_law_947 ?_
  refine W.eq (g2 := F0 m 948 ls [.int 0, .ref a18]) (by rw [show xs (Int32.toNatClampNeg 26) = xs 26 from rfl, hZ 26 (by decide)]; rfl) ?_
  have hM143 := k491_addTest l hl9 dC dI z a18 a26 a28 a58 a60 a79 a96 a113 a130 a27 a29 H138.size k61
  obtain ⟨hF141, hC144⟩ := pc_M hM143 hP hD hK hS hX hT hA [19, 20, 0, 23, 25, 26, 27, 28, 29] [4] rfl rfl rfl
  refine va_calli (va_runV (As := [.int 0]) (rest := []) ⟨hx, hb, hml, hown, hts⟩ hM143 (cwV 1 hts (gV q_378 q_379 q_380 q_60 q_377) rfl rfl rfl hV_X9_addTest ⟨Nat.le_of_ble_eq_true rfl, Nat.le_of_ble_eq_true rfl⟩) ⟨pc_blind, va_recv hK hP (ci := 8) (q := (RX9, TX9, 6)) (q0 := 19) rfl rfl, fun U hU hW => ⟨rfl, hC144 U hU hW⟩⟩ rfl rfl hl.1 rfl (lv_room (Nat.le_of_ble_eq_true rfl)) dL_law_948 ⟨(Nat.le_of_ble_eq_true rfl), (Nat.le_of_ble_eq_true rfl)⟩) hS (fun q9 _ h9 => hF141 q9 h9) hF141 (fun r146 u145 t145 H145 L145 ht145 hvm145 hw145 hB145 hz145 hk145 hS => ?_)
  obtain ⟨a147, k148, hB145⟩ := hB145
  obtain ⟨hP, hD, hK⟩ := pq_jn (wz := [(a33, ce23 k34), (a10, ce10 a9), (a12, ce201 a44), (a14, ce3 z.1), (a15, ce226 a46), (a44, ce200 k49 a47 a71 a88 a105 a122), (a45, ce200 k50 a47 a71 a88 a105 a122), (a46, ce200 k51 a47 a71 a88 a105 a122), (a47, ce38 (z.2.1 0) a48 a47), (a71, ce77 (z.2.1 0) a72 a71), (a88, ce115 (z.2.1 0) a89 a88), (a105, ce165 (z.2.1 0) a106 a105), (a48, ce3 z.1), (a72, ce3 z.1), (a89, ce3 z.1), (a106, ce3 z.1), (a122, ce224 (z.2.1 0) a123 a122), (a123, ce3 z.1), (a27, ce3 z.1), (a29, ce226 a59), (a59, ce200 k62 (z.2.2.1 128) (z.2.2.1 129) (z.2.2.1 130) (z.2.2.1 131) (z.2.2.1 132)), (a1, ce16 a9 a10 a11), (a30, ce81 k31), (a9, ce7 a12 a13 a14 a15), (a11, ce251 a9 a16), (a13, ce201 a45), (a16, ce250 k17), (a18, ce21 a26 a27 a28 a29), (a26, ce201 a58), (a28, ce36 a147), (a58, ce200 k61 a60 a79 a96 a113 a130), (a60, ce49), (a79, ce49), (a96, ce49), (a113, ce49), (a130, ce49), (a147, ce35 k148 (z.2.2.1 128))]) (tz := [(k34, .double), (k49, .object "java/lang/Object"), (k50, .object "java/lang/Object"), (k51, .object "java/lang/Object"), (k62, .object "java/lang/Object"), (k31, .long), (k17, .int), (k61, .object "java/lang/Object"), (k148, .object "java/lang/Object")]) hP hD hK [19, 20, 0, 23, 25, 26, 27, 28, 29] [0, 1, 2, 3, 5, 6, 7] rfl hk145 hF141 hB145.1 ht145 hvm145 rfl rfl
  have hG : s.heap.size + 103 ≤ H145.size := va_gr (g := 101) (g1 := 2) hG (by rw [← ht145]; exact hB145.2)
  refine W.eq (g2 := F0 m 951 ls [.int 1]) (by rw [hw145]) ?_
  refine W.widen (k := 103) (n := 1056) (by decide) (by decide) ?_
  refine lv_istore (lv' := [(7, .int 1), (6, .int 0), (5, .int 25), (4, .ref a33), (3, .ref a30), (2, .ref a18), (1, .ref a1), (0, .ref b)]) hx hb dL_law_951 hl (by decide) rfl (fun ls hl => ?_)
  refine lv_goto (tgt := 1029) hx hb dL_law_953 (by decide) ?_
  refine lv_iinc (v := 30) (lv' := [(5, .int 30), (7, .int 1), (6, .int 0), (4, .ref a33), (3, .ref a30), (2, .ref a18), (1, .ref a1), (0, .ref b)]) hx hb dL_law_1029 hl (k := 2) rfl (by decide) (by decide) rfl (fun ls hl => ?_)
  refine lv_goto (tgt := 28) hx hb dL_law_1032 (by decide) ?_
  refine lv_iload hx hb dL_law_28 (lv_at hl 0 rfl) ?_
  refine lv_aload_n hx hb dL_law_30 rfl (lv_at hl 7 rfl) ?_
  refine va_slen hx hb hX9 hbl hbA hS dL_law_31 ?_
  refine W.eq (g2 := F0 m 32 ls [.int 2540, .int 30]) rfl ?_
  refine lv_iconst (v := 5) hx hb dL_law_32 (by decide) ?_
  refine lv_isub hx hb dL_law_33 ?_
  refine lv_topi (fun y149 ey149 => ?_)
  obtain rfl : y149 = 2535 := ey149.trans (by decide)
  refine lv_icmp_gt (tgt := 1035) hx hb dL_law_34 (by decide) (fun cz => absurd cz (by decide)) (fun _ => ?_)
  refine lv_aload_n hx hb dL_law_37 rfl (lv_at hl 7 rfl) ?_
  refine lv_iload hx hb dL_law_38 (lv_at hl 0 rfl) ?_
  refine va_sld hx hb hX9 hbl hbA hS (i := 30) (by unfold vp_in; decide) dL_law_40 ?_
  refine W.eq (g2 := F0 m 41 ls [.int 22]) (by rw [show xs (Int32.toNatClampNeg 30) = xs 30 from rfl, hZ 30 (by decide)]; rfl) ?_
  refine lv_bipush (v := 31) hx hb dL_law_41 (by decide) ?_
  refine lv_iand hx hb dL_law_43 ?_
  refine lv_topi (fun y150 ey150 => ?_)
  obtain rfl : y150 = 22 := ey150.trans (by decide)
  refine lv_tableIn (tgt := 928) hx hb dL_law_44 (by decide) (by decide) rfl (by decide) ?_
  refine lv_aload_n hx hb dL_law_928 rfl (lv_at hl 6 rfl) ?_
  refine lv_aload_n hx hb dL_law_929 rfl (lv_at hl 7 rfl) ?_
  refine lv_iload hx hb dL_law_930 (lv_at hl 0 rfl) ?_
  refine lv_iconst (v := 1) hx hb dL_law_932 (by decide) ?_
  refine lv_iadd hx hb dL_law_933 ?_
  refine lv_topi (fun y151 ey151 => ?_)
  obtain rfl : y151 = 31 := ey151.trans (by decide)
  refine va_sld hx hb hX9 hbl hbA hS (i := 31) (by unfold vp_in; decide) dL_law_934 ?_
  refine W.eq (g2 := F0 m 935 ls [.int 0, .ref a1]) (by rw [show xs (Int32.toNatClampNeg 31) = xs 31 from rfl, hZ 31 (by decide)]; rfl) ?_
  refine lv_aload_n hx hb dL_law_935 rfl (lv_at hl 4 rfl) ?_
  have hM154 := k496_addTest l hl9 dC dI z a1 a30 a9 a11 a13 a16 a10 a12 a14 a15 a45 H145.size k31 k17
  obtain ⟨hF152, hC155⟩ := pc_M hM154 hP hD hK hS hX hT hA [21, 22, 23, 24, 25, 26] [5, 6] rfl rfl rfl
  refine va_calli (vx_runSW (As := [.ref a1, .int 0, .ref a30]) (rest := []) ⟨hx, hb, hml, hown, hts⟩ hM154 (vx_cwSW 3 hts (gS q_368 q_369 q_242 q_367) rfl rfl rfl hS_L_addTest ⟨Nat.le_of_ble_eq_true rfl, Nat.le_of_ble_eq_true rfl⟩) ⟨pc_blind, fun U hU hW => ⟨rfl, hC155 U hU hW⟩⟩ rfl rfl hl.1 rfl (lv_room (Nat.le_of_ble_eq_true rfl)) dL_law_936 ⟨(Nat.le_of_ble_eq_true rfl), (Nat.le_of_ble_eq_true rfl)⟩) hS (fun q9 _ h9 => hF152 q9 h9) hF152 (fun r157 u156 t156 H156 L156 ht156 hvm156 hw156 hB156 hz156 hk156 hS => ?_)
  obtain ⟨hP, hD, hK⟩ := pq_jn (wz := [(a33, ce23 k34), (a10, ce10 a9), (a12, ce201 a44), (a14, ce3 z.1), (a15, ce226 a46), (a44, ce200 k49 a47 a71 a88 a105 a122), (a45, ce200 k50 a47 a71 a88 a105 a122), (a46, ce200 k51 a47 a71 a88 a105 a122), (a47, ce38 (z.2.1 0) a48 a47), (a71, ce77 (z.2.1 0) a72 a71), (a88, ce115 (z.2.1 0) a89 a88), (a105, ce165 (z.2.1 0) a106 a105), (a48, ce3 z.1), (a72, ce3 z.1), (a89, ce3 z.1), (a106, ce3 z.1), (a122, ce224 (z.2.1 0) a123 a122), (a123, ce3 z.1), (a27, ce3 z.1), (a29, ce226 a59), (a59, ce200 k62 (z.2.2.1 128) (z.2.2.1 129) (z.2.2.1 130) (z.2.2.1 131) (z.2.2.1 132)), (a18, ce21 a26 a27 a28 a29), (a26, ce201 a58), (a28, ce36 a147), (a58, ce200 k61 a60 a79 a96 a113 a130), (a60, ce49), (a79, ce49), (a96, ce49), (a113, ce49), (a130, ce49), (a147, ce35 k148 (z.2.2.1 128)), (a1, ce16 a9 a10 a11), (a30, ce119 k31), (a9, ce7 a12 a13 a14 a15), (a11, ce254 a9 a16), (a13, ce201 a45), (a16, ce253 k17)]) (tz := [(k34, .double), (k49, .object "java/lang/Object"), (k50, .object "java/lang/Object"), (k51, .object "java/lang/Object"), (k62, .object "java/lang/Object"), (k61, .object "java/lang/Object"), (k148, .object "java/lang/Object"), (k31, .long), (k17, .int)]) hP hD hK [21, 22, 23, 24, 25, 26] [0, 1, 2, 3, 4, 7, 8] rfl hk156 hF152 hB156.1 ht156 hvm156 rfl rfl
  have hG : s.heap.size + 103 ≤ H156.size := Nat.le_trans hG hz156
  refine W.eq (g2 := F0 m 939 ls [.int 0]) (by rw [hw156]) ?_
  refine lv_istore (lv' := [(6, .int 0), (5, .int 30), (7, .int 1), (4, .ref a33), (3, .ref a30), (2, .ref a18), (1, .ref a1), (0, .ref b)]) hx hb dL_law_939 hl (by decide) rfl (fun ls hl => ?_)
  refine lv_aload_n hx hb dL_law_941 rfl (lv_at hl 5 rfl) ?_
  refine lv_aload_n hx hb dL_law_942 rfl (lv_at hl 7 rfl) ?_
  refine lv_iload hx hb dL_law_943 (lv_at hl 1 rfl) ?_
  refine lv_iconst (v := 1) hx hb dL_law_945 (by decide) ?_
  refine lv_iadd hx hb dL_law_946 ?_
  refine lv_topi (fun y158 ey158 => ?_)
  obtain rfl : y158 = 31 := ey158.trans (by decide)
  refine va_sld hx hb hX9 hbl hbA hS (i := 31) (by unfold vp_in; decide) dL_law_947 ?_
  refine W.eq (g2 := F0 m 948 ls [.int 0, .ref a18]) (by rw [show xs (Int32.toNatClampNeg 31) = xs 31 from rfl, hZ 31 (by decide)]; rfl) ?_
  have hM161 := k499_addTest l hl9 dC dI z a18 a26 a28 a58 a147 a60 a79 a96 a113 a130 a27 a29 H156.size k61 k148
  obtain ⟨hF159, hC162⟩ := pc_M hM161 hP hD hK hS hX hT hA [21, 22, 23, 24, 30, 25, 26, 27, 28, 29] [5, 6] rfl rfl rfl
  refine va_calli (va_runV (As := [.int 0]) (rest := []) ⟨hx, hb, hml, hown, hts⟩ hM161 (cwV 1 hts (gV q_378 q_379 q_380 q_60 q_377) rfl rfl rfl hV_X9_addTest ⟨Nat.le_of_ble_eq_true rfl, Nat.le_of_ble_eq_true rfl⟩) ⟨pc_blind, va_recv hK hP (ci := 8) (q := (RX9, TX9, 6)) (q0 := 21) rfl rfl, fun U hU hW => ⟨rfl, hC162 U hU hW⟩⟩ rfl rfl hl.1 rfl (lv_room (Nat.le_of_ble_eq_true rfl)) dL_law_948 ⟨(Nat.le_of_ble_eq_true rfl), (Nat.le_of_ble_eq_true rfl)⟩) hS (fun q9 _ h9 => hF159 q9 h9) hF159 (fun r164 u163 t163 H163 L163 ht163 hvm163 hw163 hB163 hz163 hk163 hS => ?_)
  obtain ⟨hP, hD, hK⟩ := pq_jn (wz := [(a33, ce23 k34), (a10, ce10 a9), (a12, ce201 a44), (a14, ce3 z.1), (a15, ce226 a46), (a44, ce200 k49 a47 a71 a88 a105 a122), (a45, ce200 k50 a47 a71 a88 a105 a122), (a46, ce200 k51 a47 a71 a88 a105 a122), (a47, ce38 (z.2.1 0) a48 a47), (a71, ce77 (z.2.1 0) a72 a71), (a88, ce115 (z.2.1 0) a89 a88), (a105, ce165 (z.2.1 0) a106 a105), (a48, ce3 z.1), (a72, ce3 z.1), (a89, ce3 z.1), (a106, ce3 z.1), (a122, ce224 (z.2.1 0) a123 a122), (a123, ce3 z.1), (a27, ce3 z.1), (a29, ce226 a59), (a59, ce200 k62 (z.2.2.1 128) (z.2.2.1 129) (z.2.2.1 130) (z.2.2.1 131) (z.2.2.1 132)), (a1, ce16 a9 a10 a11), (a30, ce119 k31), (a9, ce7 a12 a13 a14 a15), (a11, ce254 a9 a16), (a13, ce201 a45), (a16, ce253 k17), (a18, ce21 a26 a27 a28 a29), (a26, ce201 a58), (a28, ce69 a147), (a58, ce200 k61 a60 a79 a96 a113 a130), (a147, ce68 k148 (z.2.2.1 128) (z.2.2.1 128)), (a60, ce49), (a79, ce49), (a96, ce49), (a113, ce49), (a130, ce49)]) (tz := [(k34, .double), (k49, .object "java/lang/Object"), (k50, .object "java/lang/Object"), (k51, .object "java/lang/Object"), (k62, .object "java/lang/Object"), (k31, .long), (k17, .int), (k61, .object "java/lang/Object"), (k148, .object "java/lang/Object")]) hP hD hK [21, 22, 23, 24, 30, 25, 26, 27, 28, 29] [0, 1, 2, 3, 4, 7, 8] rfl hk163 hF159 hB163.1 ht163 hvm163 rfl rfl
  have hG : s.heap.size + 104 ≤ H163.size := va_gr (g := 103) (g1 := 1) hG (by rw [← ht163]; exact hB163.2)
  refine W.eq (g2 := F0 m 951 ls [.int 2]) (by rw [hw163]) ?_
  refine W.widen (k := 104) (n := 1060) (by decide) (by decide) ?_
  refine lv_istore (lv' := [(7, .int 2), (6, .int 0), (5, .int 30), (4, .ref a33), (3, .ref a30), (2, .ref a18), (1, .ref a1), (0, .ref b)]) hx hb dL_law_951 hl (by decide) rfl (fun ls hl => ?_)
  refine lv_goto (tgt := 1029) hx hb dL_law_953 (by decide) ?_
  refine lv_iinc (v := 35) (lv' := [(5, .int 35), (7, .int 2), (6, .int 0), (4, .ref a33), (3, .ref a30), (2, .ref a18), (1, .ref a1), (0, .ref b)]) hx hb dL_law_1029 hl (k := 2) rfl (by decide) (by decide) rfl (fun ls hl => ?_)
  refine lv_goto (tgt := 28) hx hb dL_law_1032 (by decide) ?_
  refine lv_iload hx hb dL_law_28 (lv_at hl 0 rfl) ?_
  refine lv_aload_n hx hb dL_law_30 rfl (lv_at hl 7 rfl) ?_
  refine va_slen hx hb hX9 hbl hbA hS dL_law_31 ?_
  refine W.eq (g2 := F0 m 32 ls [.int 2540, .int 35]) rfl ?_
  refine lv_iconst (v := 5) hx hb dL_law_32 (by decide) ?_
  refine lv_isub hx hb dL_law_33 ?_
  refine lv_topi (fun y165 ey165 => ?_)
  obtain rfl : y165 = 2535 := ey165.trans (by decide)
  refine lv_icmp_gt (tgt := 1035) hx hb dL_law_34 (by decide) (fun cz => absurd cz (by decide)) (fun _ => ?_)
  refine lv_aload_n hx hb dL_law_37 rfl (lv_at hl 7 rfl) ?_
  refine lv_iload hx hb dL_law_38 (lv_at hl 0 rfl) ?_
  refine va_sld hx hb hX9 hbl hbA hS (i := 35) (by unfold vp_in; decide) dL_law_40 ?_
  refine W.eq (g2 := F0 m 41 ls [.int 22]) (by rw [show xs (Int32.toNatClampNeg 35) = xs 35 from rfl, hZ 35 (by decide)]; rfl) ?_
  refine lv_bipush (v := 31) hx hb dL_law_41 (by decide) ?_
  refine lv_iand hx hb dL_law_43 ?_
  refine lv_topi (fun y166 ey166 => ?_)
  obtain rfl : y166 = 22 := ey166.trans (by decide)
  refine lv_tableIn (tgt := 928) hx hb dL_law_44 (by decide) (by decide) rfl (by decide) ?_
  refine lv_aload_n hx hb dL_law_928 rfl (lv_at hl 6 rfl) ?_
  refine lv_aload_n hx hb dL_law_929 rfl (lv_at hl 7 rfl) ?_
  refine lv_iload hx hb dL_law_930 (lv_at hl 0 rfl) ?_
  refine lv_iconst (v := 1) hx hb dL_law_932 (by decide) ?_
  refine lv_iadd hx hb dL_law_933 ?_
  refine lv_topi (fun y167 ey167 => ?_)
  obtain rfl : y167 = 36 := ey167.trans (by decide)
  refine va_sld hx hb hX9 hbl hbA hS (i := 36) (by unfold vp_in; decide) dL_law_934 ?_
  refine W.eq (g2 := F0 m 935 ls [.int 0, .ref a1]) (by rw [show xs (Int32.toNatClampNeg 36) = xs 36 from rfl, hZ 36 (by decide)]; rfl) ?_
  refine lv_aload_n hx hb dL_law_935 rfl (lv_at hl 4 rfl) ?_
  have hM170 := k504_addTest l hl9 dC dI z a1 a30 a9 a11 a13 a16 a10 a12 a14 a15 a45 H163.size k31 k17
  obtain ⟨hF168, hC171⟩ := pc_M hM170 hP hD hK hS hX hT hA [21, 22, 23, 24, 25, 26] [5, 6] rfl rfl rfl
  refine va_calli (vx_runSW (As := [.ref a1, .int 0, .ref a30]) (rest := []) ⟨hx, hb, hml, hown, hts⟩ hM170 (vx_cwSW 3 hts (gS q_368 q_369 q_242 q_367) rfl rfl rfl hS_L_addTest ⟨Nat.le_of_ble_eq_true rfl, Nat.le_of_ble_eq_true rfl⟩) ⟨pc_blind, fun U hU hW => ⟨rfl, hC171 U hU hW⟩⟩ rfl rfl hl.1 rfl (lv_room (Nat.le_of_ble_eq_true rfl)) dL_law_936 ⟨(Nat.le_of_ble_eq_true rfl), (Nat.le_of_ble_eq_true rfl)⟩) hS (fun q9 _ h9 => hF168 q9 h9) hF168 (fun r173 u172 t172 H172 L172 ht172 hvm172 hw172 hB172 hz172 hk172 hS => ?_)
  obtain ⟨hP, hD, hK⟩ := pq_jn (wz := [(a33, ce23 k34), (a10, ce10 a9), (a12, ce201 a44), (a14, ce3 z.1), (a15, ce226 a46), (a44, ce200 k49 a47 a71 a88 a105 a122), (a45, ce200 k50 a47 a71 a88 a105 a122), (a46, ce200 k51 a47 a71 a88 a105 a122), (a47, ce38 (z.2.1 0) a48 a47), (a71, ce77 (z.2.1 0) a72 a71), (a88, ce115 (z.2.1 0) a89 a88), (a105, ce165 (z.2.1 0) a106 a105), (a48, ce3 z.1), (a72, ce3 z.1), (a89, ce3 z.1), (a106, ce3 z.1), (a122, ce224 (z.2.1 0) a123 a122), (a123, ce3 z.1), (a27, ce3 z.1), (a29, ce226 a59), (a59, ce200 k62 (z.2.2.1 128) (z.2.2.1 129) (z.2.2.1 130) (z.2.2.1 131) (z.2.2.1 132)), (a18, ce21 a26 a27 a28 a29), (a26, ce201 a58), (a28, ce69 a147), (a58, ce200 k61 a60 a79 a96 a113 a130), (a147, ce68 k148 (z.2.2.1 128) (z.2.2.1 128)), (a60, ce49), (a79, ce49), (a96, ce49), (a113, ce49), (a130, ce49), (a1, ce16 a9 a10 a11), (a30, ce169 k31), (a9, ce7 a12 a13 a14 a15), (a11, ce256 a9 a16), (a13, ce201 a45), (a16, ce255 k17)]) (tz := [(k34, .double), (k49, .object "java/lang/Object"), (k50, .object "java/lang/Object"), (k51, .object "java/lang/Object"), (k62, .object "java/lang/Object"), (k61, .object "java/lang/Object"), (k148, .object "java/lang/Object"), (k31, .long), (k17, .int)]) hP hD hK [21, 22, 23, 24, 25, 26] [0, 1, 2, 3, 4, 7, 8] rfl hk172 hF168 hB172.1 ht172 hvm172 rfl rfl
  have hG : s.heap.size + 104 ≤ H172.size := Nat.le_trans hG hz172
  refine W.eq (g2 := F0 m 939 ls [.int 0]) (by rw [hw172]) ?_
  refine lv_istore (lv' := [(6, .int 0), (5, .int 35), (7, .int 2), (4, .ref a33), (3, .ref a30), (2, .ref a18), (1, .ref a1), (0, .ref b)]) hx hb dL_law_939 hl (by decide) rfl (fun ls hl => ?_)
  refine lv_aload_n hx hb dL_law_941 rfl (lv_at hl 5 rfl) ?_
  refine lv_aload_n hx hb dL_law_942 rfl (lv_at hl 7 rfl) ?_
  refine lv_iload hx hb dL_law_943 (lv_at hl 1 rfl) ?_
  refine lv_iconst (v := 1) hx hb dL_law_945 (by decide) ?_
  refine lv_iadd hx hb dL_law_946 ?_
  refine lv_topi (fun y174 ey174 => ?_)
  obtain rfl : y174 = 36 := ey174.trans (by decide)
  refine va_sld hx hb hX9 hbl hbA hS (i := 36) (by unfold vp_in; decide) dL_law_947 ?_
  refine W.eq (g2 := F0 m 948 ls [.int 0, .ref a18]) (by rw [show xs (Int32.toNatClampNeg 36) = xs 36 from rfl, hZ 36 (by decide)]; rfl) ?_
  have hM177 := k507_addTest l hl9 dC dI z a18 a26 a28 a58 a147 a60 a79 a96 a113 a130 a27 a29 H172.size k61 k148
  obtain ⟨hF175, hC178⟩ := pc_M hM177 hP hD hK hS hX hT hA [21, 22, 23, 24, 25, 26, 27, 28, 29, 30] [5, 6] rfl rfl rfl
  refine va_calli (va_runV (As := [.int 0]) (rest := []) ⟨hx, hb, hml, hown, hts⟩ hM177 (cwV 1 hts (gV q_378 q_379 q_380 q_60 q_377) rfl rfl rfl hV_X9_addTest ⟨Nat.le_of_ble_eq_true rfl, Nat.le_of_ble_eq_true rfl⟩) ⟨pc_blind, va_recv hK hP (ci := 8) (q := (RX9, TX9, 6)) (q0 := 21) rfl rfl, fun U hU hW => ⟨rfl, hC178 U hU hW⟩⟩ rfl rfl hl.1 rfl (lv_room (Nat.le_of_ble_eq_true rfl)) dL_law_948 ⟨(Nat.le_of_ble_eq_true rfl), (Nat.le_of_ble_eq_true rfl)⟩) hS (fun q9 _ h9 => hF175 q9 h9) hF175 (fun r180 u179 t179 H179 L179 ht179 hvm179 hw179 hB179 hz179 hk179 hS => ?_)
  obtain ⟨hP, hD, hK⟩ := pq_jn (wz := [(a33, ce23 k34), (a10, ce10 a9), (a12, ce201 a44), (a14, ce3 z.1), (a15, ce226 a46), (a44, ce200 k49 a47 a71 a88 a105 a122), (a45, ce200 k50 a47 a71 a88 a105 a122), (a46, ce200 k51 a47 a71 a88 a105 a122), (a47, ce38 (z.2.1 0) a48 a47), (a71, ce77 (z.2.1 0) a72 a71), (a88, ce115 (z.2.1 0) a89 a88), (a105, ce165 (z.2.1 0) a106 a105), (a48, ce3 z.1), (a72, ce3 z.1), (a89, ce3 z.1), (a106, ce3 z.1), (a122, ce224 (z.2.1 0) a123 a122), (a123, ce3 z.1), (a27, ce3 z.1), (a29, ce226 a59), (a59, ce200 k62 (z.2.2.1 128) (z.2.2.1 129) (z.2.2.1 130) (z.2.2.1 131) (z.2.2.1 132)), (a1, ce16 a9 a10 a11), (a30, ce169 k31), (a9, ce7 a12 a13 a14 a15), (a11, ce256 a9 a16), (a13, ce201 a45), (a16, ce255 k17), (a18, ce21 a26 a27 a28 a29), (a26, ce201 a58), (a28, ce102 a147), (a58, ce200 k61 a60 a79 a96 a113 a130), (a147, ce101 k148 (z.2.2.1 128) (z.2.2.1 128) (z.2.2.1 128)), (a60, ce49), (a79, ce49), (a96, ce49), (a113, ce49), (a130, ce49)]) (tz := [(k34, .double), (k49, .object "java/lang/Object"), (k50, .object "java/lang/Object"), (k51, .object "java/lang/Object"), (k62, .object "java/lang/Object"), (k31, .long), (k17, .int), (k61, .object "java/lang/Object"), (k148, .object "java/lang/Object")]) hP hD hK [21, 22, 23, 24, 25, 26, 27, 28, 29, 30] [0, 1, 2, 3, 4, 7, 8] rfl hk179 hF175 hB179.1 ht179 hvm179 rfl rfl
  have hG : s.heap.size + 105 ≤ H179.size := va_gr (g := 104) (g1 := 1) hG (by rw [← ht179]; exact hB179.2)
  refine W.eq (g2 := F0 m 951 ls [.int 3]) (by rw [hw179]) ?_
  refine W.widen (k := 105) (n := 1064) (by decide) (by decide) ?_
  refine lv_istore (lv' := [(7, .int 3), (6, .int 0), (5, .int 35), (4, .ref a33), (3, .ref a30), (2, .ref a18), (1, .ref a1), (0, .ref b)]) hx hb dL_law_951 hl (by decide) rfl (fun ls hl => ?_)
  refine lv_goto (tgt := 1029) hx hb dL_law_953 (by decide) ?_
  refine lv_iinc (v := 40) (lv' := [(5, .int 40), (7, .int 3), (6, .int 0), (4, .ref a33), (3, .ref a30), (2, .ref a18), (1, .ref a1), (0, .ref b)]) hx hb dL_law_1029 hl (k := 2) rfl (by decide) (by decide) rfl (fun ls hl => ?_)
  refine lv_goto (tgt := 28) hx hb dL_law_1032 (by decide) ?_
  refine lv_iload hx hb dL_law_28 (lv_at hl 0 rfl) ?_
  refine lv_aload_n hx hb dL_law_30 rfl (lv_at hl 7 rfl) ?_
  refine va_slen hx hb hX9 hbl hbA hS dL_law_31 ?_
  refine W.eq (g2 := F0 m 32 ls [.int 2540, .int 40]) rfl ?_
  refine lv_iconst (v := 5) hx hb dL_law_32 (by decide) ?_
  refine lv_isub hx hb dL_law_33 ?_
  refine lv_topi (fun y181 ey181 => ?_)
  obtain rfl : y181 = 2535 := ey181.trans (by decide)
  refine lv_icmp_gt (tgt := 1035) hx hb dL_law_34 (by decide) (fun cz => absurd cz (by decide)) (fun _ => ?_)
  refine lv_aload_n hx hb dL_law_37 rfl (lv_at hl 7 rfl) ?_
  refine lv_iload hx hb dL_law_38 (lv_at hl 0 rfl) ?_
  refine va_sld hx hb hX9 hbl hbA hS (i := 40) (by unfold vp_in; decide) dL_law_40 ?_
  refine W.eq (g2 := F0 m 41 ls [.int 22]) (by rw [show xs (Int32.toNatClampNeg 40) = xs 40 from rfl, hZ 40 (by decide)]; rfl) ?_
  refine lv_bipush (v := 31) hx hb dL_law_41 (by decide) ?_
  refine lv_iand hx hb dL_law_43 ?_
  refine lv_topi (fun y182 ey182 => ?_)
  obtain rfl : y182 = 22 := ey182.trans (by decide)
  refine lv_tableIn (tgt := 928) hx hb dL_law_44 (by decide) (by decide) rfl (by decide) ?_
  refine lv_aload_n hx hb dL_law_928 rfl (lv_at hl 6 rfl) ?_
  refine lv_aload_n hx hb dL_law_929 rfl (lv_at hl 7 rfl) ?_
  refine lv_iload hx hb dL_law_930 (lv_at hl 0 rfl) ?_
  refine lv_iconst (v := 1) hx hb dL_law_932 (by decide) ?_
  refine lv_iadd hx hb dL_law_933 ?_
  refine lv_topi (fun y183 ey183 => ?_)
  obtain rfl : y183 = 41 := ey183.trans (by decide)
  refine va_sld hx hb hX9 hbl hbA hS (i := 41) (by unfold vp_in; decide) dL_law_934 ?_
  refine W.eq (g2 := F0 m 935 ls [.int 0, .ref a1]) (by rw [show xs (Int32.toNatClampNeg 41) = xs 41 from rfl, hZ 41 (by decide)]; rfl) ?_
  refine lv_aload_n hx hb dL_law_935 rfl (lv_at hl 4 rfl) ?_
  have hM186 := k512_addTest l hl9 dC dI z a1 a30 a9 a11 a13 a16 a10 a12 a14 a15 a45 H179.size k31 k17
  obtain ⟨hF184, hC187⟩ := pc_M hM186 hP hD hK hS hX hT hA [21, 22, 23, 24, 25, 26] [5, 6] rfl rfl rfl
  refine va_calli (vx_runSW (As := [.ref a1, .int 0, .ref a30]) (rest := []) ⟨hx, hb, hml, hown, hts⟩ hM186 (vx_cwSW 3 hts (gS q_368 q_369 q_242 q_367) rfl rfl rfl hS_L_addTest ⟨Nat.le_of_ble_eq_true rfl, Nat.le_of_ble_eq_true rfl⟩) ⟨pc_blind, fun U hU hW => ⟨rfl, hC187 U hU hW⟩⟩ rfl rfl hl.1 rfl (lv_room (Nat.le_of_ble_eq_true rfl)) dL_law_936 ⟨(Nat.le_of_ble_eq_true rfl), (Nat.le_of_ble_eq_true rfl)⟩) hS (fun q9 _ h9 => hF184 q9 h9) hF184 (fun r189 u188 t188 H188 L188 ht188 hvm188 hw188 hB188 hz188 hk188 hS => ?_)
  obtain ⟨hP, hD, hK⟩ := pq_jn (wz := [(a33, ce23 k34), (a10, ce10 a9), (a12, ce201 a44), (a14, ce3 z.1), (a15, ce226 a46), (a44, ce200 k49 a47 a71 a88 a105 a122), (a45, ce200 k50 a47 a71 a88 a105 a122), (a46, ce200 k51 a47 a71 a88 a105 a122), (a47, ce38 (z.2.1 0) a48 a47), (a71, ce77 (z.2.1 0) a72 a71), (a88, ce115 (z.2.1 0) a89 a88), (a105, ce165 (z.2.1 0) a106 a105), (a48, ce3 z.1), (a72, ce3 z.1), (a89, ce3 z.1), (a106, ce3 z.1), (a122, ce224 (z.2.1 0) a123 a122), (a123, ce3 z.1), (a27, ce3 z.1), (a29, ce226 a59), (a59, ce200 k62 (z.2.2.1 128) (z.2.2.1 129) (z.2.2.1 130) (z.2.2.1 131) (z.2.2.1 132)), (a18, ce21 a26 a27 a28 a29), (a26, ce201 a58), (a28, ce102 a147), (a58, ce200 k61 a60 a79 a96 a113 a130), (a147, ce101 k148 (z.2.2.1 128) (z.2.2.1 128) (z.2.2.1 128)), (a60, ce49), (a79, ce49), (a96, ce49), (a113, ce49), (a130, ce49), (a1, ce16 a9 a10 a11), (a30, ce228 k31), (a9, ce7 a12 a13 a14 a15), (a11, ce258 a9 a16), (a13, ce201 a45), (a16, ce257 k17)]) (tz := [(k34, .double), (k49, .object "java/lang/Object"), (k50, .object "java/lang/Object"), (k51, .object "java/lang/Object"), (k62, .object "java/lang/Object"), (k61, .object "java/lang/Object"), (k148, .object "java/lang/Object"), (k31, .long), (k17, .int)]) hP hD hK [21, 22, 23, 24, 25, 26] [0, 1, 2, 3, 4, 7, 8] rfl hk188 hF184 hB188.1 ht188 hvm188 rfl rfl
  have hG : s.heap.size + 105 ≤ H188.size := Nat.le_trans hG hz188
  refine W.eq (g2 := F0 m 939 ls [.int 0]) (by rw [hw188]) ?_
  refine lv_istore (lv' := [(6, .int 0), (5, .int 40), (7, .int 3), (4, .ref a33), (3, .ref a30), (2, .ref a18), (1, .ref a1), (0, .ref b)]) hx hb dL_law_939 hl (by decide) rfl (fun ls hl => ?_)
  refine lv_aload_n hx hb dL_law_941 rfl (lv_at hl 5 rfl) ?_
  refine lv_aload_n hx hb dL_law_942 rfl (lv_at hl 7 rfl) ?_
  refine lv_iload hx hb dL_law_943 (lv_at hl 1 rfl) ?_
  refine lv_iconst (v := 1) hx hb dL_law_945 (by decide) ?_
  refine lv_iadd hx hb dL_law_946 ?_
  refine lv_topi (fun y190 ey190 => ?_)
  obtain rfl : y190 = 41 := ey190.trans (by decide)
  refine va_sld hx hb hX9 hbl hbA hS (i := 41) (by unfold vp_in; decide) dL_law_947 ?_
  refine W.eq (g2 := F0 m 948 ls [.int 0, .ref a18]) (by rw [show xs (Int32.toNatClampNeg 41) = xs 41 from rfl, hZ 41 (by decide)]; rfl) ?_
  have hM193 := k515_addTest l hl9 dC dI z a18 a26 a28 a58 a147 a60 a79 a96 a113 a130 a27 a29 H188.size k61 k148
  obtain ⟨hF191, hC194⟩ := pc_M hM193 hP hD hK hS hX hT hA [21, 22, 23, 24, 25, 26, 27, 28, 29, 30] [5, 6] rfl rfl rfl
  refine va_calli (va_runV (As := [.int 0]) (rest := []) ⟨hx, hb, hml, hown, hts⟩ hM193 (cwV 1 hts (gV q_378 q_379 q_380 q_60 q_377) rfl rfl rfl hV_X9_addTest ⟨Nat.le_of_ble_eq_true rfl, Nat.le_of_ble_eq_true rfl⟩) ⟨pc_blind, va_recv hK hP (ci := 8) (q := (RX9, TX9, 6)) (q0 := 21) rfl rfl, fun U hU hW => ⟨rfl, hC194 U hU hW⟩⟩ rfl rfl hl.1 rfl (lv_room (Nat.le_of_ble_eq_true rfl)) dL_law_948 ⟨(Nat.le_of_ble_eq_true rfl), (Nat.le_of_ble_eq_true rfl)⟩) hS (fun q9 _ h9 => hF191 q9 h9) hF191 (fun r196 u195 t195 H195 L195 ht195 hvm195 hw195 hB195 hz195 hk195 hS => ?_)
  obtain ⟨hP, hD, hK⟩ := pq_jn (wz := [(a33, ce23 k34), (a10, ce10 a9), (a12, ce201 a44), (a14, ce3 z.1), (a15, ce226 a46), (a44, ce200 k49 a47 a71 a88 a105 a122), (a45, ce200 k50 a47 a71 a88 a105 a122), (a46, ce200 k51 a47 a71 a88 a105 a122), (a47, ce38 (z.2.1 0) a48 a47), (a71, ce77 (z.2.1 0) a72 a71), (a88, ce115 (z.2.1 0) a89 a88), (a105, ce165 (z.2.1 0) a106 a105), (a48, ce3 z.1), (a72, ce3 z.1), (a89, ce3 z.1), (a106, ce3 z.1), (a122, ce224 (z.2.1 0) a123 a122), (a123, ce3 z.1), (a27, ce3 z.1), (a29, ce226 a59), (a59, ce200 k62 (z.2.2.1 128) (z.2.2.1 129) (z.2.2.1 130) (z.2.2.1 131) (z.2.2.1 132)), (a1, ce16 a9 a10 a11), (a30, ce228 k31), (a9, ce7 a12 a13 a14 a15), (a11, ce258 a9 a16), (a13, ce201 a45), (a16, ce257 k17), (a18, ce21 a26 a27 a28 a29), (a26, ce201 a58), (a28, ce147 a147), (a58, ce200 k61 a60 a79 a96 a113 a130), (a147, ce146 k148 (z.2.2.1 128) (z.2.2.1 128) (z.2.2.1 128) (z.2.2.1 128)), (a60, ce49), (a79, ce49), (a96, ce49), (a113, ce49), (a130, ce49)]) (tz := [(k34, .double), (k49, .object "java/lang/Object"), (k50, .object "java/lang/Object"), (k51, .object "java/lang/Object"), (k62, .object "java/lang/Object"), (k31, .long), (k17, .int), (k61, .object "java/lang/Object"), (k148, .object "java/lang/Object")]) hP hD hK [21, 22, 23, 24, 25, 26, 27, 28, 29, 30] [0, 1, 2, 3, 4, 7, 8] rfl hk195 hF191 hB195.1 ht195 hvm195 rfl rfl
  have hG : s.heap.size + 106 ≤ H195.size := va_gr (g := 105) (g1 := 1) hG (by rw [← ht195]; exact hB195.2)
  refine W.eq (g2 := F0 m 951 ls [.int 4]) (by rw [hw195]) ?_
  refine W.widen (k := 106) (n := 1068) (by decide) (by decide) ?_
  refine lv_istore (lv' := [(7, .int 4), (6, .int 0), (5, .int 40), (4, .ref a33), (3, .ref a30), (2, .ref a18), (1, .ref a1), (0, .ref b)]) hx hb dL_law_951 hl (by decide) rfl (fun ls hl => ?_)
  refine lv_goto (tgt := 1029) hx hb dL_law_953 (by decide) ?_
  refine lv_iinc (v := 45) (lv' := [(5, .int 45), (7, .int 4), (6, .int 0), (4, .ref a33), (3, .ref a30), (2, .ref a18), (1, .ref a1), (0, .ref b)]) hx hb dL_law_1029 hl (k := 2) rfl (by decide) (by decide) rfl (fun ls hl => ?_)
  refine lv_goto (tgt := 28) hx hb dL_law_1032 (by decide) ?_
  refine lv_iload hx hb dL_law_28 (lv_at hl 0 rfl) ?_
  refine lv_aload_n hx hb dL_law_30 rfl (lv_at hl 7 rfl) ?_
  refine va_slen hx hb hX9 hbl hbA hS dL_law_31 ?_
  refine W.eq (g2 := F0 m 32 ls [.int 2540, .int 45]) rfl ?_
  refine lv_iconst (v := 5) hx hb dL_law_32 (by decide) ?_
  refine lv_isub hx hb dL_law_33 ?_
  refine lv_topi (fun y197 ey197 => ?_)
  obtain rfl : y197 = 2535 := ey197.trans (by decide)
  refine lv_icmp_gt (tgt := 1035) hx hb dL_law_34 (by decide) (fun cz => absurd cz (by decide)) (fun _ => ?_)
  refine lv_aload_n hx hb dL_law_37 rfl (lv_at hl 7 rfl) ?_
  refine lv_iload hx hb dL_law_38 (lv_at hl 0 rfl) ?_
  refine va_sld hx hb hX9 hbl hbA hS (i := 45) (by unfold vp_in; decide) dL_law_40 ?_
  refine W.eq (g2 := F0 m 41 ls [.int 22]) (by rw [show xs (Int32.toNatClampNeg 45) = xs 45 from rfl, hZ 45 (by decide)]; rfl) ?_
  refine lv_bipush (v := 31) hx hb dL_law_41 (by decide) ?_
  refine lv_iand hx hb dL_law_43 ?_
  refine lv_topi (fun y198 ey198 => ?_)
  obtain rfl : y198 = 22 := ey198.trans (by decide)
  refine lv_tableIn (tgt := 928) hx hb dL_law_44 (by decide) (by decide) rfl (by decide) ?_
  refine lv_aload_n hx hb dL_law_928 rfl (lv_at hl 6 rfl) ?_
  refine lv_aload_n hx hb dL_law_929 rfl (lv_at hl 7 rfl) ?_
  refine lv_iload hx hb dL_law_930 (lv_at hl 0 rfl) ?_
  refine lv_iconst (v := 1) hx hb dL_law_932 (by decide) ?_
  refine lv_iadd hx hb dL_law_933 ?_
  refine lv_topi (fun y199 ey199 => ?_)
  obtain rfl : y199 = 46 := ey199.trans (by decide)
  refine va_sld hx hb hX9 hbl hbA hS (i := 46) (by unfold vp_in; decide) dL_law_934 ?_
  refine W.eq (g2 := F0 m 935 ls [.int 0, .ref a1]) (by rw [show xs (Int32.toNatClampNeg 46) = xs 46 from rfl, hZ 46 (by decide)]; rfl) ?_
  refine lv_aload_n hx hb dL_law_935 rfl (lv_at hl 4 rfl) ?_
  have hM202 := k520_addTest l hl9 dC dI z a1 a30 a9 a11 a13 a16 a10 a12 a14 a15 a45 H195.size k31 k17
  obtain ⟨hF200, hC203⟩ := pc_M hM202 hP hD hK hS hX hT hA [21, 22, 23, 24, 25, 26] [5, 6] rfl rfl rfl
  refine va_calli (vx_runSW (As := [.ref a1, .int 0, .ref a30]) (rest := []) ⟨hx, hb, hml, hown, hts⟩ hM202 (vx_cwSW 3 hts (gS q_368 q_369 q_242 q_367) rfl rfl rfl hS_L_addTest ⟨Nat.le_of_ble_eq_true rfl, Nat.le_of_ble_eq_true rfl⟩) ⟨pc_blind, fun U hU hW => ⟨rfl, hC203 U hU hW⟩⟩ rfl rfl hl.1 rfl (lv_room (Nat.le_of_ble_eq_true rfl)) dL_law_936 ⟨(Nat.le_of_ble_eq_true rfl), (Nat.le_of_ble_eq_true rfl)⟩) hS (fun q9 _ h9 => hF200 q9 h9) hF200 (fun r205 u204 t204 H204 L204 ht204 hvm204 hw204 hB204 hz204 hk204 hS => ?_)
  obtain ⟨hP, hD, hK⟩ := pq_jn (wz := [(a33, ce23 k34), (a10, ce10 a9), (a12, ce201 a44), (a14, ce3 z.1), (a15, ce226 a46), (a44, ce200 k49 a47 a71 a88 a105 a122), (a45, ce200 k50 a47 a71 a88 a105 a122), (a46, ce200 k51 a47 a71 a88 a105 a122), (a47, ce38 (z.2.1 0) a48 a47), (a71, ce77 (z.2.1 0) a72 a71), (a88, ce115 (z.2.1 0) a89 a88), (a105, ce165 (z.2.1 0) a106 a105), (a48, ce3 z.1), (a72, ce3 z.1), (a89, ce3 z.1), (a106, ce3 z.1), (a122, ce224 (z.2.1 0) a123 a122), (a123, ce3 z.1), (a27, ce3 z.1), (a29, ce226 a59), (a59, ce200 k62 (z.2.2.1 128) (z.2.2.1 129) (z.2.2.1 130) (z.2.2.1 131) (z.2.2.1 132)), (a18, ce21 a26 a27 a28 a29), (a26, ce201 a58), (a28, ce147 a147), (a58, ce200 k61 a60 a79 a96 a113 a130), (a147, ce146 k148 (z.2.2.1 128) (z.2.2.1 128) (z.2.2.1 128) (z.2.2.1 128)), (a60, ce49), (a79, ce49), (a96, ce49), (a113, ce49), (a130, ce49), (a1, ce16 a9 a10 a11), (a30, ce262 k31), (a9, ce7 a12 a13 a14 a15), (a11, ce260 a9 a16), (a13, ce201 a45), (a16, ce259 k17)]) (tz := [(k34, .double), (k49, .object "java/lang/Object"), (k50, .object "java/lang/Object"), (k51, .object "java/lang/Object"), (k62, .object "java/lang/Object"), (k61, .object "java/lang/Object"), (k148, .object "java/lang/Object"), (k31, .long), (k17, .int)]) hP hD hK [21, 22, 23, 24, 25, 26] [0, 1, 2, 3, 4, 7, 8] rfl hk204 hF200 hB204.1 ht204 hvm204 rfl rfl
  have hG : s.heap.size + 106 ≤ H204.size := Nat.le_trans hG hz204
  refine W.eq (g2 := F0 m 939 ls [.int 0]) (by rw [hw204]) ?_
  refine lv_istore (lv' := [(6, .int 0), (5, .int 45), (7, .int 4), (4, .ref a33), (3, .ref a30), (2, .ref a18), (1, .ref a1), (0, .ref b)]) hx hb dL_law_939 hl (by decide) rfl (fun ls hl => ?_)
  refine lv_aload_n hx hb dL_law_941 rfl (lv_at hl 5 rfl) ?_
  refine lv_aload_n hx hb dL_law_942 rfl (lv_at hl 7 rfl) ?_
  refine lv_iload hx hb dL_law_943 (lv_at hl 1 rfl) ?_
  refine lv_iconst (v := 1) hx hb dL_law_945 (by decide) ?_
  refine lv_iadd hx hb dL_law_946 ?_
  refine lv_topi (fun y206 ey206 => ?_)
  obtain rfl : y206 = 46 := ey206.trans (by decide)
  refine va_sld hx hb hX9 hbl hbA hS (i := 46) (by unfold vp_in; decide) dL_law_947 ?_
  refine W.eq (g2 := F0 m 948 ls [.int 0, .ref a18]) (by rw [show xs (Int32.toNatClampNeg 46) = xs 46 from rfl, hZ 46 (by decide)]; rfl) ?_
  have hM209 := k523_addTest l hl9 dC dI z a18 a26 a28 a58 a147 a60 a79 a96 a113 a130 a27 a29 H204.size k61 k148
  obtain ⟨hF207, hC210⟩ := pc_M hM209 hP hD hK hS hX hT hA [21, 22, 23, 24, 25, 26, 27, 28, 29, 30] [5, 6] rfl rfl rfl
  refine va_calli (va_runV (As := [.int 0]) (rest := []) ⟨hx, hb, hml, hown, hts⟩ hM209 (cwV 1 hts (gV q_378 q_379 q_380 q_60 q_377) rfl rfl rfl hV_X9_addTest ⟨Nat.le_of_ble_eq_true rfl, Nat.le_of_ble_eq_true rfl⟩) ⟨pc_blind, va_recv hK hP (ci := 8) (q := (RX9, TX9, 6)) (q0 := 21) rfl rfl, fun U hU hW => ⟨rfl, hC210 U hU hW⟩⟩ rfl rfl hl.1 rfl (lv_room (Nat.le_of_ble_eq_true rfl)) dL_law_948 ⟨(Nat.le_of_ble_eq_true rfl), (Nat.le_of_ble_eq_true rfl)⟩) hS (fun q9 _ h9 => hF207 q9 h9) hF207 (fun r212 u211 t211 H211 L211 ht211 hvm211 hw211 hB211 hz211 hk211 hS => ?_)
  obtain ⟨hP, hD, hK⟩ := pq_jn (wz := [(a33, ce23 k34), (a10, ce10 a9), (a12, ce201 a44), (a14, ce3 z.1), (a15, ce226 a46), (a44, ce200 k49 a47 a71 a88 a105 a122), (a45, ce200 k50 a47 a71 a88 a105 a122), (a46, ce200 k51 a47 a71 a88 a105 a122), (a47, ce38 (z.2.1 0) a48 a47), (a71, ce77 (z.2.1 0) a72 a71), (a88, ce115 (z.2.1 0) a89 a88), (a105, ce165 (z.2.1 0) a106 a105), (a48, ce3 z.1), (a72, ce3 z.1), (a89, ce3 z.1), (a106, ce3 z.1), (a122, ce224 (z.2.1 0) a123 a122), (a123, ce3 z.1), (a27, ce3 z.1), (a29, ce226 a59), (a59, ce200 k62 (z.2.2.1 128) (z.2.2.1 129) (z.2.2.1 130) (z.2.2.1 131) (z.2.2.1 132)), (a1, ce16 a9 a10 a11), (a30, ce262 k31), (a9, ce7 a12 a13 a14 a15), (a11, ce260 a9 a16), (a13, ce201 a45), (a16, ce259 k17), (a18, ce21 a26 a27 a28 a29), (a26, ce201 a58), (a28, ce201 a147), (a58, ce200 k61 a60 a79 a96 a113 a130), (a147, ce200 k148 (z.2.2.1 128) (z.2.2.1 128) (z.2.2.1 128) (z.2.2.1 128) (z.2.2.1 128)), (a60, ce49), (a79, ce49), (a96, ce49), (a113, ce49), (a130, ce49)]) (tz := [(k34, .double), (k49, .object "java/lang/Object"), (k50, .object "java/lang/Object"), (k51, .object "java/lang/Object"), (k62, .object "java/lang/Object"), (k31, .long), (k17, .int), (k61, .object "java/lang/Object"), (k148, .object "java/lang/Object")]) hP hD hK [21, 22, 23, 24, 25, 26, 27, 28, 29, 30] [0, 1, 2, 3, 4, 7, 8] rfl hk211 hF207 hB211.1 ht211 hvm211 rfl rfl
  have hG : s.heap.size + 107 ≤ H211.size := va_gr (g := 106) (g1 := 1) hG (by rw [← ht211]; exact hB211.2)
  refine W.eq (g2 := F0 m 951 ls [.int 5]) (by rw [hw211]) ?_
  refine W.widen (k := 107) (n := 1072) (by decide) (by decide) ?_
  refine lv_istore (lv' := [(7, .int 5), (6, .int 0), (5, .int 45), (4, .ref a33), (3, .ref a30), (2, .ref a18), (1, .ref a1), (0, .ref b)]) hx hb dL_law_951 hl (by decide) rfl (fun ls hl => ?_)
  refine lv_goto (tgt := 1029) hx hb dL_law_953 (by decide) ?_
  refine lv_iinc (v := 50) (lv' := [(5, .int 50), (7, .int 5), (6, .int 0), (4, .ref a33), (3, .ref a30), (2, .ref a18), (1, .ref a1), (0, .ref b)]) hx hb dL_law_1029 hl (k := 2) rfl (by decide) (by decide) rfl (fun ls hl => ?_)
  refine lv_goto (tgt := 28) hx hb dL_law_1032 (by decide) ?_
  refine lv_iload hx hb dL_law_28 (lv_at hl 0 rfl) ?_
  refine lv_aload_n hx hb dL_law_30 rfl (lv_at hl 7 rfl) ?_
  refine va_slen hx hb hX9 hbl hbA hS dL_law_31 ?_
  refine W.eq (g2 := F0 m 32 ls [.int 2540, .int 50]) rfl ?_
  refine lv_iconst (v := 5) hx hb dL_law_32 (by decide) ?_
  refine lv_isub hx hb dL_law_33 ?_
  refine lv_topi (fun y213 ey213 => ?_)
  obtain rfl : y213 = 2535 := ey213.trans (by decide)
  refine lv_icmp_gt (tgt := 1035) hx hb dL_law_34 (by decide) (fun cz => absurd cz (by decide)) (fun _ => ?_)
  refine lv_aload_n hx hb dL_law_37 rfl (lv_at hl 7 rfl) ?_
  refine lv_iload hx hb dL_law_38 (lv_at hl 0 rfl) ?_
  refine va_sld hx hb hX9 hbl hbA hS (i := 50) (by unfold vp_in; decide) dL_law_40 ?_
  refine W.eq (g2 := F0 m 41 ls [.int 22]) (by rw [show xs (Int32.toNatClampNeg 50) = xs 50 from rfl, hZ 50 (by decide)]; rfl) ?_
  refine lv_bipush (v := 31) hx hb dL_law_41 (by decide) ?_
  refine lv_iand hx hb dL_law_43 ?_
  refine lv_topi (fun y214 ey214 => ?_)
  obtain rfl : y214 = 22 := ey214.trans (by decide)
  refine lv_tableIn (tgt := 928) hx hb dL_law_44 (by decide) (by decide) rfl (by decide) ?_
  refine lv_aload_n hx hb dL_law_928 rfl (lv_at hl 6 rfl) ?_
  refine lv_aload_n hx hb dL_law_929 rfl (lv_at hl 7 rfl) ?_
  refine lv_iload hx hb dL_law_930 (lv_at hl 0 rfl) ?_
  refine lv_iconst (v := 1) hx hb dL_law_932 (by decide) ?_
  refine lv_iadd hx hb dL_law_933 ?_
  refine lv_topi (fun y215 ey215 => ?_)
  obtain rfl : y215 = 51 := ey215.trans (by decide)
  refine va_sld hx hb hX9 hbl hbA hS (i := 51) (by unfold vp_in; decide) dL_law_934 ?_
  refine W.eq (g2 := F0 m 935 ls [.int 0, .ref a1]) (by rw [show xs (Int32.toNatClampNeg 51) = xs 51 from rfl, hZ 51 (by decide)]; rfl) ?_
  refine lv_aload_n hx hb dL_law_935 rfl (lv_at hl 4 rfl) ?_
  have hM218 := k528_addTest l hl9 dC dI z a1 a30 a9 a11 a13 a16 a10 a12 a14 a15 a45 H211.size k31 k17
  obtain ⟨hF216, hC219⟩ := pc_M hM218 hP hD hK hS hX hT hA [21, 22, 23, 24, 25, 26] [5, 6] rfl rfl rfl
  refine va_calli (vx_runSW (As := [.ref a1, .int 0, .ref a30]) (rest := []) ⟨hx, hb, hml, hown, hts⟩ hM218 (vx_cwSW 3 hts (gS q_368 q_369 q_242 q_367) rfl rfl rfl hS_L_addTest ⟨Nat.le_of_ble_eq_true rfl, Nat.le_of_ble_eq_true rfl⟩) ⟨pc_blind, fun U hU hW => ⟨rfl, hC219 U hU hW⟩⟩ rfl rfl hl.1 rfl (lv_room (Nat.le_of_ble_eq_true rfl)) dL_law_936 ⟨(Nat.le_of_ble_eq_true rfl), (Nat.le_of_ble_eq_true rfl)⟩) hS (fun q9 _ h9 => hF216 q9 h9) hF216 (fun r221 u220 t220 H220 L220 ht220 hvm220 hw220 hB220 hz220 hk220 hS => ?_)
  obtain ⟨hP, hD, hK⟩ := pq_jn (wz := [(a33, ce23 k34), (a10, ce10 a9), (a12, ce201 a44), (a14, ce3 z.1), (a15, ce226 a46), (a44, ce200 k49 a47 a71 a88 a105 a122), (a45, ce200 k50 a47 a71 a88 a105 a122), (a46, ce200 k51 a47 a71 a88 a105 a122), (a47, ce38 (z.2.1 0) a48 a47), (a71, ce77 (z.2.1 0) a72 a71), (a88, ce115 (z.2.1 0) a89 a88), (a105, ce165 (z.2.1 0) a106 a105), (a48, ce3 z.1), (a72, ce3 z.1), (a89, ce3 z.1), (a106, ce3 z.1), (a122, ce224 (z.2.1 0) a123 a122), (a123, ce3 z.1), (a27, ce3 z.1), (a29, ce226 a59), (a59, ce200 k62 (z.2.2.1 128) (z.2.2.1 129) (z.2.2.1 130) (z.2.2.1 131) (z.2.2.1 132)), (a18, ce21 a26 a27 a28 a29), (a26, ce201 a58), (a28, ce201 a147), (a58, ce200 k61 a60 a79 a96 a113 a130), (a147, ce200 k148 (z.2.2.1 128) (z.2.2.1 128) (z.2.2.1 128) (z.2.2.1 128) (z.2.2.1 128)), (a60, ce49), (a79, ce49), (a96, ce49), (a113, ce49), (a130, ce49), (a1, ce16 a9 a10 a11), (a30, ce266 k31), (a9, ce7 a12 a13 a14 a15), (a11, ce264 a9 a16), (a13, ce201 a45), (a16, ce263 k17)]) (tz := [(k34, .double), (k49, .object "java/lang/Object"), (k50, .object "java/lang/Object"), (k51, .object "java/lang/Object"), (k62, .object "java/lang/Object"), (k61, .object "java/lang/Object"), (k148, .object "java/lang/Object"), (k31, .long), (k17, .int)]) hP hD hK [21, 22, 23, 24, 25, 26] [0, 1, 2, 3, 4, 7, 8] rfl hk220 hF216 hB220.1 ht220 hvm220 rfl rfl
  have hG : s.heap.size + 107 ≤ H220.size := Nat.le_trans hG hz220
  refine W.eq (g2 := F0 m 939 ls [.int 0]) (by rw [hw220]) ?_
  refine lv_istore (lv' := [(6, .int 0), (5, .int 50), (7, .int 5), (4, .ref a33), (3, .ref a30), (2, .ref a18), (1, .ref a1), (0, .ref b)]) hx hb dL_law_939 hl (by decide) rfl (fun ls hl => ?_)
  refine lv_aload_n hx hb dL_law_941 rfl (lv_at hl 5 rfl) ?_
  refine lv_aload_n hx hb dL_law_942 rfl (lv_at hl 7 rfl) ?_
  refine lv_iload hx hb dL_law_943 (lv_at hl 1 rfl) ?_
  refine lv_iconst (v := 1) hx hb dL_law_945 (by decide) ?_
  refine lv_iadd hx hb dL_law_946 ?_
  refine lv_topi (fun y222 ey222 => ?_)
  obtain rfl : y222 = 51 := ey222.trans (by decide)
  refine va_sld hx hb hX9 hbl hbA hS (i := 51) (by unfold vp_in; decide) dL_law_947 ?_
  refine W.eq (g2 := F0 m 948 ls [.int 0, .ref a18]) (by rw [show xs (Int32.toNatClampNeg 51) = xs 51 from rfl, hZ 51 (by decide)]; rfl) ?_
  have hM225 := k531_addTest l hl9 dC dI z a18 a26 a28 a58 a147 a60 a79 a96 a113 a130 a27 a29 H220.size k61 k148
  obtain ⟨hF223, hC226⟩ := pc_M hM225 hP hD hK hS hX hT hA [21, 22, 23, 24, 25, 26, 27, 28, 29, 30] [5, 6] rfl rfl rfl
  refine va_calli (va_runV (As := [.int 0]) (rest := []) ⟨hx, hb, hml, hown, hts⟩ hM225 (cwV 1 hts (gV q_378 q_379 q_380 q_60 q_377) rfl rfl rfl hV_X9_addTest ⟨Nat.le_of_ble_eq_true rfl, Nat.le_of_ble_eq_true rfl⟩) ⟨pc_blind, va_recv hK hP (ci := 8) (q := (RX9, TX9, 6)) (q0 := 21) rfl rfl, fun U hU hW => ⟨rfl, hC226 U hU hW⟩⟩ rfl rfl hl.1 rfl (lv_room (Nat.le_of_ble_eq_true rfl)) dL_law_948 ⟨(Nat.le_of_ble_eq_true rfl), (Nat.le_of_ble_eq_true rfl)⟩) hS (fun q9 _ h9 => hF223 q9 h9) hF223 (fun r228 u227 t227 H227 L227 ht227 hvm227 hw227 hB227 hz227 hk227 hS => ?_)
  obtain ⟨hP, hD, hK⟩ := pq_jn (wz := [(a33, ce23 k34), (a10, ce10 a9), (a12, ce201 a44), (a14, ce3 z.1), (a15, ce226 a46), (a44, ce200 k49 a47 a71 a88 a105 a122), (a45, ce200 k50 a47 a71 a88 a105 a122), (a46, ce200 k51 a47 a71 a88 a105 a122), (a47, ce38 (z.2.1 0) a48 a47), (a71, ce77 (z.2.1 0) a72 a71), (a88, ce115 (z.2.1 0) a89 a88), (a105, ce165 (z.2.1 0) a106 a105), (a48, ce3 z.1), (a72, ce3 z.1), (a89, ce3 z.1), (a106, ce3 z.1), (a122, ce224 (z.2.1 0) a123 a122), (a123, ce3 z.1), (a27, ce3 z.1), (a29, ce226 a59), (a59, ce200 k62 (z.2.2.1 128) (z.2.2.1 129) (z.2.2.1 130) (z.2.2.1 131) (z.2.2.1 132)), (a1, ce16 a9 a10 a11), (a30, ce266 k31), (a9, ce7 a12 a13 a14 a15), (a11, ce264 a9 a16), (a13, ce201 a45), (a16, ce263 k17), (a18, ce21 a26 a27 a28 a29), (a26, ce201 a58), (a28, ce269 a147), (a58, ce200 k61 a60 a79 a96 a113 a130), (a147, ce268 k148 (z.2.2.1 128) (z.2.2.1 128) (z.2.2.1 128) (z.2.2.1 128) (z.2.2.1 128) (z.2.2.1 128)), (a60, ce49), (a79, ce49), (a96, ce49), (a113, ce49), (a130, ce49)]) (tz := [(k34, .double), (k49, .object "java/lang/Object"), (k50, .object "java/lang/Object"), (k51, .object "java/lang/Object"), (k62, .object "java/lang/Object"), (k31, .long), (k17, .int), (k61, .object "java/lang/Object"), (k148, .object "java/lang/Object")]) hP hD hK [21, 22, 23, 24, 25, 26, 27, 28, 29, 30] [0, 1, 2, 3, 4, 7, 8] rfl hk227 hF223 hB227.1 ht227 hvm227 rfl rfl
  have hG : s.heap.size + 108 ≤ H227.size := va_gr (g := 107) (g1 := 1) hG (by rw [← ht227]; exact hB227.2)
  refine W.eq (g2 := F0 m 951 ls [.int 6]) (by rw [hw227]) ?_
  refine W.widen (k := 108) (n := 1076) (by decide) (by decide) ?_
  refine lv_istore (lv' := [(7, .int 6), (6, .int 0), (5, .int 50), (4, .ref a33), (3, .ref a30), (2, .ref a18), (1, .ref a1), (0, .ref b)]) hx hb dL_law_951 hl (by decide) rfl (fun ls hl => ?_)
  refine lv_goto (tgt := 1029) hx hb dL_law_953 (by decide) ?_
  refine lv_iinc (v := 55) (lv' := [(5, .int 55), (7, .int 6), (6, .int 0), (4, .ref a33), (3, .ref a30), (2, .ref a18), (1, .ref a1), (0, .ref b)]) hx hb dL_law_1029 hl (k := 2) rfl (by decide) (by decide) rfl (fun ls hl => ?_)
  refine lv_goto (tgt := 28) hx hb dL_law_1032 (by decide) ?_
  refine lv_iload hx hb dL_law_28 (lv_at hl 0 rfl) ?_
  refine lv_aload_n hx hb dL_law_30 rfl (lv_at hl 7 rfl) ?_
  refine va_slen hx hb hX9 hbl hbA hS dL_law_31 ?_
  refine W.eq (g2 := F0 m 32 ls [.int 2540, .int 55]) rfl ?_
  refine lv_iconst (v := 5) hx hb dL_law_32 (by decide) ?_
  refine lv_isub hx hb dL_law_33 ?_
  refine lv_topi (fun y229 ey229 => ?_)
  obtain rfl : y229 = 2535 := ey229.trans (by decide)
  refine lv_icmp_gt (tgt := 1035) hx hb dL_law_34 (by decide) (fun cz => absurd cz (by decide)) (fun _ => ?_)
  refine lv_aload_n hx hb dL_law_37 rfl (lv_at hl 7 rfl) ?_
  refine lv_iload hx hb dL_law_38 (lv_at hl 0 rfl) ?_
  refine va_sld hx hb hX9 hbl hbA hS (i := 55) (by unfold vp_in; decide) dL_law_40 ?_
  refine W.eq (g2 := F0 m 41 ls [.int 22]) (by rw [show xs (Int32.toNatClampNeg 55) = xs 55 from rfl, hZ 55 (by decide)]; rfl) ?_
  refine lv_bipush (v := 31) hx hb dL_law_41 (by decide) ?_
  refine lv_iand hx hb dL_law_43 ?_
  refine lv_topi (fun y230 ey230 => ?_)
  obtain rfl : y230 = 22 := ey230.trans (by decide)
  refine lv_tableIn (tgt := 928) hx hb dL_law_44 (by decide) (by decide) rfl (by decide) ?_
  refine lv_aload_n hx hb dL_law_928 rfl (lv_at hl 6 rfl) ?_
  refine lv_aload_n hx hb dL_law_929 rfl (lv_at hl 7 rfl) ?_
  refine lv_iload hx hb dL_law_930 (lv_at hl 0 rfl) ?_
  refine lv_iconst (v := 1) hx hb dL_law_932 (by decide) ?_
  refine lv_iadd hx hb dL_law_933 ?_
  refine lv_topi (fun y231 ey231 => ?_)
  obtain rfl : y231 = 56 := ey231.trans (by decide)
  refine va_sld hx hb hX9 hbl hbA hS (i := 56) (by unfold vp_in; decide) dL_law_934 ?_
  refine W.eq (g2 := F0 m 935 ls [.int 0, .ref a1]) (by rw [show xs (Int32.toNatClampNeg 56) = xs 56 from rfl, hZ 56 (by decide)]; rfl) ?_
  refine lv_aload_n hx hb dL_law_935 rfl (lv_at hl 4 rfl) ?_
  have hM234 := k536_addTest l hl9 dC dI z a1 a30 a9 a11 a13 a16 a10 a12 a14 a15 a45 H227.size k31 k17
  obtain ⟨hF232, hC235⟩ := pc_M hM234 hP hD hK hS hX hT hA [21, 22, 23, 24, 25, 26] [5, 6] rfl rfl rfl
  refine va_calli (vx_runSW (As := [.ref a1, .int 0, .ref a30]) (rest := []) ⟨hx, hb, hml, hown, hts⟩ hM234 (vx_cwSW 3 hts (gS q_368 q_369 q_242 q_367) rfl rfl rfl hS_L_addTest ⟨Nat.le_of_ble_eq_true rfl, Nat.le_of_ble_eq_true rfl⟩) ⟨pc_blind, fun U hU hW => ⟨rfl, hC235 U hU hW⟩⟩ rfl rfl hl.1 rfl (lv_room (Nat.le_of_ble_eq_true rfl)) dL_law_936 ⟨(Nat.le_of_ble_eq_true rfl), (Nat.le_of_ble_eq_true rfl)⟩) hS (fun q9 _ h9 => hF232 q9 h9) hF232 (fun r237 u236 t236 H236 L236 ht236 hvm236 hw236 hB236 hz236 hk236 hS => ?_)
  obtain ⟨hP, hD, hK⟩ := pq_jn (wz := [(a33, ce23 k34), (a10, ce10 a9), (a12, ce201 a44), (a14, ce3 z.1), (a15, ce226 a46), (a44, ce200 k49 a47 a71 a88 a105 a122), (a45, ce200 k50 a47 a71 a88 a105 a122), (a46, ce200 k51 a47 a71 a88 a105 a122), (a47, ce38 (z.2.1 0) a48 a47), (a71, ce77 (z.2.1 0) a72 a71), (a88, ce115 (z.2.1 0) a89 a88), (a105, ce165 (z.2.1 0) a106 a105), (a48, ce3 z.1), (a72, ce3 z.1), (a89, ce3 z.1), (a106, ce3 z.1), (a122, ce224 (z.2.1 0) a123 a122), (a123, ce3 z.1), (a27, ce3 z.1), (a29, ce226 a59), (a59, ce200 k62 (z.2.2.1 128) (z.2.2.1 129) (z.2.2.1 130) (z.2.2.1 131) (z.2.2.1 132)), (a18, ce21 a26 a27 a28 a29), (a26, ce201 a58), (a28, ce269 a147), (a58, ce200 k61 a60 a79 a96 a113 a130), (a147, ce268 k148 (z.2.2.1 128) (z.2.2.1 128) (z.2.2.1 128) (z.2.2.1 128) (z.2.2.1 128) (z.2.2.1 128)), (a60, ce49), (a79, ce49), (a96, ce49), (a113, ce49), (a130, ce49), (a1, ce16 a9 a10 a11), (a30, ce273 k31), (a9, ce7 a12 a13 a14 a15), (a11, ce271 a9 a16), (a13, ce201 a45), (a16, ce270 k17)]) (tz := [(k34, .double), (k49, .object "java/lang/Object"), (k50, .object "java/lang/Object"), (k51, .object "java/lang/Object"), (k62, .object "java/lang/Object"), (k61, .object "java/lang/Object"), (k148, .object "java/lang/Object"), (k31, .long), (k17, .int)]) hP hD hK [21, 22, 23, 24, 25, 26] [0, 1, 2, 3, 4, 7, 8] rfl hk236 hF232 hB236.1 ht236 hvm236 rfl rfl
  have hG : s.heap.size + 108 ≤ H236.size := Nat.le_trans hG hz236
  refine W.eq (g2 := F0 m 939 ls [.int 0]) (by rw [hw236]) ?_
  refine lv_istore (lv' := [(6, .int 0), (5, .int 55), (7, .int 6), (4, .ref a33), (3, .ref a30), (2, .ref a18), (1, .ref a1), (0, .ref b)]) hx hb dL_law_939 hl (by decide) rfl (fun ls hl => ?_)
  refine lv_aload_n hx hb dL_law_941 rfl (lv_at hl 5 rfl) ?_
  refine lv_aload_n hx hb dL_law_942 rfl (lv_at hl 7 rfl) ?_
  refine lv_iload hx hb dL_law_943 (lv_at hl 1 rfl) ?_
  refine lv_iconst (v := 1) hx hb dL_law_945 (by decide) ?_
  refine lv_iadd hx hb dL_law_946 ?_
  refine lv_topi (fun y238 ey238 => ?_)
  obtain rfl : y238 = 56 := ey238.trans (by decide)
  refine va_sld hx hb hX9 hbl hbA hS (i := 56) (by unfold vp_in; decide) dL_law_947 ?_
  refine W.eq (g2 := F0 m 948 ls [.int 0, .ref a18]) (by rw [show xs (Int32.toNatClampNeg 56) = xs 56 from rfl, hZ 56 (by decide)]; rfl) ?_
  have hM241 := k539_addTest l hl9 dC dI z a18 a26 a28 a58 a147 a60 a79 a96 a113 a130 a27 a29 H236.size k61 k148
  obtain ⟨hF239, hC242⟩ := pc_M hM241 hP hD hK hS hX hT hA [21, 22, 23, 24, 25, 26, 27, 28, 29, 30] [5, 6] rfl rfl rfl
  refine va_calli (va_runV (As := [.int 0]) (rest := []) ⟨hx, hb, hml, hown, hts⟩ hM241 (cwV 1 hts (gV q_378 q_379 q_380 q_60 q_377) rfl rfl rfl hV_X9_addTest ⟨Nat.le_of_ble_eq_true rfl, Nat.le_of_ble_eq_true rfl⟩) ⟨pc_blind, va_recv hK hP (ci := 8) (q := (RX9, TX9, 6)) (q0 := 21) rfl rfl, fun U hU hW => ⟨rfl, hC242 U hU hW⟩⟩ rfl rfl hl.1 rfl (lv_room (Nat.le_of_ble_eq_true rfl)) dL_law_948 ⟨(Nat.le_of_ble_eq_true rfl), (Nat.le_of_ble_eq_true rfl)⟩) hS (fun q9 _ h9 => hF239 q9 h9) hF239 (fun r244 u243 t243 H243 L243 ht243 hvm243 hw243 hB243 hz243 hk243 hS => ?_)
  obtain ⟨hP, hD, hK⟩ := pq_jn (wz := [(a33, ce23 k34), (a10, ce10 a9), (a12, ce201 a44), (a14, ce3 z.1), (a15, ce226 a46), (a44, ce200 k49 a47 a71 a88 a105 a122), (a45, ce200 k50 a47 a71 a88 a105 a122), (a46, ce200 k51 a47 a71 a88 a105 a122), (a47, ce38 (z.2.1 0) a48 a47), (a71, ce77 (z.2.1 0) a72 a71), (a88, ce115 (z.2.1 0) a89 a88), (a105, ce165 (z.2.1 0) a106 a105), (a48, ce3 z.1), (a72, ce3 z.1), (a89, ce3 z.1), (a106, ce3 z.1), (a122, ce224 (z.2.1 0) a123 a122), (a123, ce3 z.1), (a27, ce3 z.1), (a29, ce226 a59), (a59, ce200 k62 (z.2.2.1 128) (z.2.2.1 129) (z.2.2.1 130) (z.2.2.1 131) (z.2.2.1 132)), (a1, ce16 a9 a10 a11), (a30, ce273 k31), (a9, ce7 a12 a13 a14 a15), (a11, ce271 a9 a16), (a13, ce201 a45), (a16, ce270 k17), (a18, ce21 a26 a27 a28 a29), (a26, ce201 a58), (a28, ce276 a147), (a58, ce200 k61 a60 a79 a96 a113 a130), (a147, ce275 k148 (z.2.2.1 128) (z.2.2.1 128) (z.2.2.1 128) (z.2.2.1 128) (z.2.2.1 128) (z.2.2.1 128) (z.2.2.1 128)), (a60, ce49), (a79, ce49), (a96, ce49), (a113, ce49), (a130, ce49)]) (tz := [(k34, .double), (k49, .object "java/lang/Object"), (k50, .object "java/lang/Object"), (k51, .object "java/lang/Object"), (k62, .object "java/lang/Object"), (k31, .long), (k17, .int), (k61, .object "java/lang/Object"), (k148, .object "java/lang/Object")]) hP hD hK [21, 22, 23, 24, 25, 26, 27, 28, 29, 30] [0, 1, 2, 3, 4, 7, 8] rfl hk243 hF239 hB243.1 ht243 hvm243 rfl rfl
  have hG : s.heap.size + 109 ≤ H243.size := va_gr (g := 108) (g1 := 1) hG (by rw [← ht243]; exact hB243.2)
  refine W.eq (g2 := F0 m 951 ls [.int 7]) (by rw [hw243]) ?_
  refine W.widen (k := 109) (n := 1080) (by decide) (by decide) ?_
  refine lv_istore (lv' := [(7, .int 7), (6, .int 0), (5, .int 55), (4, .ref a33), (3, .ref a30), (2, .ref a18), (1, .ref a1), (0, .ref b)]) hx hb dL_law_951 hl (by decide) rfl (fun ls hl => ?_)
  refine lv_goto (tgt := 1029) hx hb dL_law_953 (by decide) ?_
  refine lv_iinc (v := 60) (lv' := [(5, .int 60), (7, .int 7), (6, .int 0), (4, .ref a33), (3, .ref a30), (2, .ref a18), (1, .ref a1), (0, .ref b)]) hx hb dL_law_1029 hl (k := 2) rfl (by decide) (by decide) rfl (fun ls hl => ?_)
  refine lv_goto (tgt := 28) hx hb dL_law_1032 (by decide) ?_
  refine lv_iload hx hb dL_law_28 (lv_at hl 0 rfl) ?_
  refine lv_aload_n hx hb dL_law_30 rfl (lv_at hl 7 rfl) ?_
  refine va_slen hx hb hX9 hbl hbA hS dL_law_31 ?_
  refine W.eq (g2 := F0 m 32 ls [.int 2540, .int 60]) rfl ?_
  refine lv_iconst (v := 5) hx hb dL_law_32 (by decide) ?_
  refine lv_isub hx hb dL_law_33 ?_
  refine lv_topi (fun y245 ey245 => ?_)
  obtain rfl : y245 = 2535 := ey245.trans (by decide)
  refine lv_icmp_gt (tgt := 1035) hx hb dL_law_34 (by decide) (fun cz => absurd cz (by decide)) (fun _ => ?_)
  refine lv_aload_n hx hb dL_law_37 rfl (lv_at hl 7 rfl) ?_
  refine lv_iload hx hb dL_law_38 (lv_at hl 0 rfl) ?_
  refine va_sld hx hb hX9 hbl hbA hS (i := 60) (by unfold vp_in; decide) dL_law_40 ?_
  refine W.eq (g2 := F0 m 41 ls [.int 23]) (by rw [show xs (Int32.toNatClampNeg 60) = xs 60 from rfl, hZ 60 (by decide)]; rfl) ?_
  refine lv_bipush (v := 31) hx hb dL_law_41 (by decide) ?_
  refine lv_iand hx hb dL_law_43 ?_
  refine lv_topi (fun y246 ey246 => ?_)
  obtain rfl : y246 = 23 := ey246.trans (by decide)
  refine lv_tableIn (tgt := 956) hx hb dL_law_44 (by decide) (by decide) rfl (by decide) ?_
  refine lv_aload_n hx hb dL_law_956 rfl (lv_at hl 6 rfl) ?_
  have hM249 := k617_shown l hl9 dC dI z a1 a9 a11 a12 a13 a15 a16 a44 a45 a46 a47 a71 a88 a105 a122 a10 a14 a48 a72 a89 a106 a123 H243.size k17 k49 k50 k51
  obtain ⟨hF247, hC250⟩ := pc_M hM249 hP hD hK hS hX hT hA [21, 23, 24, 2, 25, 4, 26, 5, 6, 7, 8, 9, 10, 11, 16] [6, 1, 2, 3] rfl rfl rfl
  refine va_calli (va_runV (As := []) (rest := []) ⟨hx, hb, hml, hown, hts⟩ hM249 (cwV 0 hts (gV q_415 q_416 q_417 q_2 q_414) rfl rfl rfl hV_X6_shown ⟨Nat.le_of_ble_eq_true rfl, Nat.le_of_ble_eq_true rfl⟩) ⟨pc_blind, va_recv hK hP (ci := 6) (q := (RX6, TX6, 3)) (q0 := 21) rfl rfl, fun U hU hW => ⟨rfl, hC250 U hU hW⟩⟩ rfl rfl hl.1 rfl (lv_room (Nat.le_of_ble_eq_true rfl)) dL_law_957 ⟨(Nat.le_of_ble_eq_true rfl), (Nat.le_of_ble_eq_true rfl)⟩) hS (fun q9 _ h9 => hF247 q9 h9) hF247 (fun r252 u251 t251 H251 L251 ht251 hvm251 hw251 hB251 hz251 hk251 hS => ?_)
  obtain ⟨hP, hD, hK⟩ := pq_jn (wz := [(a33, ce23 k34), (a10, ce10 a9), (a14, ce3 z.1), (a48, ce3 z.1), (a72, ce3 z.1), (a89, ce3 z.1), (a106, ce3 z.1), (a123, ce3 z.1), (a27, ce3 z.1), (a29, ce226 a59), (a59, ce200 k62 (z.2.2.1 128) (z.2.2.1 129) (z.2.2.1 130) (z.2.2.1 131) (z.2.2.1 132)), (a30, ce273 k31), (a18, ce21 a26 a27 a28 a29), (a26, ce201 a58), (a28, ce276 a147), (a58, ce200 k61 a60 a79 a96 a113 a130), (a147, ce275 k148 (z.2.2.1 128) (z.2.2.1 128) (z.2.2.1 128) (z.2.2.1 128) (z.2.2.1 128) (z.2.2.1 128) (z.2.2.1 128)), (a60, ce49), (a79, ce49), (a96, ce49), (a113, ce49), (a130, ce49), (a1, ce16 a9 a10 a11), (a9, ce7 a12 a13 a14 a15), (a11, ce271 a9 a16), (a12, ce201 a44), (a13, ce201 a45), (a15, ce226 a46), (a16, ce270 k17), (a44, ce200 k49 a47 a71 a88 a105 a122), (a45, ce200 k50 a47 a71 a88 a105 a122), (a46, ce200 k51 a47 a71 a88 a105 a122), (a47, ce282 (z.2.1 0) a48 a47), (a71, ce283 (z.2.1 0) a72 a71), (a88, ce284 (z.2.1 0) a89 a88), (a105, ce285 (z.2.1 0) a106 a105), (a122, ce291 (z.2.1 0) a123 a122)]) (tz := [(k34, .double), (k62, .object "java/lang/Object"), (k31, .long), (k61, .object "java/lang/Object"), (k148, .object "java/lang/Object"), (k17, .int), (k49, .object "java/lang/Object"), (k50, .object "java/lang/Object"), (k51, .object "java/lang/Object")]) hP hD hK [21, 23, 24, 2, 25, 4, 26, 5, 6, 7, 8, 9, 10, 11, 16] [0, 4, 5, 7, 8] rfl hk251 hF247 hB251.1 ht251 hvm251 rfl rfl
  have hG : s.heap.size + 109 ≤ H251.size := Nat.le_trans hG hz251
  refine W.eq (g2 := F0 m 960 ls [.int 0]) (by rw [hw251]) ?_
  refine lv_pop hx hb dL_law_960 rfl ?_
  refine lv_aload_n hx hb dL_law_961 rfl (lv_at hl 5 rfl) ?_
  have hM255 := k669_shown l hl9 dC dI z a18 a26 a27 a28 a29 a58 a147 a59 a60 a79 a96 a113 a130 H251.size k61 k148 k62
  obtain ⟨hF253, hC256⟩ := pc_M hM255 hP hD hK hS hX hT hA [12, 13, 8, 14, 9, 15, 16, 10, 17, 18, 19, 20, 21] [3, 4, 1] rfl rfl rfl
  refine va_calli (va_runV (As := []) (rest := []) ⟨hx, hb, hml, hown, hts⟩ hM255 (cwV 0 hts (gV q_433 q_434 q_435 q_60 q_432) rfl rfl rfl hV_X9_shown ⟨Nat.le_of_ble_eq_true rfl, Nat.le_of_ble_eq_true rfl⟩) ⟨pc_blind, va_recv hK hP (ci := 8) (q := (RX9, TX9, 6)) (q0 := 12) rfl rfl, fun U hU hW => ⟨rfl, hC256 U hU hW⟩⟩ rfl rfl hl.1 rfl (lv_room (Nat.le_of_ble_eq_true rfl)) dL_law_962 ⟨(Nat.le_of_ble_eq_true rfl), (Nat.le_of_ble_eq_true rfl)⟩) hS (fun q9 _ h9 => hF253 q9 h9) hF253 (fun r258 u257 t257 H257 L257 ht257 hvm257 hw257 hB257 hz257 hk257 hS => ?_)
  have hP := pq_keep hP hD [12, 13, 8, 14, 9, 15, 16, 10, 17, 18, 19, 20, 21] rfl hk257 hB257.1 ht257
  have hG : s.heap.size + 1589 ≤ H257.size := va_gr (g := 109) (g1 := 1480) hG (by rw [← ht257]; exact hB257.2)
  refine W.eq (g2 := F0 m 965 ls [.int 0]) (by rw [hw257]) ?_
  refine W.widen (k := 1589) (n := 17080) (by decide) (by decide) ?_
  refine lv_pop hx hb dL_law_965 rfl ?_
  refine lv_goto (tgt := 1029) hx hb dL_law_966 (by decide) ?_
  refine lv_iinc (v := 65) (lv' := [(5, .int 65), (7, .int 7), (6, .int 0), (4, .ref a33), (3, .ref a30), (2, .ref a18), (1, .ref a1), (0, .ref b)]) hx hb dL_law_1029 hl (k := 0) rfl (by decide) (by decide) rfl (fun ls hl => ?_)
  refine lv_goto (tgt := 28) hx hb dL_law_1032 (by decide) ?_
  refine lv_iload hx hb dL_law_28 (lv_at hl 0 rfl) ?_
  refine lv_aload_n hx hb dL_law_30 rfl (lv_at hl 7 rfl) ?_
  refine va_slen hx hb hX9 hbl hbA hS dL_law_31 ?_
  refine W.eq (g2 := F0 m 32 ls [.int 2540, .int 65]) rfl ?_
  refine lv_iconst (v := 5) hx hb dL_law_32 (by decide) ?_
  refine lv_isub hx hb dL_law_33 ?_
  refine lv_topi (fun y259 ey259 => ?_)
  obtain rfl : y259 = 2535 := ey259.trans (by decide)
  refine lv_icmp_gt (tgt := 1035) hx hb dL_law_34 (by decide) (fun cz => absurd cz (by decide)) (fun _ => ?_)
  refine lv_aload_n hx hb dL_law_37 rfl (lv_at hl 7 rfl) ?_
  refine lv_iload hx hb dL_law_38 (lv_at hl 0 rfl) ?_
  refine va_sld hx hb hX9 hbl hbA hS (i := 65) (by unfold vp_in; decide) dL_law_40 ?_
  refine W.eq (g2 := F0 m 41 ls [.int 23]) (by rw [show xs (Int32.toNatClampNeg 65) = xs 65 from rfl, hZ 65 (by decide)]; rfl) ?_
  refine lv_bipush (v := 31) hx hb dL_law_41 (by decide) ?_
  refine lv_iand hx hb dL_law_43 ?_
  refine lv_topi (fun y260 ey260 => ?_)
  obtain rfl : y260 = 23 := ey260.trans (by decide)
  refine lv_tableIn (tgt := 956) hx hb dL_law_44 (by decide) (by decide) rfl (by decide) ?_
  refine lv_aload_n hx hb dL_law_956 rfl (lv_at hl 6 rfl) ?_
  have hM263 := k675_shown l hl9 dC dI z a1 a9 a11 a12 a13 a15 a16 a44 a45 a46 a47 a71 a88 a105 a122 a10 a14 a48 a72 a89 a106 a123 H257.size k17 k49 k50 k51
  obtain ⟨hF261, hC264⟩ := pc_M hM263 hP hD hK hS hX hT hA [22, 23, 24, 25, 26, 27, 28, 29, 30, 31, 32, 33, 34, 35, 36] [5, 6, 7, 8] rfl rfl rfl
  refine va_calli (va_runV (As := []) (rest := []) ⟨hx, hb, hml, hown, hts⟩ hM263 (cwV 0 hts (gV q_415 q_416 q_417 q_2 q_414) rfl rfl rfl hV_X6_shown ⟨Nat.le_of_ble_eq_true rfl, Nat.le_of_ble_eq_true rfl⟩) ⟨pc_blind, va_recv hK hP (ci := 6) (q := (RX6, TX6, 3)) (q0 := 22) rfl rfl, fun U hU hW => ⟨rfl, hC264 U hU hW⟩⟩ rfl rfl hl.1 rfl (lv_room (Nat.le_of_ble_eq_true rfl)) dL_law_957 ⟨(Nat.le_of_ble_eq_true rfl), (Nat.le_of_ble_eq_true rfl)⟩) hS (fun q9 _ h9 => hF261 q9 h9) hF261 (fun r266 u265 t265 H265 L265 ht265 hvm265 hw265 hB265 hz265 hk265 hS => ?_)
  have hP := pq_keep hP hD [22, 23, 24, 25, 26, 27, 28, 29, 30, 31, 32, 33, 34, 35, 36] rfl hk265 hB265.1 ht265
  have hG : s.heap.size + 1589 ≤ H265.size := Nat.le_trans hG hz265
  refine W.eq (g2 := F0 m 960 ls [.int 0]) (by rw [hw265]) ?_
  refine lv_pop hx hb dL_law_960 rfl ?_
  refine lv_aload_n hx hb dL_law_961 rfl (lv_at hl 5 rfl) ?_
  have hM269 := k669_shown l hl9 dC dI z a18 a26 a27 a28 a29 a58 a147 a59 a60 a79 a96 a113 a130 H265.size k61 k148 k62
  obtain ⟨hF267, hC270⟩ := pc_M hM269 hP hD hK hS hX hT hA [12, 13, 8, 14, 9, 15, 16, 10, 17, 18, 19, 20, 21] [3, 4, 1] rfl rfl rfl
  refine va_calli (va_runV (As := []) (rest := []) ⟨hx, hb, hml, hown, hts⟩ hM269 (cwV 0 hts (gV q_433 q_434 q_435 q_60 q_432) rfl rfl rfl hV_X9_shown ⟨Nat.le_of_ble_eq_true rfl, Nat.le_of_ble_eq_true rfl⟩) ⟨pc_blind, va_recv hK hP (ci := 8) (q := (RX9, TX9, 6)) (q0 := 12) rfl rfl, fun U hU hW => ⟨rfl, hC270 U hU hW⟩⟩ rfl rfl hl.1 rfl (lv_room (Nat.le_of_ble_eq_true rfl)) dL_law_962 ⟨(Nat.le_of_ble_eq_true rfl), (Nat.le_of_ble_eq_true rfl)⟩) hS (fun q9 _ h9 => hF267 q9 h9) hF267 (fun r272 u271 t271 H271 L271 ht271 hvm271 hw271 hB271 hz271 hk271 hS => ?_)
  have hP := pq_keep hP hD [12, 13, 8, 14, 9, 15, 16, 10, 17, 18, 19, 20, 21] rfl hk271 hB271.1 ht271
  have hG : s.heap.size + 3069 ≤ H271.size := va_gr (g := 1589) (g1 := 1480) hG (by rw [← ht271]; exact hB271.2)
  refine W.eq (g2 := F0 m 965 ls [.int 0]) (by rw [hw271]) ?_
  refine W.widen (k := 3069) (n := 33080) (by decide) (by decide) ?_
  refine lv_pop hx hb dL_law_965 rfl ?_
  refine lv_goto (tgt := 1029) hx hb dL_law_966 (by decide) ?_
  refine lv_iinc (v := 70) (lv' := [(5, .int 70), (7, .int 7), (6, .int 0), (4, .ref a33), (3, .ref a30), (2, .ref a18), (1, .ref a1), (0, .ref b)]) hx hb dL_law_1029 hl (k := 0) rfl (by decide) (by decide) rfl (fun ls hl => ?_)
  refine lv_goto (tgt := 28) hx hb dL_law_1032 (by decide) ?_
  exact zq_loop hr hlocks hl9 hx hb hml hown hts hX9 hbl hbA hA hX hT hZ hS hP hD hK hl hG
