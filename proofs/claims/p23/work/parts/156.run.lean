set_option maxHeartbeats 8000000 in
set_option maxRecDepth 100000 in
theorem k986_shown_g16 {p : Program} {l : Launch} {e : Env} {s : State} {m : MethodId} {args : Array Value} {below : List Frame} {meth : Method} {c : Code} {Q : State → Prop} {A : Nat → Prop} {H : Heap} {locs : List Loc} {ls : Array Slot} {dC : Nat → ClassId} {dI : Nat → Nat → Nat} {z : XZ} {h0 h1 h2 h3 h4 h5 h6 h7 h8 h9 h10 h11 h12 h13 h14 : Nat} {kc0 kc1 kc2 : ClassId} (hl9 : l.stackTraces = false) (hx : p.tables.exec = Jvm.exec) (hb : c.code = cX9_shown) (hml : c.maxLocals = 7) (hown : s.vm.findClass RX9 = some m.cls) (hts : ∀ w ∈ wsL_law, w.before args s = true) (hA : ∀ q : Nat, s.heap.size ≤ q → A q) (hX : XE z A s s.heap) (hT : XT s) (hS : va_S A s.heap H locs) (hP : va_P (dC, dI) xCl [(h0, ce21 h1 h2 h3 h4), (h1, ce331 h5), (h2, ce3 z.1), (h3, ce331 h6), (h4, ce366 h7), (h5, ce330 kc0 h8 h9 h10 h11 h12 h13 h14), (h6, ce330 kc1 (z.2.2.1 128) (z.2.2.1 128) (z.2.2.1 128) (z.2.2.1 128) (z.2.2.1 128) (z.2.2.1 128) (z.2.2.1 128)), (h7, ce330 kc2 (z.2.2.1 128) (z.2.2.1 129) (z.2.2.1 130) (z.2.2.1 131) (z.2.2.1 132) (z.2.2.1 133) (z.2.2.1 134)), (h8, ce49), (h9, ce49), (h10, ce49), (h11, ce49), (h12, ce49), (h13, ce49), (h14, ce49)] H) (hD : va_D A [(h0, ce21 h1 h2 h3 h4), (h1, ce331 h5), (h2, ce3 z.1), (h3, ce331 h6), (h4, ce366 h7), (h5, ce330 kc0 h8 h9 h10 h11 h12 h13 h14), (h6, ce330 kc1 (z.2.2.1 128) (z.2.2.1 128) (z.2.2.1 128) (z.2.2.1 128) (z.2.2.1 128) (z.2.2.1 128) (z.2.2.1 128)), (h7, ce330 kc2 (z.2.2.1 128) (z.2.2.1 129) (z.2.2.1 130) (z.2.2.1 131) (z.2.2.1 132) (z.2.2.1 133) (z.2.2.1 134)), (h8, ce49), (h9, ce49), (h10, ce49), (h11, ce49), (h12, ce49), (h13, ce49), (h14, ce49)]) (hK : va_K (dC, dI) xCl [(kc0, .object "java/lang/Object"), (kc1, .object "java/lang/Object"), (kc2, .object "java/lang/Object")] s) (hl : lv_has ls 7 [(3, .int 48), (2, .int 5), (1, .int 0), (0, .ref h0)]) (hG : s.heap.size + 1900 ≤ H.size) (hend : ∀ (H' : Heap) (locs' : List Loc) (ls' : Array Slot), va_S A s.heap H' locs' → va_P (dC, dI) xCl [(h0, ce21 h1 h2 h3 h4), (h1, ce331 h5), (h2, ce3 z.1), (h3, ce331 h6), (h4, ce366 h7), (h5, ce330 kc0 h8 h9 h10 h11 h12 h13 h14), (h6, ce330 kc1 (z.2.2.1 128) (z.2.2.1 128) (z.2.2.1 128) (z.2.2.1 128) (z.2.2.1 128) (z.2.2.1 128) (z.2.2.1 128)), (h7, ce330 kc2 (z.2.2.1 128) (z.2.2.1 129) (z.2.2.1 130) (z.2.2.1 131) (z.2.2.1 132) (z.2.2.1 133) (z.2.2.1 134)), (h8, ce49), (h9, ce49), (h10, ce49), (h11, ce49), (h12, ce49), (h13, ce49), (h14, ce49)] H' → va_D A [(h0, ce21 h1 h2 h3 h4), (h1, ce331 h5), (h2, ce3 z.1), (h3, ce331 h6), (h4, ce366 h7), (h5, ce330 kc0 h8 h9 h10 h11 h12 h13 h14), (h6, ce330 kc1 (z.2.2.1 128) (z.2.2.1 128) (z.2.2.1 128) (z.2.2.1 128) (z.2.2.1 128) (z.2.2.1 128) (z.2.2.1 128)), (h7, ce330 kc2 (z.2.2.1 128) (z.2.2.1 129) (z.2.2.1 130) (z.2.2.1 131) (z.2.2.1 132) (z.2.2.1 133) (z.2.2.1 134)), (h8, ce49), (h9, ce49), (h10, ce49), (h11, ce49), (h12, ce49), (h13, ce49), (h14, ce49)] → lv_has ls' 7 [(3, .int 49), (1, .int 0), (2, .int 5), (0, .ref h0)] → s.heap.size + 2090 ≤ H'.size → W p l e ({ frames := 5, cells := 2660, slots := 24752, locals := 121 } : Room) s m args below meth c H' locs' 2090 19448 Q (F0 m 23 ls' [])) : W p l e ({ frames := 5, cells := 2660, slots := 24752, locals := 121 } : Room) s m args below meth c H locs 1900 17680 Q (F0 m 23 ls []) := by
  refine lv_iload_n hx hb dX9_shown_23 rfl (lv_at hl 0 rfl) ?_
  refine lv_bipush (v := 49) hx hb dX9_shown_24 (by decide) ?_
  refine lv_icmp_gt (tgt := 113) hx hb dX9_shown_26 (by decide) (fun cz => absurd cz (by decide)) (fun _ => ?_)
  refine lv_iconst (v := 0) hx hb dX9_shown_29 (by decide) ?_
  refine lv_istore (lv' := [(4, .int 0), (3, .int 48), (2, .int 5), (1, .int 0), (0, .ref h0)]) hx hb dX9_shown_30 hl (by decide) rfl (fun ls hl => ?_)
  refine lv_aload_n hx hb dX9_shown_32 rfl (lv_at hl 4 rfl) ?_
  refine va_get (D := (dC, dI)) (ci := 8) (v := .ref h3) (C := RX9) (T := TX9) (N := 6) hx hb hts in_X9 hown hK hP 0 rfl rfl 3 (by decide) (hts _ q_66) (fun _ h9 => h9) rfl dX9_shown_33 ?_
  have hM1870 := k724_iterator l hl9 dC dI z h3 h6 H.size
  obtain ⟨hF1868, hC1871⟩ := pc_M hM1870 hP hD hK hS hX hT hA [3] [] rfl rfl rfl
  refine va_callr (va_runV (As := []) (rest := []) ⟨hx, hb, hml, hown, hts⟩ hM1870 (cwV 0 hts (gV q_256 q_257 q_258 q_12 q_255) rfl rfl rfl hV_Jx4a65c_iterator_32c93 ⟨Nat.le_of_ble_eq_true rfl, Nat.le_of_ble_eq_true rfl⟩) ⟨pc_blind, va_recv hK hP (ci := 0) (q := (RJx4a65c, TJx4a65c, 3)) (q0 := 3) rfl rfl, fun U hU hW => ⟨rfl, hC1871 U hU hW⟩⟩ rfl rfl hl.1 rfl (lv_room (Nat.le_of_ble_eq_true rfl)) dX9_shown_36 ⟨(Nat.le_of_ble_eq_true rfl), (Nat.le_of_ble_eq_true rfl)⟩) hS (fun q9 _ h9 => hF1868 q9 h9) hF1868 (fun u1872 r1873 t1872 H1872 L1872 ht1872 hvm1872 hw1872 hB1872 hz1872 hk1872 hS => ?_)
  obtain ⟨a1874, hr1872, hB1872⟩ := hB1872
  obtain ⟨hP, hD, hK⟩ := pq_jn (wz := [(h0, ce21 h1 h2 h3 h4), (h1, ce331 h5), (h2, ce3 z.1), (h4, ce366 h7), (h5, ce330 kc0 h8 h9 h10 h11 h12 h13 h14), (h6, ce330 kc1 (z.2.2.1 128) (z.2.2.1 128) (z.2.2.1 128) (z.2.2.1 128) (z.2.2.1 128) (z.2.2.1 128) (z.2.2.1 128)), (h7, ce330 kc2 (z.2.2.1 128) (z.2.2.1 129) (z.2.2.1 130) (z.2.2.1 131) (z.2.2.1 132) (z.2.2.1 133) (z.2.2.1 134)), (h8, ce49), (h9, ce49), (h10, ce49), (h11, ce49), (h12, ce49), (h13, ce49), (h14, ce49), (h3, ce331 h6), (a1874, ce370 h3)]) (tz := [(kc0, .object "java/lang/Object"), (kc1, .object "java/lang/Object"), (kc2, .object "java/lang/Object")]) hP hD hK [3] [0, 1, 2] rfl hk1872 hF1868 hB1872.1 ht1872 hvm1872 rfl rfl
  have hG : s.heap.size + 1901 ≤ H1872.size := va_gr (g := 1900) (g1 := 1) hG (by rw [← ht1872]; exact hB1872.2)
  refine W.eq (g2 := F0 m 39 ls [.ref a1874]) (by rw [hr1872]) ?_
  refine W.widen (k := 1901) (n := 17684) (by decide) (by decide) ?_
  refine lv_astore (lv' := [(5, .ref a1874), (4, .int 0), (3, .int 48), (2, .int 5), (1, .int 0), (0, .ref h0)]) hx hb dX9_shown_39 hl (by decide) rfl (fun ls hl => ?_)
  refine lv_aload hx hb dX9_shown_41 (lv_at hl 0 rfl) ?_
  have hM1877 := k725_hasNext l hl9 dC dI z a1874 h3 h6 H1872.size
  obtain ⟨hF1875, hC1878⟩ := pc_M hM1877 hP hD hK hS hX hT hA [15, 14] [] rfl rfl rfl
  refine va_callFi (va_runF (As := []) (rest := []) (hK.1 1 (RJx35411, TJx35411, 4) rfl).2 ⟨hx, hb, hml, hown, hts⟩ hM1877 (va_cwF 0 hts (gF q_261 q_262 q_263 q_246 q_260) rfl rfl rfl hT.2.2.2.2.2.2.1 hF_xIh ⟨Nat.le_of_ble_eq_true rfl, Nat.le_of_ble_eq_true rfl⟩) ⟨pc_blind, va_recv hK hP (ci := 1) (q := (RJx35411, TJx35411, 4)) (q0 := 15) rfl rfl, fun U hU hW => ⟨rfl, hC1878 U hU hW⟩⟩ rfl rfl hl.1 rfl (lv_room (Nat.le_of_ble_eq_true rfl)) dX9_shown_43 ⟨(Nat.le_of_ble_eq_true rfl), (Nat.le_of_ble_eq_true rfl)⟩) hS (fun q9 _ h9 => hF1875 q9 h9) hF1875 (fun r1880 u1879 t1879 H1879 L1879 ht1879 hvm1879 hw1879 hB1879 hz1879 hk1879 hS => ?_)
  have hP := pq_keep hP hD [15, 14] rfl hk1879 hB1879.1 ht1879
  have hG : s.heap.size + 1901 ≤ H1879.size := Nat.le_trans hG hz1879
  refine W.eq (g2 := F0 m 48 ls [.int 1]) (by rw [hw1879]) ?_
  refine lv_if_eq (tgt := 92) hx hb dX9_shown_48 (by decide) (fun cz => absurd cz (by decide)) (fun _ => ?_)
  refine lv_aload hx hb dX9_shown_51 (lv_at hl 0 rfl) ?_
  have hM1883 := k942_next l hl9 dC dI z a1874 h3 h6 H1879.size kc1
  obtain ⟨hF1881, hC1884⟩ := pc_M hM1883 hP hD hK hS hX hT hA [15, 14, 5] [1] rfl rfl rfl
  refine va_callFr (va_runF (As := []) (rest := []) (hK.1 1 (RJx35411, TJx35411, 4) rfl).2 ⟨hx, hb, hml, hown, hts⟩ hM1883 (va_cwF 0 hts (gF q_308 q_309 q_310 q_246 q_307) rfl rfl rfl hT.2.2.2.2.2.2.2.1 hF_xIn ⟨Nat.le_of_ble_eq_true rfl, Nat.le_of_ble_eq_true rfl⟩) ⟨pc_blind, va_recv hK hP (ci := 1) (q := (RJx35411, TJx35411, 4)) (q0 := 15) rfl rfl, fun U hU hW => ⟨rfl, hC1884 U hU hW⟩⟩ rfl rfl hl.1 rfl (lv_room (Nat.le_of_ble_eq_true rfl)) dX9_shown_53 ⟨(Nat.le_of_ble_eq_true rfl), (Nat.le_of_ble_eq_true rfl)⟩) hS (fun q9 _ h9 => hF1881 q9 h9) hF1881 (fun u1885 r1886 t1885 H1885 L1885 ht1885 hvm1885 hw1885 hB1885 hz1885 hk1885 hS => ?_)
  obtain ⟨hr1885, hB1885⟩ := hB1885
  obtain ⟨hP, hD, hK⟩ := pq_jn (wz := [(h0, ce21 h1 h2 h3 h4), (h1, ce331 h5), (h2, ce3 z.1), (h4, ce366 h7), (h5, ce330 kc0 h8 h9 h10 h11 h12 h13 h14), (h7, ce330 kc2 (z.2.2.1 128) (z.2.2.1 129) (z.2.2.1 130) (z.2.2.1 131) (z.2.2.1 132) (z.2.2.1 133) (z.2.2.1 134)), (h8, ce49), (h9, ce49), (h10, ce49), (h11, ce49), (h12, ce49), (h13, ce49), (h14, ce49), (a1874, ce372 h3), (h3, ce331 h6), (h6, ce330 kc1 (z.2.2.1 128) (z.2.2.1 128) (z.2.2.1 128) (z.2.2.1 128) (z.2.2.1 128) (z.2.2.1 128) (z.2.2.1 128))]) (tz := [(kc0, .object "java/lang/Object"), (kc2, .object "java/lang/Object"), (kc1, .object "java/lang/Object")]) hP hD hK [15, 14, 5] [0, 2] rfl hk1885 hF1881 hB1885.1 ht1885 hvm1885 rfl rfl
  have hG : s.heap.size + 1901 ≤ H1885.size := Nat.le_trans hG hz1885
  refine W.eq (g2 := F0 m 58 ls [.ref (z.2.2.1 128)]) (by rw [hr1885]) ?_
  refine va_castE (nm := "java/lang/Integer") hx hb hown (hts _ q_320) (va_Orecv (hX.2.2.1.1.1 128 (by decide)) hS) dX9_shown_58 ?_
  have hM1889 := k74_intValue l hl9 dC dI z H1885.size
  obtain ⟨hF1887, hC1890⟩ := pc_M hM1889 hP hD hK hS hX hT hA [] [] rfl rfl rfl
  refine va_calli (va_runV (As := []) (rest := []) ⟨hx, hb, hml, hown, hts⟩ hM1889 (cwV 0 hts (gV q_323 q_324 q_325 q_297 q_322) rfl rfl rfl hV_J6_intValue_8abf5 ⟨Nat.le_of_ble_eq_true rfl, Nat.le_of_ble_eq_true rfl⟩) ⟨pc_blind, va_Orecv (hX.2.2.1.1.1 128 (by decide)) hS, fun U hU hW => ⟨rfl, hC1890 U hU hW⟩⟩ rfl rfl hl.1 rfl (lv_room (Nat.le_of_ble_eq_true rfl)) dX9_shown_61 ⟨(Nat.le_of_ble_eq_true rfl), (Nat.le_of_ble_eq_true rfl)⟩) hS (fun q9 _ h9 => hF1887 q9 h9) hF1887 (fun r1892 u1891 t1891 H1891 L1891 ht1891 hvm1891 hw1891 hB1891 hz1891 hk1891 hS => ?_)
  have hP := pq_keep hP hD [] rfl hk1891 hB1891.1 ht1891
  have hG : s.heap.size + 1901 ≤ H1891.size := Nat.le_trans hG hz1891
  refine W.eq (g2 := F0 m 64 ls [.int 0]) (by rw [hw1891]) ?_
  refine lv_istore (lv' := [(6, .int 0), (5, .ref a1874), (4, .int 0), (3, .int 48), (2, .int 5), (1, .int 0), (0, .ref h0)]) hx hb dX9_shown_64 hl (by decide) rfl (fun ls hl => ?_)
  refine lv_iload hx hb dX9_shown_66 (lv_at hl 2 rfl) ?_
  refine lv_if_ne (tgt := 82) hx hb dX9_shown_68 (by decide) (fun cz => absurd (by decide) cz) (fun _ => ?_)
  refine lv_aload_n hx hb dX9_shown_71 rfl (lv_at hl 6 rfl) ?_
  refine lv_iload_n hx hb dX9_shown_72 rfl (lv_at hl 4 rfl) ?_
  refine lv_iload_n hx hb dX9_shown_73 rfl (lv_at hl 3 rfl) ?_
  refine lv_iload hx hb dX9_shown_74 (lv_at hl 0 rfl) ?_
  have hM1895 := k979_showsIt l hl9 dC dI z h0 h1 h2 h4 h5 h7 h8 h9 h10 h11 h12 h13 h14 h3 H1891.size kc0 kc2
  obtain ⟨hF1893, hC1896⟩ := pc_M hM1895 hP hD hK hS hX hT hA [0, 1, 2, 3, 4, 5, 6, 7, 8, 9, 10, 11, 12] [0, 1] rfl rfl rfl
  refine va_calli (va_runV (As := [.int 5, .int 48, .int 0]) (rest := []) ⟨hx, hb, hml, hown, hts⟩ hM1895 (cwV 3 hts (gV q_429 q_430 q_431 q_60 q_428) rfl rfl rfl hV_X9_showsIt ⟨Nat.le_of_ble_eq_true rfl, Nat.le_of_ble_eq_true rfl⟩) ⟨pc_blind, va_recv hK hP (ci := 8) (q := (RX9, TX9, 6)) (q0 := 0) rfl rfl, fun U hU hW => ⟨rfl, hC1896 U hU hW⟩⟩ rfl rfl hl.1 rfl (lv_room (Nat.le_of_ble_eq_true rfl)) dX9_shown_76 ⟨(Nat.le_of_ble_eq_true rfl), (Nat.le_of_ble_eq_true rfl)⟩) hS (fun q9 _ h9 => hF1893 q9 h9) hF1893 (fun r1898 u1897 t1897 H1897 L1897 ht1897 hvm1897 hw1897 hB1897 hz1897 hk1897 hS => ?_)
  have hP := pq_keep hP hD [0, 1, 2, 3, 4, 5, 6, 7, 8, 9, 10, 11, 12] rfl hk1897 hB1897.1 ht1897
  have hG : s.heap.size + 1928 ≤ H1897.size := va_gr (g := 1901) (g1 := 27) hG (by rw [← ht1897]; exact hB1897.2)
  refine W.eq (g2 := F0 m 79 ls [.int 0]) (by rw [hw1897]) ?_
  refine W.widen (k := 1928) (n := 17936) (by decide) (by decide) ?_
  refine lv_if_eq (tgt := 86) hx hb dX9_shown_79 (by decide) (fun _ => ?_) (fun cz => absurd (by decide) cz)
  refine lv_iconst (v := 0) hx hb dX9_shown_86 (by decide) ?_
  refine lv_istore (lv' := [(4, .int 0), (6, .int 0), (5, .ref a1874), (3, .int 48), (2, .int 5), (1, .int 0), (0, .ref h0)]) hx hb dX9_shown_87 hl (by decide) rfl (fun ls hl => ?_)
  refine lv_goto (tgt := 41) hx hb dX9_shown_89 (by decide) ?_
  refine lv_aload hx hb dX9_shown_41 (lv_at hl 2 rfl) ?_
  have hM1901 := k728_hasNext l hl9 dC dI z a1874 h3 h6 H1897.size
  obtain ⟨hF1899, hC1902⟩ := pc_M hM1901 hP hD hK hS hX hT hA [13, 14] [] rfl rfl rfl
  refine va_callFi (va_runF (As := []) (rest := []) (hK.1 1 (RJx35411, TJx35411, 4) rfl).2 ⟨hx, hb, hml, hown, hts⟩ hM1901 (va_cwF 0 hts (gF q_261 q_262 q_263 q_246 q_260) rfl rfl rfl hT.2.2.2.2.2.2.1 hF_xIh ⟨Nat.le_of_ble_eq_true rfl, Nat.le_of_ble_eq_true rfl⟩) ⟨pc_blind, va_recv hK hP (ci := 1) (q := (RJx35411, TJx35411, 4)) (q0 := 13) rfl rfl, fun U hU hW => ⟨rfl, hC1902 U hU hW⟩⟩ rfl rfl hl.1 rfl (lv_room (Nat.le_of_ble_eq_true rfl)) dX9_shown_43 ⟨(Nat.le_of_ble_eq_true rfl), (Nat.le_of_ble_eq_true rfl)⟩) hS (fun q9 _ h9 => hF1899 q9 h9) hF1899 (fun r1904 u1903 t1903 H1903 L1903 ht1903 hvm1903 hw1903 hB1903 hz1903 hk1903 hS => ?_)
  have hP := pq_keep hP hD [13, 14] rfl hk1903 hB1903.1 ht1903
  have hG : s.heap.size + 1928 ≤ H1903.size := Nat.le_trans hG hz1903
  refine W.eq (g2 := F0 m 48 ls [.int 1]) (by rw [hw1903]) ?_
  refine lv_if_eq (tgt := 92) hx hb dX9_shown_48 (by decide) (fun cz => absurd cz (by decide)) (fun _ => ?_)
  refine lv_aload hx hb dX9_shown_51 (lv_at hl 2 rfl) ?_
  have hM1907 := k954_next l hl9 dC dI z a1874 h3 h6 H1903.size kc1
  obtain ⟨hF1905, hC1908⟩ := pc_M hM1907 hP hD hK hS hX hT hA [13, 14, 15] [2] rfl rfl rfl
  refine va_callFr (va_runF (As := []) (rest := []) (hK.1 1 (RJx35411, TJx35411, 4) rfl).2 ⟨hx, hb, hml, hown, hts⟩ hM1907 (va_cwF 0 hts (gF q_308 q_309 q_310 q_246 q_307) rfl rfl rfl hT.2.2.2.2.2.2.2.1 hF_xIn ⟨Nat.le_of_ble_eq_true rfl, Nat.le_of_ble_eq_true rfl⟩) ⟨pc_blind, va_recv hK hP (ci := 1) (q := (RJx35411, TJx35411, 4)) (q0 := 13) rfl rfl, fun U hU hW => ⟨rfl, hC1908 U hU hW⟩⟩ rfl rfl hl.1 rfl (lv_room (Nat.le_of_ble_eq_true rfl)) dX9_shown_53 ⟨(Nat.le_of_ble_eq_true rfl), (Nat.le_of_ble_eq_true rfl)⟩) hS (fun q9 _ h9 => hF1905 q9 h9) hF1905 (fun u1909 r1910 t1909 H1909 L1909 ht1909 hvm1909 hw1909 hB1909 hz1909 hk1909 hS => ?_)
  obtain ⟨hr1909, hB1909⟩ := hB1909
  obtain ⟨hP, hD, hK⟩ := pq_jn (wz := [(h0, ce21 h1 h2 h3 h4), (h1, ce331 h5), (h2, ce3 z.1), (h4, ce366 h7), (h5, ce330 kc0 h8 h9 h10 h11 h12 h13 h14), (h7, ce330 kc2 (z.2.2.1 128) (z.2.2.1 129) (z.2.2.1 130) (z.2.2.1 131) (z.2.2.1 132) (z.2.2.1 133) (z.2.2.1 134)), (h8, ce49), (h9, ce49), (h10, ce49), (h11, ce49), (h12, ce49), (h13, ce49), (h14, ce49), (a1874, ce374 h3), (h3, ce331 h6), (h6, ce330 kc1 (z.2.2.1 128) (z.2.2.1 128) (z.2.2.1 128) (z.2.2.1 128) (z.2.2.1 128) (z.2.2.1 128) (z.2.2.1 128))]) (tz := [(kc0, .object "java/lang/Object"), (kc2, .object "java/lang/Object"), (kc1, .object "java/lang/Object")]) hP hD hK [13, 14, 15] [0, 1] rfl hk1909 hF1905 hB1909.1 ht1909 hvm1909 rfl rfl
  have hG : s.heap.size + 1928 ≤ H1909.size := Nat.le_trans hG hz1909
  refine W.eq (g2 := F0 m 58 ls [.ref (z.2.2.1 128)]) (by rw [hr1909]) ?_
  refine va_castE (nm := "java/lang/Integer") hx hb hown (hts _ q_320) (va_Orecv (hX.2.2.1.1.1 128 (by decide)) hS) dX9_shown_58 ?_
  have hM1913 := k74_intValue l hl9 dC dI z H1909.size
  obtain ⟨hF1911, hC1914⟩ := pc_M hM1913 hP hD hK hS hX hT hA [] [] rfl rfl rfl
  refine va_calli (va_runV (As := []) (rest := []) ⟨hx, hb, hml, hown, hts⟩ hM1913 (cwV 0 hts (gV q_323 q_324 q_325 q_297 q_322) rfl rfl rfl hV_J6_intValue_8abf5 ⟨Nat.le_of_ble_eq_true rfl, Nat.le_of_ble_eq_true rfl⟩) ⟨pc_blind, va_Orecv (hX.2.2.1.1.1 128 (by decide)) hS, fun U hU hW => ⟨rfl, hC1914 U hU hW⟩⟩ rfl rfl hl.1 rfl (lv_room (Nat.le_of_ble_eq_true rfl)) dX9_shown_61 ⟨(Nat.le_of_ble_eq_true rfl), (Nat.le_of_ble_eq_true rfl)⟩) hS (fun q9 _ h9 => hF1911 q9 h9) hF1911 (fun r1916 u1915 t1915 H1915 L1915 ht1915 hvm1915 hw1915 hB1915 hz1915 hk1915 hS => ?_)
  have hP := pq_keep hP hD [] rfl hk1915 hB1915.1 ht1915
  have hG : s.heap.size + 1928 ≤ H1915.size := Nat.le_trans hG hz1915
  refine W.eq (g2 := F0 m 64 ls [.int 0]) (by rw [hw1915]) ?_
  refine lv_istore (lv' := [(6, .int 0), (4, .int 0), (5, .ref a1874), (3, .int 48), (2, .int 5), (1, .int 0), (0, .ref h0)]) hx hb dX9_shown_64 hl (by decide) rfl (fun ls hl => ?_)
  refine lv_iload hx hb dX9_shown_66 (lv_at hl 1 rfl) ?_
  refine lv_if_ne (tgt := 82) hx hb dX9_shown_68 (by decide) (fun cz => absurd (by decide) cz) (fun _ => ?_)
  refine lv_aload_n hx hb dX9_shown_71 rfl (lv_at hl 6 rfl) ?_
  refine lv_iload_n hx hb dX9_shown_72 rfl (lv_at hl 4 rfl) ?_
  refine lv_iload_n hx hb dX9_shown_73 rfl (lv_at hl 3 rfl) ?_
  refine lv_iload hx hb dX9_shown_74 (lv_at hl 0 rfl) ?_
  have hM1919 := k979_showsIt l hl9 dC dI z h0 h1 h2 h4 h5 h7 h8 h9 h10 h11 h12 h13 h14 h3 H1915.size kc0 kc2
  obtain ⟨hF1917, hC1920⟩ := pc_M hM1919 hP hD hK hS hX hT hA [0, 1, 2, 3, 4, 5, 6, 7, 8, 9, 10, 11, 12] [0, 1] rfl rfl rfl
  refine va_calli (va_runV (As := [.int 5, .int 48, .int 0]) (rest := []) ⟨hx, hb, hml, hown, hts⟩ hM1919 (cwV 3 hts (gV q_429 q_430 q_431 q_60 q_428) rfl rfl rfl hV_X9_showsIt ⟨Nat.le_of_ble_eq_true rfl, Nat.le_of_ble_eq_true rfl⟩) ⟨pc_blind, va_recv hK hP (ci := 8) (q := (RX9, TX9, 6)) (q0 := 0) rfl rfl, fun U hU hW => ⟨rfl, hC1920 U hU hW⟩⟩ rfl rfl hl.1 rfl (lv_room (Nat.le_of_ble_eq_true rfl)) dX9_shown_76 ⟨(Nat.le_of_ble_eq_true rfl), (Nat.le_of_ble_eq_true rfl)⟩) hS (fun q9 _ h9 => hF1917 q9 h9) hF1917 (fun r1922 u1921 t1921 H1921 L1921 ht1921 hvm1921 hw1921 hB1921 hz1921 hk1921 hS => ?_)
  have hP := pq_keep hP hD [0, 1, 2, 3, 4, 5, 6, 7, 8, 9, 10, 11, 12] rfl hk1921 hB1921.1 ht1921
  have hG : s.heap.size + 1955 ≤ H1921.size := va_gr (g := 1928) (g1 := 27) hG (by rw [← ht1921]; exact hB1921.2)
  refine W.eq (g2 := F0 m 79 ls [.int 0]) (by rw [hw1921]) ?_
  refine W.widen (k := 1955) (n := 18188) (by decide) (by decide) ?_
  refine lv_if_eq (tgt := 86) hx hb dX9_shown_79 (by decide) (fun _ => ?_) (fun cz => absurd (by decide) cz)
  refine lv_iconst (v := 0) hx hb dX9_shown_86 (by decide) ?_
  refine lv_istore (lv' := [(4, .int 0), (6, .int 0), (5, .ref a1874), (3, .int 48), (2, .int 5), (1, .int 0), (0, .ref h0)]) hx hb dX9_shown_87 hl (by decide) rfl (fun ls hl => ?_)
  refine lv_goto (tgt := 41) hx hb dX9_shown_89 (by decide) ?_
  refine lv_aload hx hb dX9_shown_41 (lv_at hl 2 rfl) ?_
  have hM1925 := k731_hasNext l hl9 dC dI z a1874 h3 h6 H1921.size
  obtain ⟨hF1923, hC1926⟩ := pc_M hM1925 hP hD hK hS hX hT hA [13, 14] [] rfl rfl rfl
  refine va_callFi (va_runF (As := []) (rest := []) (hK.1 1 (RJx35411, TJx35411, 4) rfl).2 ⟨hx, hb, hml, hown, hts⟩ hM1925 (va_cwF 0 hts (gF q_261 q_262 q_263 q_246 q_260) rfl rfl rfl hT.2.2.2.2.2.2.1 hF_xIh ⟨Nat.le_of_ble_eq_true rfl, Nat.le_of_ble_eq_true rfl⟩) ⟨pc_blind, va_recv hK hP (ci := 1) (q := (RJx35411, TJx35411, 4)) (q0 := 13) rfl rfl, fun U hU hW => ⟨rfl, hC1926 U hU hW⟩⟩ rfl rfl hl.1 rfl (lv_room (Nat.le_of_ble_eq_true rfl)) dX9_shown_43 ⟨(Nat.le_of_ble_eq_true rfl), (Nat.le_of_ble_eq_true rfl)⟩) hS (fun q9 _ h9 => hF1923 q9 h9) hF1923 (fun r1928 u1927 t1927 H1927 L1927 ht1927 hvm1927 hw1927 hB1927 hz1927 hk1927 hS => ?_)
  have hP := pq_keep hP hD [13, 14] rfl hk1927 hB1927.1 ht1927
  have hG : s.heap.size + 1955 ≤ H1927.size := Nat.le_trans hG hz1927
  refine W.eq (g2 := F0 m 48 ls [.int 1]) (by rw [hw1927]) ?_
  refine lv_if_eq (tgt := 92) hx hb dX9_shown_48 (by decide) (fun cz => absurd cz (by decide)) (fun _ => ?_)
  refine lv_aload hx hb dX9_shown_51 (lv_at hl 2 rfl) ?_
  have hM1931 := k955_next l hl9 dC dI z a1874 h3 h6 H1927.size kc1
  obtain ⟨hF1929, hC1932⟩ := pc_M hM1931 hP hD hK hS hX hT hA [13, 14, 15] [2] rfl rfl rfl
  refine va_callFr (va_runF (As := []) (rest := []) (hK.1 1 (RJx35411, TJx35411, 4) rfl).2 ⟨hx, hb, hml, hown, hts⟩ hM1931 (va_cwF 0 hts (gF q_308 q_309 q_310 q_246 q_307) rfl rfl rfl hT.2.2.2.2.2.2.2.1 hF_xIn ⟨Nat.le_of_ble_eq_true rfl, Nat.le_of_ble_eq_true rfl⟩) ⟨pc_blind, va_recv hK hP (ci := 1) (q := (RJx35411, TJx35411, 4)) (q0 := 13) rfl rfl, fun U hU hW => ⟨rfl, hC1932 U hU hW⟩⟩ rfl rfl hl.1 rfl (lv_room (Nat.le_of_ble_eq_true rfl)) dX9_shown_53 ⟨(Nat.le_of_ble_eq_true rfl), (Nat.le_of_ble_eq_true rfl)⟩) hS (fun q9 _ h9 => hF1929 q9 h9) hF1929 (fun u1933 r1934 t1933 H1933 L1933 ht1933 hvm1933 hw1933 hB1933 hz1933 hk1933 hS => ?_)
  obtain ⟨hr1933, hB1933⟩ := hB1933
  obtain ⟨hP, hD, hK⟩ := pq_jn (wz := [(h0, ce21 h1 h2 h3 h4), (h1, ce331 h5), (h2, ce3 z.1), (h4, ce366 h7), (h5, ce330 kc0 h8 h9 h10 h11 h12 h13 h14), (h7, ce330 kc2 (z.2.2.1 128) (z.2.2.1 129) (z.2.2.1 130) (z.2.2.1 131) (z.2.2.1 132) (z.2.2.1 133) (z.2.2.1 134)), (h8, ce49), (h9, ce49), (h10, ce49), (h11, ce49), (h12, ce49), (h13, ce49), (h14, ce49), (a1874, ce376 h3), (h3, ce331 h6), (h6, ce330 kc1 (z.2.2.1 128) (z.2.2.1 128) (z.2.2.1 128) (z.2.2.1 128) (z.2.2.1 128) (z.2.2.1 128) (z.2.2.1 128))]) (tz := [(kc0, .object "java/lang/Object"), (kc2, .object "java/lang/Object"), (kc1, .object "java/lang/Object")]) hP hD hK [13, 14, 15] [0, 1] rfl hk1933 hF1929 hB1933.1 ht1933 hvm1933 rfl rfl
  have hG : s.heap.size + 1955 ≤ H1933.size := Nat.le_trans hG hz1933
  refine W.eq (g2 := F0 m 58 ls [.ref (z.2.2.1 128)]) (by rw [hr1933]) ?_
  refine va_castE (nm := "java/lang/Integer") hx hb hown (hts _ q_320) (va_Orecv (hX.2.2.1.1.1 128 (by decide)) hS) dX9_shown_58 ?_
  have hM1937 := k74_intValue l hl9 dC dI z H1933.size
  obtain ⟨hF1935, hC1938⟩ := pc_M hM1937 hP hD hK hS hX hT hA [] [] rfl rfl rfl
  refine va_calli (va_runV (As := []) (rest := []) ⟨hx, hb, hml, hown, hts⟩ hM1937 (cwV 0 hts (gV q_323 q_324 q_325 q_297 q_322) rfl rfl rfl hV_J6_intValue_8abf5 ⟨Nat.le_of_ble_eq_true rfl, Nat.le_of_ble_eq_true rfl⟩) ⟨pc_blind, va_Orecv (hX.2.2.1.1.1 128 (by decide)) hS, fun U hU hW => ⟨rfl, hC1938 U hU hW⟩⟩ rfl rfl hl.1 rfl (lv_room (Nat.le_of_ble_eq_true rfl)) dX9_shown_61 ⟨(Nat.le_of_ble_eq_true rfl), (Nat.le_of_ble_eq_true rfl)⟩) hS (fun q9 _ h9 => hF1935 q9 h9) hF1935 (fun r1940 u1939 t1939 H1939 L1939 ht1939 hvm1939 hw1939 hB1939 hz1939 hk1939 hS => ?_)
  have hP := pq_keep hP hD [] rfl hk1939 hB1939.1 ht1939
  have hG : s.heap.size + 1955 ≤ H1939.size := Nat.le_trans hG hz1939
  refine W.eq (g2 := F0 m 64 ls [.int 0]) (by rw [hw1939]) ?_
  refine lv_istore (lv' := [(6, .int 0), (4, .int 0), (5, .ref a1874), (3, .int 48), (2, .int 5), (1, .int 0), (0, .ref h0)]) hx hb dX9_shown_64 hl (by decide) rfl (fun ls hl => ?_)
  refine lv_iload hx hb dX9_shown_66 (lv_at hl 1 rfl) ?_
  refine lv_if_ne (tgt := 82) hx hb dX9_shown_68 (by decide) (fun cz => absurd (by decide) cz) (fun _ => ?_)
  refine lv_aload_n hx hb dX9_shown_71 rfl (lv_at hl 6 rfl) ?_
  refine lv_iload_n hx hb dX9_shown_72 rfl (lv_at hl 4 rfl) ?_
  refine lv_iload_n hx hb dX9_shown_73 rfl (lv_at hl 3 rfl) ?_
  refine lv_iload hx hb dX9_shown_74 (lv_at hl 0 rfl) ?_
  have hM1943 := k979_showsIt l hl9 dC dI z h0 h1 h2 h4 h5 h7 h8 h9 h10 h11 h12 h13 h14 h3 H1939.size kc0 kc2
  obtain ⟨hF1941, hC1944⟩ := pc_M hM1943 hP hD hK hS hX hT hA [0, 1, 2, 3, 4, 5, 6, 7, 8, 9, 10, 11, 12] [0, 1] rfl rfl rfl
  refine va_calli (va_runV (As := [.int 5, .int 48, .int 0]) (rest := []) ⟨hx, hb, hml, hown, hts⟩ hM1943 (cwV 3 hts (gV q_429 q_430 q_431 q_60 q_428) rfl rfl rfl hV_X9_showsIt ⟨Nat.le_of_ble_eq_true rfl, Nat.le_of_ble_eq_true rfl⟩) ⟨pc_blind, va_recv hK hP (ci := 8) (q := (RX9, TX9, 6)) (q0 := 0) rfl rfl, fun U hU hW => ⟨rfl, hC1944 U hU hW⟩⟩ rfl rfl hl.1 rfl (lv_room (Nat.le_of_ble_eq_true rfl)) dX9_shown_76 ⟨(Nat.le_of_ble_eq_true rfl), (Nat.le_of_ble_eq_true rfl)⟩) hS (fun q9 _ h9 => hF1941 q9 h9) hF1941 (fun r1946 u1945 t1945 H1945 L1945 ht1945 hvm1945 hw1945 hB1945 hz1945 hk1945 hS => ?_)
  have hP := pq_keep hP hD [0, 1, 2, 3, 4, 5, 6, 7, 8, 9, 10, 11, 12] rfl hk1945 hB1945.1 ht1945
  have hG : s.heap.size + 1982 ≤ H1945.size := va_gr (g := 1955) (g1 := 27) hG (by rw [← ht1945]; exact hB1945.2)
  refine W.eq (g2 := F0 m 79 ls [.int 0]) (by rw [hw1945]) ?_
  refine W.widen (k := 1982) (n := 18440) (by decide) (by decide) ?_
  refine lv_if_eq (tgt := 86) hx hb dX9_shown_79 (by decide) (fun _ => ?_) (fun cz => absurd (by decide) cz)
  refine lv_iconst (v := 0) hx hb dX9_shown_86 (by decide) ?_
  refine lv_istore (lv' := [(4, .int 0), (6, .int 0), (5, .ref a1874), (3, .int 48), (2, .int 5), (1, .int 0), (0, .ref h0)]) hx hb dX9_shown_87 hl (by decide) rfl (fun ls hl => ?_)
  refine lv_goto (tgt := 41) hx hb dX9_shown_89 (by decide) ?_
  refine lv_aload hx hb dX9_shown_41 (lv_at hl 2 rfl) ?_
  have hM1949 := k734_hasNext l hl9 dC dI z a1874 h3 h6 H1945.size
  obtain ⟨hF1947, hC1950⟩ := pc_M hM1949 hP hD hK hS hX hT hA [13, 14] [] rfl rfl rfl
  refine va_callFi (va_runF (As := []) (rest := []) (hK.1 1 (RJx35411, TJx35411, 4) rfl).2 ⟨hx, hb, hml, hown, hts⟩ hM1949 (va_cwF 0 hts (gF q_261 q_262 q_263 q_246 q_260) rfl rfl rfl hT.2.2.2.2.2.2.1 hF_xIh ⟨Nat.le_of_ble_eq_true rfl, Nat.le_of_ble_eq_true rfl⟩) ⟨pc_blind, va_recv hK hP (ci := 1) (q := (RJx35411, TJx35411, 4)) (q0 := 13) rfl rfl, fun U hU hW => ⟨rfl, hC1950 U hU hW⟩⟩ rfl rfl hl.1 rfl (lv_room (Nat.le_of_ble_eq_true rfl)) dX9_shown_43 ⟨(Nat.le_of_ble_eq_true rfl), (Nat.le_of_ble_eq_true rfl)⟩) hS (fun q9 _ h9 => hF1947 q9 h9) hF1947 (fun r1952 u1951 t1951 H1951 L1951 ht1951 hvm1951 hw1951 hB1951 hz1951 hk1951 hS => ?_)
  have hP := pq_keep hP hD [13, 14] rfl hk1951 hB1951.1 ht1951
  have hG : s.heap.size + 1982 ≤ H1951.size := Nat.le_trans hG hz1951
  refine W.eq (g2 := F0 m 48 ls [.int 1]) (by rw [hw1951]) ?_
  refine lv_if_eq (tgt := 92) hx hb dX9_shown_48 (by decide) (fun cz => absurd cz (by decide)) (fun _ => ?_)
  refine lv_aload hx hb dX9_shown_51 (lv_at hl 2 rfl) ?_
  have hM1955 := k956_next l hl9 dC dI z a1874 h3 h6 H1951.size kc1
  obtain ⟨hF1953, hC1956⟩ := pc_M hM1955 hP hD hK hS hX hT hA [13, 14, 15] [2] rfl rfl rfl
  refine va_callFr (va_runF (As := []) (rest := []) (hK.1 1 (RJx35411, TJx35411, 4) rfl).2 ⟨hx, hb, hml, hown, hts⟩ hM1955 (va_cwF 0 hts (gF q_308 q_309 q_310 q_246 q_307) rfl rfl rfl hT.2.2.2.2.2.2.2.1 hF_xIn ⟨Nat.le_of_ble_eq_true rfl, Nat.le_of_ble_eq_true rfl⟩) ⟨pc_blind, va_recv hK hP (ci := 1) (q := (RJx35411, TJx35411, 4)) (q0 := 13) rfl rfl, fun U hU hW => ⟨rfl, hC1956 U hU hW⟩⟩ rfl rfl hl.1 rfl (lv_room (Nat.le_of_ble_eq_true rfl)) dX9_shown_53 ⟨(Nat.le_of_ble_eq_true rfl), (Nat.le_of_ble_eq_true rfl)⟩) hS (fun q9 _ h9 => hF1953 q9 h9) hF1953 (fun u1957 r1958 t1957 H1957 L1957 ht1957 hvm1957 hw1957 hB1957 hz1957 hk1957 hS => ?_)
  obtain ⟨hr1957, hB1957⟩ := hB1957
  obtain ⟨hP, hD, hK⟩ := pq_jn (wz := [(h0, ce21 h1 h2 h3 h4), (h1, ce331 h5), (h2, ce3 z.1), (h4, ce366 h7), (h5, ce330 kc0 h8 h9 h10 h11 h12 h13 h14), (h7, ce330 kc2 (z.2.2.1 128) (z.2.2.1 129) (z.2.2.1 130) (z.2.2.1 131) (z.2.2.1 132) (z.2.2.1 133) (z.2.2.1 134)), (h8, ce49), (h9, ce49), (h10, ce49), (h11, ce49), (h12, ce49), (h13, ce49), (h14, ce49), (a1874, ce378 h3), (h3, ce331 h6), (h6, ce330 kc1 (z.2.2.1 128) (z.2.2.1 128) (z.2.2.1 128) (z.2.2.1 128) (z.2.2.1 128) (z.2.2.1 128) (z.2.2.1 128))]) (tz := [(kc0, .object "java/lang/Object"), (kc2, .object "java/lang/Object"), (kc1, .object "java/lang/Object")]) hP hD hK [13, 14, 15] [0, 1] rfl hk1957 hF1953 hB1957.1 ht1957 hvm1957 rfl rfl
  have hG : s.heap.size + 1982 ≤ H1957.size := Nat.le_trans hG hz1957
  refine W.eq (g2 := F0 m 58 ls [.ref (z.2.2.1 128)]) (by rw [hr1957]) ?_
  refine va_castE (nm := "java/lang/Integer") hx hb hown (hts _ q_320) (va_Orecv (hX.2.2.1.1.1 128 (by decide)) hS) dX9_shown_58 ?_
  have hM1961 := k74_intValue l hl9 dC dI z H1957.size
  obtain ⟨hF1959, hC1962⟩ := pc_M hM1961 hP hD hK hS hX hT hA [] [] rfl rfl rfl
  refine va_calli (va_runV (As := []) (rest := []) ⟨hx, hb, hml, hown, hts⟩ hM1961 (cwV 0 hts (gV q_323 q_324 q_325 q_297 q_322) rfl rfl rfl hV_J6_intValue_8abf5 ⟨Nat.le_of_ble_eq_true rfl, Nat.le_of_ble_eq_true rfl⟩) ⟨pc_blind, va_Orecv (hX.2.2.1.1.1 128 (by decide)) hS, fun U hU hW => ⟨rfl, hC1962 U hU hW⟩⟩ rfl rfl hl.1 rfl (lv_room (Nat.le_of_ble_eq_true rfl)) dX9_shown_61 ⟨(Nat.le_of_ble_eq_true rfl), (Nat.le_of_ble_eq_true rfl)⟩) hS (fun q9 _ h9 => hF1959 q9 h9) hF1959 (fun r1964 u1963 t1963 H1963 L1963 ht1963 hvm1963 hw1963 hB1963 hz1963 hk1963 hS => ?_)
  have hP := pq_keep hP hD [] rfl hk1963 hB1963.1 ht1963
  have hG : s.heap.size + 1982 ≤ H1963.size := Nat.le_trans hG hz1963
  refine W.eq (g2 := F0 m 64 ls [.int 0]) (by rw [hw1963]) ?_
  refine lv_istore (lv' := [(6, .int 0), (4, .int 0), (5, .ref a1874), (3, .int 48), (2, .int 5), (1, .int 0), (0, .ref h0)]) hx hb dX9_shown_64 hl (by decide) rfl (fun ls hl => ?_)
  refine lv_iload hx hb dX9_shown_66 (lv_at hl 1 rfl) ?_
  refine lv_if_ne (tgt := 82) hx hb dX9_shown_68 (by decide) (fun cz => absurd (by decide) cz) (fun _ => ?_)
  refine lv_aload_n hx hb dX9_shown_71 rfl (lv_at hl 6 rfl) ?_
  refine lv_iload_n hx hb dX9_shown_72 rfl (lv_at hl 4 rfl) ?_
  refine lv_iload_n hx hb dX9_shown_73 rfl (lv_at hl 3 rfl) ?_
  refine lv_iload hx hb dX9_shown_74 (lv_at hl 0 rfl) ?_
  have hM1967 := k979_showsIt l hl9 dC dI z h0 h1 h2 h4 h5 h7 h8 h9 h10 h11 h12 h13 h14 h3 H1963.size kc0 kc2
  obtain ⟨hF1965, hC1968⟩ := pc_M hM1967 hP hD hK hS hX hT hA [0, 1, 2, 3, 4, 5, 6, 7, 8, 9, 10, 11, 12] [0, 1] rfl rfl rfl
  refine va_calli (va_runV (As := [.int 5, .int 48, .int 0]) (rest := []) ⟨hx, hb, hml, hown, hts⟩ hM1967 (cwV 3 hts (gV q_429 q_430 q_431 q_60 q_428) rfl rfl rfl hV_X9_showsIt ⟨Nat.le_of_ble_eq_true rfl, Nat.le_of_ble_eq_true rfl⟩) ⟨pc_blind, va_recv hK hP (ci := 8) (q := (RX9, TX9, 6)) (q0 := 0) rfl rfl, fun U hU hW => ⟨rfl, hC1968 U hU hW⟩⟩ rfl rfl hl.1 rfl (lv_room (Nat.le_of_ble_eq_true rfl)) dX9_shown_76 ⟨(Nat.le_of_ble_eq_true rfl), (Nat.le_of_ble_eq_true rfl)⟩) hS (fun q9 _ h9 => hF1965 q9 h9) hF1965 (fun r1970 u1969 t1969 H1969 L1969 ht1969 hvm1969 hw1969 hB1969 hz1969 hk1969 hS => ?_)
  have hP := pq_keep hP hD [0, 1, 2, 3, 4, 5, 6, 7, 8, 9, 10, 11, 12] rfl hk1969 hB1969.1 ht1969
  have hG : s.heap.size + 2009 ≤ H1969.size := va_gr (g := 1982) (g1 := 27) hG (by rw [← ht1969]; exact hB1969.2)
  refine W.eq (g2 := F0 m 79 ls [.int 0]) (by rw [hw1969]) ?_
  refine W.widen (k := 2009) (n := 18692) (by decide) (by decide) ?_
  refine lv_if_eq (tgt := 86) hx hb dX9_shown_79 (by decide) (fun _ => ?_) (fun cz => absurd (by decide) cz)
  refine lv_iconst (v := 0) hx hb dX9_shown_86 (by decide) ?_
  refine lv_istore (lv' := [(4, .int 0), (6, .int 0), (5, .ref a1874), (3, .int 48), (2, .int 5), (1, .int 0), (0, .ref h0)]) hx hb dX9_shown_87 hl (by decide) rfl (fun ls hl => ?_)
  refine lv_goto (tgt := 41) hx hb dX9_shown_89 (by decide) ?_
  refine lv_aload hx hb dX9_shown_41 (lv_at hl 2 rfl) ?_
  have hM1973 := k737_hasNext l hl9 dC dI z a1874 h3 h6 H1969.size
  obtain ⟨hF1971, hC1974⟩ := pc_M hM1973 hP hD hK hS hX hT hA [13, 14] [] rfl rfl rfl
  refine va_callFi (va_runF (As := []) (rest := []) (hK.1 1 (RJx35411, TJx35411, 4) rfl).2 ⟨hx, hb, hml, hown, hts⟩ hM1973 (va_cwF 0 hts (gF q_261 q_262 q_263 q_246 q_260) rfl rfl rfl hT.2.2.2.2.2.2.1 hF_xIh ⟨Nat.le_of_ble_eq_true rfl, Nat.le_of_ble_eq_true rfl⟩) ⟨pc_blind, va_recv hK hP (ci := 1) (q := (RJx35411, TJx35411, 4)) (q0 := 13) rfl rfl, fun U hU hW => ⟨rfl, hC1974 U hU hW⟩⟩ rfl rfl hl.1 rfl (lv_room (Nat.le_of_ble_eq_true rfl)) dX9_shown_43 ⟨(Nat.le_of_ble_eq_true rfl), (Nat.le_of_ble_eq_true rfl)⟩) hS (fun q9 _ h9 => hF1971 q9 h9) hF1971 (fun r1976 u1975 t1975 H1975 L1975 ht1975 hvm1975 hw1975 hB1975 hz1975 hk1975 hS => ?_)
  have hP := pq_keep hP hD [13, 14] rfl hk1975 hB1975.1 ht1975
  have hG : s.heap.size + 2009 ≤ H1975.size := Nat.le_trans hG hz1975
  refine W.eq (g2 := F0 m 48 ls [.int 1]) (by rw [hw1975]) ?_
  refine lv_if_eq (tgt := 92) hx hb dX9_shown_48 (by decide) (fun cz => absurd cz (by decide)) (fun _ => ?_)
  refine lv_aload hx hb dX9_shown_51 (lv_at hl 2 rfl) ?_
  have hM1979 := k957_next l hl9 dC dI z a1874 h3 h6 H1975.size kc1
  obtain ⟨hF1977, hC1980⟩ := pc_M hM1979 hP hD hK hS hX hT hA [13, 14, 15] [2] rfl rfl rfl
  refine va_callFr (va_runF (As := []) (rest := []) (hK.1 1 (RJx35411, TJx35411, 4) rfl).2 ⟨hx, hb, hml, hown, hts⟩ hM1979 (va_cwF 0 hts (gF q_308 q_309 q_310 q_246 q_307) rfl rfl rfl hT.2.2.2.2.2.2.2.1 hF_xIn ⟨Nat.le_of_ble_eq_true rfl, Nat.le_of_ble_eq_true rfl⟩) ⟨pc_blind, va_recv hK hP (ci := 1) (q := (RJx35411, TJx35411, 4)) (q0 := 13) rfl rfl, fun U hU hW => ⟨rfl, hC1980 U hU hW⟩⟩ rfl rfl hl.1 rfl (lv_room (Nat.le_of_ble_eq_true rfl)) dX9_shown_53 ⟨(Nat.le_of_ble_eq_true rfl), (Nat.le_of_ble_eq_true rfl)⟩) hS (fun q9 _ h9 => hF1977 q9 h9) hF1977 (fun u1981 r1982 t1981 H1981 L1981 ht1981 hvm1981 hw1981 hB1981 hz1981 hk1981 hS => ?_)
  obtain ⟨hr1981, hB1981⟩ := hB1981
  obtain ⟨hP, hD, hK⟩ := pq_jn (wz := [(h0, ce21 h1 h2 h3 h4), (h1, ce331 h5), (h2, ce3 z.1), (h4, ce366 h7), (h5, ce330 kc0 h8 h9 h10 h11 h12 h13 h14), (h7, ce330 kc2 (z.2.2.1 128) (z.2.2.1 129) (z.2.2.1 130) (z.2.2.1 131) (z.2.2.1 132) (z.2.2.1 133) (z.2.2.1 134)), (h8, ce49), (h9, ce49), (h10, ce49), (h11, ce49), (h12, ce49), (h13, ce49), (h14, ce49), (a1874, ce380 h3), (h3, ce331 h6), (h6, ce330 kc1 (z.2.2.1 128) (z.2.2.1 128) (z.2.2.1 128) (z.2.2.1 128) (z.2.2.1 128) (z.2.2.1 128) (z.2.2.1 128))]) (tz := [(kc0, .object "java/lang/Object"), (kc2, .object "java/lang/Object"), (kc1, .object "java/lang/Object")]) hP hD hK [13, 14, 15] [0, 1] rfl hk1981 hF1977 hB1981.1 ht1981 hvm1981 rfl rfl
  have hG : s.heap.size + 2009 ≤ H1981.size := Nat.le_trans hG hz1981
  refine W.eq (g2 := F0 m 58 ls [.ref (z.2.2.1 128)]) (by rw [hr1981]) ?_
  refine va_castE (nm := "java/lang/Integer") hx hb hown (hts _ q_320) (va_Orecv (hX.2.2.1.1.1 128 (by decide)) hS) dX9_shown_58 ?_
  have hM1985 := k74_intValue l hl9 dC dI z H1981.size
  obtain ⟨hF1983, hC1986⟩ := pc_M hM1985 hP hD hK hS hX hT hA [] [] rfl rfl rfl
  refine va_calli (va_runV (As := []) (rest := []) ⟨hx, hb, hml, hown, hts⟩ hM1985 (cwV 0 hts (gV q_323 q_324 q_325 q_297 q_322) rfl rfl rfl hV_J6_intValue_8abf5 ⟨Nat.le_of_ble_eq_true rfl, Nat.le_of_ble_eq_true rfl⟩) ⟨pc_blind, va_Orecv (hX.2.2.1.1.1 128 (by decide)) hS, fun U hU hW => ⟨rfl, hC1986 U hU hW⟩⟩ rfl rfl hl.1 rfl (lv_room (Nat.le_of_ble_eq_true rfl)) dX9_shown_61 ⟨(Nat.le_of_ble_eq_true rfl), (Nat.le_of_ble_eq_true rfl)⟩) hS (fun q9 _ h9 => hF1983 q9 h9) hF1983 (fun r1988 u1987 t1987 H1987 L1987 ht1987 hvm1987 hw1987 hB1987 hz1987 hk1987 hS => ?_)
  have hP := pq_keep hP hD [] rfl hk1987 hB1987.1 ht1987
  have hG : s.heap.size + 2009 ≤ H1987.size := Nat.le_trans hG hz1987
  refine W.eq (g2 := F0 m 64 ls [.int 0]) (by rw [hw1987]) ?_
  refine lv_istore (lv' := [(6, .int 0), (4, .int 0), (5, .ref a1874), (3, .int 48), (2, .int 5), (1, .int 0), (0, .ref h0)]) hx hb dX9_shown_64 hl (by decide) rfl (fun ls hl => ?_)
  refine lv_iload hx hb dX9_shown_66 (lv_at hl 1 rfl) ?_
  refine lv_if_ne (tgt := 82) hx hb dX9_shown_68 (by decide) (fun cz => absurd (by decide) cz) (fun _ => ?_)
  refine lv_aload_n hx hb dX9_shown_71 rfl (lv_at hl 6 rfl) ?_
  refine lv_iload_n hx hb dX9_shown_72 rfl (lv_at hl 4 rfl) ?_
  refine lv_iload_n hx hb dX9_shown_73 rfl (lv_at hl 3 rfl) ?_
  refine lv_iload hx hb dX9_shown_74 (lv_at hl 0 rfl) ?_
  have hM1991 := k979_showsIt l hl9 dC dI z h0 h1 h2 h4 h5 h7 h8 h9 h10 h11 h12 h13 h14 h3 H1987.size kc0 kc2
  obtain ⟨hF1989, hC1992⟩ := pc_M hM1991 hP hD hK hS hX hT hA [0, 1, 2, 3, 4, 5, 6, 7, 8, 9, 10, 11, 12] [0, 1] rfl rfl rfl
  refine va_calli (va_runV (As := [.int 5, .int 48, .int 0]) (rest := []) ⟨hx, hb, hml, hown, hts⟩ hM1991 (cwV 3 hts (gV q_429 q_430 q_431 q_60 q_428) rfl rfl rfl hV_X9_showsIt ⟨Nat.le_of_ble_eq_true rfl, Nat.le_of_ble_eq_true rfl⟩) ⟨pc_blind, va_recv hK hP (ci := 8) (q := (RX9, TX9, 6)) (q0 := 0) rfl rfl, fun U hU hW => ⟨rfl, hC1992 U hU hW⟩⟩ rfl rfl hl.1 rfl (lv_room (Nat.le_of_ble_eq_true rfl)) dX9_shown_76 ⟨(Nat.le_of_ble_eq_true rfl), (Nat.le_of_ble_eq_true rfl)⟩) hS (fun q9 _ h9 => hF1989 q9 h9) hF1989 (fun r1994 u1993 t1993 H1993 L1993 ht1993 hvm1993 hw1993 hB1993 hz1993 hk1993 hS => ?_)
  have hP := pq_keep hP hD [0, 1, 2, 3, 4, 5, 6, 7, 8, 9, 10, 11, 12] rfl hk1993 hB1993.1 ht1993
  have hG : s.heap.size + 2036 ≤ H1993.size := va_gr (g := 2009) (g1 := 27) hG (by rw [← ht1993]; exact hB1993.2)
  refine W.eq (g2 := F0 m 79 ls [.int 0]) (by rw [hw1993]) ?_
  refine W.widen (k := 2036) (n := 18944) (by decide) (by decide) ?_
  refine lv_if_eq (tgt := 86) hx hb dX9_shown_79 (by decide) (fun _ => ?_) (fun cz => absurd (by decide) cz)
  refine lv_iconst (v := 0) hx hb dX9_shown_86 (by decide) ?_
  refine lv_istore (lv' := [(4, .int 0), (6, .int 0), (5, .ref a1874), (3, .int 48), (2, .int 5), (1, .int 0), (0, .ref h0)]) hx hb dX9_shown_87 hl (by decide) rfl (fun ls hl => ?_)
  refine lv_goto (tgt := 41) hx hb dX9_shown_89 (by decide) ?_
  refine lv_aload hx hb dX9_shown_41 (lv_at hl 2 rfl) ?_
  have hM1997 := k740_hasNext l hl9 dC dI z a1874 h3 h6 H1993.size
  obtain ⟨hF1995, hC1998⟩ := pc_M hM1997 hP hD hK hS hX hT hA [13, 14] [] rfl rfl rfl
  refine va_callFi (va_runF (As := []) (rest := []) (hK.1 1 (RJx35411, TJx35411, 4) rfl).2 ⟨hx, hb, hml, hown, hts⟩ hM1997 (va_cwF 0 hts (gF q_261 q_262 q_263 q_246 q_260) rfl rfl rfl hT.2.2.2.2.2.2.1 hF_xIh ⟨Nat.le_of_ble_eq_true rfl, Nat.le_of_ble_eq_true rfl⟩) ⟨pc_blind, va_recv hK hP (ci := 1) (q := (RJx35411, TJx35411, 4)) (q0 := 13) rfl rfl, fun U hU hW => ⟨rfl, hC1998 U hU hW⟩⟩ rfl rfl hl.1 rfl (lv_room (Nat.le_of_ble_eq_true rfl)) dX9_shown_43 ⟨(Nat.le_of_ble_eq_true rfl), (Nat.le_of_ble_eq_true rfl)⟩) hS (fun q9 _ h9 => hF1995 q9 h9) hF1995 (fun r2000 u1999 t1999 H1999 L1999 ht1999 hvm1999 hw1999 hB1999 hz1999 hk1999 hS => ?_)
  have hP := pq_keep hP hD [13, 14] rfl hk1999 hB1999.1 ht1999
  have hG : s.heap.size + 2036 ≤ H1999.size := Nat.le_trans hG hz1999
  refine W.eq (g2 := F0 m 48 ls [.int 1]) (by rw [hw1999]) ?_
  refine lv_if_eq (tgt := 92) hx hb dX9_shown_48 (by decide) (fun cz => absurd cz (by decide)) (fun _ => ?_)
  refine lv_aload hx hb dX9_shown_51 (lv_at hl 2 rfl) ?_
  have hM2003 := k958_next l hl9 dC dI z a1874 h3 h6 H1999.size kc1
  obtain ⟨hF2001, hC2004⟩ := pc_M hM2003 hP hD hK hS hX hT hA [13, 14, 15] [2] rfl rfl rfl
  refine va_callFr (va_runF (As := []) (rest := []) (hK.1 1 (RJx35411, TJx35411, 4) rfl).2 ⟨hx, hb, hml, hown, hts⟩ hM2003 (va_cwF 0 hts (gF q_308 q_309 q_310 q_246 q_307) rfl rfl rfl hT.2.2.2.2.2.2.2.1 hF_xIn ⟨Nat.le_of_ble_eq_true rfl, Nat.le_of_ble_eq_true rfl⟩) ⟨pc_blind, va_recv hK hP (ci := 1) (q := (RJx35411, TJx35411, 4)) (q0 := 13) rfl rfl, fun U hU hW => ⟨rfl, hC2004 U hU hW⟩⟩ rfl rfl hl.1 rfl (lv_room (Nat.le_of_ble_eq_true rfl)) dX9_shown_53 ⟨(Nat.le_of_ble_eq_true rfl), (Nat.le_of_ble_eq_true rfl)⟩) hS (fun q9 _ h9 => hF2001 q9 h9) hF2001 (fun u2005 r2006 t2005 H2005 L2005 ht2005 hvm2005 hw2005 hB2005 hz2005 hk2005 hS => ?_)
  obtain ⟨hr2005, hB2005⟩ := hB2005
  obtain ⟨hP, hD, hK⟩ := pq_jn (wz := [(h0, ce21 h1 h2 h3 h4), (h1, ce331 h5), (h2, ce3 z.1), (h4, ce366 h7), (h5, ce330 kc0 h8 h9 h10 h11 h12 h13 h14), (h7, ce330 kc2 (z.2.2.1 128) (z.2.2.1 129) (z.2.2.1 130) (z.2.2.1 131) (z.2.2.1 132) (z.2.2.1 133) (z.2.2.1 134)), (h8, ce49), (h9, ce49), (h10, ce49), (h11, ce49), (h12, ce49), (h13, ce49), (h14, ce49), (a1874, ce382 h3), (h3, ce331 h6), (h6, ce330 kc1 (z.2.2.1 128) (z.2.2.1 128) (z.2.2.1 128) (z.2.2.1 128) (z.2.2.1 128) (z.2.2.1 128) (z.2.2.1 128))]) (tz := [(kc0, .object "java/lang/Object"), (kc2, .object "java/lang/Object"), (kc1, .object "java/lang/Object")]) hP hD hK [13, 14, 15] [0, 1] rfl hk2005 hF2001 hB2005.1 ht2005 hvm2005 rfl rfl
  have hG : s.heap.size + 2036 ≤ H2005.size := Nat.le_trans hG hz2005
  refine W.eq (g2 := F0 m 58 ls [.ref (z.2.2.1 128)]) (by rw [hr2005]) ?_
  refine va_castE (nm := "java/lang/Integer") hx hb hown (hts _ q_320) (va_Orecv (hX.2.2.1.1.1 128 (by decide)) hS) dX9_shown_58 ?_
  have hM2009 := k74_intValue l hl9 dC dI z H2005.size
  obtain ⟨hF2007, hC2010⟩ := pc_M hM2009 hP hD hK hS hX hT hA [] [] rfl rfl rfl
  refine va_calli (va_runV (As := []) (rest := []) ⟨hx, hb, hml, hown, hts⟩ hM2009 (cwV 0 hts (gV q_323 q_324 q_325 q_297 q_322) rfl rfl rfl hV_J6_intValue_8abf5 ⟨Nat.le_of_ble_eq_true rfl, Nat.le_of_ble_eq_true rfl⟩) ⟨pc_blind, va_Orecv (hX.2.2.1.1.1 128 (by decide)) hS, fun U hU hW => ⟨rfl, hC2010 U hU hW⟩⟩ rfl rfl hl.1 rfl (lv_room (Nat.le_of_ble_eq_true rfl)) dX9_shown_61 ⟨(Nat.le_of_ble_eq_true rfl), (Nat.le_of_ble_eq_true rfl)⟩) hS (fun q9 _ h9 => hF2007 q9 h9) hF2007 (fun r2012 u2011 t2011 H2011 L2011 ht2011 hvm2011 hw2011 hB2011 hz2011 hk2011 hS => ?_)
  have hP := pq_keep hP hD [] rfl hk2011 hB2011.1 ht2011
  have hG : s.heap.size + 2036 ≤ H2011.size := Nat.le_trans hG hz2011
  refine W.eq (g2 := F0 m 64 ls [.int 0]) (by rw [hw2011]) ?_
  refine lv_istore (lv' := [(6, .int 0), (4, .int 0), (5, .ref a1874), (3, .int 48), (2, .int 5), (1, .int 0), (0, .ref h0)]) hx hb dX9_shown_64 hl (by decide) rfl (fun ls hl => ?_)
  refine lv_iload hx hb dX9_shown_66 (lv_at hl 1 rfl) ?_
  refine lv_if_ne (tgt := 82) hx hb dX9_shown_68 (by decide) (fun cz => absurd (by decide) cz) (fun _ => ?_)
  refine lv_aload_n hx hb dX9_shown_71 rfl (lv_at hl 6 rfl) ?_
  refine lv_iload_n hx hb dX9_shown_72 rfl (lv_at hl 4 rfl) ?_
  refine lv_iload_n hx hb dX9_shown_73 rfl (lv_at hl 3 rfl) ?_
  refine lv_iload hx hb dX9_shown_74 (lv_at hl 0 rfl) ?_
  have hM2015 := k979_showsIt l hl9 dC dI z h0 h1 h2 h4 h5 h7 h8 h9 h10 h11 h12 h13 h14 h3 H2011.size kc0 kc2
  obtain ⟨hF2013, hC2016⟩ := pc_M hM2015 hP hD hK hS hX hT hA [0, 1, 2, 3, 4, 5, 6, 7, 8, 9, 10, 11, 12] [0, 1] rfl rfl rfl
  refine va_calli (va_runV (As := [.int 5, .int 48, .int 0]) (rest := []) ⟨hx, hb, hml, hown, hts⟩ hM2015 (cwV 3 hts (gV q_429 q_430 q_431 q_60 q_428) rfl rfl rfl hV_X9_showsIt ⟨Nat.le_of_ble_eq_true rfl, Nat.le_of_ble_eq_true rfl⟩) ⟨pc_blind, va_recv hK hP (ci := 8) (q := (RX9, TX9, 6)) (q0 := 0) rfl rfl, fun U hU hW => ⟨rfl, hC2016 U hU hW⟩⟩ rfl rfl hl.1 rfl (lv_room (Nat.le_of_ble_eq_true rfl)) dX9_shown_76 ⟨(Nat.le_of_ble_eq_true rfl), (Nat.le_of_ble_eq_true rfl)⟩) hS (fun q9 _ h9 => hF2013 q9 h9) hF2013 (fun r2018 u2017 t2017 H2017 L2017 ht2017 hvm2017 hw2017 hB2017 hz2017 hk2017 hS => ?_)
  have hP := pq_keep hP hD [0, 1, 2, 3, 4, 5, 6, 7, 8, 9, 10, 11, 12] rfl hk2017 hB2017.1 ht2017
  have hG : s.heap.size + 2063 ≤ H2017.size := va_gr (g := 2036) (g1 := 27) hG (by rw [← ht2017]; exact hB2017.2)
  refine W.eq (g2 := F0 m 79 ls [.int 0]) (by rw [hw2017]) ?_
  refine W.widen (k := 2063) (n := 19196) (by decide) (by decide) ?_
  refine lv_if_eq (tgt := 86) hx hb dX9_shown_79 (by decide) (fun _ => ?_) (fun cz => absurd (by decide) cz)
  refine lv_iconst (v := 0) hx hb dX9_shown_86 (by decide) ?_
  refine lv_istore (lv' := [(4, .int 0), (6, .int 0), (5, .ref a1874), (3, .int 48), (2, .int 5), (1, .int 0), (0, .ref h0)]) hx hb dX9_shown_87 hl (by decide) rfl (fun ls hl => ?_)
  refine lv_goto (tgt := 41) hx hb dX9_shown_89 (by decide) ?_
  refine lv_aload hx hb dX9_shown_41 (lv_at hl 2 rfl) ?_
  have hM2021 := k743_hasNext l hl9 dC dI z a1874 h3 h6 H2017.size
  obtain ⟨hF2019, hC2022⟩ := pc_M hM2021 hP hD hK hS hX hT hA [13, 14] [] rfl rfl rfl
  refine va_callFi (va_runF (As := []) (rest := []) (hK.1 1 (RJx35411, TJx35411, 4) rfl).2 ⟨hx, hb, hml, hown, hts⟩ hM2021 (va_cwF 0 hts (gF q_261 q_262 q_263 q_246 q_260) rfl rfl rfl hT.2.2.2.2.2.2.1 hF_xIh ⟨Nat.le_of_ble_eq_true rfl, Nat.le_of_ble_eq_true rfl⟩) ⟨pc_blind, va_recv hK hP (ci := 1) (q := (RJx35411, TJx35411, 4)) (q0 := 13) rfl rfl, fun U hU hW => ⟨rfl, hC2022 U hU hW⟩⟩ rfl rfl hl.1 rfl (lv_room (Nat.le_of_ble_eq_true rfl)) dX9_shown_43 ⟨(Nat.le_of_ble_eq_true rfl), (Nat.le_of_ble_eq_true rfl)⟩) hS (fun q9 _ h9 => hF2019 q9 h9) hF2019 (fun r2024 u2023 t2023 H2023 L2023 ht2023 hvm2023 hw2023 hB2023 hz2023 hk2023 hS => ?_)
  have hP := pq_keep hP hD [13, 14] rfl hk2023 hB2023.1 ht2023
  have hG : s.heap.size + 2063 ≤ H2023.size := Nat.le_trans hG hz2023
  refine W.eq (g2 := F0 m 48 ls [.int 1]) (by rw [hw2023]) ?_
  refine lv_if_eq (tgt := 92) hx hb dX9_shown_48 (by decide) (fun cz => absurd cz (by decide)) (fun _ => ?_)
  refine lv_aload hx hb dX9_shown_51 (lv_at hl 2 rfl) ?_
  have hM2027 := k959_next l hl9 dC dI z a1874 h3 h6 H2023.size kc1
  obtain ⟨hF2025, hC2028⟩ := pc_M hM2027 hP hD hK hS hX hT hA [13, 14, 15] [2] rfl rfl rfl
  refine va_callFr (va_runF (As := []) (rest := []) (hK.1 1 (RJx35411, TJx35411, 4) rfl).2 ⟨hx, hb, hml, hown, hts⟩ hM2027 (va_cwF 0 hts (gF q_308 q_309 q_310 q_246 q_307) rfl rfl rfl hT.2.2.2.2.2.2.2.1 hF_xIn ⟨Nat.le_of_ble_eq_true rfl, Nat.le_of_ble_eq_true rfl⟩) ⟨pc_blind, va_recv hK hP (ci := 1) (q := (RJx35411, TJx35411, 4)) (q0 := 13) rfl rfl, fun U hU hW => ⟨rfl, hC2028 U hU hW⟩⟩ rfl rfl hl.1 rfl (lv_room (Nat.le_of_ble_eq_true rfl)) dX9_shown_53 ⟨(Nat.le_of_ble_eq_true rfl), (Nat.le_of_ble_eq_true rfl)⟩) hS (fun q9 _ h9 => hF2025 q9 h9) hF2025 (fun u2029 r2030 t2029 H2029 L2029 ht2029 hvm2029 hw2029 hB2029 hz2029 hk2029 hS => ?_)
  obtain ⟨hr2029, hB2029⟩ := hB2029
  obtain ⟨hP, hD, hK⟩ := pq_jn (wz := [(h0, ce21 h1 h2 h3 h4), (h1, ce331 h5), (h2, ce3 z.1), (h4, ce366 h7), (h5, ce330 kc0 h8 h9 h10 h11 h12 h13 h14), (h7, ce330 kc2 (z.2.2.1 128) (z.2.2.1 129) (z.2.2.1 130) (z.2.2.1 131) (z.2.2.1 132) (z.2.2.1 133) (z.2.2.1 134)), (h8, ce49), (h9, ce49), (h10, ce49), (h11, ce49), (h12, ce49), (h13, ce49), (h14, ce49), (a1874, ce384 h3), (h3, ce331 h6), (h6, ce330 kc1 (z.2.2.1 128) (z.2.2.1 128) (z.2.2.1 128) (z.2.2.1 128) (z.2.2.1 128) (z.2.2.1 128) (z.2.2.1 128))]) (tz := [(kc0, .object "java/lang/Object"), (kc2, .object "java/lang/Object"), (kc1, .object "java/lang/Object")]) hP hD hK [13, 14, 15] [0, 1] rfl hk2029 hF2025 hB2029.1 ht2029 hvm2029 rfl rfl
  have hG : s.heap.size + 2063 ≤ H2029.size := Nat.le_trans hG hz2029
  refine W.eq (g2 := F0 m 58 ls [.ref (z.2.2.1 128)]) (by rw [hr2029]) ?_
  refine va_castE (nm := "java/lang/Integer") hx hb hown (hts _ q_320) (va_Orecv (hX.2.2.1.1.1 128 (by decide)) hS) dX9_shown_58 ?_
  have hM2033 := k74_intValue l hl9 dC dI z H2029.size
  obtain ⟨hF2031, hC2034⟩ := pc_M hM2033 hP hD hK hS hX hT hA [] [] rfl rfl rfl
  refine va_calli (va_runV (As := []) (rest := []) ⟨hx, hb, hml, hown, hts⟩ hM2033 (cwV 0 hts (gV q_323 q_324 q_325 q_297 q_322) rfl rfl rfl hV_J6_intValue_8abf5 ⟨Nat.le_of_ble_eq_true rfl, Nat.le_of_ble_eq_true rfl⟩) ⟨pc_blind, va_Orecv (hX.2.2.1.1.1 128 (by decide)) hS, fun U hU hW => ⟨rfl, hC2034 U hU hW⟩⟩ rfl rfl hl.1 rfl (lv_room (Nat.le_of_ble_eq_true rfl)) dX9_shown_61 ⟨(Nat.le_of_ble_eq_true rfl), (Nat.le_of_ble_eq_true rfl)⟩) hS (fun q9 _ h9 => hF2031 q9 h9) hF2031 (fun r2036 u2035 t2035 H2035 L2035 ht2035 hvm2035 hw2035 hB2035 hz2035 hk2035 hS => ?_)
  have hP := pq_keep hP hD [] rfl hk2035 hB2035.1 ht2035
  have hG : s.heap.size + 2063 ≤ H2035.size := Nat.le_trans hG hz2035
  refine W.eq (g2 := F0 m 64 ls [.int 0]) (by rw [hw2035]) ?_
  refine lv_istore (lv' := [(6, .int 0), (4, .int 0), (5, .ref a1874), (3, .int 48), (2, .int 5), (1, .int 0), (0, .ref h0)]) hx hb dX9_shown_64 hl (by decide) rfl (fun ls hl => ?_)
  refine lv_iload hx hb dX9_shown_66 (lv_at hl 1 rfl) ?_
  refine lv_if_ne (tgt := 82) hx hb dX9_shown_68 (by decide) (fun cz => absurd (by decide) cz) (fun _ => ?_)
  refine lv_aload_n hx hb dX9_shown_71 rfl (lv_at hl 6 rfl) ?_
  refine lv_iload_n hx hb dX9_shown_72 rfl (lv_at hl 4 rfl) ?_
  refine lv_iload_n hx hb dX9_shown_73 rfl (lv_at hl 3 rfl) ?_
  refine lv_iload hx hb dX9_shown_74 (lv_at hl 0 rfl) ?_
  have hM2039 := k979_showsIt l hl9 dC dI z h0 h1 h2 h4 h5 h7 h8 h9 h10 h11 h12 h13 h14 h3 H2035.size kc0 kc2
  obtain ⟨hF2037, hC2040⟩ := pc_M hM2039 hP hD hK hS hX hT hA [0, 1, 2, 3, 4, 5, 6, 7, 8, 9, 10, 11, 12] [0, 1] rfl rfl rfl
  refine va_calli (va_runV (As := [.int 5, .int 48, .int 0]) (rest := []) ⟨hx, hb, hml, hown, hts⟩ hM2039 (cwV 3 hts (gV q_429 q_430 q_431 q_60 q_428) rfl rfl rfl hV_X9_showsIt ⟨Nat.le_of_ble_eq_true rfl, Nat.le_of_ble_eq_true rfl⟩) ⟨pc_blind, va_recv hK hP (ci := 8) (q := (RX9, TX9, 6)) (q0 := 0) rfl rfl, fun U hU hW => ⟨rfl, hC2040 U hU hW⟩⟩ rfl rfl hl.1 rfl (lv_room (Nat.le_of_ble_eq_true rfl)) dX9_shown_76 ⟨(Nat.le_of_ble_eq_true rfl), (Nat.le_of_ble_eq_true rfl)⟩) hS (fun q9 _ h9 => hF2037 q9 h9) hF2037 (fun r2042 u2041 t2041 H2041 L2041 ht2041 hvm2041 hw2041 hB2041 hz2041 hk2041 hS => ?_)
  have hP := pq_keep hP hD [0, 1, 2, 3, 4, 5, 6, 7, 8, 9, 10, 11, 12] rfl hk2041 hB2041.1 ht2041
  have hG : s.heap.size + 2090 ≤ H2041.size := va_gr (g := 2063) (g1 := 27) hG (by rw [← ht2041]; exact hB2041.2)
  refine W.eq (g2 := F0 m 79 ls [.int 0]) (by rw [hw2041]) ?_
  refine W.widen (k := 2090) (n := 19448) (by decide) (by decide) ?_
  refine lv_if_eq (tgt := 86) hx hb dX9_shown_79 (by decide) (fun _ => ?_) (fun cz => absurd (by decide) cz)
  refine lv_iconst (v := 0) hx hb dX9_shown_86 (by decide) ?_
  refine lv_istore (lv' := [(4, .int 0), (6, .int 0), (5, .ref a1874), (3, .int 48), (2, .int 5), (1, .int 0), (0, .ref h0)]) hx hb dX9_shown_87 hl (by decide) rfl (fun ls hl => ?_)
  refine lv_goto (tgt := 41) hx hb dX9_shown_89 (by decide) ?_
  refine lv_aload hx hb dX9_shown_41 (lv_at hl 2 rfl) ?_
  have hM2045 := k746_hasNext l hl9 dC dI z a1874 h3 h6 H2041.size
  obtain ⟨hF2043, hC2046⟩ := pc_M hM2045 hP hD hK hS hX hT hA [13, 14] [] rfl rfl rfl
  refine va_callFi (va_runF (As := []) (rest := []) (hK.1 1 (RJx35411, TJx35411, 4) rfl).2 ⟨hx, hb, hml, hown, hts⟩ hM2045 (va_cwF 0 hts (gF q_261 q_262 q_263 q_246 q_260) rfl rfl rfl hT.2.2.2.2.2.2.1 hF_xIh ⟨Nat.le_of_ble_eq_true rfl, Nat.le_of_ble_eq_true rfl⟩) ⟨pc_blind, va_recv hK hP (ci := 1) (q := (RJx35411, TJx35411, 4)) (q0 := 13) rfl rfl, fun U hU hW => ⟨rfl, hC2046 U hU hW⟩⟩ rfl rfl hl.1 rfl (lv_room (Nat.le_of_ble_eq_true rfl)) dX9_shown_43 ⟨(Nat.le_of_ble_eq_true rfl), (Nat.le_of_ble_eq_true rfl)⟩) hS (fun q9 _ h9 => hF2043 q9 h9) hF2043 (fun r2048 u2047 t2047 H2047 L2047 ht2047 hvm2047 hw2047 hB2047 hz2047 hk2047 hS => ?_)
  have hP := pq_keep hP hD [13, 14] rfl hk2047 hB2047.1 ht2047
  have hG : s.heap.size + 2090 ≤ H2047.size := Nat.le_trans hG hz2047
  refine W.eq (g2 := F0 m 48 ls [.int 0]) (by rw [hw2047]) ?_
  refine lv_if_eq (tgt := 92) hx hb dX9_shown_48 (by decide) (fun _ => ?_) (fun cz => absurd (by decide) cz)
  refine lv_iload_n hx hb dX9_shown_92 rfl (lv_at hl 5 rfl) ?_
  refine lv_iload hx hb dX9_shown_93 (lv_at hl 0 rfl) ?_
  refine lv_if_eq (tgt := 102) hx hb dX9_shown_95 (by decide) (fun _ => ?_) (fun cz => absurd (by decide) cz)
  refine lv_iconst (v := 0) hx hb dX9_shown_102 (by decide) ?_
  refine lv_iadd hx hb dX9_shown_103 ?_
  refine lv_topi (fun y2049 ey2049 => ?_)
  obtain rfl : y2049 = 0 := ey2049.trans (by decide)
  refine lv_istore_n (lv' := [(1, .int 0), (4, .int 0), (6, .int 0), (5, .ref a1874), (3, .int 48), (2, .int 5), (0, .ref h0)]) hx hb dX9_shown_104 rfl hl (by decide) rfl (fun ls hl => ?_)
  refine lv_iload_n hx hb dX9_shown_105 rfl (lv_at hl 4 rfl) ?_
  refine lv_iconst (v := 1) hx hb dX9_shown_106 (by decide) ?_
  refine lv_iadd hx hb dX9_shown_107 ?_
  refine lv_topi (fun y2050 ey2050 => ?_)
  obtain rfl : y2050 = 49 := ey2050.trans (by decide)
  refine lv_i2c (v := 49) hx hb dX9_shown_108 (by decide) ?_
  refine lv_istore_n (lv' := [(3, .int 49), (1, .int 0), (4, .int 0), (6, .int 0), (5, .ref a1874), (2, .int 5), (0, .ref h0)]) hx hb dX9_shown_109 rfl hl (by decide) rfl (fun ls hl => ?_)
  refine lv_goto (tgt := 23) hx hb dX9_shown_110 (by decide) ?_
  exact hend _ _ _ hS (hP.sub [0, 1, 2, 14, 3, 4, 15, 5, 6, 7, 8, 9, 10, 11, 12] rfl) (hD.sub [0, 1, 2, 14, 3, 4, 15, 5, 6, 7, 8, 9, 10, 11, 12] rfl rfl) (lv_sub hl [0, 1, 5, 6] rfl) hG

set_option maxHeartbeats 8000000 in
set_option maxRecDepth 100000 in
theorem k986_shown_g17 {p : Program} {l : Launch} {e : Env} {s : State} {m : MethodId} {args : Array Value} {below : List Frame} {meth : Method} {c : Code} {Q : State → Prop} {A : Nat → Prop} {H : Heap} {locs : List Loc} {ls : Array Slot} {dC : Nat → ClassId} {dI : Nat → Nat → Nat} {z : XZ} {h0 h1 h2 h3 h4 h5 h6 h7 h8 h9 h10 h11 h12 h13 h14 : Nat} {kc0 kc1 kc2 : ClassId} (hl9 : l.stackTraces = false) (hx : p.tables.exec = Jvm.exec) (hb : c.code = cX9_shown) (hml : c.maxLocals = 7) (hown : s.vm.findClass RX9 = some m.cls) (hts : ∀ w ∈ wsL_law, w.before args s = true) (hA : ∀ q : Nat, s.heap.size ≤ q → A q) (hX : XE z A s s.heap) (hT : XT s) (hS : va_S A s.heap H locs) (hP : va_P (dC, dI) xCl [(h0, ce21 h1 h2 h3 h4), (h1, ce331 h5), (h2, ce3 z.1), (h3, ce331 h6), (h4, ce366 h7), (h5, ce330 kc0 h8 h9 h10 h11 h12 h13 h14), (h6, ce330 kc1 (z.2.2.1 128) (z.2.2.1 128) (z.2.2.1 128) (z.2.2.1 128) (z.2.2.1 128) (z.2.2.1 128) (z.2.2.1 128)), (h7, ce330 kc2 (z.2.2.1 128) (z.2.2.1 129) (z.2.2.1 130) (z.2.2.1 131) (z.2.2.1 132) (z.2.2.1 133) (z.2.2.1 134)), (h8, ce49), (h9, ce49), (h10, ce49), (h11, ce49), (h12, ce49), (h13, ce49), (h14, ce49)] H) (hD : va_D A [(h0, ce21 h1 h2 h3 h4), (h1, ce331 h5), (h2, ce3 z.1), (h3, ce331 h6), (h4, ce366 h7), (h5, ce330 kc0 h8 h9 h10 h11 h12 h13 h14), (h6, ce330 kc1 (z.2.2.1 128) (z.2.2.1 128) (z.2.2.1 128) (z.2.2.1 128) (z.2.2.1 128) (z.2.2.1 128) (z.2.2.1 128)), (h7, ce330 kc2 (z.2.2.1 128) (z.2.2.1 129) (z.2.2.1 130) (z.2.2.1 131) (z.2.2.1 132) (z.2.2.1 133) (z.2.2.1 134)), (h8, ce49), (h9, ce49), (h10, ce49), (h11, ce49), (h12, ce49), (h13, ce49), (h14, ce49)]) (hK : va_K (dC, dI) xCl [(kc0, .object "java/lang/Object"), (kc1, .object "java/lang/Object"), (kc2, .object "java/lang/Object")] s) (hl : lv_has ls 7 [(3, .int 49), (1, .int 0), (2, .int 5), (0, .ref h0)]) (hG : s.heap.size + 2090 ≤ H.size) (hend : ∀ (H' : Heap) (locs' : List Loc) (ls' : Array Slot), va_S A s.heap H' locs' → va_P (dC, dI) xCl [(h0, ce21 h1 h2 h3 h4), (h1, ce331 h5), (h2, ce3 z.1), (h3, ce331 h6), (h4, ce366 h7), (h5, ce330 kc0 h8 h9 h10 h11 h12 h13 h14), (h6, ce330 kc1 (z.2.2.1 128) (z.2.2.1 128) (z.2.2.1 128) (z.2.2.1 128) (z.2.2.1 128) (z.2.2.1 128) (z.2.2.1 128)), (h7, ce330 kc2 (z.2.2.1 128) (z.2.2.1 129) (z.2.2.1 130) (z.2.2.1 131) (z.2.2.1 132) (z.2.2.1 133) (z.2.2.1 134)), (h8, ce49), (h9, ce49), (h10, ce49), (h11, ce49), (h12, ce49), (h13, ce49), (h14, ce49)] H' → va_D A [(h0, ce21 h1 h2 h3 h4), (h1, ce331 h5), (h2, ce3 z.1), (h3, ce331 h6), (h4, ce366 h7), (h5, ce330 kc0 h8 h9 h10 h11 h12 h13 h14), (h6, ce330 kc1 (z.2.2.1 128) (z.2.2.1 128) (z.2.2.1 128) (z.2.2.1 128) (z.2.2.1 128) (z.2.2.1 128) (z.2.2.1 128)), (h7, ce330 kc2 (z.2.2.1 128) (z.2.2.1 129) (z.2.2.1 130) (z.2.2.1 131) (z.2.2.1 132) (z.2.2.1 133) (z.2.2.1 134)), (h8, ce49), (h9, ce49), (h10, ce49), (h11, ce49), (h12, ce49), (h13, ce49), (h14, ce49)] → lv_has ls' 7 [(3, .int 50), (1, .int 0), (2, .int 5), (0, .ref h0)] → s.heap.size + 2280 ≤ H'.size → W p l e ({ frames := 5, cells := 2660, slots := 24752, locals := 121 } : Room) s m args below meth c H' locs' 2280 21216 Q (F0 m 23 ls' [])) : W p l e ({ frames := 5, cells := 2660, slots := 24752, locals := 121 } : Room) s m args below meth c H locs 2090 19448 Q (F0 m 23 ls []) := by
  refine lv_iload_n hx hb dX9_shown_23 rfl (lv_at hl 0 rfl) ?_
  refine lv_bipush (v := 49) hx hb dX9_shown_24 (by decide) ?_
  refine lv_icmp_gt (tgt := 113) hx hb dX9_shown_26 (by decide) (fun cz => absurd cz (by decide)) (fun _ => ?_)
  refine lv_iconst (v := 0) hx hb dX9_shown_29 (by decide) ?_
  refine lv_istore (lv' := [(4, .int 0), (3, .int 49), (1, .int 0), (2, .int 5), (0, .ref h0)]) hx hb dX9_shown_30 hl (by decide) rfl (fun ls hl => ?_)
  refine lv_aload_n hx hb dX9_shown_32 rfl (lv_at hl 4 rfl) ?_
  refine va_get (D := (dC, dI)) (ci := 8) (v := .ref h3) (C := RX9) (T := TX9) (N := 6) hx hb hts in_X9 hown hK hP 0 rfl rfl 3 (by decide) (hts _ q_66) (fun _ h9 => h9) rfl dX9_shown_33 ?_
  have hM2053 := k724_iterator l hl9 dC dI z h3 h6 H.size
  obtain ⟨hF2051, hC2054⟩ := pc_M hM2053 hP hD hK hS hX hT hA [3] [] rfl rfl rfl
  refine va_callr (va_runV (As := []) (rest := []) ⟨hx, hb, hml, hown, hts⟩ hM2053 (cwV 0 hts (gV q_256 q_257 q_258 q_12 q_255) rfl rfl rfl hV_Jx4a65c_iterator_32c93 ⟨Nat.le_of_ble_eq_true rfl, Nat.le_of_ble_eq_true rfl⟩) ⟨pc_blind, va_recv hK hP (ci := 0) (q := (RJx4a65c, TJx4a65c, 3)) (q0 := 3) rfl rfl, fun U hU hW => ⟨rfl, hC2054 U hU hW⟩⟩ rfl rfl hl.1 rfl (lv_room (Nat.le_of_ble_eq_true rfl)) dX9_shown_36 ⟨(Nat.le_of_ble_eq_true rfl), (Nat.le_of_ble_eq_true rfl)⟩) hS (fun q9 _ h9 => hF2051 q9 h9) hF2051 (fun u2055 r2056 t2055 H2055 L2055 ht2055 hvm2055 hw2055 hB2055 hz2055 hk2055 hS => ?_)
  obtain ⟨a2057, hr2055, hB2055⟩ := hB2055
  obtain ⟨hP, hD, hK⟩ := pq_jn (wz := [(h0, ce21 h1 h2 h3 h4), (h1, ce331 h5), (h2, ce3 z.1), (h4, ce366 h7), (h5, ce330 kc0 h8 h9 h10 h11 h12 h13 h14), (h6, ce330 kc1 (z.2.2.1 128) (z.2.2.1 128) (z.2.2.1 128) (z.2.2.1 128) (z.2.2.1 128) (z.2.2.1 128) (z.2.2.1 128)), (h7, ce330 kc2 (z.2.2.1 128) (z.2.2.1 129) (z.2.2.1 130) (z.2.2.1 131) (z.2.2.1 132) (z.2.2.1 133) (z.2.2.1 134)), (h8, ce49), (h9, ce49), (h10, ce49), (h11, ce49), (h12, ce49), (h13, ce49), (h14, ce49), (h3, ce331 h6), (a2057, ce370 h3)]) (tz := [(kc0, .object "java/lang/Object"), (kc1, .object "java/lang/Object"), (kc2, .object "java/lang/Object")]) hP hD hK [3] [0, 1, 2] rfl hk2055 hF2051 hB2055.1 ht2055 hvm2055 rfl rfl
  have hG : s.heap.size + 2091 ≤ H2055.size := va_gr (g := 2090) (g1 := 1) hG (by rw [← ht2055]; exact hB2055.2)
  refine W.eq (g2 := F0 m 39 ls [.ref a2057]) (by rw [hr2055]) ?_
  refine W.widen (k := 2091) (n := 19452) (by decide) (by decide) ?_
  refine lv_astore (lv' := [(5, .ref a2057), (4, .int 0), (3, .int 49), (1, .int 0), (2, .int 5), (0, .ref h0)]) hx hb dX9_shown_39 hl (by decide) rfl (fun ls hl => ?_)
  refine lv_aload hx hb dX9_shown_41 (lv_at hl 0 rfl) ?_
  have hM2060 := k725_hasNext l hl9 dC dI z a2057 h3 h6 H2055.size
  obtain ⟨hF2058, hC2061⟩ := pc_M hM2060 hP hD hK hS hX hT hA [15, 14] [] rfl rfl rfl
  refine va_callFi (va_runF (As := []) (rest := []) (hK.1 1 (RJx35411, TJx35411, 4) rfl).2 ⟨hx, hb, hml, hown, hts⟩ hM2060 (va_cwF 0 hts (gF q_261 q_262 q_263 q_246 q_260) rfl rfl rfl hT.2.2.2.2.2.2.1 hF_xIh ⟨Nat.le_of_ble_eq_true rfl, Nat.le_of_ble_eq_true rfl⟩) ⟨pc_blind, va_recv hK hP (ci := 1) (q := (RJx35411, TJx35411, 4)) (q0 := 15) rfl rfl, fun U hU hW => ⟨rfl, hC2061 U hU hW⟩⟩ rfl rfl hl.1 rfl (lv_room (Nat.le_of_ble_eq_true rfl)) dX9_shown_43 ⟨(Nat.le_of_ble_eq_true rfl), (Nat.le_of_ble_eq_true rfl)⟩) hS (fun q9 _ h9 => hF2058 q9 h9) hF2058 (fun r2063 u2062 t2062 H2062 L2062 ht2062 hvm2062 hw2062 hB2062 hz2062 hk2062 hS => ?_)
  have hP := pq_keep hP hD [15, 14] rfl hk2062 hB2062.1 ht2062
  have hG : s.heap.size + 2091 ≤ H2062.size := Nat.le_trans hG hz2062
  refine W.eq (g2 := F0 m 48 ls [.int 1]) (by rw [hw2062]) ?_
  refine lv_if_eq (tgt := 92) hx hb dX9_shown_48 (by decide) (fun cz => absurd cz (by decide)) (fun _ => ?_)
  refine lv_aload hx hb dX9_shown_51 (lv_at hl 0 rfl) ?_
  have hM2066 := k942_next l hl9 dC dI z a2057 h3 h6 H2062.size kc1
  obtain ⟨hF2064, hC2067⟩ := pc_M hM2066 hP hD hK hS hX hT hA [15, 14, 5] [1] rfl rfl rfl
  refine va_callFr (va_runF (As := []) (rest := []) (hK.1 1 (RJx35411, TJx35411, 4) rfl).2 ⟨hx, hb, hml, hown, hts⟩ hM2066 (va_cwF 0 hts (gF q_308 q_309 q_310 q_246 q_307) rfl rfl rfl hT.2.2.2.2.2.2.2.1 hF_xIn ⟨Nat.le_of_ble_eq_true rfl, Nat.le_of_ble_eq_true rfl⟩) ⟨pc_blind, va_recv hK hP (ci := 1) (q := (RJx35411, TJx35411, 4)) (q0 := 15) rfl rfl, fun U hU hW => ⟨rfl, hC2067 U hU hW⟩⟩ rfl rfl hl.1 rfl (lv_room (Nat.le_of_ble_eq_true rfl)) dX9_shown_53 ⟨(Nat.le_of_ble_eq_true rfl), (Nat.le_of_ble_eq_true rfl)⟩) hS (fun q9 _ h9 => hF2064 q9 h9) hF2064 (fun u2068 r2069 t2068 H2068 L2068 ht2068 hvm2068 hw2068 hB2068 hz2068 hk2068 hS => ?_)
  obtain ⟨hr2068, hB2068⟩ := hB2068
  obtain ⟨hP, hD, hK⟩ := pq_jn (wz := [(h0, ce21 h1 h2 h3 h4), (h1, ce331 h5), (h2, ce3 z.1), (h4, ce366 h7), (h5, ce330 kc0 h8 h9 h10 h11 h12 h13 h14), (h7, ce330 kc2 (z.2.2.1 128) (z.2.2.1 129) (z.2.2.1 130) (z.2.2.1 131) (z.2.2.1 132) (z.2.2.1 133) (z.2.2.1 134)), (h8, ce49), (h9, ce49), (h10, ce49), (h11, ce49), (h12, ce49), (h13, ce49), (h14, ce49), (a2057, ce372 h3), (h3, ce331 h6), (h6, ce330 kc1 (z.2.2.1 128) (z.2.2.1 128) (z.2.2.1 128) (z.2.2.1 128) (z.2.2.1 128) (z.2.2.1 128) (z.2.2.1 128))]) (tz := [(kc0, .object "java/lang/Object"), (kc2, .object "java/lang/Object"), (kc1, .object "java/lang/Object")]) hP hD hK [15, 14, 5] [0, 2] rfl hk2068 hF2064 hB2068.1 ht2068 hvm2068 rfl rfl
  have hG : s.heap.size + 2091 ≤ H2068.size := Nat.le_trans hG hz2068
  refine W.eq (g2 := F0 m 58 ls [.ref (z.2.2.1 128)]) (by rw [hr2068]) ?_
  refine va_castE (nm := "java/lang/Integer") hx hb hown (hts _ q_320) (va_Orecv (hX.2.2.1.1.1 128 (by decide)) hS) dX9_shown_58 ?_
  have hM2072 := k74_intValue l hl9 dC dI z H2068.size
  obtain ⟨hF2070, hC2073⟩ := pc_M hM2072 hP hD hK hS hX hT hA [] [] rfl rfl rfl
  refine va_calli (va_runV (As := []) (rest := []) ⟨hx, hb, hml, hown, hts⟩ hM2072 (cwV 0 hts (gV q_323 q_324 q_325 q_297 q_322) rfl rfl rfl hV_J6_intValue_8abf5 ⟨Nat.le_of_ble_eq_true rfl, Nat.le_of_ble_eq_true rfl⟩) ⟨pc_blind, va_Orecv (hX.2.2.1.1.1 128 (by decide)) hS, fun U hU hW => ⟨rfl, hC2073 U hU hW⟩⟩ rfl rfl hl.1 rfl (lv_room (Nat.le_of_ble_eq_true rfl)) dX9_shown_61 ⟨(Nat.le_of_ble_eq_true rfl), (Nat.le_of_ble_eq_true rfl)⟩) hS (fun q9 _ h9 => hF2070 q9 h9) hF2070 (fun r2075 u2074 t2074 H2074 L2074 ht2074 hvm2074 hw2074 hB2074 hz2074 hk2074 hS => ?_)
  have hP := pq_keep hP hD [] rfl hk2074 hB2074.1 ht2074
  have hG : s.heap.size + 2091 ≤ H2074.size := Nat.le_trans hG hz2074
  refine W.eq (g2 := F0 m 64 ls [.int 0]) (by rw [hw2074]) ?_
  refine lv_istore (lv' := [(6, .int 0), (5, .ref a2057), (4, .int 0), (3, .int 49), (1, .int 0), (2, .int 5), (0, .ref h0)]) hx hb dX9_shown_64 hl (by decide) rfl (fun ls hl => ?_)
  refine lv_iload hx hb dX9_shown_66 (lv_at hl 2 rfl) ?_
  refine lv_if_ne (tgt := 82) hx hb dX9_shown_68 (by decide) (fun cz => absurd (by decide) cz) (fun _ => ?_)
  refine lv_aload_n hx hb dX9_shown_71 rfl (lv_at hl 6 rfl) ?_
  refine lv_iload_n hx hb dX9_shown_72 rfl (lv_at hl 5 rfl) ?_
  refine lv_iload_n hx hb dX9_shown_73 rfl (lv_at hl 3 rfl) ?_
  refine lv_iload hx hb dX9_shown_74 (lv_at hl 0 rfl) ?_
  have hM2078 := k981_showsIt l hl9 dC dI z h0 h1 h2 h4 h5 h7 h8 h9 h10 h11 h12 h13 h14 h3 H2074.size kc0 kc2
  obtain ⟨hF2076, hC2079⟩ := pc_M hM2078 hP hD hK hS hX hT hA [0, 1, 2, 3, 4, 5, 6, 7, 8, 9, 10, 11, 12] [0, 1] rfl rfl rfl
  refine va_calli (va_runV (As := [.int 5, .int 49, .int 0]) (rest := []) ⟨hx, hb, hml, hown, hts⟩ hM2078 (cwV 3 hts (gV q_429 q_430 q_431 q_60 q_428) rfl rfl rfl hV_X9_showsIt ⟨Nat.le_of_ble_eq_true rfl, Nat.le_of_ble_eq_true rfl⟩) ⟨pc_blind, va_recv hK hP (ci := 8) (q := (RX9, TX9, 6)) (q0 := 0) rfl rfl, fun U hU hW => ⟨rfl, hC2079 U hU hW⟩⟩ rfl rfl hl.1 rfl (lv_room (Nat.le_of_ble_eq_true rfl)) dX9_shown_76 ⟨(Nat.le_of_ble_eq_true rfl), (Nat.le_of_ble_eq_true rfl)⟩) hS (fun q9 _ h9 => hF2076 q9 h9) hF2076 (fun r2081 u2080 t2080 H2080 L2080 ht2080 hvm2080 hw2080 hB2080 hz2080 hk2080 hS => ?_)
  have hP := pq_keep hP hD [0, 1, 2, 3, 4, 5, 6, 7, 8, 9, 10, 11, 12] rfl hk2080 hB2080.1 ht2080
  have hG : s.heap.size + 2118 ≤ H2080.size := va_gr (g := 2091) (g1 := 27) hG (by rw [← ht2080]; exact hB2080.2)
  refine W.eq (g2 := F0 m 79 ls [.int 0]) (by rw [hw2080]) ?_
  refine W.widen (k := 2118) (n := 19704) (by decide) (by decide) ?_
  refine lv_if_eq (tgt := 86) hx hb dX9_shown_79 (by decide) (fun _ => ?_) (fun cz => absurd (by decide) cz)
  refine lv_iconst (v := 0) hx hb dX9_shown_86 (by decide) ?_
  refine lv_istore (lv' := [(4, .int 0), (6, .int 0), (5, .ref a2057), (3, .int 49), (1, .int 0), (2, .int 5), (0, .ref h0)]) hx hb dX9_shown_87 hl (by decide) rfl (fun ls hl => ?_)
  refine lv_goto (tgt := 41) hx hb dX9_shown_89 (by decide) ?_
  refine lv_aload hx hb dX9_shown_41 (lv_at hl 2 rfl) ?_
  have hM2084 := k728_hasNext l hl9 dC dI z a2057 h3 h6 H2080.size
  obtain ⟨hF2082, hC2085⟩ := pc_M hM2084 hP hD hK hS hX hT hA [13, 14] [] rfl rfl rfl
  refine va_callFi (va_runF (As := []) (rest := []) (hK.1 1 (RJx35411, TJx35411, 4) rfl).2 ⟨hx, hb, hml, hown, hts⟩ hM2084 (va_cwF 0 hts (gF q_261 q_262 q_263 q_246 q_260) rfl rfl rfl hT.2.2.2.2.2.2.1 hF_xIh ⟨Nat.le_of_ble_eq_true rfl, Nat.le_of_ble_eq_true rfl⟩) ⟨pc_blind, va_recv hK hP (ci := 1) (q := (RJx35411, TJx35411, 4)) (q0 := 13) rfl rfl, fun U hU hW => ⟨rfl, hC2085 U hU hW⟩⟩ rfl rfl hl.1 rfl (lv_room (Nat.le_of_ble_eq_true rfl)) dX9_shown_43 ⟨(Nat.le_of_ble_eq_true rfl), (Nat.le_of_ble_eq_true rfl)⟩) hS (fun q9 _ h9 => hF2082 q9 h9) hF2082 (fun r2087 u2086 t2086 H2086 L2086 ht2086 hvm2086 hw2086 hB2086 hz2086 hk2086 hS => ?_)
  have hP := pq_keep hP hD [13, 14] rfl hk2086 hB2086.1 ht2086
  have hG : s.heap.size + 2118 ≤ H2086.size := Nat.le_trans hG hz2086
  refine W.eq (g2 := F0 m 48 ls [.int 1]) (by rw [hw2086]) ?_
  refine lv_if_eq (tgt := 92) hx hb dX9_shown_48 (by decide) (fun cz => absurd cz (by decide)) (fun _ => ?_)
  refine lv_aload hx hb dX9_shown_51 (lv_at hl 2 rfl) ?_
  have hM2090 := k954_next l hl9 dC dI z a2057 h3 h6 H2086.size kc1
  obtain ⟨hF2088, hC2091⟩ := pc_M hM2090 hP hD hK hS hX hT hA [13, 14, 15] [2] rfl rfl rfl
  refine va_callFr (va_runF (As := []) (rest := []) (hK.1 1 (RJx35411, TJx35411, 4) rfl).2 ⟨hx, hb, hml, hown, hts⟩ hM2090 (va_cwF 0 hts (gF q_308 q_309 q_310 q_246 q_307) rfl rfl rfl hT.2.2.2.2.2.2.2.1 hF_xIn ⟨Nat.le_of_ble_eq_true rfl, Nat.le_of_ble_eq_true rfl⟩) ⟨pc_blind, va_recv hK hP (ci := 1) (q := (RJx35411, TJx35411, 4)) (q0 := 13) rfl rfl, fun U hU hW => ⟨rfl, hC2091 U hU hW⟩⟩ rfl rfl hl.1 rfl (lv_room (Nat.le_of_ble_eq_true rfl)) dX9_shown_53 ⟨(Nat.le_of_ble_eq_true rfl), (Nat.le_of_ble_eq_true rfl)⟩) hS (fun q9 _ h9 => hF2088 q9 h9) hF2088 (fun u2092 r2093 t2092 H2092 L2092 ht2092 hvm2092 hw2092 hB2092 hz2092 hk2092 hS => ?_)
  obtain ⟨hr2092, hB2092⟩ := hB2092
  obtain ⟨hP, hD, hK⟩ := pq_jn (wz := [(h0, ce21 h1 h2 h3 h4), (h1, ce331 h5), (h2, ce3 z.1), (h4, ce366 h7), (h5, ce330 kc0 h8 h9 h10 h11 h12 h13 h14), (h7, ce330 kc2 (z.2.2.1 128) (z.2.2.1 129) (z.2.2.1 130) (z.2.2.1 131) (z.2.2.1 132) (z.2.2.1 133) (z.2.2.1 134)), (h8, ce49), (h9, ce49), (h10, ce49), (h11, ce49), (h12, ce49), (h13, ce49), (h14, ce49), (a2057, ce374 h3), (h3, ce331 h6), (h6, ce330 kc1 (z.2.2.1 128) (z.2.2.1 128) (z.2.2.1 128) (z.2.2.1 128) (z.2.2.1 128) (z.2.2.1 128) (z.2.2.1 128))]) (tz := [(kc0, .object "java/lang/Object"), (kc2, .object "java/lang/Object"), (kc1, .object "java/lang/Object")]) hP hD hK [13, 14, 15] [0, 1] rfl hk2092 hF2088 hB2092.1 ht2092 hvm2092 rfl rfl
  have hG : s.heap.size + 2118 ≤ H2092.size := Nat.le_trans hG hz2092
  refine W.eq (g2 := F0 m 58 ls [.ref (z.2.2.1 128)]) (by rw [hr2092]) ?_
  refine va_castE (nm := "java/lang/Integer") hx hb hown (hts _ q_320) (va_Orecv (hX.2.2.1.1.1 128 (by decide)) hS) dX9_shown_58 ?_
  have hM2096 := k74_intValue l hl9 dC dI z H2092.size
  obtain ⟨hF2094, hC2097⟩ := pc_M hM2096 hP hD hK hS hX hT hA [] [] rfl rfl rfl
  refine va_calli (va_runV (As := []) (rest := []) ⟨hx, hb, hml, hown, hts⟩ hM2096 (cwV 0 hts (gV q_323 q_324 q_325 q_297 q_322) rfl rfl rfl hV_J6_intValue_8abf5 ⟨Nat.le_of_ble_eq_true rfl, Nat.le_of_ble_eq_true rfl⟩) ⟨pc_blind, va_Orecv (hX.2.2.1.1.1 128 (by decide)) hS, fun U hU hW => ⟨rfl, hC2097 U hU hW⟩⟩ rfl rfl hl.1 rfl (lv_room (Nat.le_of_ble_eq_true rfl)) dX9_shown_61 ⟨(Nat.le_of_ble_eq_true rfl), (Nat.le_of_ble_eq_true rfl)⟩) hS (fun q9 _ h9 => hF2094 q9 h9) hF2094 (fun r2099 u2098 t2098 H2098 L2098 ht2098 hvm2098 hw2098 hB2098 hz2098 hk2098 hS => ?_)
  have hP := pq_keep hP hD [] rfl hk2098 hB2098.1 ht2098
  have hG : s.heap.size + 2118 ≤ H2098.size := Nat.le_trans hG hz2098
  refine W.eq (g2 := F0 m 64 ls [.int 0]) (by rw [hw2098]) ?_
  refine lv_istore (lv' := [(6, .int 0), (4, .int 0), (5, .ref a2057), (3, .int 49), (1, .int 0), (2, .int 5), (0, .ref h0)]) hx hb dX9_shown_64 hl (by decide) rfl (fun ls hl => ?_)
  refine lv_iload hx hb dX9_shown_66 (lv_at hl 1 rfl) ?_
  refine lv_if_ne (tgt := 82) hx hb dX9_shown_68 (by decide) (fun cz => absurd (by decide) cz) (fun _ => ?_)
  refine lv_aload_n hx hb dX9_shown_71 rfl (lv_at hl 6 rfl) ?_
  refine lv_iload_n hx hb dX9_shown_72 rfl (lv_at hl 5 rfl) ?_
  refine lv_iload_n hx hb dX9_shown_73 rfl (lv_at hl 3 rfl) ?_
  refine lv_iload hx hb dX9_shown_74 (lv_at hl 0 rfl) ?_
  have hM2102 := k981_showsIt l hl9 dC dI z h0 h1 h2 h4 h5 h7 h8 h9 h10 h11 h12 h13 h14 h3 H2098.size kc0 kc2
  obtain ⟨hF2100, hC2103⟩ := pc_M hM2102 hP hD hK hS hX hT hA [0, 1, 2, 3, 4, 5, 6, 7, 8, 9, 10, 11, 12] [0, 1] rfl rfl rfl
  refine va_calli (va_runV (As := [.int 5, .int 49, .int 0]) (rest := []) ⟨hx, hb, hml, hown, hts⟩ hM2102 (cwV 3 hts (gV q_429 q_430 q_431 q_60 q_428) rfl rfl rfl hV_X9_showsIt ⟨Nat.le_of_ble_eq_true rfl, Nat.le_of_ble_eq_true rfl⟩) ⟨pc_blind, va_recv hK hP (ci := 8) (q := (RX9, TX9, 6)) (q0 := 0) rfl rfl, fun U hU hW => ⟨rfl, hC2103 U hU hW⟩⟩ rfl rfl hl.1 rfl (lv_room (Nat.le_of_ble_eq_true rfl)) dX9_shown_76 ⟨(Nat.le_of_ble_eq_true rfl), (Nat.le_of_ble_eq_true rfl)⟩) hS (fun q9 _ h9 => hF2100 q9 h9) hF2100 (fun r2105 u2104 t2104 H2104 L2104 ht2104 hvm2104 hw2104 hB2104 hz2104 hk2104 hS => ?_)
  have hP := pq_keep hP hD [0, 1, 2, 3, 4, 5, 6, 7, 8, 9, 10, 11, 12] rfl hk2104 hB2104.1 ht2104
  have hG : s.heap.size + 2145 ≤ H2104.size := va_gr (g := 2118) (g1 := 27) hG (by rw [← ht2104]; exact hB2104.2)
  refine W.eq (g2 := F0 m 79 ls [.int 0]) (by rw [hw2104]) ?_
  refine W.widen (k := 2145) (n := 19956) (by decide) (by decide) ?_
  refine lv_if_eq (tgt := 86) hx hb dX9_shown_79 (by decide) (fun _ => ?_) (fun cz => absurd (by decide) cz)
  refine lv_iconst (v := 0) hx hb dX9_shown_86 (by decide) ?_
  refine lv_istore (lv' := [(4, .int 0), (6, .int 0), (5, .ref a2057), (3, .int 49), (1, .int 0), (2, .int 5), (0, .ref h0)]) hx hb dX9_shown_87 hl (by decide) rfl (fun ls hl => ?_)
  refine lv_goto (tgt := 41) hx hb dX9_shown_89 (by decide) ?_
  refine lv_aload hx hb dX9_shown_41 (lv_at hl 2 rfl) ?_
  have hM2108 := k731_hasNext l hl9 dC dI z a2057 h3 h6 H2104.size
  obtain ⟨hF2106, hC2109⟩ := pc_M hM2108 hP hD hK hS hX hT hA [13, 14] [] rfl rfl rfl
  refine va_callFi (va_runF (As := []) (rest := []) (hK.1 1 (RJx35411, TJx35411, 4) rfl).2 ⟨hx, hb, hml, hown, hts⟩ hM2108 (va_cwF 0 hts (gF q_261 q_262 q_263 q_246 q_260) rfl rfl rfl hT.2.2.2.2.2.2.1 hF_xIh ⟨Nat.le_of_ble_eq_true rfl, Nat.le_of_ble_eq_true rfl⟩) ⟨pc_blind, va_recv hK hP (ci := 1) (q := (RJx35411, TJx35411, 4)) (q0 := 13) rfl rfl, fun U hU hW => ⟨rfl, hC2109 U hU hW⟩⟩ rfl rfl hl.1 rfl (lv_room (Nat.le_of_ble_eq_true rfl)) dX9_shown_43 ⟨(Nat.le_of_ble_eq_true rfl), (Nat.le_of_ble_eq_true rfl)⟩) hS (fun q9 _ h9 => hF2106 q9 h9) hF2106 (fun r2111 u2110 t2110 H2110 L2110 ht2110 hvm2110 hw2110 hB2110 hz2110 hk2110 hS => ?_)
  have hP := pq_keep hP hD [13, 14] rfl hk2110 hB2110.1 ht2110
  have hG : s.heap.size + 2145 ≤ H2110.size := Nat.le_trans hG hz2110
  refine W.eq (g2 := F0 m 48 ls [.int 1]) (by rw [hw2110]) ?_
  refine lv_if_eq (tgt := 92) hx hb dX9_shown_48 (by decide) (fun cz => absurd cz (by decide)) (fun _ => ?_)
  refine lv_aload hx hb dX9_shown_51 (lv_at hl 2 rfl) ?_
  have hM2114 := k955_next l hl9 dC dI z a2057 h3 h6 H2110.size kc1
  obtain ⟨hF2112, hC2115⟩ := pc_M hM2114 hP hD hK hS hX hT hA [13, 14, 15] [2] rfl rfl rfl
  refine va_callFr (va_runF (As := []) (rest := []) (hK.1 1 (RJx35411, TJx35411, 4) rfl).2 ⟨hx, hb, hml, hown, hts⟩ hM2114 (va_cwF 0 hts (gF q_308 q_309 q_310 q_246 q_307) rfl rfl rfl hT.2.2.2.2.2.2.2.1 hF_xIn ⟨Nat.le_of_ble_eq_true rfl, Nat.le_of_ble_eq_true rfl⟩) ⟨pc_blind, va_recv hK hP (ci := 1) (q := (RJx35411, TJx35411, 4)) (q0 := 13) rfl rfl, fun U hU hW => ⟨rfl, hC2115 U hU hW⟩⟩ rfl rfl hl.1 rfl (lv_room (Nat.le_of_ble_eq_true rfl)) dX9_shown_53 ⟨(Nat.le_of_ble_eq_true rfl), (Nat.le_of_ble_eq_true rfl)⟩) hS (fun q9 _ h9 => hF2112 q9 h9) hF2112 (fun u2116 r2117 t2116 H2116 L2116 ht2116 hvm2116 hw2116 hB2116 hz2116 hk2116 hS => ?_)
  obtain ⟨hr2116, hB2116⟩ := hB2116
  obtain ⟨hP, hD, hK⟩ := pq_jn (wz := [(h0, ce21 h1 h2 h3 h4), (h1, ce331 h5), (h2, ce3 z.1), (h4, ce366 h7), (h5, ce330 kc0 h8 h9 h10 h11 h12 h13 h14), (h7, ce330 kc2 (z.2.2.1 128) (z.2.2.1 129) (z.2.2.1 130) (z.2.2.1 131) (z.2.2.1 132) (z.2.2.1 133) (z.2.2.1 134)), (h8, ce49), (h9, ce49), (h10, ce49), (h11, ce49), (h12, ce49), (h13, ce49), (h14, ce49), (a2057, ce376 h3), (h3, ce331 h6), (h6, ce330 kc1 (z.2.2.1 128) (z.2.2.1 128) (z.2.2.1 128) (z.2.2.1 128) (z.2.2.1 128) (z.2.2.1 128) (z.2.2.1 128))]) (tz := [(kc0, .object "java/lang/Object"), (kc2, .object "java/lang/Object"), (kc1, .object "java/lang/Object")]) hP hD hK [13, 14, 15] [0, 1] rfl hk2116 hF2112 hB2116.1 ht2116 hvm2116 rfl rfl
  have hG : s.heap.size + 2145 ≤ H2116.size := Nat.le_trans hG hz2116
  refine W.eq (g2 := F0 m 58 ls [.ref (z.2.2.1 128)]) (by rw [hr2116]) ?_
  refine va_castE (nm := "java/lang/Integer") hx hb hown (hts _ q_320) (va_Orecv (hX.2.2.1.1.1 128 (by decide)) hS) dX9_shown_58 ?_
  have hM2120 := k74_intValue l hl9 dC dI z H2116.size
  obtain ⟨hF2118, hC2121⟩ := pc_M hM2120 hP hD hK hS hX hT hA [] [] rfl rfl rfl
  refine va_calli (va_runV (As := []) (rest := []) ⟨hx, hb, hml, hown, hts⟩ hM2120 (cwV 0 hts (gV q_323 q_324 q_325 q_297 q_322) rfl rfl rfl hV_J6_intValue_8abf5 ⟨Nat.le_of_ble_eq_true rfl, Nat.le_of_ble_eq_true rfl⟩) ⟨pc_blind, va_Orecv (hX.2.2.1.1.1 128 (by decide)) hS, fun U hU hW => ⟨rfl, hC2121 U hU hW⟩⟩ rfl rfl hl.1 rfl (lv_room (Nat.le_of_ble_eq_true rfl)) dX9_shown_61 ⟨(Nat.le_of_ble_eq_true rfl), (Nat.le_of_ble_eq_true rfl)⟩) hS (fun q9 _ h9 => hF2118 q9 h9) hF2118 (fun r2123 u2122 t2122 H2122 L2122 ht2122 hvm2122 hw2122 hB2122 hz2122 hk2122 hS => ?_)
  have hP := pq_keep hP hD [] rfl hk2122 hB2122.1 ht2122
  have hG : s.heap.size + 2145 ≤ H2122.size := Nat.le_trans hG hz2122
  refine W.eq (g2 := F0 m 64 ls [.int 0]) (by rw [hw2122]) ?_
  refine lv_istore (lv' := [(6, .int 0), (4, .int 0), (5, .ref a2057), (3, .int 49), (1, .int 0), (2, .int 5), (0, .ref h0)]) hx hb dX9_shown_64 hl (by decide) rfl (fun ls hl => ?_)
  refine lv_iload hx hb dX9_shown_66 (lv_at hl 1 rfl) ?_
  refine lv_if_ne (tgt := 82) hx hb dX9_shown_68 (by decide) (fun cz => absurd (by decide) cz) (fun _ => ?_)
  refine lv_aload_n hx hb dX9_shown_71 rfl (lv_at hl 6 rfl) ?_
  refine lv_iload_n hx hb dX9_shown_72 rfl (lv_at hl 5 rfl) ?_
  refine lv_iload_n hx hb dX9_shown_73 rfl (lv_at hl 3 rfl) ?_
  refine lv_iload hx hb dX9_shown_74 (lv_at hl 0 rfl) ?_
  have hM2126 := k981_showsIt l hl9 dC dI z h0 h1 h2 h4 h5 h7 h8 h9 h10 h11 h12 h13 h14 h3 H2122.size kc0 kc2
  obtain ⟨hF2124, hC2127⟩ := pc_M hM2126 hP hD hK hS hX hT hA [0, 1, 2, 3, 4, 5, 6, 7, 8, 9, 10, 11, 12] [0, 1] rfl rfl rfl
  refine va_calli (va_runV (As := [.int 5, .int 49, .int 0]) (rest := []) ⟨hx, hb, hml, hown, hts⟩ hM2126 (cwV 3 hts (gV q_429 q_430 q_431 q_60 q_428) rfl rfl rfl hV_X9_showsIt ⟨Nat.le_of_ble_eq_true rfl, Nat.le_of_ble_eq_true rfl⟩) ⟨pc_blind, va_recv hK hP (ci := 8) (q := (RX9, TX9, 6)) (q0 := 0) rfl rfl, fun U hU hW => ⟨rfl, hC2127 U hU hW⟩⟩ rfl rfl hl.1 rfl (lv_room (Nat.le_of_ble_eq_true rfl)) dX9_shown_76 ⟨(Nat.le_of_ble_eq_true rfl), (Nat.le_of_ble_eq_true rfl)⟩) hS (fun q9 _ h9 => hF2124 q9 h9) hF2124 (fun r2129 u2128 t2128 H2128 L2128 ht2128 hvm2128 hw2128 hB2128 hz2128 hk2128 hS => ?_)
  have hP := pq_keep hP hD [0, 1, 2, 3, 4, 5, 6, 7, 8, 9, 10, 11, 12] rfl hk2128 hB2128.1 ht2128
  have hG : s.heap.size + 2172 ≤ H2128.size := va_gr (g := 2145) (g1 := 27) hG (by rw [← ht2128]; exact hB2128.2)
  refine W.eq (g2 := F0 m 79 ls [.int 0]) (by rw [hw2128]) ?_
  refine W.widen (k := 2172) (n := 20208) (by decide) (by decide) ?_
  refine lv_if_eq (tgt := 86) hx hb dX9_shown_79 (by decide) (fun _ => ?_) (fun cz => absurd (by decide) cz)
  refine lv_iconst (v := 0) hx hb dX9_shown_86 (by decide) ?_
  refine lv_istore (lv' := [(4, .int 0), (6, .int 0), (5, .ref a2057), (3, .int 49), (1, .int 0), (2, .int 5), (0, .ref h0)]) hx hb dX9_shown_87 hl (by decide) rfl (fun ls hl => ?_)
  refine lv_goto (tgt := 41) hx hb dX9_shown_89 (by decide) ?_
  refine lv_aload hx hb dX9_shown_41 (lv_at hl 2 rfl) ?_
  have hM2132 := k734_hasNext l hl9 dC dI z a2057 h3 h6 H2128.size
  obtain ⟨hF2130, hC2133⟩ := pc_M hM2132 hP hD hK hS hX hT hA [13, 14] [] rfl rfl rfl
  refine va_callFi (va_runF (As := []) (rest := []) (hK.1 1 (RJx35411, TJx35411, 4) rfl).2 ⟨hx, hb, hml, hown, hts⟩ hM2132 (va_cwF 0 hts (gF q_261 q_262 q_263 q_246 q_260) rfl rfl rfl hT.2.2.2.2.2.2.1 hF_xIh ⟨Nat.le_of_ble_eq_true rfl, Nat.le_of_ble_eq_true rfl⟩) ⟨pc_blind, va_recv hK hP (ci := 1) (q := (RJx35411, TJx35411, 4)) (q0 := 13) rfl rfl, fun U hU hW => ⟨rfl, hC2133 U hU hW⟩⟩ rfl rfl hl.1 rfl (lv_room (Nat.le_of_ble_eq_true rfl)) dX9_shown_43 ⟨(Nat.le_of_ble_eq_true rfl), (Nat.le_of_ble_eq_true rfl)⟩) hS (fun q9 _ h9 => hF2130 q9 h9) hF2130 (fun r2135 u2134 t2134 H2134 L2134 ht2134 hvm2134 hw2134 hB2134 hz2134 hk2134 hS => ?_)
  have hP := pq_keep hP hD [13, 14] rfl hk2134 hB2134.1 ht2134
  have hG : s.heap.size + 2172 ≤ H2134.size := Nat.le_trans hG hz2134
  refine W.eq (g2 := F0 m 48 ls [.int 1]) (by rw [hw2134]) ?_
  refine lv_if_eq (tgt := 92) hx hb dX9_shown_48 (by decide) (fun cz => absurd cz (by decide)) (fun _ => ?_)
  refine lv_aload hx hb dX9_shown_51 (lv_at hl 2 rfl) ?_
  have hM2138 := k956_next l hl9 dC dI z a2057 h3 h6 H2134.size kc1
  obtain ⟨hF2136, hC2139⟩ := pc_M hM2138 hP hD hK hS hX hT hA [13, 14, 15] [2] rfl rfl rfl
  refine va_callFr (va_runF (As := []) (rest := []) (hK.1 1 (RJx35411, TJx35411, 4) rfl).2 ⟨hx, hb, hml, hown, hts⟩ hM2138 (va_cwF 0 hts (gF q_308 q_309 q_310 q_246 q_307) rfl rfl rfl hT.2.2.2.2.2.2.2.1 hF_xIn ⟨Nat.le_of_ble_eq_true rfl, Nat.le_of_ble_eq_true rfl⟩) ⟨pc_blind, va_recv hK hP (ci := 1) (q := (RJx35411, TJx35411, 4)) (q0 := 13) rfl rfl, fun U hU hW => ⟨rfl, hC2139 U hU hW⟩⟩ rfl rfl hl.1 rfl (lv_room (Nat.le_of_ble_eq_true rfl)) dX9_shown_53 ⟨(Nat.le_of_ble_eq_true rfl), (Nat.le_of_ble_eq_true rfl)⟩) hS (fun q9 _ h9 => hF2136 q9 h9) hF2136 (fun u2140 r2141 t2140 H2140 L2140 ht2140 hvm2140 hw2140 hB2140 hz2140 hk2140 hS => ?_)
  obtain ⟨hr2140, hB2140⟩ := hB2140
  obtain ⟨hP, hD, hK⟩ := pq_jn (wz := [(h0, ce21 h1 h2 h3 h4), (h1, ce331 h5), (h2, ce3 z.1), (h4, ce366 h7), (h5, ce330 kc0 h8 h9 h10 h11 h12 h13 h14), (h7, ce330 kc2 (z.2.2.1 128) (z.2.2.1 129) (z.2.2.1 130) (z.2.2.1 131) (z.2.2.1 132) (z.2.2.1 133) (z.2.2.1 134)), (h8, ce49), (h9, ce49), (h10, ce49), (h11, ce49), (h12, ce49), (h13, ce49), (h14, ce49), (a2057, ce378 h3), (h3, ce331 h6), (h6, ce330 kc1 (z.2.2.1 128) (z.2.2.1 128) (z.2.2.1 128) (z.2.2.1 128) (z.2.2.1 128) (z.2.2.1 128) (z.2.2.1 128))]) (tz := [(kc0, .object "java/lang/Object"), (kc2, .object "java/lang/Object"), (kc1, .object "java/lang/Object")]) hP hD hK [13, 14, 15] [0, 1] rfl hk2140 hF2136 hB2140.1 ht2140 hvm2140 rfl rfl
  have hG : s.heap.size + 2172 ≤ H2140.size := Nat.le_trans hG hz2140
  refine W.eq (g2 := F0 m 58 ls [.ref (z.2.2.1 128)]) (by rw [hr2140]) ?_
  refine va_castE (nm := "java/lang/Integer") hx hb hown (hts _ q_320) (va_Orecv (hX.2.2.1.1.1 128 (by decide)) hS) dX9_shown_58 ?_
  have hM2144 := k74_intValue l hl9 dC dI z H2140.size
  obtain ⟨hF2142, hC2145⟩ := pc_M hM2144 hP hD hK hS hX hT hA [] [] rfl rfl rfl
  refine va_calli (va_runV (As := []) (rest := []) ⟨hx, hb, hml, hown, hts⟩ hM2144 (cwV 0 hts (gV q_323 q_324 q_325 q_297 q_322) rfl rfl rfl hV_J6_intValue_8abf5 ⟨Nat.le_of_ble_eq_true rfl, Nat.le_of_ble_eq_true rfl⟩) ⟨pc_blind, va_Orecv (hX.2.2.1.1.1 128 (by decide)) hS, fun U hU hW => ⟨rfl, hC2145 U hU hW⟩⟩ rfl rfl hl.1 rfl (lv_room (Nat.le_of_ble_eq_true rfl)) dX9_shown_61 ⟨(Nat.le_of_ble_eq_true rfl), (Nat.le_of_ble_eq_true rfl)⟩) hS (fun q9 _ h9 => hF2142 q9 h9) hF2142 (fun r2147 u2146 t2146 H2146 L2146 ht2146 hvm2146 hw2146 hB2146 hz2146 hk2146 hS => ?_)
  have hP := pq_keep hP hD [] rfl hk2146 hB2146.1 ht2146
  have hG : s.heap.size + 2172 ≤ H2146.size := Nat.le_trans hG hz2146
  refine W.eq (g2 := F0 m 64 ls [.int 0]) (by rw [hw2146]) ?_
  refine lv_istore (lv' := [(6, .int 0), (4, .int 0), (5, .ref a2057), (3, .int 49), (1, .int 0), (2, .int 5), (0, .ref h0)]) hx hb dX9_shown_64 hl (by decide) rfl (fun ls hl => ?_)
  refine lv_iload hx hb dX9_shown_66 (lv_at hl 1 rfl) ?_
  refine lv_if_ne (tgt := 82) hx hb dX9_shown_68 (by decide) (fun cz => absurd (by decide) cz) (fun _ => ?_)
  refine lv_aload_n hx hb dX9_shown_71 rfl (lv_at hl 6 rfl) ?_
  refine lv_iload_n hx hb dX9_shown_72 rfl (lv_at hl 5 rfl) ?_
  refine lv_iload_n hx hb dX9_shown_73 rfl (lv_at hl 3 rfl) ?_
  refine lv_iload hx hb dX9_shown_74 (lv_at hl 0 rfl) ?_
  have hM2150 := k981_showsIt l hl9 dC dI z h0 h1 h2 h4 h5 h7 h8 h9 h10 h11 h12 h13 h14 h3 H2146.size kc0 kc2
  obtain ⟨hF2148, hC2151⟩ := pc_M hM2150 hP hD hK hS hX hT hA [0, 1, 2, 3, 4, 5, 6, 7, 8, 9, 10, 11, 12] [0, 1] rfl rfl rfl
  refine va_calli (va_runV (As := [.int 5, .int 49, .int 0]) (rest := []) ⟨hx, hb, hml, hown, hts⟩ hM2150 (cwV 3 hts (gV q_429 q_430 q_431 q_60 q_428) rfl rfl rfl hV_X9_showsIt ⟨Nat.le_of_ble_eq_true rfl, Nat.le_of_ble_eq_true rfl⟩) ⟨pc_blind, va_recv hK hP (ci := 8) (q := (RX9, TX9, 6)) (q0 := 0) rfl rfl, fun U hU hW => ⟨rfl, hC2151 U hU hW⟩⟩ rfl rfl hl.1 rfl (lv_room (Nat.le_of_ble_eq_true rfl)) dX9_shown_76 ⟨(Nat.le_of_ble_eq_true rfl), (Nat.le_of_ble_eq_true rfl)⟩) hS (fun q9 _ h9 => hF2148 q9 h9) hF2148 (fun r2153 u2152 t2152 H2152 L2152 ht2152 hvm2152 hw2152 hB2152 hz2152 hk2152 hS => ?_)
  have hP := pq_keep hP hD [0, 1, 2, 3, 4, 5, 6, 7, 8, 9, 10, 11, 12] rfl hk2152 hB2152.1 ht2152
  have hG : s.heap.size + 2199 ≤ H2152.size := va_gr (g := 2172) (g1 := 27) hG (by rw [← ht2152]; exact hB2152.2)
  refine W.eq (g2 := F0 m 79 ls [.int 0]) (by rw [hw2152]) ?_
  refine W.widen (k := 2199) (n := 20460) (by decide) (by decide) ?_
  refine lv_if_eq (tgt := 86) hx hb dX9_shown_79 (by decide) (fun _ => ?_) (fun cz => absurd (by decide) cz)
  refine lv_iconst (v := 0) hx hb dX9_shown_86 (by decide) ?_
  refine lv_istore (lv' := [(4, .int 0), (6, .int 0), (5, .ref a2057), (3, .int 49), (1, .int 0), (2, .int 5), (0, .ref h0)]) hx hb dX9_shown_87 hl (by decide) rfl (fun ls hl => ?_)
  refine lv_goto (tgt := 41) hx hb dX9_shown_89 (by decide) ?_
  refine lv_aload hx hb dX9_shown_41 (lv_at hl 2 rfl) ?_
  have hM2156 := k737_hasNext l hl9 dC dI z a2057 h3 h6 H2152.size
  obtain ⟨hF2154, hC2157⟩ := pc_M hM2156 hP hD hK hS hX hT hA [13, 14] [] rfl rfl rfl
  refine va_callFi (va_runF (As := []) (rest := []) (hK.1 1 (RJx35411, TJx35411, 4) rfl).2 ⟨hx, hb, hml, hown, hts⟩ hM2156 (va_cwF 0 hts (gF q_261 q_262 q_263 q_246 q_260) rfl rfl rfl hT.2.2.2.2.2.2.1 hF_xIh ⟨Nat.le_of_ble_eq_true rfl, Nat.le_of_ble_eq_true rfl⟩) ⟨pc_blind, va_recv hK hP (ci := 1) (q := (RJx35411, TJx35411, 4)) (q0 := 13) rfl rfl, fun U hU hW => ⟨rfl, hC2157 U hU hW⟩⟩ rfl rfl hl.1 rfl (lv_room (Nat.le_of_ble_eq_true rfl)) dX9_shown_43 ⟨(Nat.le_of_ble_eq_true rfl), (Nat.le_of_ble_eq_true rfl)⟩) hS (fun q9 _ h9 => hF2154 q9 h9) hF2154 (fun r2159 u2158 t2158 H2158 L2158 ht2158 hvm2158 hw2158 hB2158 hz2158 hk2158 hS => ?_)
  have hP := pq_keep hP hD [13, 14] rfl hk2158 hB2158.1 ht2158
  have hG : s.heap.size + 2199 ≤ H2158.size := Nat.le_trans hG hz2158
  refine W.eq (g2 := F0 m 48 ls [.int 1]) (by rw [hw2158]) ?_
  refine lv_if_eq (tgt := 92) hx hb dX9_shown_48 (by decide) (fun cz => absurd cz (by decide)) (fun _ => ?_)
  refine lv_aload hx hb dX9_shown_51 (lv_at hl 2 rfl) ?_
  have hM2162 := k957_next l hl9 dC dI z a2057 h3 h6 H2158.size kc1
  obtain ⟨hF2160, hC2163⟩ := pc_M hM2162 hP hD hK hS hX hT hA [13, 14, 15] [2] rfl rfl rfl
  refine va_callFr (va_runF (As := []) (rest := []) (hK.1 1 (RJx35411, TJx35411, 4) rfl).2 ⟨hx, hb, hml, hown, hts⟩ hM2162 (va_cwF 0 hts (gF q_308 q_309 q_310 q_246 q_307) rfl rfl rfl hT.2.2.2.2.2.2.2.1 hF_xIn ⟨Nat.le_of_ble_eq_true rfl, Nat.le_of_ble_eq_true rfl⟩) ⟨pc_blind, va_recv hK hP (ci := 1) (q := (RJx35411, TJx35411, 4)) (q0 := 13) rfl rfl, fun U hU hW => ⟨rfl, hC2163 U hU hW⟩⟩ rfl rfl hl.1 rfl (lv_room (Nat.le_of_ble_eq_true rfl)) dX9_shown_53 ⟨(Nat.le_of_ble_eq_true rfl), (Nat.le_of_ble_eq_true rfl)⟩) hS (fun q9 _ h9 => hF2160 q9 h9) hF2160 (fun u2164 r2165 t2164 H2164 L2164 ht2164 hvm2164 hw2164 hB2164 hz2164 hk2164 hS => ?_)
  obtain ⟨hr2164, hB2164⟩ := hB2164
  obtain ⟨hP, hD, hK⟩ := pq_jn (wz := [(h0, ce21 h1 h2 h3 h4), (h1, ce331 h5), (h2, ce3 z.1), (h4, ce366 h7), (h5, ce330 kc0 h8 h9 h10 h11 h12 h13 h14), (h7, ce330 kc2 (z.2.2.1 128) (z.2.2.1 129) (z.2.2.1 130) (z.2.2.1 131) (z.2.2.1 132) (z.2.2.1 133) (z.2.2.1 134)), (h8, ce49), (h9, ce49), (h10, ce49), (h11, ce49), (h12, ce49), (h13, ce49), (h14, ce49), (a2057, ce380 h3), (h3, ce331 h6), (h6, ce330 kc1 (z.2.2.1 128) (z.2.2.1 128) (z.2.2.1 128) (z.2.2.1 128) (z.2.2.1 128) (z.2.2.1 128) (z.2.2.1 128))]) (tz := [(kc0, .object "java/lang/Object"), (kc2, .object "java/lang/Object"), (kc1, .object "java/lang/Object")]) hP hD hK [13, 14, 15] [0, 1] rfl hk2164 hF2160 hB2164.1 ht2164 hvm2164 rfl rfl
  have hG : s.heap.size + 2199 ≤ H2164.size := Nat.le_trans hG hz2164
  refine W.eq (g2 := F0 m 58 ls [.ref (z.2.2.1 128)]) (by rw [hr2164]) ?_
  refine va_castE (nm := "java/lang/Integer") hx hb hown (hts _ q_320) (va_Orecv (hX.2.2.1.1.1 128 (by decide)) hS) dX9_shown_58 ?_
  have hM2168 := k74_intValue l hl9 dC dI z H2164.size
  obtain ⟨hF2166, hC2169⟩ := pc_M hM2168 hP hD hK hS hX hT hA [] [] rfl rfl rfl
  refine va_calli (va_runV (As := []) (rest := []) ⟨hx, hb, hml, hown, hts⟩ hM2168 (cwV 0 hts (gV q_323 q_324 q_325 q_297 q_322) rfl rfl rfl hV_J6_intValue_8abf5 ⟨Nat.le_of_ble_eq_true rfl, Nat.le_of_ble_eq_true rfl⟩) ⟨pc_blind, va_Orecv (hX.2.2.1.1.1 128 (by decide)) hS, fun U hU hW => ⟨rfl, hC2169 U hU hW⟩⟩ rfl rfl hl.1 rfl (lv_room (Nat.le_of_ble_eq_true rfl)) dX9_shown_61 ⟨(Nat.le_of_ble_eq_true rfl), (Nat.le_of_ble_eq_true rfl)⟩) hS (fun q9 _ h9 => hF2166 q9 h9) hF2166 (fun r2171 u2170 t2170 H2170 L2170 ht2170 hvm2170 hw2170 hB2170 hz2170 hk2170 hS => ?_)
  have hP := pq_keep hP hD [] rfl hk2170 hB2170.1 ht2170
  have hG : s.heap.size + 2199 ≤ H2170.size := Nat.le_trans hG hz2170
  refine W.eq (g2 := F0 m 64 ls [.int 0]) (by rw [hw2170]) ?_
  refine lv_istore (lv' := [(6, .int 0), (4, .int 0), (5, .ref a2057), (3, .int 49), (1, .int 0), (2, .int 5), (0, .ref h0)]) hx hb dX9_shown_64 hl (by decide) rfl (fun ls hl => ?_)
  refine lv_iload hx hb dX9_shown_66 (lv_at hl 1 rfl) ?_
  refine lv_if_ne (tgt := 82) hx hb dX9_shown_68 (by decide) (fun cz => absurd (by decide) cz) (fun _ => ?_)
  refine lv_aload_n hx hb dX9_shown_71 rfl (lv_at hl 6 rfl) ?_
  refine lv_iload_n hx hb dX9_shown_72 rfl (lv_at hl 5 rfl) ?_
  refine lv_iload_n hx hb dX9_shown_73 rfl (lv_at hl 3 rfl) ?_
  refine lv_iload hx hb dX9_shown_74 (lv_at hl 0 rfl) ?_
  have hM2174 := k981_showsIt l hl9 dC dI z h0 h1 h2 h4 h5 h7 h8 h9 h10 h11 h12 h13 h14 h3 H2170.size kc0 kc2
  obtain ⟨hF2172, hC2175⟩ := pc_M hM2174 hP hD hK hS hX hT hA [0, 1, 2, 3, 4, 5, 6, 7, 8, 9, 10, 11, 12] [0, 1] rfl rfl rfl
  refine va_calli (va_runV (As := [.int 5, .int 49, .int 0]) (rest := []) ⟨hx, hb, hml, hown, hts⟩ hM2174 (cwV 3 hts (gV q_429 q_430 q_431 q_60 q_428) rfl rfl rfl hV_X9_showsIt ⟨Nat.le_of_ble_eq_true rfl, Nat.le_of_ble_eq_true rfl⟩) ⟨pc_blind, va_recv hK hP (ci := 8) (q := (RX9, TX9, 6)) (q0 := 0) rfl rfl, fun U hU hW => ⟨rfl, hC2175 U hU hW⟩⟩ rfl rfl hl.1 rfl (lv_room (Nat.le_of_ble_eq_true rfl)) dX9_shown_76 ⟨(Nat.le_of_ble_eq_true rfl), (Nat.le_of_ble_eq_true rfl)⟩) hS (fun q9 _ h9 => hF2172 q9 h9) hF2172 (fun r2177 u2176 t2176 H2176 L2176 ht2176 hvm2176 hw2176 hB2176 hz2176 hk2176 hS => ?_)
  have hP := pq_keep hP hD [0, 1, 2, 3, 4, 5, 6, 7, 8, 9, 10, 11, 12] rfl hk2176 hB2176.1 ht2176
  have hG : s.heap.size + 2226 ≤ H2176.size := va_gr (g := 2199) (g1 := 27) hG (by rw [← ht2176]; exact hB2176.2)
  refine W.eq (g2 := F0 m 79 ls [.int 0]) (by rw [hw2176]) ?_
  refine W.widen (k := 2226) (n := 20712) (by decide) (by decide) ?_
  refine lv_if_eq (tgt := 86) hx hb dX9_shown_79 (by decide) (fun _ => ?_) (fun cz => absurd (by decide) cz)
  refine lv_iconst (v := 0) hx hb dX9_shown_86 (by decide) ?_
  refine lv_istore (lv' := [(4, .int 0), (6, .int 0), (5, .ref a2057), (3, .int 49), (1, .int 0), (2, .int 5), (0, .ref h0)]) hx hb dX9_shown_87 hl (by decide) rfl (fun ls hl => ?_)
  refine lv_goto (tgt := 41) hx hb dX9_shown_89 (by decide) ?_
  refine lv_aload hx hb dX9_shown_41 (lv_at hl 2 rfl) ?_
  have hM2180 := k740_hasNext l hl9 dC dI z a2057 h3 h6 H2176.size
  obtain ⟨hF2178, hC2181⟩ := pc_M hM2180 hP hD hK hS hX hT hA [13, 14] [] rfl rfl rfl
  refine va_callFi (va_runF (As := []) (rest := []) (hK.1 1 (RJx35411, TJx35411, 4) rfl).2 ⟨hx, hb, hml, hown, hts⟩ hM2180 (va_cwF 0 hts (gF q_261 q_262 q_263 q_246 q_260) rfl rfl rfl hT.2.2.2.2.2.2.1 hF_xIh ⟨Nat.le_of_ble_eq_true rfl, Nat.le_of_ble_eq_true rfl⟩) ⟨pc_blind, va_recv hK hP (ci := 1) (q := (RJx35411, TJx35411, 4)) (q0 := 13) rfl rfl, fun U hU hW => ⟨rfl, hC2181 U hU hW⟩⟩ rfl rfl hl.1 rfl (lv_room (Nat.le_of_ble_eq_true rfl)) dX9_shown_43 ⟨(Nat.le_of_ble_eq_true rfl), (Nat.le_of_ble_eq_true rfl)⟩) hS (fun q9 _ h9 => hF2178 q9 h9) hF2178 (fun r2183 u2182 t2182 H2182 L2182 ht2182 hvm2182 hw2182 hB2182 hz2182 hk2182 hS => ?_)
  have hP := pq_keep hP hD [13, 14] rfl hk2182 hB2182.1 ht2182
  have hG : s.heap.size + 2226 ≤ H2182.size := Nat.le_trans hG hz2182
  refine W.eq (g2 := F0 m 48 ls [.int 1]) (by rw [hw2182]) ?_
  refine lv_if_eq (tgt := 92) hx hb dX9_shown_48 (by decide) (fun cz => absurd cz (by decide)) (fun _ => ?_)
  refine lv_aload hx hb dX9_shown_51 (lv_at hl 2 rfl) ?_
  have hM2186 := k958_next l hl9 dC dI z a2057 h3 h6 H2182.size kc1
  obtain ⟨hF2184, hC2187⟩ := pc_M hM2186 hP hD hK hS hX hT hA [13, 14, 15] [2] rfl rfl rfl
  refine va_callFr (va_runF (As := []) (rest := []) (hK.1 1 (RJx35411, TJx35411, 4) rfl).2 ⟨hx, hb, hml, hown, hts⟩ hM2186 (va_cwF 0 hts (gF q_308 q_309 q_310 q_246 q_307) rfl rfl rfl hT.2.2.2.2.2.2.2.1 hF_xIn ⟨Nat.le_of_ble_eq_true rfl, Nat.le_of_ble_eq_true rfl⟩) ⟨pc_blind, va_recv hK hP (ci := 1) (q := (RJx35411, TJx35411, 4)) (q0 := 13) rfl rfl, fun U hU hW => ⟨rfl, hC2187 U hU hW⟩⟩ rfl rfl hl.1 rfl (lv_room (Nat.le_of_ble_eq_true rfl)) dX9_shown_53 ⟨(Nat.le_of_ble_eq_true rfl), (Nat.le_of_ble_eq_true rfl)⟩) hS (fun q9 _ h9 => hF2184 q9 h9) hF2184 (fun u2188 r2189 t2188 H2188 L2188 ht2188 hvm2188 hw2188 hB2188 hz2188 hk2188 hS => ?_)
  obtain ⟨hr2188, hB2188⟩ := hB2188
  obtain ⟨hP, hD, hK⟩ := pq_jn (wz := [(h0, ce21 h1 h2 h3 h4), (h1, ce331 h5), (h2, ce3 z.1), (h4, ce366 h7), (h5, ce330 kc0 h8 h9 h10 h11 h12 h13 h14), (h7, ce330 kc2 (z.2.2.1 128) (z.2.2.1 129) (z.2.2.1 130) (z.2.2.1 131) (z.2.2.1 132) (z.2.2.1 133) (z.2.2.1 134)), (h8, ce49), (h9, ce49), (h10, ce49), (h11, ce49), (h12, ce49), (h13, ce49), (h14, ce49), (a2057, ce382 h3), (h3, ce331 h6), (h6, ce330 kc1 (z.2.2.1 128) (z.2.2.1 128) (z.2.2.1 128) (z.2.2.1 128) (z.2.2.1 128) (z.2.2.1 128) (z.2.2.1 128))]) (tz := [(kc0, .object "java/lang/Object"), (kc2, .object "java/lang/Object"), (kc1, .object "java/lang/Object")]) hP hD hK [13, 14, 15] [0, 1] rfl hk2188 hF2184 hB2188.1 ht2188 hvm2188 rfl rfl
  have hG : s.heap.size + 2226 ≤ H2188.size := Nat.le_trans hG hz2188
  refine W.eq (g2 := F0 m 58 ls [.ref (z.2.2.1 128)]) (by rw [hr2188]) ?_
  refine va_castE (nm := "java/lang/Integer") hx hb hown (hts _ q_320) (va_Orecv (hX.2.2.1.1.1 128 (by decide)) hS) dX9_shown_58 ?_
  have hM2192 := k74_intValue l hl9 dC dI z H2188.size
  obtain ⟨hF2190, hC2193⟩ := pc_M hM2192 hP hD hK hS hX hT hA [] [] rfl rfl rfl
  refine va_calli (va_runV (As := []) (rest := []) ⟨hx, hb, hml, hown, hts⟩ hM2192 (cwV 0 hts (gV q_323 q_324 q_325 q_297 q_322) rfl rfl rfl hV_J6_intValue_8abf5 ⟨Nat.le_of_ble_eq_true rfl, Nat.le_of_ble_eq_true rfl⟩) ⟨pc_blind, va_Orecv (hX.2.2.1.1.1 128 (by decide)) hS, fun U hU hW => ⟨rfl, hC2193 U hU hW⟩⟩ rfl rfl hl.1 rfl (lv_room (Nat.le_of_ble_eq_true rfl)) dX9_shown_61 ⟨(Nat.le_of_ble_eq_true rfl), (Nat.le_of_ble_eq_true rfl)⟩) hS (fun q9 _ h9 => hF2190 q9 h9) hF2190 (fun r2195 u2194 t2194 H2194 L2194 ht2194 hvm2194 hw2194 hB2194 hz2194 hk2194 hS => ?_)
  have hP := pq_keep hP hD [] rfl hk2194 hB2194.1 ht2194
  have hG : s.heap.size + 2226 ≤ H2194.size := Nat.le_trans hG hz2194
  refine W.eq (g2 := F0 m 64 ls [.int 0]) (by rw [hw2194]) ?_
  refine lv_istore (lv' := [(6, .int 0), (4, .int 0), (5, .ref a2057), (3, .int 49), (1, .int 0), (2, .int 5), (0, .ref h0)]) hx hb dX9_shown_64 hl (by decide) rfl (fun ls hl => ?_)
  refine lv_iload hx hb dX9_shown_66 (lv_at hl 1 rfl) ?_
  refine lv_if_ne (tgt := 82) hx hb dX9_shown_68 (by decide) (fun cz => absurd (by decide) cz) (fun _ => ?_)
  refine lv_aload_n hx hb dX9_shown_71 rfl (lv_at hl 6 rfl) ?_
  refine lv_iload_n hx hb dX9_shown_72 rfl (lv_at hl 5 rfl) ?_
  refine lv_iload_n hx hb dX9_shown_73 rfl (lv_at hl 3 rfl) ?_
  refine lv_iload hx hb dX9_shown_74 (lv_at hl 0 rfl) ?_
  have hM2198 := k981_showsIt l hl9 dC dI z h0 h1 h2 h4 h5 h7 h8 h9 h10 h11 h12 h13 h14 h3 H2194.size kc0 kc2
  obtain ⟨hF2196, hC2199⟩ := pc_M hM2198 hP hD hK hS hX hT hA [0, 1, 2, 3, 4, 5, 6, 7, 8, 9, 10, 11, 12] [0, 1] rfl rfl rfl
  refine va_calli (va_runV (As := [.int 5, .int 49, .int 0]) (rest := []) ⟨hx, hb, hml, hown, hts⟩ hM2198 (cwV 3 hts (gV q_429 q_430 q_431 q_60 q_428) rfl rfl rfl hV_X9_showsIt ⟨Nat.le_of_ble_eq_true rfl, Nat.le_of_ble_eq_true rfl⟩) ⟨pc_blind, va_recv hK hP (ci := 8) (q := (RX9, TX9, 6)) (q0 := 0) rfl rfl, fun U hU hW => ⟨rfl, hC2199 U hU hW⟩⟩ rfl rfl hl.1 rfl (lv_room (Nat.le_of_ble_eq_true rfl)) dX9_shown_76 ⟨(Nat.le_of_ble_eq_true rfl), (Nat.le_of_ble_eq_true rfl)⟩) hS (fun q9 _ h9 => hF2196 q9 h9) hF2196 (fun r2201 u2200 t2200 H2200 L2200 ht2200 hvm2200 hw2200 hB2200 hz2200 hk2200 hS => ?_)
  have hP := pq_keep hP hD [0, 1, 2, 3, 4, 5, 6, 7, 8, 9, 10, 11, 12] rfl hk2200 hB2200.1 ht2200
  have hG : s.heap.size + 2253 ≤ H2200.size := va_gr (g := 2226) (g1 := 27) hG (by rw [← ht2200]; exact hB2200.2)
  refine W.eq (g2 := F0 m 79 ls [.int 0]) (by rw [hw2200]) ?_
  refine W.widen (k := 2253) (n := 20964) (by decide) (by decide) ?_
  refine lv_if_eq (tgt := 86) hx hb dX9_shown_79 (by decide) (fun _ => ?_) (fun cz => absurd (by decide) cz)
  refine lv_iconst (v := 0) hx hb dX9_shown_86 (by decide) ?_
  refine lv_istore (lv' := [(4, .int 0), (6, .int 0), (5, .ref a2057), (3, .int 49), (1, .int 0), (2, .int 5), (0, .ref h0)]) hx hb dX9_shown_87 hl (by decide) rfl (fun ls hl => ?_)
  refine lv_goto (tgt := 41) hx hb dX9_shown_89 (by decide) ?_
  refine lv_aload hx hb dX9_shown_41 (lv_at hl 2 rfl) ?_
  have hM2204 := k743_hasNext l hl9 dC dI z a2057 h3 h6 H2200.size
  obtain ⟨hF2202, hC2205⟩ := pc_M hM2204 hP hD hK hS hX hT hA [13, 14] [] rfl rfl rfl
  refine va_callFi (va_runF (As := []) (rest := []) (hK.1 1 (RJx35411, TJx35411, 4) rfl).2 ⟨hx, hb, hml, hown, hts⟩ hM2204 (va_cwF 0 hts (gF q_261 q_262 q_263 q_246 q_260) rfl rfl rfl hT.2.2.2.2.2.2.1 hF_xIh ⟨Nat.le_of_ble_eq_true rfl, Nat.le_of_ble_eq_true rfl⟩) ⟨pc_blind, va_recv hK hP (ci := 1) (q := (RJx35411, TJx35411, 4)) (q0 := 13) rfl rfl, fun U hU hW => ⟨rfl, hC2205 U hU hW⟩⟩ rfl rfl hl.1 rfl (lv_room (Nat.le_of_ble_eq_true rfl)) dX9_shown_43 ⟨(Nat.le_of_ble_eq_true rfl), (Nat.le_of_ble_eq_true rfl)⟩) hS (fun q9 _ h9 => hF2202 q9 h9) hF2202 (fun r2207 u2206 t2206 H2206 L2206 ht2206 hvm2206 hw2206 hB2206 hz2206 hk2206 hS => ?_)
  have hP := pq_keep hP hD [13, 14] rfl hk2206 hB2206.1 ht2206
  have hG : s.heap.size + 2253 ≤ H2206.size := Nat.le_trans hG hz2206
  refine W.eq (g2 := F0 m 48 ls [.int 1]) (by rw [hw2206]) ?_
  refine lv_if_eq (tgt := 92) hx hb dX9_shown_48 (by decide) (fun cz => absurd cz (by decide)) (fun _ => ?_)
  refine lv_aload hx hb dX9_shown_51 (lv_at hl 2 rfl) ?_
  have hM2210 := k959_next l hl9 dC dI z a2057 h3 h6 H2206.size kc1
  obtain ⟨hF2208, hC2211⟩ := pc_M hM2210 hP hD hK hS hX hT hA [13, 14, 15] [2] rfl rfl rfl
  refine va_callFr (va_runF (As := []) (rest := []) (hK.1 1 (RJx35411, TJx35411, 4) rfl).2 ⟨hx, hb, hml, hown, hts⟩ hM2210 (va_cwF 0 hts (gF q_308 q_309 q_310 q_246 q_307) rfl rfl rfl hT.2.2.2.2.2.2.2.1 hF_xIn ⟨Nat.le_of_ble_eq_true rfl, Nat.le_of_ble_eq_true rfl⟩) ⟨pc_blind, va_recv hK hP (ci := 1) (q := (RJx35411, TJx35411, 4)) (q0 := 13) rfl rfl, fun U hU hW => ⟨rfl, hC2211 U hU hW⟩⟩ rfl rfl hl.1 rfl (lv_room (Nat.le_of_ble_eq_true rfl)) dX9_shown_53 ⟨(Nat.le_of_ble_eq_true rfl), (Nat.le_of_ble_eq_true rfl)⟩) hS (fun q9 _ h9 => hF2208 q9 h9) hF2208 (fun u2212 r2213 t2212 H2212 L2212 ht2212 hvm2212 hw2212 hB2212 hz2212 hk2212 hS => ?_)
  obtain ⟨hr2212, hB2212⟩ := hB2212
  obtain ⟨hP, hD, hK⟩ := pq_jn (wz := [(h0, ce21 h1 h2 h3 h4), (h1, ce331 h5), (h2, ce3 z.1), (h4, ce366 h7), (h5, ce330 kc0 h8 h9 h10 h11 h12 h13 h14), (h7, ce330 kc2 (z.2.2.1 128) (z.2.2.1 129) (z.2.2.1 130) (z.2.2.1 131) (z.2.2.1 132) (z.2.2.1 133) (z.2.2.1 134)), (h8, ce49), (h9, ce49), (h10, ce49), (h11, ce49), (h12, ce49), (h13, ce49), (h14, ce49), (a2057, ce384 h3), (h3, ce331 h6), (h6, ce330 kc1 (z.2.2.1 128) (z.2.2.1 128) (z.2.2.1 128) (z.2.2.1 128) (z.2.2.1 128) (z.2.2.1 128) (z.2.2.1 128))]) (tz := [(kc0, .object "java/lang/Object"), (kc2, .object "java/lang/Object"), (kc1, .object "java/lang/Object")]) hP hD hK [13, 14, 15] [0, 1] rfl hk2212 hF2208 hB2212.1 ht2212 hvm2212 rfl rfl
  have hG : s.heap.size + 2253 ≤ H2212.size := Nat.le_trans hG hz2212
  refine W.eq (g2 := F0 m 58 ls [.ref (z.2.2.1 128)]) (by rw [hr2212]) ?_
  refine va_castE (nm := "java/lang/Integer") hx hb hown (hts _ q_320) (va_Orecv (hX.2.2.1.1.1 128 (by decide)) hS) dX9_shown_58 ?_
  have hM2216 := k74_intValue l hl9 dC dI z H2212.size
  obtain ⟨hF2214, hC2217⟩ := pc_M hM2216 hP hD hK hS hX hT hA [] [] rfl rfl rfl
  refine va_calli (va_runV (As := []) (rest := []) ⟨hx, hb, hml, hown, hts⟩ hM2216 (cwV 0 hts (gV q_323 q_324 q_325 q_297 q_322) rfl rfl rfl hV_J6_intValue_8abf5 ⟨Nat.le_of_ble_eq_true rfl, Nat.le_of_ble_eq_true rfl⟩) ⟨pc_blind, va_Orecv (hX.2.2.1.1.1 128 (by decide)) hS, fun U hU hW => ⟨rfl, hC2217 U hU hW⟩⟩ rfl rfl hl.1 rfl (lv_room (Nat.le_of_ble_eq_true rfl)) dX9_shown_61 ⟨(Nat.le_of_ble_eq_true rfl), (Nat.le_of_ble_eq_true rfl)⟩) hS (fun q9 _ h9 => hF2214 q9 h9) hF2214 (fun r2219 u2218 t2218 H2218 L2218 ht2218 hvm2218 hw2218 hB2218 hz2218 hk2218 hS => ?_)
  have hP := pq_keep hP hD [] rfl hk2218 hB2218.1 ht2218
  have hG : s.heap.size + 2253 ≤ H2218.size := Nat.le_trans hG hz2218
  refine W.eq (g2 := F0 m 64 ls [.int 0]) (by rw [hw2218]) ?_
  refine lv_istore (lv' := [(6, .int 0), (4, .int 0), (5, .ref a2057), (3, .int 49), (1, .int 0), (2, .int 5), (0, .ref h0)]) hx hb dX9_shown_64 hl (by decide) rfl (fun ls hl => ?_)
  refine lv_iload hx hb dX9_shown_66 (lv_at hl 1 rfl) ?_
  refine lv_if_ne (tgt := 82) hx hb dX9_shown_68 (by decide) (fun cz => absurd (by decide) cz) (fun _ => ?_)
  refine lv_aload_n hx hb dX9_shown_71 rfl (lv_at hl 6 rfl) ?_
  refine lv_iload_n hx hb dX9_shown_72 rfl (lv_at hl 5 rfl) ?_
  refine lv_iload_n hx hb dX9_shown_73 rfl (lv_at hl 3 rfl) ?_
  refine lv_iload hx hb dX9_shown_74 (lv_at hl 0 rfl) ?_
  have hM2222 := k981_showsIt l hl9 dC dI z h0 h1 h2 h4 h5 h7 h8 h9 h10 h11 h12 h13 h14 h3 H2218.size kc0 kc2
  obtain ⟨hF2220, hC2223⟩ := pc_M hM2222 hP hD hK hS hX hT hA [0, 1, 2, 3, 4, 5, 6, 7, 8, 9, 10, 11, 12] [0, 1] rfl rfl rfl
  refine va_calli (va_runV (As := [.int 5, .int 49, .int 0]) (rest := []) ⟨hx, hb, hml, hown, hts⟩ hM2222 (cwV 3 hts (gV q_429 q_430 q_431 q_60 q_428) rfl rfl rfl hV_X9_showsIt ⟨Nat.le_of_ble_eq_true rfl, Nat.le_of_ble_eq_true rfl⟩) ⟨pc_blind, va_recv hK hP (ci := 8) (q := (RX9, TX9, 6)) (q0 := 0) rfl rfl, fun U hU hW => ⟨rfl, hC2223 U hU hW⟩⟩ rfl rfl hl.1 rfl (lv_room (Nat.le_of_ble_eq_true rfl)) dX9_shown_76 ⟨(Nat.le_of_ble_eq_true rfl), (Nat.le_of_ble_eq_true rfl)⟩) hS (fun q9 _ h9 => hF2220 q9 h9) hF2220 (fun r2225 u2224 t2224 H2224 L2224 ht2224 hvm2224 hw2224 hB2224 hz2224 hk2224 hS => ?_)
  have hP := pq_keep hP hD [0, 1, 2, 3, 4, 5, 6, 7, 8, 9, 10, 11, 12] rfl hk2224 hB2224.1 ht2224
  have hG : s.heap.size + 2280 ≤ H2224.size := va_gr (g := 2253) (g1 := 27) hG (by rw [← ht2224]; exact hB2224.2)
  refine W.eq (g2 := F0 m 79 ls [.int 0]) (by rw [hw2224]) ?_
  refine W.widen (k := 2280) (n := 21216) (by decide) (by decide) ?_
  refine lv_if_eq (tgt := 86) hx hb dX9_shown_79 (by decide) (fun _ => ?_) (fun cz => absurd (by decide) cz)
  refine lv_iconst (v := 0) hx hb dX9_shown_86 (by decide) ?_
  refine lv_istore (lv' := [(4, .int 0), (6, .int 0), (5, .ref a2057), (3, .int 49), (1, .int 0), (2, .int 5), (0, .ref h0)]) hx hb dX9_shown_87 hl (by decide) rfl (fun ls hl => ?_)
  refine lv_goto (tgt := 41) hx hb dX9_shown_89 (by decide) ?_
  refine lv_aload hx hb dX9_shown_41 (lv_at hl 2 rfl) ?_
  have hM2228 := k746_hasNext l hl9 dC dI z a2057 h3 h6 H2224.size
  obtain ⟨hF2226, hC2229⟩ := pc_M hM2228 hP hD hK hS hX hT hA [13, 14] [] rfl rfl rfl
  refine va_callFi (va_runF (As := []) (rest := []) (hK.1 1 (RJx35411, TJx35411, 4) rfl).2 ⟨hx, hb, hml, hown, hts⟩ hM2228 (va_cwF 0 hts (gF q_261 q_262 q_263 q_246 q_260) rfl rfl rfl hT.2.2.2.2.2.2.1 hF_xIh ⟨Nat.le_of_ble_eq_true rfl, Nat.le_of_ble_eq_true rfl⟩) ⟨pc_blind, va_recv hK hP (ci := 1) (q := (RJx35411, TJx35411, 4)) (q0 := 13) rfl rfl, fun U hU hW => ⟨rfl, hC2229 U hU hW⟩⟩ rfl rfl hl.1 rfl (lv_room (Nat.le_of_ble_eq_true rfl)) dX9_shown_43 ⟨(Nat.le_of_ble_eq_true rfl), (Nat.le_of_ble_eq_true rfl)⟩) hS (fun q9 _ h9 => hF2226 q9 h9) hF2226 (fun r2231 u2230 t2230 H2230 L2230 ht2230 hvm2230 hw2230 hB2230 hz2230 hk2230 hS => ?_)
  have hP := pq_keep hP hD [13, 14] rfl hk2230 hB2230.1 ht2230
  have hG : s.heap.size + 2280 ≤ H2230.size := Nat.le_trans hG hz2230
  refine W.eq (g2 := F0 m 48 ls [.int 0]) (by rw [hw2230]) ?_
  refine lv_if_eq (tgt := 92) hx hb dX9_shown_48 (by decide) (fun _ => ?_) (fun cz => absurd (by decide) cz)
  refine lv_iload_n hx hb dX9_shown_92 rfl (lv_at hl 4 rfl) ?_
  refine lv_iload hx hb dX9_shown_93 (lv_at hl 0 rfl) ?_
  refine lv_if_eq (tgt := 102) hx hb dX9_shown_95 (by decide) (fun _ => ?_) (fun cz => absurd (by decide) cz)
  refine lv_iconst (v := 0) hx hb dX9_shown_102 (by decide) ?_
  refine lv_iadd hx hb dX9_shown_103 ?_
  refine lv_topi (fun y2232 ey2232 => ?_)
  obtain rfl : y2232 = 0 := ey2232.trans (by decide)
  refine lv_istore_n (lv' := [(1, .int 0), (4, .int 0), (6, .int 0), (5, .ref a2057), (3, .int 49), (2, .int 5), (0, .ref h0)]) hx hb dX9_shown_104 rfl hl (by decide) rfl (fun ls hl => ?_)
  refine lv_iload_n hx hb dX9_shown_105 rfl (lv_at hl 4 rfl) ?_
  refine lv_iconst (v := 1) hx hb dX9_shown_106 (by decide) ?_
  refine lv_iadd hx hb dX9_shown_107 ?_
  refine lv_topi (fun y2233 ey2233 => ?_)
  obtain rfl : y2233 = 50 := ey2233.trans (by decide)
  refine lv_i2c (v := 50) hx hb dX9_shown_108 (by decide) ?_
  refine lv_istore_n (lv' := [(3, .int 50), (1, .int 0), (4, .int 0), (6, .int 0), (5, .ref a2057), (2, .int 5), (0, .ref h0)]) hx hb dX9_shown_109 rfl hl (by decide) rfl (fun ls hl => ?_)
  refine lv_goto (tgt := 23) hx hb dX9_shown_110 (by decide) ?_
  exact hend _ _ _ hS (hP.sub [0, 1, 2, 14, 3, 4, 15, 5, 6, 7, 8, 9, 10, 11, 12] rfl) (hD.sub [0, 1, 2, 14, 3, 4, 15, 5, 6, 7, 8, 9, 10, 11, 12] rfl rfl) (lv_sub hl [0, 1, 5, 6] rfl) hG

set_option maxHeartbeats 8000000 in
set_option maxRecDepth 100000 in
theorem k986_shown_g18 {p : Program} {l : Launch} {e : Env} {s : State} {m : MethodId} {args : Array Value} {below : List Frame} {meth : Method} {c : Code} {Q : State → Prop} {A : Nat → Prop} {H : Heap} {locs : List Loc} {ls : Array Slot} {dC : Nat → ClassId} {dI : Nat → Nat → Nat} {z : XZ} {h0 h1 h2 h3 h4 h5 h6 h7 h8 h9 h10 h11 h12 h13 h14 : Nat} {kc0 kc1 kc2 : ClassId} (hl9 : l.stackTraces = false) (hx : p.tables.exec = Jvm.exec) (hb : c.code = cX9_shown) (hml : c.maxLocals = 7) (hown : s.vm.findClass RX9 = some m.cls) (hts : ∀ w ∈ wsL_law, w.before args s = true) (hA : ∀ q : Nat, s.heap.size ≤ q → A q) (hX : XE z A s s.heap) (hT : XT s) (hS : va_S A s.heap H locs) (hP : va_P (dC, dI) xCl [(h0, ce21 h1 h2 h3 h4), (h1, ce331 h5), (h2, ce3 z.1), (h3, ce331 h6), (h4, ce366 h7), (h5, ce330 kc0 h8 h9 h10 h11 h12 h13 h14), (h6, ce330 kc1 (z.2.2.1 128) (z.2.2.1 128) (z.2.2.1 128) (z.2.2.1 128) (z.2.2.1 128) (z.2.2.1 128) (z.2.2.1 128)), (h7, ce330 kc2 (z.2.2.1 128) (z.2.2.1 129) (z.2.2.1 130) (z.2.2.1 131) (z.2.2.1 132) (z.2.2.1 133) (z.2.2.1 134)), (h8, ce49), (h9, ce49), (h10, ce49), (h11, ce49), (h12, ce49), (h13, ce49), (h14, ce49)] H) (hD : va_D A [(h0, ce21 h1 h2 h3 h4), (h1, ce331 h5), (h2, ce3 z.1), (h3, ce331 h6), (h4, ce366 h7), (h5, ce330 kc0 h8 h9 h10 h11 h12 h13 h14), (h6, ce330 kc1 (z.2.2.1 128) (z.2.2.1 128) (z.2.2.1 128) (z.2.2.1 128) (z.2.2.1 128) (z.2.2.1 128) (z.2.2.1 128)), (h7, ce330 kc2 (z.2.2.1 128) (z.2.2.1 129) (z.2.2.1 130) (z.2.2.1 131) (z.2.2.1 132) (z.2.2.1 133) (z.2.2.1 134)), (h8, ce49), (h9, ce49), (h10, ce49), (h11, ce49), (h12, ce49), (h13, ce49), (h14, ce49)]) (hK : va_K (dC, dI) xCl [(kc0, .object "java/lang/Object"), (kc1, .object "java/lang/Object"), (kc2, .object "java/lang/Object")] s) (hl : lv_has ls 7 [(3, .int 50), (1, .int 0), (2, .int 5), (0, .ref h0)]) (hG : s.heap.size + 2280 ≤ H.size) (hend : ∀ (H' : Heap) (locs' : List Loc) (ls' : Array Slot), va_S A s.heap H' locs' → va_P (dC, dI) xCl [(h0, ce21 h1 h2 h3 h4), (h1, ce331 h5), (h2, ce3 z.1), (h3, ce331 h6), (h4, ce366 h7), (h5, ce330 kc0 h8 h9 h10 h11 h12 h13 h14), (h6, ce330 kc1 (z.2.2.1 128) (z.2.2.1 128) (z.2.2.1 128) (z.2.2.1 128) (z.2.2.1 128) (z.2.2.1 128) (z.2.2.1 128)), (h7, ce330 kc2 (z.2.2.1 128) (z.2.2.1 129) (z.2.2.1 130) (z.2.2.1 131) (z.2.2.1 132) (z.2.2.1 133) (z.2.2.1 134)), (h8, ce49), (h9, ce49), (h10, ce49), (h11, ce49), (h12, ce49), (h13, ce49), (h14, ce49)] H' → va_D A [(h0, ce21 h1 h2 h3 h4), (h1, ce331 h5), (h2, ce3 z.1), (h3, ce331 h6), (h4, ce366 h7), (h5, ce330 kc0 h8 h9 h10 h11 h12 h13 h14), (h6, ce330 kc1 (z.2.2.1 128) (z.2.2.1 128) (z.2.2.1 128) (z.2.2.1 128) (z.2.2.1 128) (z.2.2.1 128) (z.2.2.1 128)), (h7, ce330 kc2 (z.2.2.1 128) (z.2.2.1 129) (z.2.2.1 130) (z.2.2.1 131) (z.2.2.1 132) (z.2.2.1 133) (z.2.2.1 134)), (h8, ce49), (h9, ce49), (h10, ce49), (h11, ce49), (h12, ce49), (h13, ce49), (h14, ce49)] → lv_has ls' 7 [(3, .int 48), (2, .int 6), (1, .int 0), (0, .ref h0)] → s.heap.size + 2280 ≤ H'.size → W p l e ({ frames := 5, cells := 2660, slots := 24752, locals := 121 } : Room) s m args below meth c H' locs' 2280 21216 Q (F0 m 23 ls' [])) : W p l e ({ frames := 5, cells := 2660, slots := 24752, locals := 121 } : Room) s m args below meth c H locs 2280 21216 Q (F0 m 23 ls []) := by
  refine lv_iload_n hx hb dX9_shown_23 rfl (lv_at hl 0 rfl) ?_
  refine lv_bipush (v := 49) hx hb dX9_shown_24 (by decide) ?_
  refine lv_icmp_gt (tgt := 113) hx hb dX9_shown_26 (by decide) (fun _ => ?_) (fun cz => absurd (by decide) cz)
  refine lv_iinc (v := 6) (lv' := [(2, .int 6), (3, .int 50), (1, .int 0), (0, .ref h0)]) hx hb dX9_shown_113 hl (k := 2) rfl (by decide) (by decide) rfl (fun ls hl => ?_)
  refine lv_goto (tgt := 9) hx hb dX9_shown_116 (by decide) ?_
  refine lv_iload_n hx hb dX9_shown_9 rfl (lv_at hl 0 rfl) ?_
  refine lv_aload_n hx hb dX9_shown_10 rfl (lv_at hl 3 rfl) ?_
  refine va_get (D := (dC, dI)) (ci := 8) (v := .ref h1) (C := RX9) (T := TX9) (N := 6) hx hb hts in_X9 hown hK hP 0 rfl rfl 1 (by decide) (hts _ q_64) (fun _ h9 => h9) rfl dX9_shown_11 ?_
  have hM2236 := k20_size l hl9 dC dI z h1 h5 H.size 7 7
  obtain ⟨hF2234, hC2237⟩ := pc_M hM2236 hP hD hK hS hX hT hA [1] [] rfl rfl rfl
  refine va_calli (va_runV (As := []) (rest := [.int 6]) ⟨hx, hb, hml, hown, hts⟩ hM2236 (cwV 0 hts (gV q_272 q_77 q_78 q_12 q_75) rfl rfl rfl hV_Jx4a65c_size_8abf5 ⟨Nat.le_of_ble_eq_true rfl, Nat.le_of_ble_eq_true rfl⟩) ⟨pc_blind, va_recv hK hP (ci := 0) (q := (RJx4a65c, TJx4a65c, 3)) (q0 := 1) rfl rfl, fun U hU hW => ⟨rfl, hC2237 U hU hW⟩⟩ rfl rfl hl.1 rfl (lv_room (Nat.le_of_ble_eq_true rfl)) dX9_shown_14 ⟨(Nat.le_of_ble_eq_true rfl), (Nat.le_of_ble_eq_true rfl)⟩) hS (fun q9 _ h9 => hF2234 q9 h9) hF2234 (fun r2239 u2238 t2238 H2238 L2238 ht2238 hvm2238 hw2238 hB2238 hz2238 hk2238 hS => ?_)
  have hP := pq_keep hP hD [1] rfl hk2238 hB2238.1 ht2238
  have hG : s.heap.size + 2280 ≤ H2238.size := Nat.le_trans hG hz2238
  refine W.eq (g2 := F0 m 17 ls [.int 7, .int 6]) (by rw [hw2238]) ?_
  refine lv_icmp_ge (tgt := 119) hx hb dX9_shown_17 (by decide) (fun cz => absurd cz (by decide)) (fun _ => ?_)
  refine lv_bipush (v := 48) hx hb dX9_shown_20 (by decide) ?_
  refine lv_istore_n (lv' := [(3, .int 48), (2, .int 6), (1, .int 0), (0, .ref h0)]) hx hb dX9_shown_22 rfl hl (by decide) rfl (fun ls hl => ?_)
  exact hend _ _ _ hS (hP.sub [0, 1, 2, 3, 4, 5, 6, 7, 8, 9, 10, 11, 12, 13, 14] rfl) (hD.sub [0, 1, 2, 3, 4, 5, 6, 7, 8, 9, 10, 11, 12, 13, 14] rfl rfl) (lv_sub hl [0, 1, 2, 3] rfl) hG

set_option maxHeartbeats 8000000 in
set_option maxRecDepth 100000 in
theorem k986_shown_g19 {p : Program} {l : Launch} {e : Env} {s : State} {m : MethodId} {args : Array Value} {below : List Frame} {meth : Method} {c : Code} {Q : State → Prop} {A : Nat → Prop} {H : Heap} {locs : List Loc} {ls : Array Slot} {dC : Nat → ClassId} {dI : Nat → Nat → Nat} {z : XZ} {h0 h1 h2 h3 h4 h5 h6 h7 h8 h9 h10 h11 h12 h13 h14 : Nat} {kc0 kc1 kc2 : ClassId} (hl9 : l.stackTraces = false) (hx : p.tables.exec = Jvm.exec) (hb : c.code = cX9_shown) (hml : c.maxLocals = 7) (hown : s.vm.findClass RX9 = some m.cls) (hts : ∀ w ∈ wsL_law, w.before args s = true) (hA : ∀ q : Nat, s.heap.size ≤ q → A q) (hX : XE z A s s.heap) (hT : XT s) (hS : va_S A s.heap H locs) (hP : va_P (dC, dI) xCl [(h0, ce21 h1 h2 h3 h4), (h1, ce331 h5), (h2, ce3 z.1), (h3, ce331 h6), (h4, ce366 h7), (h5, ce330 kc0 h8 h9 h10 h11 h12 h13 h14), (h6, ce330 kc1 (z.2.2.1 128) (z.2.2.1 128) (z.2.2.1 128) (z.2.2.1 128) (z.2.2.1 128) (z.2.2.1 128) (z.2.2.1 128)), (h7, ce330 kc2 (z.2.2.1 128) (z.2.2.1 129) (z.2.2.1 130) (z.2.2.1 131) (z.2.2.1 132) (z.2.2.1 133) (z.2.2.1 134)), (h8, ce49), (h9, ce49), (h10, ce49), (h11, ce49), (h12, ce49), (h13, ce49), (h14, ce49)] H) (hD : va_D A [(h0, ce21 h1 h2 h3 h4), (h1, ce331 h5), (h2, ce3 z.1), (h3, ce331 h6), (h4, ce366 h7), (h5, ce330 kc0 h8 h9 h10 h11 h12 h13 h14), (h6, ce330 kc1 (z.2.2.1 128) (z.2.2.1 128) (z.2.2.1 128) (z.2.2.1 128) (z.2.2.1 128) (z.2.2.1 128) (z.2.2.1 128)), (h7, ce330 kc2 (z.2.2.1 128) (z.2.2.1 129) (z.2.2.1 130) (z.2.2.1 131) (z.2.2.1 132) (z.2.2.1 133) (z.2.2.1 134)), (h8, ce49), (h9, ce49), (h10, ce49), (h11, ce49), (h12, ce49), (h13, ce49), (h14, ce49)]) (hK : va_K (dC, dI) xCl [(kc0, .object "java/lang/Object"), (kc1, .object "java/lang/Object"), (kc2, .object "java/lang/Object")] s) (hl : lv_has ls 7 [(3, .int 48), (2, .int 6), (1, .int 0), (0, .ref h0)]) (hG : s.heap.size + 2280 ≤ H.size) (hend : ∀ (H' : Heap) (locs' : List Loc) (ls' : Array Slot), va_S A s.heap H' locs' → va_P (dC, dI) xCl [(h0, ce21 h1 h2 h3 h4), (h1, ce331 h5), (h2, ce3 z.1), (h3, ce331 h6), (h4, ce366 h7), (h5, ce330 kc0 h8 h9 h10 h11 h12 h13 h14), (h6, ce330 kc1 (z.2.2.1 128) (z.2.2.1 128) (z.2.2.1 128) (z.2.2.1 128) (z.2.2.1 128) (z.2.2.1 128) (z.2.2.1 128)), (h7, ce330 kc2 (z.2.2.1 128) (z.2.2.1 129) (z.2.2.1 130) (z.2.2.1 131) (z.2.2.1 132) (z.2.2.1 133) (z.2.2.1 134)), (h8, ce49), (h9, ce49), (h10, ce49), (h11, ce49), (h12, ce49), (h13, ce49), (h14, ce49)] H' → va_D A [(h0, ce21 h1 h2 h3 h4), (h1, ce331 h5), (h2, ce3 z.1), (h3, ce331 h6), (h4, ce366 h7), (h5, ce330 kc0 h8 h9 h10 h11 h12 h13 h14), (h6, ce330 kc1 (z.2.2.1 128) (z.2.2.1 128) (z.2.2.1 128) (z.2.2.1 128) (z.2.2.1 128) (z.2.2.1 128) (z.2.2.1 128)), (h7, ce330 kc2 (z.2.2.1 128) (z.2.2.1 129) (z.2.2.1 130) (z.2.2.1 131) (z.2.2.1 132) (z.2.2.1 133) (z.2.2.1 134)), (h8, ce49), (h9, ce49), (h10, ce49), (h11, ce49), (h12, ce49), (h13, ce49), (h14, ce49)] → lv_has ls' 7 [(3, .int 49), (1, .int 0), (2, .int 6), (0, .ref h0)] → s.heap.size + 2470 ≤ H'.size → W p l e ({ frames := 5, cells := 2660, slots := 24752, locals := 121 } : Room) s m args below meth c H' locs' 2470 22984 Q (F0 m 23 ls' [])) : W p l e ({ frames := 5, cells := 2660, slots := 24752, locals := 121 } : Room) s m args below meth c H locs 2280 21216 Q (F0 m 23 ls []) := by
  refine lv_iload_n hx hb dX9_shown_23 rfl (lv_at hl 0 rfl) ?_
  refine lv_bipush (v := 49) hx hb dX9_shown_24 (by decide) ?_
  refine lv_icmp_gt (tgt := 113) hx hb dX9_shown_26 (by decide) (fun cz => absurd cz (by decide)) (fun _ => ?_)
  refine lv_iconst (v := 0) hx hb dX9_shown_29 (by decide) ?_
  refine lv_istore (lv' := [(4, .int 0), (3, .int 48), (2, .int 6), (1, .int 0), (0, .ref h0)]) hx hb dX9_shown_30 hl (by decide) rfl (fun ls hl => ?_)
  refine lv_aload_n hx hb dX9_shown_32 rfl (lv_at hl 4 rfl) ?_
  refine va_get (D := (dC, dI)) (ci := 8) (v := .ref h3) (C := RX9) (T := TX9) (N := 6) hx hb hts in_X9 hown hK hP 0 rfl rfl 3 (by decide) (hts _ q_66) (fun _ h9 => h9) rfl dX9_shown_33 ?_
  have hM2242 := k724_iterator l hl9 dC dI z h3 h6 H.size
  obtain ⟨hF2240, hC2243⟩ := pc_M hM2242 hP hD hK hS hX hT hA [3] [] rfl rfl rfl
  refine va_callr (va_runV (As := []) (rest := []) ⟨hx, hb, hml, hown, hts⟩ hM2242 (cwV 0 hts (gV q_256 q_257 q_258 q_12 q_255) rfl rfl rfl hV_Jx4a65c_iterator_32c93 ⟨Nat.le_of_ble_eq_true rfl, Nat.le_of_ble_eq_true rfl⟩) ⟨pc_blind, va_recv hK hP (ci := 0) (q := (RJx4a65c, TJx4a65c, 3)) (q0 := 3) rfl rfl, fun U hU hW => ⟨rfl, hC2243 U hU hW⟩⟩ rfl rfl hl.1 rfl (lv_room (Nat.le_of_ble_eq_true rfl)) dX9_shown_36 ⟨(Nat.le_of_ble_eq_true rfl), (Nat.le_of_ble_eq_true rfl)⟩) hS (fun q9 _ h9 => hF2240 q9 h9) hF2240 (fun u2244 r2245 t2244 H2244 L2244 ht2244 hvm2244 hw2244 hB2244 hz2244 hk2244 hS => ?_)
  obtain ⟨a2246, hr2244, hB2244⟩ := hB2244
  obtain ⟨hP, hD, hK⟩ := pq_jn (wz := [(h0, ce21 h1 h2 h3 h4), (h1, ce331 h5), (h2, ce3 z.1), (h4, ce366 h7), (h5, ce330 kc0 h8 h9 h10 h11 h12 h13 h14), (h6, ce330 kc1 (z.2.2.1 128) (z.2.2.1 128) (z.2.2.1 128) (z.2.2.1 128) (z.2.2.1 128) (z.2.2.1 128) (z.2.2.1 128)), (h7, ce330 kc2 (z.2.2.1 128) (z.2.2.1 129) (z.2.2.1 130) (z.2.2.1 131) (z.2.2.1 132) (z.2.2.1 133) (z.2.2.1 134)), (h8, ce49), (h9, ce49), (h10, ce49), (h11, ce49), (h12, ce49), (h13, ce49), (h14, ce49), (h3, ce331 h6), (a2246, ce370 h3)]) (tz := [(kc0, .object "java/lang/Object"), (kc1, .object "java/lang/Object"), (kc2, .object "java/lang/Object")]) hP hD hK [3] [0, 1, 2] rfl hk2244 hF2240 hB2244.1 ht2244 hvm2244 rfl rfl
  have hG : s.heap.size + 2281 ≤ H2244.size := va_gr (g := 2280) (g1 := 1) hG (by rw [← ht2244]; exact hB2244.2)
  refine W.eq (g2 := F0 m 39 ls [.ref a2246]) (by rw [hr2244]) ?_
  refine W.widen (k := 2281) (n := 21220) (by decide) (by decide) ?_
  refine lv_astore (lv' := [(5, .ref a2246), (4, .int 0), (3, .int 48), (2, .int 6), (1, .int 0), (0, .ref h0)]) hx hb dX9_shown_39 hl (by decide) rfl (fun ls hl => ?_)
  refine lv_aload hx hb dX9_shown_41 (lv_at hl 0 rfl) ?_
  have hM2249 := k725_hasNext l hl9 dC dI z a2246 h3 h6 H2244.size
  obtain ⟨hF2247, hC2250⟩ := pc_M hM2249 hP hD hK hS hX hT hA [15, 14] [] rfl rfl rfl
  refine va_callFi (va_runF (As := []) (rest := []) (hK.1 1 (RJx35411, TJx35411, 4) rfl).2 ⟨hx, hb, hml, hown, hts⟩ hM2249 (va_cwF 0 hts (gF q_261 q_262 q_263 q_246 q_260) rfl rfl rfl hT.2.2.2.2.2.2.1 hF_xIh ⟨Nat.le_of_ble_eq_true rfl, Nat.le_of_ble_eq_true rfl⟩) ⟨pc_blind, va_recv hK hP (ci := 1) (q := (RJx35411, TJx35411, 4)) (q0 := 15) rfl rfl, fun U hU hW => ⟨rfl, hC2250 U hU hW⟩⟩ rfl rfl hl.1 rfl (lv_room (Nat.le_of_ble_eq_true rfl)) dX9_shown_43 ⟨(Nat.le_of_ble_eq_true rfl), (Nat.le_of_ble_eq_true rfl)⟩) hS (fun q9 _ h9 => hF2247 q9 h9) hF2247 (fun r2252 u2251 t2251 H2251 L2251 ht2251 hvm2251 hw2251 hB2251 hz2251 hk2251 hS => ?_)
  have hP := pq_keep hP hD [15, 14] rfl hk2251 hB2251.1 ht2251
  have hG : s.heap.size + 2281 ≤ H2251.size := Nat.le_trans hG hz2251
  refine W.eq (g2 := F0 m 48 ls [.int 1]) (by rw [hw2251]) ?_
  refine lv_if_eq (tgt := 92) hx hb dX9_shown_48 (by decide) (fun cz => absurd cz (by decide)) (fun _ => ?_)
  refine lv_aload hx hb dX9_shown_51 (lv_at hl 0 rfl) ?_
  have hM2255 := k942_next l hl9 dC dI z a2246 h3 h6 H2251.size kc1
  obtain ⟨hF2253, hC2256⟩ := pc_M hM2255 hP hD hK hS hX hT hA [15, 14, 5] [1] rfl rfl rfl
  refine va_callFr (va_runF (As := []) (rest := []) (hK.1 1 (RJx35411, TJx35411, 4) rfl).2 ⟨hx, hb, hml, hown, hts⟩ hM2255 (va_cwF 0 hts (gF q_308 q_309 q_310 q_246 q_307) rfl rfl rfl hT.2.2.2.2.2.2.2.1 hF_xIn ⟨Nat.le_of_ble_eq_true rfl, Nat.le_of_ble_eq_true rfl⟩) ⟨pc_blind, va_recv hK hP (ci := 1) (q := (RJx35411, TJx35411, 4)) (q0 := 15) rfl rfl, fun U hU hW => ⟨rfl, hC2256 U hU hW⟩⟩ rfl rfl hl.1 rfl (lv_room (Nat.le_of_ble_eq_true rfl)) dX9_shown_53 ⟨(Nat.le_of_ble_eq_true rfl), (Nat.le_of_ble_eq_true rfl)⟩) hS (fun q9 _ h9 => hF2253 q9 h9) hF2253 (fun u2257 r2258 t2257 H2257 L2257 ht2257 hvm2257 hw2257 hB2257 hz2257 hk2257 hS => ?_)
  obtain ⟨hr2257, hB2257⟩ := hB2257
  obtain ⟨hP, hD, hK⟩ := pq_jn (wz := [(h0, ce21 h1 h2 h3 h4), (h1, ce331 h5), (h2, ce3 z.1), (h4, ce366 h7), (h5, ce330 kc0 h8 h9 h10 h11 h12 h13 h14), (h7, ce330 kc2 (z.2.2.1 128) (z.2.2.1 129) (z.2.2.1 130) (z.2.2.1 131) (z.2.2.1 132) (z.2.2.1 133) (z.2.2.1 134)), (h8, ce49), (h9, ce49), (h10, ce49), (h11, ce49), (h12, ce49), (h13, ce49), (h14, ce49), (a2246, ce372 h3), (h3, ce331 h6), (h6, ce330 kc1 (z.2.2.1 128) (z.2.2.1 128) (z.2.2.1 128) (z.2.2.1 128) (z.2.2.1 128) (z.2.2.1 128) (z.2.2.1 128))]) (tz := [(kc0, .object "java/lang/Object"), (kc2, .object "java/lang/Object"), (kc1, .object "java/lang/Object")]) hP hD hK [15, 14, 5] [0, 2] rfl hk2257 hF2253 hB2257.1 ht2257 hvm2257 rfl rfl
  have hG : s.heap.size + 2281 ≤ H2257.size := Nat.le_trans hG hz2257
  refine W.eq (g2 := F0 m 58 ls [.ref (z.2.2.1 128)]) (by rw [hr2257]) ?_
  refine va_castE (nm := "java/lang/Integer") hx hb hown (hts _ q_320) (va_Orecv (hX.2.2.1.1.1 128 (by decide)) hS) dX9_shown_58 ?_
  have hM2261 := k74_intValue l hl9 dC dI z H2257.size
  obtain ⟨hF2259, hC2262⟩ := pc_M hM2261 hP hD hK hS hX hT hA [] [] rfl rfl rfl
  refine va_calli (va_runV (As := []) (rest := []) ⟨hx, hb, hml, hown, hts⟩ hM2261 (cwV 0 hts (gV q_323 q_324 q_325 q_297 q_322) rfl rfl rfl hV_J6_intValue_8abf5 ⟨Nat.le_of_ble_eq_true rfl, Nat.le_of_ble_eq_true rfl⟩) ⟨pc_blind, va_Orecv (hX.2.2.1.1.1 128 (by decide)) hS, fun U hU hW => ⟨rfl, hC2262 U hU hW⟩⟩ rfl rfl hl.1 rfl (lv_room (Nat.le_of_ble_eq_true rfl)) dX9_shown_61 ⟨(Nat.le_of_ble_eq_true rfl), (Nat.le_of_ble_eq_true rfl)⟩) hS (fun q9 _ h9 => hF2259 q9 h9) hF2259 (fun r2264 u2263 t2263 H2263 L2263 ht2263 hvm2263 hw2263 hB2263 hz2263 hk2263 hS => ?_)
  have hP := pq_keep hP hD [] rfl hk2263 hB2263.1 ht2263
  have hG : s.heap.size + 2281 ≤ H2263.size := Nat.le_trans hG hz2263
  refine W.eq (g2 := F0 m 64 ls [.int 0]) (by rw [hw2263]) ?_
  refine lv_istore (lv' := [(6, .int 0), (5, .ref a2246), (4, .int 0), (3, .int 48), (2, .int 6), (1, .int 0), (0, .ref h0)]) hx hb dX9_shown_64 hl (by decide) rfl (fun ls hl => ?_)
  refine lv_iload hx hb dX9_shown_66 (lv_at hl 2 rfl) ?_
  refine lv_if_ne (tgt := 82) hx hb dX9_shown_68 (by decide) (fun cz => absurd (by decide) cz) (fun _ => ?_)
  refine lv_aload_n hx hb dX9_shown_71 rfl (lv_at hl 6 rfl) ?_
  refine lv_iload_n hx hb dX9_shown_72 rfl (lv_at hl 4 rfl) ?_
  refine lv_iload_n hx hb dX9_shown_73 rfl (lv_at hl 3 rfl) ?_
  refine lv_iload hx hb dX9_shown_74 (lv_at hl 0 rfl) ?_
  have hM2267 := k983_showsIt l hl9 dC dI z h0 h1 h2 h4 h5 h7 h8 h9 h10 h11 h12 h13 h14 h3 H2263.size kc0 kc2
  obtain ⟨hF2265, hC2268⟩ := pc_M hM2267 hP hD hK hS hX hT hA [0, 1, 2, 3, 4, 5, 6, 7, 8, 9, 10, 11, 12] [0, 1] rfl rfl rfl
  refine va_calli (va_runV (As := [.int 6, .int 48, .int 0]) (rest := []) ⟨hx, hb, hml, hown, hts⟩ hM2267 (cwV 3 hts (gV q_429 q_430 q_431 q_60 q_428) rfl rfl rfl hV_X9_showsIt ⟨Nat.le_of_ble_eq_true rfl, Nat.le_of_ble_eq_true rfl⟩) ⟨pc_blind, va_recv hK hP (ci := 8) (q := (RX9, TX9, 6)) (q0 := 0) rfl rfl, fun U hU hW => ⟨rfl, hC2268 U hU hW⟩⟩ rfl rfl hl.1 rfl (lv_room (Nat.le_of_ble_eq_true rfl)) dX9_shown_76 ⟨(Nat.le_of_ble_eq_true rfl), (Nat.le_of_ble_eq_true rfl)⟩) hS (fun q9 _ h9 => hF2265 q9 h9) hF2265 (fun r2270 u2269 t2269 H2269 L2269 ht2269 hvm2269 hw2269 hB2269 hz2269 hk2269 hS => ?_)
  have hP := pq_keep hP hD [0, 1, 2, 3, 4, 5, 6, 7, 8, 9, 10, 11, 12] rfl hk2269 hB2269.1 ht2269
  have hG : s.heap.size + 2308 ≤ H2269.size := va_gr (g := 2281) (g1 := 27) hG (by rw [← ht2269]; exact hB2269.2)
  refine W.eq (g2 := F0 m 79 ls [.int 0]) (by rw [hw2269]) ?_
  refine W.widen (k := 2308) (n := 21472) (by decide) (by decide) ?_
  refine lv_if_eq (tgt := 86) hx hb dX9_shown_79 (by decide) (fun _ => ?_) (fun cz => absurd (by decide) cz)
  refine lv_iconst (v := 0) hx hb dX9_shown_86 (by decide) ?_
  refine lv_istore (lv' := [(4, .int 0), (6, .int 0), (5, .ref a2246), (3, .int 48), (2, .int 6), (1, .int 0), (0, .ref h0)]) hx hb dX9_shown_87 hl (by decide) rfl (fun ls hl => ?_)
  refine lv_goto (tgt := 41) hx hb dX9_shown_89 (by decide) ?_
  refine lv_aload hx hb dX9_shown_41 (lv_at hl 2 rfl) ?_
  have hM2273 := k728_hasNext l hl9 dC dI z a2246 h3 h6 H2269.size
  obtain ⟨hF2271, hC2274⟩ := pc_M hM2273 hP hD hK hS hX hT hA [13, 14] [] rfl rfl rfl
  refine va_callFi (va_runF (As := []) (rest := []) (hK.1 1 (RJx35411, TJx35411, 4) rfl).2 ⟨hx, hb, hml, hown, hts⟩ hM2273 (va_cwF 0 hts (gF q_261 q_262 q_263 q_246 q_260) rfl rfl rfl hT.2.2.2.2.2.2.1 hF_xIh ⟨Nat.le_of_ble_eq_true rfl, Nat.le_of_ble_eq_true rfl⟩) ⟨pc_blind, va_recv hK hP (ci := 1) (q := (RJx35411, TJx35411, 4)) (q0 := 13) rfl rfl, fun U hU hW => ⟨rfl, hC2274 U hU hW⟩⟩ rfl rfl hl.1 rfl (lv_room (Nat.le_of_ble_eq_true rfl)) dX9_shown_43 ⟨(Nat.le_of_ble_eq_true rfl), (Nat.le_of_ble_eq_true rfl)⟩) hS (fun q9 _ h9 => hF2271 q9 h9) hF2271 (fun r2276 u2275 t2275 H2275 L2275 ht2275 hvm2275 hw2275 hB2275 hz2275 hk2275 hS => ?_)
  have hP := pq_keep hP hD [13, 14] rfl hk2275 hB2275.1 ht2275
  have hG : s.heap.size + 2308 ≤ H2275.size := Nat.le_trans hG hz2275
  refine W.eq (g2 := F0 m 48 ls [.int 1]) (by rw [hw2275]) ?_
  refine lv_if_eq (tgt := 92) hx hb dX9_shown_48 (by decide) (fun cz => absurd cz (by decide)) (fun _ => ?_)
  refine lv_aload hx hb dX9_shown_51 (lv_at hl 2 rfl) ?_
  have hM2279 := k954_next l hl9 dC dI z a2246 h3 h6 H2275.size kc1
  obtain ⟨hF2277, hC2280⟩ := pc_M hM2279 hP hD hK hS hX hT hA [13, 14, 15] [2] rfl rfl rfl
  refine va_callFr (va_runF (As := []) (rest := []) (hK.1 1 (RJx35411, TJx35411, 4) rfl).2 ⟨hx, hb, hml, hown, hts⟩ hM2279 (va_cwF 0 hts (gF q_308 q_309 q_310 q_246 q_307) rfl rfl rfl hT.2.2.2.2.2.2.2.1 hF_xIn ⟨Nat.le_of_ble_eq_true rfl, Nat.le_of_ble_eq_true rfl⟩) ⟨pc_blind, va_recv hK hP (ci := 1) (q := (RJx35411, TJx35411, 4)) (q0 := 13) rfl rfl, fun U hU hW => ⟨rfl, hC2280 U hU hW⟩⟩ rfl rfl hl.1 rfl (lv_room (Nat.le_of_ble_eq_true rfl)) dX9_shown_53 ⟨(Nat.le_of_ble_eq_true rfl), (Nat.le_of_ble_eq_true rfl)⟩) hS (fun q9 _ h9 => hF2277 q9 h9) hF2277 (fun u2281 r2282 t2281 H2281 L2281 ht2281 hvm2281 hw2281 hB2281 hz2281 hk2281 hS => ?_)
  obtain ⟨hr2281, hB2281⟩ := hB2281
  obtain ⟨hP, hD, hK⟩ := pq_jn (wz := [(h0, ce21 h1 h2 h3 h4), (h1, ce331 h5), (h2, ce3 z.1), (h4, ce366 h7), (h5, ce330 kc0 h8 h9 h10 h11 h12 h13 h14), (h7, ce330 kc2 (z.2.2.1 128) (z.2.2.1 129) (z.2.2.1 130) (z.2.2.1 131) (z.2.2.1 132) (z.2.2.1 133) (z.2.2.1 134)), (h8, ce49), (h9, ce49), (h10, ce49), (h11, ce49), (h12, ce49), (h13, ce49), (h14, ce49), (a2246, ce374 h3), (h3, ce331 h6), (h6, ce330 kc1 (z.2.2.1 128) (z.2.2.1 128) (z.2.2.1 128) (z.2.2.1 128) (z.2.2.1 128) (z.2.2.1 128) (z.2.2.1 128))]) (tz := [(kc0, .object "java/lang/Object"), (kc2, .object "java/lang/Object"), (kc1, .object "java/lang/Object")]) hP hD hK [13, 14, 15] [0, 1] rfl hk2281 hF2277 hB2281.1 ht2281 hvm2281 rfl rfl
  have hG : s.heap.size + 2308 ≤ H2281.size := Nat.le_trans hG hz2281
  refine W.eq (g2 := F0 m 58 ls [.ref (z.2.2.1 128)]) (by rw [hr2281]) ?_
  refine va_castE (nm := "java/lang/Integer") hx hb hown (hts _ q_320) (va_Orecv (hX.2.2.1.1.1 128 (by decide)) hS) dX9_shown_58 ?_
  have hM2285 := k74_intValue l hl9 dC dI z H2281.size
  obtain ⟨hF2283, hC2286⟩ := pc_M hM2285 hP hD hK hS hX hT hA [] [] rfl rfl rfl
  refine va_calli (va_runV (As := []) (rest := []) ⟨hx, hb, hml, hown, hts⟩ hM2285 (cwV 0 hts (gV q_323 q_324 q_325 q_297 q_322) rfl rfl rfl hV_J6_intValue_8abf5 ⟨Nat.le_of_ble_eq_true rfl, Nat.le_of_ble_eq_true rfl⟩) ⟨pc_blind, va_Orecv (hX.2.2.1.1.1 128 (by decide)) hS, fun U hU hW => ⟨rfl, hC2286 U hU hW⟩⟩ rfl rfl hl.1 rfl (lv_room (Nat.le_of_ble_eq_true rfl)) dX9_shown_61 ⟨(Nat.le_of_ble_eq_true rfl), (Nat.le_of_ble_eq_true rfl)⟩) hS (fun q9 _ h9 => hF2283 q9 h9) hF2283 (fun r2288 u2287 t2287 H2287 L2287 ht2287 hvm2287 hw2287 hB2287 hz2287 hk2287 hS => ?_)
  have hP := pq_keep hP hD [] rfl hk2287 hB2287.1 ht2287
  have hG : s.heap.size + 2308 ≤ H2287.size := Nat.le_trans hG hz2287
  refine W.eq (g2 := F0 m 64 ls [.int 0]) (by rw [hw2287]) ?_
  refine lv_istore (lv' := [(6, .int 0), (4, .int 0), (5, .ref a2246), (3, .int 48), (2, .int 6), (1, .int 0), (0, .ref h0)]) hx hb dX9_shown_64 hl (by decide) rfl (fun ls hl => ?_)
  refine lv_iload hx hb dX9_shown_66 (lv_at hl 1 rfl) ?_
  refine lv_if_ne (tgt := 82) hx hb dX9_shown_68 (by decide) (fun cz => absurd (by decide) cz) (fun _ => ?_)
  refine lv_aload_n hx hb dX9_shown_71 rfl (lv_at hl 6 rfl) ?_
  refine lv_iload_n hx hb dX9_shown_72 rfl (lv_at hl 4 rfl) ?_
  refine lv_iload_n hx hb dX9_shown_73 rfl (lv_at hl 3 rfl) ?_
  refine lv_iload hx hb dX9_shown_74 (lv_at hl 0 rfl) ?_
  have hM2291 := k983_showsIt l hl9 dC dI z h0 h1 h2 h4 h5 h7 h8 h9 h10 h11 h12 h13 h14 h3 H2287.size kc0 kc2
  obtain ⟨hF2289, hC2292⟩ := pc_M hM2291 hP hD hK hS hX hT hA [0, 1, 2, 3, 4, 5, 6, 7, 8, 9, 10, 11, 12] [0, 1] rfl rfl rfl
  refine va_calli (va_runV (As := [.int 6, .int 48, .int 0]) (rest := []) ⟨hx, hb, hml, hown, hts⟩ hM2291 (cwV 3 hts (gV q_429 q_430 q_431 q_60 q_428) rfl rfl rfl hV_X9_showsIt ⟨Nat.le_of_ble_eq_true rfl, Nat.le_of_ble_eq_true rfl⟩) ⟨pc_blind, va_recv hK hP (ci := 8) (q := (RX9, TX9, 6)) (q0 := 0) rfl rfl, fun U hU hW => ⟨rfl, hC2292 U hU hW⟩⟩ rfl rfl hl.1 rfl (lv_room (Nat.le_of_ble_eq_true rfl)) dX9_shown_76 ⟨(Nat.le_of_ble_eq_true rfl), (Nat.le_of_ble_eq_true rfl)⟩) hS (fun q9 _ h9 => hF2289 q9 h9) hF2289 (fun r2294 u2293 t2293 H2293 L2293 ht2293 hvm2293 hw2293 hB2293 hz2293 hk2293 hS => ?_)
  have hP := pq_keep hP hD [0, 1, 2, 3, 4, 5, 6, 7, 8, 9, 10, 11, 12] rfl hk2293 hB2293.1 ht2293
  have hG : s.heap.size + 2335 ≤ H2293.size := va_gr (g := 2308) (g1 := 27) hG (by rw [← ht2293]; exact hB2293.2)
  refine W.eq (g2 := F0 m 79 ls [.int 0]) (by rw [hw2293]) ?_
  refine W.widen (k := 2335) (n := 21724) (by decide) (by decide) ?_
  refine lv_if_eq (tgt := 86) hx hb dX9_shown_79 (by decide) (fun _ => ?_) (fun cz => absurd (by decide) cz)
  refine lv_iconst (v := 0) hx hb dX9_shown_86 (by decide) ?_
  refine lv_istore (lv' := [(4, .int 0), (6, .int 0), (5, .ref a2246), (3, .int 48), (2, .int 6), (1, .int 0), (0, .ref h0)]) hx hb dX9_shown_87 hl (by decide) rfl (fun ls hl => ?_)
  refine lv_goto (tgt := 41) hx hb dX9_shown_89 (by decide) ?_
  refine lv_aload hx hb dX9_shown_41 (lv_at hl 2 rfl) ?_
  have hM2297 := k731_hasNext l hl9 dC dI z a2246 h3 h6 H2293.size
  obtain ⟨hF2295, hC2298⟩ := pc_M hM2297 hP hD hK hS hX hT hA [13, 14] [] rfl rfl rfl
  refine va_callFi (va_runF (As := []) (rest := []) (hK.1 1 (RJx35411, TJx35411, 4) rfl).2 ⟨hx, hb, hml, hown, hts⟩ hM2297 (va_cwF 0 hts (gF q_261 q_262 q_263 q_246 q_260) rfl rfl rfl hT.2.2.2.2.2.2.1 hF_xIh ⟨Nat.le_of_ble_eq_true rfl, Nat.le_of_ble_eq_true rfl⟩) ⟨pc_blind, va_recv hK hP (ci := 1) (q := (RJx35411, TJx35411, 4)) (q0 := 13) rfl rfl, fun U hU hW => ⟨rfl, hC2298 U hU hW⟩⟩ rfl rfl hl.1 rfl (lv_room (Nat.le_of_ble_eq_true rfl)) dX9_shown_43 ⟨(Nat.le_of_ble_eq_true rfl), (Nat.le_of_ble_eq_true rfl)⟩) hS (fun q9 _ h9 => hF2295 q9 h9) hF2295 (fun r2300 u2299 t2299 H2299 L2299 ht2299 hvm2299 hw2299 hB2299 hz2299 hk2299 hS => ?_)
  have hP := pq_keep hP hD [13, 14] rfl hk2299 hB2299.1 ht2299
  have hG : s.heap.size + 2335 ≤ H2299.size := Nat.le_trans hG hz2299
  refine W.eq (g2 := F0 m 48 ls [.int 1]) (by rw [hw2299]) ?_
  refine lv_if_eq (tgt := 92) hx hb dX9_shown_48 (by decide) (fun cz => absurd cz (by decide)) (fun _ => ?_)
  refine lv_aload hx hb dX9_shown_51 (lv_at hl 2 rfl) ?_
  have hM2303 := k955_next l hl9 dC dI z a2246 h3 h6 H2299.size kc1
  obtain ⟨hF2301, hC2304⟩ := pc_M hM2303 hP hD hK hS hX hT hA [13, 14, 15] [2] rfl rfl rfl
  refine va_callFr (va_runF (As := []) (rest := []) (hK.1 1 (RJx35411, TJx35411, 4) rfl).2 ⟨hx, hb, hml, hown, hts⟩ hM2303 (va_cwF 0 hts (gF q_308 q_309 q_310 q_246 q_307) rfl rfl rfl hT.2.2.2.2.2.2.2.1 hF_xIn ⟨Nat.le_of_ble_eq_true rfl, Nat.le_of_ble_eq_true rfl⟩) ⟨pc_blind, va_recv hK hP (ci := 1) (q := (RJx35411, TJx35411, 4)) (q0 := 13) rfl rfl, fun U hU hW => ⟨rfl, hC2304 U hU hW⟩⟩ rfl rfl hl.1 rfl (lv_room (Nat.le_of_ble_eq_true rfl)) dX9_shown_53 ⟨(Nat.le_of_ble_eq_true rfl), (Nat.le_of_ble_eq_true rfl)⟩) hS (fun q9 _ h9 => hF2301 q9 h9) hF2301 (fun u2305 r2306 t2305 H2305 L2305 ht2305 hvm2305 hw2305 hB2305 hz2305 hk2305 hS => ?_)
  obtain ⟨hr2305, hB2305⟩ := hB2305
  obtain ⟨hP, hD, hK⟩ := pq_jn (wz := [(h0, ce21 h1 h2 h3 h4), (h1, ce331 h5), (h2, ce3 z.1), (h4, ce366 h7), (h5, ce330 kc0 h8 h9 h10 h11 h12 h13 h14), (h7, ce330 kc2 (z.2.2.1 128) (z.2.2.1 129) (z.2.2.1 130) (z.2.2.1 131) (z.2.2.1 132) (z.2.2.1 133) (z.2.2.1 134)), (h8, ce49), (h9, ce49), (h10, ce49), (h11, ce49), (h12, ce49), (h13, ce49), (h14, ce49), (a2246, ce376 h3), (h3, ce331 h6), (h6, ce330 kc1 (z.2.2.1 128) (z.2.2.1 128) (z.2.2.1 128) (z.2.2.1 128) (z.2.2.1 128) (z.2.2.1 128) (z.2.2.1 128))]) (tz := [(kc0, .object "java/lang/Object"), (kc2, .object "java/lang/Object"), (kc1, .object "java/lang/Object")]) hP hD hK [13, 14, 15] [0, 1] rfl hk2305 hF2301 hB2305.1 ht2305 hvm2305 rfl rfl
  have hG : s.heap.size + 2335 ≤ H2305.size := Nat.le_trans hG hz2305
  refine W.eq (g2 := F0 m 58 ls [.ref (z.2.2.1 128)]) (by rw [hr2305]) ?_
  refine va_castE (nm := "java/lang/Integer") hx hb hown (hts _ q_320) (va_Orecv (hX.2.2.1.1.1 128 (by decide)) hS) dX9_shown_58 ?_
  have hM2309 := k74_intValue l hl9 dC dI z H2305.size
  obtain ⟨hF2307, hC2310⟩ := pc_M hM2309 hP hD hK hS hX hT hA [] [] rfl rfl rfl
  refine va_calli (va_runV (As := []) (rest := []) ⟨hx, hb, hml, hown, hts⟩ hM2309 (cwV 0 hts (gV q_323 q_324 q_325 q_297 q_322) rfl rfl rfl hV_J6_intValue_8abf5 ⟨Nat.le_of_ble_eq_true rfl, Nat.le_of_ble_eq_true rfl⟩) ⟨pc_blind, va_Orecv (hX.2.2.1.1.1 128 (by decide)) hS, fun U hU hW => ⟨rfl, hC2310 U hU hW⟩⟩ rfl rfl hl.1 rfl (lv_room (Nat.le_of_ble_eq_true rfl)) dX9_shown_61 ⟨(Nat.le_of_ble_eq_true rfl), (Nat.le_of_ble_eq_true rfl)⟩) hS (fun q9 _ h9 => hF2307 q9 h9) hF2307 (fun r2312 u2311 t2311 H2311 L2311 ht2311 hvm2311 hw2311 hB2311 hz2311 hk2311 hS => ?_)
  have hP := pq_keep hP hD [] rfl hk2311 hB2311.1 ht2311
  have hG : s.heap.size + 2335 ≤ H2311.size := Nat.le_trans hG hz2311
  refine W.eq (g2 := F0 m 64 ls [.int 0]) (by rw [hw2311]) ?_
  refine lv_istore (lv' := [(6, .int 0), (4, .int 0), (5, .ref a2246), (3, .int 48), (2, .int 6), (1, .int 0), (0, .ref h0)]) hx hb dX9_shown_64 hl (by decide) rfl (fun ls hl => ?_)
  refine lv_iload hx hb dX9_shown_66 (lv_at hl 1 rfl) ?_
  refine lv_if_ne (tgt := 82) hx hb dX9_shown_68 (by decide) (fun cz => absurd (by decide) cz) (fun _ => ?_)
  refine lv_aload_n hx hb dX9_shown_71 rfl (lv_at hl 6 rfl) ?_
  refine lv_iload_n hx hb dX9_shown_72 rfl (lv_at hl 4 rfl) ?_
  refine lv_iload_n hx hb dX9_shown_73 rfl (lv_at hl 3 rfl) ?_
  refine lv_iload hx hb dX9_shown_74 (lv_at hl 0 rfl) ?_
  have hM2315 := k983_showsIt l hl9 dC dI z h0 h1 h2 h4 h5 h7 h8 h9 h10 h11 h12 h13 h14 h3 H2311.size kc0 kc2
  obtain ⟨hF2313, hC2316⟩ := pc_M hM2315 hP hD hK hS hX hT hA [0, 1, 2, 3, 4, 5, 6, 7, 8, 9, 10, 11, 12] [0, 1] rfl rfl rfl
  refine va_calli (va_runV (As := [.int 6, .int 48, .int 0]) (rest := []) ⟨hx, hb, hml, hown, hts⟩ hM2315 (cwV 3 hts (gV q_429 q_430 q_431 q_60 q_428) rfl rfl rfl hV_X9_showsIt ⟨Nat.le_of_ble_eq_true rfl, Nat.le_of_ble_eq_true rfl⟩) ⟨pc_blind, va_recv hK hP (ci := 8) (q := (RX9, TX9, 6)) (q0 := 0) rfl rfl, fun U hU hW => ⟨rfl, hC2316 U hU hW⟩⟩ rfl rfl hl.1 rfl (lv_room (Nat.le_of_ble_eq_true rfl)) dX9_shown_76 ⟨(Nat.le_of_ble_eq_true rfl), (Nat.le_of_ble_eq_true rfl)⟩) hS (fun q9 _ h9 => hF2313 q9 h9) hF2313 (fun r2318 u2317 t2317 H2317 L2317 ht2317 hvm2317 hw2317 hB2317 hz2317 hk2317 hS => ?_)
  have hP := pq_keep hP hD [0, 1, 2, 3, 4, 5, 6, 7, 8, 9, 10, 11, 12] rfl hk2317 hB2317.1 ht2317
  have hG : s.heap.size + 2362 ≤ H2317.size := va_gr (g := 2335) (g1 := 27) hG (by rw [← ht2317]; exact hB2317.2)
  refine W.eq (g2 := F0 m 79 ls [.int 0]) (by rw [hw2317]) ?_
  refine W.widen (k := 2362) (n := 21976) (by decide) (by decide) ?_
  refine lv_if_eq (tgt := 86) hx hb dX9_shown_79 (by decide) (fun _ => ?_) (fun cz => absurd (by decide) cz)
  refine lv_iconst (v := 0) hx hb dX9_shown_86 (by decide) ?_
  refine lv_istore (lv' := [(4, .int 0), (6, .int 0), (5, .ref a2246), (3, .int 48), (2, .int 6), (1, .int 0), (0, .ref h0)]) hx hb dX9_shown_87 hl (by decide) rfl (fun ls hl => ?_)
  refine lv_goto (tgt := 41) hx hb dX9_shown_89 (by decide) ?_
  refine lv_aload hx hb dX9_shown_41 (lv_at hl 2 rfl) ?_
  have hM2321 := k734_hasNext l hl9 dC dI z a2246 h3 h6 H2317.size
  obtain ⟨hF2319, hC2322⟩ := pc_M hM2321 hP hD hK hS hX hT hA [13, 14] [] rfl rfl rfl
  refine va_callFi (va_runF (As := []) (rest := []) (hK.1 1 (RJx35411, TJx35411, 4) rfl).2 ⟨hx, hb, hml, hown, hts⟩ hM2321 (va_cwF 0 hts (gF q_261 q_262 q_263 q_246 q_260) rfl rfl rfl hT.2.2.2.2.2.2.1 hF_xIh ⟨Nat.le_of_ble_eq_true rfl, Nat.le_of_ble_eq_true rfl⟩) ⟨pc_blind, va_recv hK hP (ci := 1) (q := (RJx35411, TJx35411, 4)) (q0 := 13) rfl rfl, fun U hU hW => ⟨rfl, hC2322 U hU hW⟩⟩ rfl rfl hl.1 rfl (lv_room (Nat.le_of_ble_eq_true rfl)) dX9_shown_43 ⟨(Nat.le_of_ble_eq_true rfl), (Nat.le_of_ble_eq_true rfl)⟩) hS (fun q9 _ h9 => hF2319 q9 h9) hF2319 (fun r2324 u2323 t2323 H2323 L2323 ht2323 hvm2323 hw2323 hB2323 hz2323 hk2323 hS => ?_)
  have hP := pq_keep hP hD [13, 14] rfl hk2323 hB2323.1 ht2323
  have hG : s.heap.size + 2362 ≤ H2323.size := Nat.le_trans hG hz2323
  refine W.eq (g2 := F0 m 48 ls [.int 1]) (by rw [hw2323]) ?_
  refine lv_if_eq (tgt := 92) hx hb dX9_shown_48 (by decide) (fun cz => absurd cz (by decide)) (fun _ => ?_)
  refine lv_aload hx hb dX9_shown_51 (lv_at hl 2 rfl) ?_
  have hM2327 := k956_next l hl9 dC dI z a2246 h3 h6 H2323.size kc1
  obtain ⟨hF2325, hC2328⟩ := pc_M hM2327 hP hD hK hS hX hT hA [13, 14, 15] [2] rfl rfl rfl
  refine va_callFr (va_runF (As := []) (rest := []) (hK.1 1 (RJx35411, TJx35411, 4) rfl).2 ⟨hx, hb, hml, hown, hts⟩ hM2327 (va_cwF 0 hts (gF q_308 q_309 q_310 q_246 q_307) rfl rfl rfl hT.2.2.2.2.2.2.2.1 hF_xIn ⟨Nat.le_of_ble_eq_true rfl, Nat.le_of_ble_eq_true rfl⟩) ⟨pc_blind, va_recv hK hP (ci := 1) (q := (RJx35411, TJx35411, 4)) (q0 := 13) rfl rfl, fun U hU hW => ⟨rfl, hC2328 U hU hW⟩⟩ rfl rfl hl.1 rfl (lv_room (Nat.le_of_ble_eq_true rfl)) dX9_shown_53 ⟨(Nat.le_of_ble_eq_true rfl), (Nat.le_of_ble_eq_true rfl)⟩) hS (fun q9 _ h9 => hF2325 q9 h9) hF2325 (fun u2329 r2330 t2329 H2329 L2329 ht2329 hvm2329 hw2329 hB2329 hz2329 hk2329 hS => ?_)
  obtain ⟨hr2329, hB2329⟩ := hB2329
  obtain ⟨hP, hD, hK⟩ := pq_jn (wz := [(h0, ce21 h1 h2 h3 h4), (h1, ce331 h5), (h2, ce3 z.1), (h4, ce366 h7), (h5, ce330 kc0 h8 h9 h10 h11 h12 h13 h14), (h7, ce330 kc2 (z.2.2.1 128) (z.2.2.1 129) (z.2.2.1 130) (z.2.2.1 131) (z.2.2.1 132) (z.2.2.1 133) (z.2.2.1 134)), (h8, ce49), (h9, ce49), (h10, ce49), (h11, ce49), (h12, ce49), (h13, ce49), (h14, ce49), (a2246, ce378 h3), (h3, ce331 h6), (h6, ce330 kc1 (z.2.2.1 128) (z.2.2.1 128) (z.2.2.1 128) (z.2.2.1 128) (z.2.2.1 128) (z.2.2.1 128) (z.2.2.1 128))]) (tz := [(kc0, .object "java/lang/Object"), (kc2, .object "java/lang/Object"), (kc1, .object "java/lang/Object")]) hP hD hK [13, 14, 15] [0, 1] rfl hk2329 hF2325 hB2329.1 ht2329 hvm2329 rfl rfl
  have hG : s.heap.size + 2362 ≤ H2329.size := Nat.le_trans hG hz2329
  refine W.eq (g2 := F0 m 58 ls [.ref (z.2.2.1 128)]) (by rw [hr2329]) ?_
  refine va_castE (nm := "java/lang/Integer") hx hb hown (hts _ q_320) (va_Orecv (hX.2.2.1.1.1 128 (by decide)) hS) dX9_shown_58 ?_
  have hM2333 := k74_intValue l hl9 dC dI z H2329.size
  obtain ⟨hF2331, hC2334⟩ := pc_M hM2333 hP hD hK hS hX hT hA [] [] rfl rfl rfl
  refine va_calli (va_runV (As := []) (rest := []) ⟨hx, hb, hml, hown, hts⟩ hM2333 (cwV 0 hts (gV q_323 q_324 q_325 q_297 q_322) rfl rfl rfl hV_J6_intValue_8abf5 ⟨Nat.le_of_ble_eq_true rfl, Nat.le_of_ble_eq_true rfl⟩) ⟨pc_blind, va_Orecv (hX.2.2.1.1.1 128 (by decide)) hS, fun U hU hW => ⟨rfl, hC2334 U hU hW⟩⟩ rfl rfl hl.1 rfl (lv_room (Nat.le_of_ble_eq_true rfl)) dX9_shown_61 ⟨(Nat.le_of_ble_eq_true rfl), (Nat.le_of_ble_eq_true rfl)⟩) hS (fun q9 _ h9 => hF2331 q9 h9) hF2331 (fun r2336 u2335 t2335 H2335 L2335 ht2335 hvm2335 hw2335 hB2335 hz2335 hk2335 hS => ?_)
  have hP := pq_keep hP hD [] rfl hk2335 hB2335.1 ht2335
  have hG : s.heap.size + 2362 ≤ H2335.size := Nat.le_trans hG hz2335
  refine W.eq (g2 := F0 m 64 ls [.int 0]) (by rw [hw2335]) ?_
  refine lv_istore (lv' := [(6, .int 0), (4, .int 0), (5, .ref a2246), (3, .int 48), (2, .int 6), (1, .int 0), (0, .ref h0)]) hx hb dX9_shown_64 hl (by decide) rfl (fun ls hl => ?_)
  refine lv_iload hx hb dX9_shown_66 (lv_at hl 1 rfl) ?_
  refine lv_if_ne (tgt := 82) hx hb dX9_shown_68 (by decide) (fun cz => absurd (by decide) cz) (fun _ => ?_)
  refine lv_aload_n hx hb dX9_shown_71 rfl (lv_at hl 6 rfl) ?_
  refine lv_iload_n hx hb dX9_shown_72 rfl (lv_at hl 4 rfl) ?_
  refine lv_iload_n hx hb dX9_shown_73 rfl (lv_at hl 3 rfl) ?_
  refine lv_iload hx hb dX9_shown_74 (lv_at hl 0 rfl) ?_
  have hM2339 := k983_showsIt l hl9 dC dI z h0 h1 h2 h4 h5 h7 h8 h9 h10 h11 h12 h13 h14 h3 H2335.size kc0 kc2
  obtain ⟨hF2337, hC2340⟩ := pc_M hM2339 hP hD hK hS hX hT hA [0, 1, 2, 3, 4, 5, 6, 7, 8, 9, 10, 11, 12] [0, 1] rfl rfl rfl
  refine va_calli (va_runV (As := [.int 6, .int 48, .int 0]) (rest := []) ⟨hx, hb, hml, hown, hts⟩ hM2339 (cwV 3 hts (gV q_429 q_430 q_431 q_60 q_428) rfl rfl rfl hV_X9_showsIt ⟨Nat.le_of_ble_eq_true rfl, Nat.le_of_ble_eq_true rfl⟩) ⟨pc_blind, va_recv hK hP (ci := 8) (q := (RX9, TX9, 6)) (q0 := 0) rfl rfl, fun U hU hW => ⟨rfl, hC2340 U hU hW⟩⟩ rfl rfl hl.1 rfl (lv_room (Nat.le_of_ble_eq_true rfl)) dX9_shown_76 ⟨(Nat.le_of_ble_eq_true rfl), (Nat.le_of_ble_eq_true rfl)⟩) hS (fun q9 _ h9 => hF2337 q9 h9) hF2337 (fun r2342 u2341 t2341 H2341 L2341 ht2341 hvm2341 hw2341 hB2341 hz2341 hk2341 hS => ?_)
  have hP := pq_keep hP hD [0, 1, 2, 3, 4, 5, 6, 7, 8, 9, 10, 11, 12] rfl hk2341 hB2341.1 ht2341
  have hG : s.heap.size + 2389 ≤ H2341.size := va_gr (g := 2362) (g1 := 27) hG (by rw [← ht2341]; exact hB2341.2)
  refine W.eq (g2 := F0 m 79 ls [.int 0]) (by rw [hw2341]) ?_
  refine W.widen (k := 2389) (n := 22228) (by decide) (by decide) ?_
  refine lv_if_eq (tgt := 86) hx hb dX9_shown_79 (by decide) (fun _ => ?_) (fun cz => absurd (by decide) cz)
  refine lv_iconst (v := 0) hx hb dX9_shown_86 (by decide) ?_
  refine lv_istore (lv' := [(4, .int 0), (6, .int 0), (5, .ref a2246), (3, .int 48), (2, .int 6), (1, .int 0), (0, .ref h0)]) hx hb dX9_shown_87 hl (by decide) rfl (fun ls hl => ?_)
  refine lv_goto (tgt := 41) hx hb dX9_shown_89 (by decide) ?_
  refine lv_aload hx hb dX9_shown_41 (lv_at hl 2 rfl) ?_
  have hM2345 := k737_hasNext l hl9 dC dI z a2246 h3 h6 H2341.size
  obtain ⟨hF2343, hC2346⟩ := pc_M hM2345 hP hD hK hS hX hT hA [13, 14] [] rfl rfl rfl
  refine va_callFi (va_runF (As := []) (rest := []) (hK.1 1 (RJx35411, TJx35411, 4) rfl).2 ⟨hx, hb, hml, hown, hts⟩ hM2345 (va_cwF 0 hts (gF q_261 q_262 q_263 q_246 q_260) rfl rfl rfl hT.2.2.2.2.2.2.1 hF_xIh ⟨Nat.le_of_ble_eq_true rfl, Nat.le_of_ble_eq_true rfl⟩) ⟨pc_blind, va_recv hK hP (ci := 1) (q := (RJx35411, TJx35411, 4)) (q0 := 13) rfl rfl, fun U hU hW => ⟨rfl, hC2346 U hU hW⟩⟩ rfl rfl hl.1 rfl (lv_room (Nat.le_of_ble_eq_true rfl)) dX9_shown_43 ⟨(Nat.le_of_ble_eq_true rfl), (Nat.le_of_ble_eq_true rfl)⟩) hS (fun q9 _ h9 => hF2343 q9 h9) hF2343 (fun r2348 u2347 t2347 H2347 L2347 ht2347 hvm2347 hw2347 hB2347 hz2347 hk2347 hS => ?_)
  have hP := pq_keep hP hD [13, 14] rfl hk2347 hB2347.1 ht2347
  have hG : s.heap.size + 2389 ≤ H2347.size := Nat.le_trans hG hz2347
  refine W.eq (g2 := F0 m 48 ls [.int 1]) (by rw [hw2347]) ?_
  refine lv_if_eq (tgt := 92) hx hb dX9_shown_48 (by decide) (fun cz => absurd cz (by decide)) (fun _ => ?_)
  refine lv_aload hx hb dX9_shown_51 (lv_at hl 2 rfl) ?_
  have hM2351 := k957_next l hl9 dC dI z a2246 h3 h6 H2347.size kc1
  obtain ⟨hF2349, hC2352⟩ := pc_M hM2351 hP hD hK hS hX hT hA [13, 14, 15] [2] rfl rfl rfl
  refine va_callFr (va_runF (As := []) (rest := []) (hK.1 1 (RJx35411, TJx35411, 4) rfl).2 ⟨hx, hb, hml, hown, hts⟩ hM2351 (va_cwF 0 hts (gF q_308 q_309 q_310 q_246 q_307) rfl rfl rfl hT.2.2.2.2.2.2.2.1 hF_xIn ⟨Nat.le_of_ble_eq_true rfl, Nat.le_of_ble_eq_true rfl⟩) ⟨pc_blind, va_recv hK hP (ci := 1) (q := (RJx35411, TJx35411, 4)) (q0 := 13) rfl rfl, fun U hU hW => ⟨rfl, hC2352 U hU hW⟩⟩ rfl rfl hl.1 rfl (lv_room (Nat.le_of_ble_eq_true rfl)) dX9_shown_53 ⟨(Nat.le_of_ble_eq_true rfl), (Nat.le_of_ble_eq_true rfl)⟩) hS (fun q9 _ h9 => hF2349 q9 h9) hF2349 (fun u2353 r2354 t2353 H2353 L2353 ht2353 hvm2353 hw2353 hB2353 hz2353 hk2353 hS => ?_)
  obtain ⟨hr2353, hB2353⟩ := hB2353
  obtain ⟨hP, hD, hK⟩ := pq_jn (wz := [(h0, ce21 h1 h2 h3 h4), (h1, ce331 h5), (h2, ce3 z.1), (h4, ce366 h7), (h5, ce330 kc0 h8 h9 h10 h11 h12 h13 h14), (h7, ce330 kc2 (z.2.2.1 128) (z.2.2.1 129) (z.2.2.1 130) (z.2.2.1 131) (z.2.2.1 132) (z.2.2.1 133) (z.2.2.1 134)), (h8, ce49), (h9, ce49), (h10, ce49), (h11, ce49), (h12, ce49), (h13, ce49), (h14, ce49), (a2246, ce380 h3), (h3, ce331 h6), (h6, ce330 kc1 (z.2.2.1 128) (z.2.2.1 128) (z.2.2.1 128) (z.2.2.1 128) (z.2.2.1 128) (z.2.2.1 128) (z.2.2.1 128))]) (tz := [(kc0, .object "java/lang/Object"), (kc2, .object "java/lang/Object"), (kc1, .object "java/lang/Object")]) hP hD hK [13, 14, 15] [0, 1] rfl hk2353 hF2349 hB2353.1 ht2353 hvm2353 rfl rfl
  have hG : s.heap.size + 2389 ≤ H2353.size := Nat.le_trans hG hz2353
  refine W.eq (g2 := F0 m 58 ls [.ref (z.2.2.1 128)]) (by rw [hr2353]) ?_
  refine va_castE (nm := "java/lang/Integer") hx hb hown (hts _ q_320) (va_Orecv (hX.2.2.1.1.1 128 (by decide)) hS) dX9_shown_58 ?_
  have hM2357 := k74_intValue l hl9 dC dI z H2353.size
  obtain ⟨hF2355, hC2358⟩ := pc_M hM2357 hP hD hK hS hX hT hA [] [] rfl rfl rfl
  refine va_calli (va_runV (As := []) (rest := []) ⟨hx, hb, hml, hown, hts⟩ hM2357 (cwV 0 hts (gV q_323 q_324 q_325 q_297 q_322) rfl rfl rfl hV_J6_intValue_8abf5 ⟨Nat.le_of_ble_eq_true rfl, Nat.le_of_ble_eq_true rfl⟩) ⟨pc_blind, va_Orecv (hX.2.2.1.1.1 128 (by decide)) hS, fun U hU hW => ⟨rfl, hC2358 U hU hW⟩⟩ rfl rfl hl.1 rfl (lv_room (Nat.le_of_ble_eq_true rfl)) dX9_shown_61 ⟨(Nat.le_of_ble_eq_true rfl), (Nat.le_of_ble_eq_true rfl)⟩) hS (fun q9 _ h9 => hF2355 q9 h9) hF2355 (fun r2360 u2359 t2359 H2359 L2359 ht2359 hvm2359 hw2359 hB2359 hz2359 hk2359 hS => ?_)
  have hP := pq_keep hP hD [] rfl hk2359 hB2359.1 ht2359
  have hG : s.heap.size + 2389 ≤ H2359.size := Nat.le_trans hG hz2359
  refine W.eq (g2 := F0 m 64 ls [.int 0]) (by rw [hw2359]) ?_
  refine lv_istore (lv' := [(6, .int 0), (4, .int 0), (5, .ref a2246), (3, .int 48), (2, .int 6), (1, .int 0), (0, .ref h0)]) hx hb dX9_shown_64 hl (by decide) rfl (fun ls hl => ?_)
  refine lv_iload hx hb dX9_shown_66 (lv_at hl 1 rfl) ?_
  refine lv_if_ne (tgt := 82) hx hb dX9_shown_68 (by decide) (fun cz => absurd (by decide) cz) (fun _ => ?_)
  refine lv_aload_n hx hb dX9_shown_71 rfl (lv_at hl 6 rfl) ?_
  refine lv_iload_n hx hb dX9_shown_72 rfl (lv_at hl 4 rfl) ?_
  refine lv_iload_n hx hb dX9_shown_73 rfl (lv_at hl 3 rfl) ?_
  refine lv_iload hx hb dX9_shown_74 (lv_at hl 0 rfl) ?_
  have hM2363 := k983_showsIt l hl9 dC dI z h0 h1 h2 h4 h5 h7 h8 h9 h10 h11 h12 h13 h14 h3 H2359.size kc0 kc2
  obtain ⟨hF2361, hC2364⟩ := pc_M hM2363 hP hD hK hS hX hT hA [0, 1, 2, 3, 4, 5, 6, 7, 8, 9, 10, 11, 12] [0, 1] rfl rfl rfl
  refine va_calli (va_runV (As := [.int 6, .int 48, .int 0]) (rest := []) ⟨hx, hb, hml, hown, hts⟩ hM2363 (cwV 3 hts (gV q_429 q_430 q_431 q_60 q_428) rfl rfl rfl hV_X9_showsIt ⟨Nat.le_of_ble_eq_true rfl, Nat.le_of_ble_eq_true rfl⟩) ⟨pc_blind, va_recv hK hP (ci := 8) (q := (RX9, TX9, 6)) (q0 := 0) rfl rfl, fun U hU hW => ⟨rfl, hC2364 U hU hW⟩⟩ rfl rfl hl.1 rfl (lv_room (Nat.le_of_ble_eq_true rfl)) dX9_shown_76 ⟨(Nat.le_of_ble_eq_true rfl), (Nat.le_of_ble_eq_true rfl)⟩) hS (fun q9 _ h9 => hF2361 q9 h9) hF2361 (fun r2366 u2365 t2365 H2365 L2365 ht2365 hvm2365 hw2365 hB2365 hz2365 hk2365 hS => ?_)
  have hP := pq_keep hP hD [0, 1, 2, 3, 4, 5, 6, 7, 8, 9, 10, 11, 12] rfl hk2365 hB2365.1 ht2365
  have hG : s.heap.size + 2416 ≤ H2365.size := va_gr (g := 2389) (g1 := 27) hG (by rw [← ht2365]; exact hB2365.2)
  refine W.eq (g2 := F0 m 79 ls [.int 0]) (by rw [hw2365]) ?_
  refine W.widen (k := 2416) (n := 22480) (by decide) (by decide) ?_
  refine lv_if_eq (tgt := 86) hx hb dX9_shown_79 (by decide) (fun _ => ?_) (fun cz => absurd (by decide) cz)
  refine lv_iconst (v := 0) hx hb dX9_shown_86 (by decide) ?_
  refine lv_istore (lv' := [(4, .int 0), (6, .int 0), (5, .ref a2246), (3, .int 48), (2, .int 6), (1, .int 0), (0, .ref h0)]) hx hb dX9_shown_87 hl (by decide) rfl (fun ls hl => ?_)
  refine lv_goto (tgt := 41) hx hb dX9_shown_89 (by decide) ?_
  refine lv_aload hx hb dX9_shown_41 (lv_at hl 2 rfl) ?_
  have hM2369 := k740_hasNext l hl9 dC dI z a2246 h3 h6 H2365.size
  obtain ⟨hF2367, hC2370⟩ := pc_M hM2369 hP hD hK hS hX hT hA [13, 14] [] rfl rfl rfl
  refine va_callFi (va_runF (As := []) (rest := []) (hK.1 1 (RJx35411, TJx35411, 4) rfl).2 ⟨hx, hb, hml, hown, hts⟩ hM2369 (va_cwF 0 hts (gF q_261 q_262 q_263 q_246 q_260) rfl rfl rfl hT.2.2.2.2.2.2.1 hF_xIh ⟨Nat.le_of_ble_eq_true rfl, Nat.le_of_ble_eq_true rfl⟩) ⟨pc_blind, va_recv hK hP (ci := 1) (q := (RJx35411, TJx35411, 4)) (q0 := 13) rfl rfl, fun U hU hW => ⟨rfl, hC2370 U hU hW⟩⟩ rfl rfl hl.1 rfl (lv_room (Nat.le_of_ble_eq_true rfl)) dX9_shown_43 ⟨(Nat.le_of_ble_eq_true rfl), (Nat.le_of_ble_eq_true rfl)⟩) hS (fun q9 _ h9 => hF2367 q9 h9) hF2367 (fun r2372 u2371 t2371 H2371 L2371 ht2371 hvm2371 hw2371 hB2371 hz2371 hk2371 hS => ?_)
  have hP := pq_keep hP hD [13, 14] rfl hk2371 hB2371.1 ht2371
  have hG : s.heap.size + 2416 ≤ H2371.size := Nat.le_trans hG hz2371
  refine W.eq (g2 := F0 m 48 ls [.int 1]) (by rw [hw2371]) ?_
  refine lv_if_eq (tgt := 92) hx hb dX9_shown_48 (by decide) (fun cz => absurd cz (by decide)) (fun _ => ?_)
  refine lv_aload hx hb dX9_shown_51 (lv_at hl 2 rfl) ?_
  have hM2375 := k958_next l hl9 dC dI z a2246 h3 h6 H2371.size kc1
  obtain ⟨hF2373, hC2376⟩ := pc_M hM2375 hP hD hK hS hX hT hA [13, 14, 15] [2] rfl rfl rfl
  refine va_callFr (va_runF (As := []) (rest := []) (hK.1 1 (RJx35411, TJx35411, 4) rfl).2 ⟨hx, hb, hml, hown, hts⟩ hM2375 (va_cwF 0 hts (gF q_308 q_309 q_310 q_246 q_307) rfl rfl rfl hT.2.2.2.2.2.2.2.1 hF_xIn ⟨Nat.le_of_ble_eq_true rfl, Nat.le_of_ble_eq_true rfl⟩) ⟨pc_blind, va_recv hK hP (ci := 1) (q := (RJx35411, TJx35411, 4)) (q0 := 13) rfl rfl, fun U hU hW => ⟨rfl, hC2376 U hU hW⟩⟩ rfl rfl hl.1 rfl (lv_room (Nat.le_of_ble_eq_true rfl)) dX9_shown_53 ⟨(Nat.le_of_ble_eq_true rfl), (Nat.le_of_ble_eq_true rfl)⟩) hS (fun q9 _ h9 => hF2373 q9 h9) hF2373 (fun u2377 r2378 t2377 H2377 L2377 ht2377 hvm2377 hw2377 hB2377 hz2377 hk2377 hS => ?_)
  obtain ⟨hr2377, hB2377⟩ := hB2377
  obtain ⟨hP, hD, hK⟩ := pq_jn (wz := [(h0, ce21 h1 h2 h3 h4), (h1, ce331 h5), (h2, ce3 z.1), (h4, ce366 h7), (h5, ce330 kc0 h8 h9 h10 h11 h12 h13 h14), (h7, ce330 kc2 (z.2.2.1 128) (z.2.2.1 129) (z.2.2.1 130) (z.2.2.1 131) (z.2.2.1 132) (z.2.2.1 133) (z.2.2.1 134)), (h8, ce49), (h9, ce49), (h10, ce49), (h11, ce49), (h12, ce49), (h13, ce49), (h14, ce49), (a2246, ce382 h3), (h3, ce331 h6), (h6, ce330 kc1 (z.2.2.1 128) (z.2.2.1 128) (z.2.2.1 128) (z.2.2.1 128) (z.2.2.1 128) (z.2.2.1 128) (z.2.2.1 128))]) (tz := [(kc0, .object "java/lang/Object"), (kc2, .object "java/lang/Object"), (kc1, .object "java/lang/Object")]) hP hD hK [13, 14, 15] [0, 1] rfl hk2377 hF2373 hB2377.1 ht2377 hvm2377 rfl rfl
  have hG : s.heap.size + 2416 ≤ H2377.size := Nat.le_trans hG hz2377
  refine W.eq (g2 := F0 m 58 ls [.ref (z.2.2.1 128)]) (by rw [hr2377]) ?_
  refine va_castE (nm := "java/lang/Integer") hx hb hown (hts _ q_320) (va_Orecv (hX.2.2.1.1.1 128 (by decide)) hS) dX9_shown_58 ?_
  have hM2381 := k74_intValue l hl9 dC dI z H2377.size
  obtain ⟨hF2379, hC2382⟩ := pc_M hM2381 hP hD hK hS hX hT hA [] [] rfl rfl rfl
  refine va_calli (va_runV (As := []) (rest := []) ⟨hx, hb, hml, hown, hts⟩ hM2381 (cwV 0 hts (gV q_323 q_324 q_325 q_297 q_322) rfl rfl rfl hV_J6_intValue_8abf5 ⟨Nat.le_of_ble_eq_true rfl, Nat.le_of_ble_eq_true rfl⟩) ⟨pc_blind, va_Orecv (hX.2.2.1.1.1 128 (by decide)) hS, fun U hU hW => ⟨rfl, hC2382 U hU hW⟩⟩ rfl rfl hl.1 rfl (lv_room (Nat.le_of_ble_eq_true rfl)) dX9_shown_61 ⟨(Nat.le_of_ble_eq_true rfl), (Nat.le_of_ble_eq_true rfl)⟩) hS (fun q9 _ h9 => hF2379 q9 h9) hF2379 (fun r2384 u2383 t2383 H2383 L2383 ht2383 hvm2383 hw2383 hB2383 hz2383 hk2383 hS => ?_)
  have hP := pq_keep hP hD [] rfl hk2383 hB2383.1 ht2383
  have hG : s.heap.size + 2416 ≤ H2383.size := Nat.le_trans hG hz2383
  refine W.eq (g2 := F0 m 64 ls [.int 0]) (by rw [hw2383]) ?_
  refine lv_istore (lv' := [(6, .int 0), (4, .int 0), (5, .ref a2246), (3, .int 48), (2, .int 6), (1, .int 0), (0, .ref h0)]) hx hb dX9_shown_64 hl (by decide) rfl (fun ls hl => ?_)
  refine lv_iload hx hb dX9_shown_66 (lv_at hl 1 rfl) ?_
  refine lv_if_ne (tgt := 82) hx hb dX9_shown_68 (by decide) (fun cz => absurd (by decide) cz) (fun _ => ?_)
  refine lv_aload_n hx hb dX9_shown_71 rfl (lv_at hl 6 rfl) ?_
  refine lv_iload_n hx hb dX9_shown_72 rfl (lv_at hl 4 rfl) ?_
  refine lv_iload_n hx hb dX9_shown_73 rfl (lv_at hl 3 rfl) ?_
  refine lv_iload hx hb dX9_shown_74 (lv_at hl 0 rfl) ?_
  have hM2387 := k983_showsIt l hl9 dC dI z h0 h1 h2 h4 h5 h7 h8 h9 h10 h11 h12 h13 h14 h3 H2383.size kc0 kc2
  obtain ⟨hF2385, hC2388⟩ := pc_M hM2387 hP hD hK hS hX hT hA [0, 1, 2, 3, 4, 5, 6, 7, 8, 9, 10, 11, 12] [0, 1] rfl rfl rfl
  refine va_calli (va_runV (As := [.int 6, .int 48, .int 0]) (rest := []) ⟨hx, hb, hml, hown, hts⟩ hM2387 (cwV 3 hts (gV q_429 q_430 q_431 q_60 q_428) rfl rfl rfl hV_X9_showsIt ⟨Nat.le_of_ble_eq_true rfl, Nat.le_of_ble_eq_true rfl⟩) ⟨pc_blind, va_recv hK hP (ci := 8) (q := (RX9, TX9, 6)) (q0 := 0) rfl rfl, fun U hU hW => ⟨rfl, hC2388 U hU hW⟩⟩ rfl rfl hl.1 rfl (lv_room (Nat.le_of_ble_eq_true rfl)) dX9_shown_76 ⟨(Nat.le_of_ble_eq_true rfl), (Nat.le_of_ble_eq_true rfl)⟩) hS (fun q9 _ h9 => hF2385 q9 h9) hF2385 (fun r2390 u2389 t2389 H2389 L2389 ht2389 hvm2389 hw2389 hB2389 hz2389 hk2389 hS => ?_)
  have hP := pq_keep hP hD [0, 1, 2, 3, 4, 5, 6, 7, 8, 9, 10, 11, 12] rfl hk2389 hB2389.1 ht2389
  have hG : s.heap.size + 2443 ≤ H2389.size := va_gr (g := 2416) (g1 := 27) hG (by rw [← ht2389]; exact hB2389.2)
  refine W.eq (g2 := F0 m 79 ls [.int 0]) (by rw [hw2389]) ?_
  refine W.widen (k := 2443) (n := 22732) (by decide) (by decide) ?_
  refine lv_if_eq (tgt := 86) hx hb dX9_shown_79 (by decide) (fun _ => ?_) (fun cz => absurd (by decide) cz)
  refine lv_iconst (v := 0) hx hb dX9_shown_86 (by decide) ?_
  refine lv_istore (lv' := [(4, .int 0), (6, .int 0), (5, .ref a2246), (3, .int 48), (2, .int 6), (1, .int 0), (0, .ref h0)]) hx hb dX9_shown_87 hl (by decide) rfl (fun ls hl => ?_)
  refine lv_goto (tgt := 41) hx hb dX9_shown_89 (by decide) ?_
  refine lv_aload hx hb dX9_shown_41 (lv_at hl 2 rfl) ?_
  have hM2393 := k743_hasNext l hl9 dC dI z a2246 h3 h6 H2389.size
  obtain ⟨hF2391, hC2394⟩ := pc_M hM2393 hP hD hK hS hX hT hA [13, 14] [] rfl rfl rfl
  refine va_callFi (va_runF (As := []) (rest := []) (hK.1 1 (RJx35411, TJx35411, 4) rfl).2 ⟨hx, hb, hml, hown, hts⟩ hM2393 (va_cwF 0 hts (gF q_261 q_262 q_263 q_246 q_260) rfl rfl rfl hT.2.2.2.2.2.2.1 hF_xIh ⟨Nat.le_of_ble_eq_true rfl, Nat.le_of_ble_eq_true rfl⟩) ⟨pc_blind, va_recv hK hP (ci := 1) (q := (RJx35411, TJx35411, 4)) (q0 := 13) rfl rfl, fun U hU hW => ⟨rfl, hC2394 U hU hW⟩⟩ rfl rfl hl.1 rfl (lv_room (Nat.le_of_ble_eq_true rfl)) dX9_shown_43 ⟨(Nat.le_of_ble_eq_true rfl), (Nat.le_of_ble_eq_true rfl)⟩) hS (fun q9 _ h9 => hF2391 q9 h9) hF2391 (fun r2396 u2395 t2395 H2395 L2395 ht2395 hvm2395 hw2395 hB2395 hz2395 hk2395 hS => ?_)
  have hP := pq_keep hP hD [13, 14] rfl hk2395 hB2395.1 ht2395
  have hG : s.heap.size + 2443 ≤ H2395.size := Nat.le_trans hG hz2395
  refine W.eq (g2 := F0 m 48 ls [.int 1]) (by rw [hw2395]) ?_
  refine lv_if_eq (tgt := 92) hx hb dX9_shown_48 (by decide) (fun cz => absurd cz (by decide)) (fun _ => ?_)
  refine lv_aload hx hb dX9_shown_51 (lv_at hl 2 rfl) ?_
  have hM2399 := k959_next l hl9 dC dI z a2246 h3 h6 H2395.size kc1
  obtain ⟨hF2397, hC2400⟩ := pc_M hM2399 hP hD hK hS hX hT hA [13, 14, 15] [2] rfl rfl rfl
  refine va_callFr (va_runF (As := []) (rest := []) (hK.1 1 (RJx35411, TJx35411, 4) rfl).2 ⟨hx, hb, hml, hown, hts⟩ hM2399 (va_cwF 0 hts (gF q_308 q_309 q_310 q_246 q_307) rfl rfl rfl hT.2.2.2.2.2.2.2.1 hF_xIn ⟨Nat.le_of_ble_eq_true rfl, Nat.le_of_ble_eq_true rfl⟩) ⟨pc_blind, va_recv hK hP (ci := 1) (q := (RJx35411, TJx35411, 4)) (q0 := 13) rfl rfl, fun U hU hW => ⟨rfl, hC2400 U hU hW⟩⟩ rfl rfl hl.1 rfl (lv_room (Nat.le_of_ble_eq_true rfl)) dX9_shown_53 ⟨(Nat.le_of_ble_eq_true rfl), (Nat.le_of_ble_eq_true rfl)⟩) hS (fun q9 _ h9 => hF2397 q9 h9) hF2397 (fun u2401 r2402 t2401 H2401 L2401 ht2401 hvm2401 hw2401 hB2401 hz2401 hk2401 hS => ?_)
  obtain ⟨hr2401, hB2401⟩ := hB2401
  obtain ⟨hP, hD, hK⟩ := pq_jn (wz := [(h0, ce21 h1 h2 h3 h4), (h1, ce331 h5), (h2, ce3 z.1), (h4, ce366 h7), (h5, ce330 kc0 h8 h9 h10 h11 h12 h13 h14), (h7, ce330 kc2 (z.2.2.1 128) (z.2.2.1 129) (z.2.2.1 130) (z.2.2.1 131) (z.2.2.1 132) (z.2.2.1 133) (z.2.2.1 134)), (h8, ce49), (h9, ce49), (h10, ce49), (h11, ce49), (h12, ce49), (h13, ce49), (h14, ce49), (a2246, ce384 h3), (h3, ce331 h6), (h6, ce330 kc1 (z.2.2.1 128) (z.2.2.1 128) (z.2.2.1 128) (z.2.2.1 128) (z.2.2.1 128) (z.2.2.1 128) (z.2.2.1 128))]) (tz := [(kc0, .object "java/lang/Object"), (kc2, .object "java/lang/Object"), (kc1, .object "java/lang/Object")]) hP hD hK [13, 14, 15] [0, 1] rfl hk2401 hF2397 hB2401.1 ht2401 hvm2401 rfl rfl
  have hG : s.heap.size + 2443 ≤ H2401.size := Nat.le_trans hG hz2401
  refine W.eq (g2 := F0 m 58 ls [.ref (z.2.2.1 128)]) (by rw [hr2401]) ?_
  refine va_castE (nm := "java/lang/Integer") hx hb hown (hts _ q_320) (va_Orecv (hX.2.2.1.1.1 128 (by decide)) hS) dX9_shown_58 ?_
  have hM2405 := k74_intValue l hl9 dC dI z H2401.size
  obtain ⟨hF2403, hC2406⟩ := pc_M hM2405 hP hD hK hS hX hT hA [] [] rfl rfl rfl
  refine va_calli (va_runV (As := []) (rest := []) ⟨hx, hb, hml, hown, hts⟩ hM2405 (cwV 0 hts (gV q_323 q_324 q_325 q_297 q_322) rfl rfl rfl hV_J6_intValue_8abf5 ⟨Nat.le_of_ble_eq_true rfl, Nat.le_of_ble_eq_true rfl⟩) ⟨pc_blind, va_Orecv (hX.2.2.1.1.1 128 (by decide)) hS, fun U hU hW => ⟨rfl, hC2406 U hU hW⟩⟩ rfl rfl hl.1 rfl (lv_room (Nat.le_of_ble_eq_true rfl)) dX9_shown_61 ⟨(Nat.le_of_ble_eq_true rfl), (Nat.le_of_ble_eq_true rfl)⟩) hS (fun q9 _ h9 => hF2403 q9 h9) hF2403 (fun r2408 u2407 t2407 H2407 L2407 ht2407 hvm2407 hw2407 hB2407 hz2407 hk2407 hS => ?_)
  have hP := pq_keep hP hD [] rfl hk2407 hB2407.1 ht2407
  have hG : s.heap.size + 2443 ≤ H2407.size := Nat.le_trans hG hz2407
  refine W.eq (g2 := F0 m 64 ls [.int 0]) (by rw [hw2407]) ?_
  refine lv_istore (lv' := [(6, .int 0), (4, .int 0), (5, .ref a2246), (3, .int 48), (2, .int 6), (1, .int 0), (0, .ref h0)]) hx hb dX9_shown_64 hl (by decide) rfl (fun ls hl => ?_)
  refine lv_iload hx hb dX9_shown_66 (lv_at hl 1 rfl) ?_
  refine lv_if_ne (tgt := 82) hx hb dX9_shown_68 (by decide) (fun cz => absurd (by decide) cz) (fun _ => ?_)
  refine lv_aload_n hx hb dX9_shown_71 rfl (lv_at hl 6 rfl) ?_
  refine lv_iload_n hx hb dX9_shown_72 rfl (lv_at hl 4 rfl) ?_
  refine lv_iload_n hx hb dX9_shown_73 rfl (lv_at hl 3 rfl) ?_
  refine lv_iload hx hb dX9_shown_74 (lv_at hl 0 rfl) ?_
  have hM2411 := k983_showsIt l hl9 dC dI z h0 h1 h2 h4 h5 h7 h8 h9 h10 h11 h12 h13 h14 h3 H2407.size kc0 kc2
  obtain ⟨hF2409, hC2412⟩ := pc_M hM2411 hP hD hK hS hX hT hA [0, 1, 2, 3, 4, 5, 6, 7, 8, 9, 10, 11, 12] [0, 1] rfl rfl rfl
  refine va_calli (va_runV (As := [.int 6, .int 48, .int 0]) (rest := []) ⟨hx, hb, hml, hown, hts⟩ hM2411 (cwV 3 hts (gV q_429 q_430 q_431 q_60 q_428) rfl rfl rfl hV_X9_showsIt ⟨Nat.le_of_ble_eq_true rfl, Nat.le_of_ble_eq_true rfl⟩) ⟨pc_blind, va_recv hK hP (ci := 8) (q := (RX9, TX9, 6)) (q0 := 0) rfl rfl, fun U hU hW => ⟨rfl, hC2412 U hU hW⟩⟩ rfl rfl hl.1 rfl (lv_room (Nat.le_of_ble_eq_true rfl)) dX9_shown_76 ⟨(Nat.le_of_ble_eq_true rfl), (Nat.le_of_ble_eq_true rfl)⟩) hS (fun q9 _ h9 => hF2409 q9 h9) hF2409 (fun r2414 u2413 t2413 H2413 L2413 ht2413 hvm2413 hw2413 hB2413 hz2413 hk2413 hS => ?_)
  have hP := pq_keep hP hD [0, 1, 2, 3, 4, 5, 6, 7, 8, 9, 10, 11, 12] rfl hk2413 hB2413.1 ht2413
  have hG : s.heap.size + 2470 ≤ H2413.size := va_gr (g := 2443) (g1 := 27) hG (by rw [← ht2413]; exact hB2413.2)
  refine W.eq (g2 := F0 m 79 ls [.int 0]) (by rw [hw2413]) ?_
  refine W.widen (k := 2470) (n := 22984) (by decide) (by decide) ?_
  refine lv_if_eq (tgt := 86) hx hb dX9_shown_79 (by decide) (fun _ => ?_) (fun cz => absurd (by decide) cz)
  refine lv_iconst (v := 0) hx hb dX9_shown_86 (by decide) ?_
  refine lv_istore (lv' := [(4, .int 0), (6, .int 0), (5, .ref a2246), (3, .int 48), (2, .int 6), (1, .int 0), (0, .ref h0)]) hx hb dX9_shown_87 hl (by decide) rfl (fun ls hl => ?_)
  refine lv_goto (tgt := 41) hx hb dX9_shown_89 (by decide) ?_
  refine lv_aload hx hb dX9_shown_41 (lv_at hl 2 rfl) ?_
  have hM2417 := k746_hasNext l hl9 dC dI z a2246 h3 h6 H2413.size
  obtain ⟨hF2415, hC2418⟩ := pc_M hM2417 hP hD hK hS hX hT hA [13, 14] [] rfl rfl rfl
  refine va_callFi (va_runF (As := []) (rest := []) (hK.1 1 (RJx35411, TJx35411, 4) rfl).2 ⟨hx, hb, hml, hown, hts⟩ hM2417 (va_cwF 0 hts (gF q_261 q_262 q_263 q_246 q_260) rfl rfl rfl hT.2.2.2.2.2.2.1 hF_xIh ⟨Nat.le_of_ble_eq_true rfl, Nat.le_of_ble_eq_true rfl⟩) ⟨pc_blind, va_recv hK hP (ci := 1) (q := (RJx35411, TJx35411, 4)) (q0 := 13) rfl rfl, fun U hU hW => ⟨rfl, hC2418 U hU hW⟩⟩ rfl rfl hl.1 rfl (lv_room (Nat.le_of_ble_eq_true rfl)) dX9_shown_43 ⟨(Nat.le_of_ble_eq_true rfl), (Nat.le_of_ble_eq_true rfl)⟩) hS (fun q9 _ h9 => hF2415 q9 h9) hF2415 (fun r2420 u2419 t2419 H2419 L2419 ht2419 hvm2419 hw2419 hB2419 hz2419 hk2419 hS => ?_)
  have hP := pq_keep hP hD [13, 14] rfl hk2419 hB2419.1 ht2419
  have hG : s.heap.size + 2470 ≤ H2419.size := Nat.le_trans hG hz2419
  refine W.eq (g2 := F0 m 48 ls [.int 0]) (by rw [hw2419]) ?_
  refine lv_if_eq (tgt := 92) hx hb dX9_shown_48 (by decide) (fun _ => ?_) (fun cz => absurd (by decide) cz)
  refine lv_iload_n hx hb dX9_shown_92 rfl (lv_at hl 5 rfl) ?_
  refine lv_iload hx hb dX9_shown_93 (lv_at hl 0 rfl) ?_
  refine lv_if_eq (tgt := 102) hx hb dX9_shown_95 (by decide) (fun _ => ?_) (fun cz => absurd (by decide) cz)
  refine lv_iconst (v := 0) hx hb dX9_shown_102 (by decide) ?_
  refine lv_iadd hx hb dX9_shown_103 ?_
  refine lv_topi (fun y2421 ey2421 => ?_)
  obtain rfl : y2421 = 0 := ey2421.trans (by decide)
  refine lv_istore_n (lv' := [(1, .int 0), (4, .int 0), (6, .int 0), (5, .ref a2246), (3, .int 48), (2, .int 6), (0, .ref h0)]) hx hb dX9_shown_104 rfl hl (by decide) rfl (fun ls hl => ?_)
  refine lv_iload_n hx hb dX9_shown_105 rfl (lv_at hl 4 rfl) ?_
  refine lv_iconst (v := 1) hx hb dX9_shown_106 (by decide) ?_
  refine lv_iadd hx hb dX9_shown_107 ?_
  refine lv_topi (fun y2422 ey2422 => ?_)
  obtain rfl : y2422 = 49 := ey2422.trans (by decide)
  refine lv_i2c (v := 49) hx hb dX9_shown_108 (by decide) ?_
  refine lv_istore_n (lv' := [(3, .int 49), (1, .int 0), (4, .int 0), (6, .int 0), (5, .ref a2246), (2, .int 6), (0, .ref h0)]) hx hb dX9_shown_109 rfl hl (by decide) rfl (fun ls hl => ?_)
  refine lv_goto (tgt := 23) hx hb dX9_shown_110 (by decide) ?_
  exact hend _ _ _ hS (hP.sub [0, 1, 2, 14, 3, 4, 15, 5, 6, 7, 8, 9, 10, 11, 12] rfl) (hD.sub [0, 1, 2, 14, 3, 4, 15, 5, 6, 7, 8, 9, 10, 11, 12] rfl rfl) (lv_sub hl [0, 1, 5, 6] rfl) hG

set_option maxHeartbeats 8000000 in
set_option maxRecDepth 100000 in
theorem k986_shown_g20 {p : Program} {l : Launch} {e : Env} {s : State} {m : MethodId} {args : Array Value} {below : List Frame} {meth : Method} {c : Code} {Q : State → Prop} {A : Nat → Prop} {H : Heap} {locs : List Loc} {ls : Array Slot} {dC : Nat → ClassId} {dI : Nat → Nat → Nat} {z : XZ} {h0 h1 h2 h3 h4 h5 h6 h7 h8 h9 h10 h11 h12 h13 h14 : Nat} {kc0 kc1 kc2 : ClassId} (hl9 : l.stackTraces = false) (hx : p.tables.exec = Jvm.exec) (hb : c.code = cX9_shown) (hml : c.maxLocals = 7) (hown : s.vm.findClass RX9 = some m.cls) (hts : ∀ w ∈ wsL_law, w.before args s = true) (hA : ∀ q : Nat, s.heap.size ≤ q → A q) (hX : XE z A s s.heap) (hT : XT s) (hS : va_S A s.heap H locs) (hP : va_P (dC, dI) xCl [(h0, ce21 h1 h2 h3 h4), (h1, ce331 h5), (h2, ce3 z.1), (h3, ce331 h6), (h4, ce366 h7), (h5, ce330 kc0 h8 h9 h10 h11 h12 h13 h14), (h6, ce330 kc1 (z.2.2.1 128) (z.2.2.1 128) (z.2.2.1 128) (z.2.2.1 128) (z.2.2.1 128) (z.2.2.1 128) (z.2.2.1 128)), (h7, ce330 kc2 (z.2.2.1 128) (z.2.2.1 129) (z.2.2.1 130) (z.2.2.1 131) (z.2.2.1 132) (z.2.2.1 133) (z.2.2.1 134)), (h8, ce49), (h9, ce49), (h10, ce49), (h11, ce49), (h12, ce49), (h13, ce49), (h14, ce49)] H) (hD : va_D A [(h0, ce21 h1 h2 h3 h4), (h1, ce331 h5), (h2, ce3 z.1), (h3, ce331 h6), (h4, ce366 h7), (h5, ce330 kc0 h8 h9 h10 h11 h12 h13 h14), (h6, ce330 kc1 (z.2.2.1 128) (z.2.2.1 128) (z.2.2.1 128) (z.2.2.1 128) (z.2.2.1 128) (z.2.2.1 128) (z.2.2.1 128)), (h7, ce330 kc2 (z.2.2.1 128) (z.2.2.1 129) (z.2.2.1 130) (z.2.2.1 131) (z.2.2.1 132) (z.2.2.1 133) (z.2.2.1 134)), (h8, ce49), (h9, ce49), (h10, ce49), (h11, ce49), (h12, ce49), (h13, ce49), (h14, ce49)]) (hK : va_K (dC, dI) xCl [(kc0, .object "java/lang/Object"), (kc1, .object "java/lang/Object"), (kc2, .object "java/lang/Object")] s) (hl : lv_has ls 7 [(3, .int 49), (1, .int 0), (2, .int 6), (0, .ref h0)]) (hG : s.heap.size + 2470 ≤ H.size) (hend : ∀ (H' : Heap) (locs' : List Loc) (ls' : Array Slot), va_S A s.heap H' locs' → va_P (dC, dI) xCl [(h0, ce21 h1 h2 h3 h4), (h1, ce331 h5), (h2, ce3 z.1), (h3, ce331 h6), (h4, ce366 h7), (h5, ce330 kc0 h8 h9 h10 h11 h12 h13 h14), (h6, ce330 kc1 (z.2.2.1 128) (z.2.2.1 128) (z.2.2.1 128) (z.2.2.1 128) (z.2.2.1 128) (z.2.2.1 128) (z.2.2.1 128)), (h7, ce330 kc2 (z.2.2.1 128) (z.2.2.1 129) (z.2.2.1 130) (z.2.2.1 131) (z.2.2.1 132) (z.2.2.1 133) (z.2.2.1 134)), (h8, ce49), (h9, ce49), (h10, ce49), (h11, ce49), (h12, ce49), (h13, ce49), (h14, ce49)] H' → va_D A [(h0, ce21 h1 h2 h3 h4), (h1, ce331 h5), (h2, ce3 z.1), (h3, ce331 h6), (h4, ce366 h7), (h5, ce330 kc0 h8 h9 h10 h11 h12 h13 h14), (h6, ce330 kc1 (z.2.2.1 128) (z.2.2.1 128) (z.2.2.1 128) (z.2.2.1 128) (z.2.2.1 128) (z.2.2.1 128) (z.2.2.1 128)), (h7, ce330 kc2 (z.2.2.1 128) (z.2.2.1 129) (z.2.2.1 130) (z.2.2.1 131) (z.2.2.1 132) (z.2.2.1 133) (z.2.2.1 134)), (h8, ce49), (h9, ce49), (h10, ce49), (h11, ce49), (h12, ce49), (h13, ce49), (h14, ce49)] → lv_has ls' 7 [(3, .int 50), (1, .int 0), (2, .int 6), (0, .ref h0)] → s.heap.size + 2660 ≤ H'.size → W p l e ({ frames := 5, cells := 2660, slots := 24752, locals := 121 } : Room) s m args below meth c H' locs' 2660 24752 Q (F0 m 23 ls' [])) : W p l e ({ frames := 5, cells := 2660, slots := 24752, locals := 121 } : Room) s m args below meth c H locs 2470 22984 Q (F0 m 23 ls []) := by
  refine lv_iload_n hx hb dX9_shown_23 rfl (lv_at hl 0 rfl) ?_
  refine lv_bipush (v := 49) hx hb dX9_shown_24 (by decide) ?_
  refine lv_icmp_gt (tgt := 113) hx hb dX9_shown_26 (by decide) (fun cz => absurd cz (by decide)) (fun _ => ?_)
  refine lv_iconst (v := 0) hx hb dX9_shown_29 (by decide) ?_
  refine lv_istore (lv' := [(4, .int 0), (3, .int 49), (1, .int 0), (2, .int 6), (0, .ref h0)]) hx hb dX9_shown_30 hl (by decide) rfl (fun ls hl => ?_)
  refine lv_aload_n hx hb dX9_shown_32 rfl (lv_at hl 4 rfl) ?_
  refine va_get (D := (dC, dI)) (ci := 8) (v := .ref h3) (C := RX9) (T := TX9) (N := 6) hx hb hts in_X9 hown hK hP 0 rfl rfl 3 (by decide) (hts _ q_66) (fun _ h9 => h9) rfl dX9_shown_33 ?_
  have hM2425 := k724_iterator l hl9 dC dI z h3 h6 H.size
  obtain ⟨hF2423, hC2426⟩ := pc_M hM2425 hP hD hK hS hX hT hA [3] [] rfl rfl rfl
  refine va_callr (va_runV (As := []) (rest := []) ⟨hx, hb, hml, hown, hts⟩ hM2425 (cwV 0 hts (gV q_256 q_257 q_258 q_12 q_255) rfl rfl rfl hV_Jx4a65c_iterator_32c93 ⟨Nat.le_of_ble_eq_true rfl, Nat.le_of_ble_eq_true rfl⟩) ⟨pc_blind, va_recv hK hP (ci := 0) (q := (RJx4a65c, TJx4a65c, 3)) (q0 := 3) rfl rfl, fun U hU hW => ⟨rfl, hC2426 U hU hW⟩⟩ rfl rfl hl.1 rfl (lv_room (Nat.le_of_ble_eq_true rfl)) dX9_shown_36 ⟨(Nat.le_of_ble_eq_true rfl), (Nat.le_of_ble_eq_true rfl)⟩) hS (fun q9 _ h9 => hF2423 q9 h9) hF2423 (fun u2427 r2428 t2427 H2427 L2427 ht2427 hvm2427 hw2427 hB2427 hz2427 hk2427 hS => ?_)
  obtain ⟨a2429, hr2427, hB2427⟩ := hB2427
  obtain ⟨hP, hD, hK⟩ := pq_jn (wz := [(h0, ce21 h1 h2 h3 h4), (h1, ce331 h5), (h2, ce3 z.1), (h4, ce366 h7), (h5, ce330 kc0 h8 h9 h10 h11 h12 h13 h14), (h6, ce330 kc1 (z.2.2.1 128) (z.2.2.1 128) (z.2.2.1 128) (z.2.2.1 128) (z.2.2.1 128) (z.2.2.1 128) (z.2.2.1 128)), (h7, ce330 kc2 (z.2.2.1 128) (z.2.2.1 129) (z.2.2.1 130) (z.2.2.1 131) (z.2.2.1 132) (z.2.2.1 133) (z.2.2.1 134)), (h8, ce49), (h9, ce49), (h10, ce49), (h11, ce49), (h12, ce49), (h13, ce49), (h14, ce49), (h3, ce331 h6), (a2429, ce370 h3)]) (tz := [(kc0, .object "java/lang/Object"), (kc1, .object "java/lang/Object"), (kc2, .object "java/lang/Object")]) hP hD hK [3] [0, 1, 2] rfl hk2427 hF2423 hB2427.1 ht2427 hvm2427 rfl rfl
  have hG : s.heap.size + 2471 ≤ H2427.size := va_gr (g := 2470) (g1 := 1) hG (by rw [← ht2427]; exact hB2427.2)
  refine W.eq (g2 := F0 m 39 ls [.ref a2429]) (by rw [hr2427]) ?_
  refine W.widen (k := 2471) (n := 22988) (by decide) (by decide) ?_
  refine lv_astore (lv' := [(5, .ref a2429), (4, .int 0), (3, .int 49), (1, .int 0), (2, .int 6), (0, .ref h0)]) hx hb dX9_shown_39 hl (by decide) rfl (fun ls hl => ?_)
  refine lv_aload hx hb dX9_shown_41 (lv_at hl 0 rfl) ?_
  have hM2432 := k725_hasNext l hl9 dC dI z a2429 h3 h6 H2427.size
  obtain ⟨hF2430, hC2433⟩ := pc_M hM2432 hP hD hK hS hX hT hA [15, 14] [] rfl rfl rfl
  refine va_callFi (va_runF (As := []) (rest := []) (hK.1 1 (RJx35411, TJx35411, 4) rfl).2 ⟨hx, hb, hml, hown, hts⟩ hM2432 (va_cwF 0 hts (gF q_261 q_262 q_263 q_246 q_260) rfl rfl rfl hT.2.2.2.2.2.2.1 hF_xIh ⟨Nat.le_of_ble_eq_true rfl, Nat.le_of_ble_eq_true rfl⟩) ⟨pc_blind, va_recv hK hP (ci := 1) (q := (RJx35411, TJx35411, 4)) (q0 := 15) rfl rfl, fun U hU hW => ⟨rfl, hC2433 U hU hW⟩⟩ rfl rfl hl.1 rfl (lv_room (Nat.le_of_ble_eq_true rfl)) dX9_shown_43 ⟨(Nat.le_of_ble_eq_true rfl), (Nat.le_of_ble_eq_true rfl)⟩) hS (fun q9 _ h9 => hF2430 q9 h9) hF2430 (fun r2435 u2434 t2434 H2434 L2434 ht2434 hvm2434 hw2434 hB2434 hz2434 hk2434 hS => ?_)
  have hP := pq_keep hP hD [15, 14] rfl hk2434 hB2434.1 ht2434
  have hG : s.heap.size + 2471 ≤ H2434.size := Nat.le_trans hG hz2434
  refine W.eq (g2 := F0 m 48 ls [.int 1]) (by rw [hw2434]) ?_
  refine lv_if_eq (tgt := 92) hx hb dX9_shown_48 (by decide) (fun cz => absurd cz (by decide)) (fun _ => ?_)
  refine lv_aload hx hb dX9_shown_51 (lv_at hl 0 rfl) ?_
  have hM2438 := k942_next l hl9 dC dI z a2429 h3 h6 H2434.size kc1
  obtain ⟨hF2436, hC2439⟩ := pc_M hM2438 hP hD hK hS hX hT hA [15, 14, 5] [1] rfl rfl rfl
  refine va_callFr (va_runF (As := []) (rest := []) (hK.1 1 (RJx35411, TJx35411, 4) rfl).2 ⟨hx, hb, hml, hown, hts⟩ hM2438 (va_cwF 0 hts (gF q_308 q_309 q_310 q_246 q_307) rfl rfl rfl hT.2.2.2.2.2.2.2.1 hF_xIn ⟨Nat.le_of_ble_eq_true rfl, Nat.le_of_ble_eq_true rfl⟩) ⟨pc_blind, va_recv hK hP (ci := 1) (q := (RJx35411, TJx35411, 4)) (q0 := 15) rfl rfl, fun U hU hW => ⟨rfl, hC2439 U hU hW⟩⟩ rfl rfl hl.1 rfl (lv_room (Nat.le_of_ble_eq_true rfl)) dX9_shown_53 ⟨(Nat.le_of_ble_eq_true rfl), (Nat.le_of_ble_eq_true rfl)⟩) hS (fun q9 _ h9 => hF2436 q9 h9) hF2436 (fun u2440 r2441 t2440 H2440 L2440 ht2440 hvm2440 hw2440 hB2440 hz2440 hk2440 hS => ?_)
  obtain ⟨hr2440, hB2440⟩ := hB2440
  obtain ⟨hP, hD, hK⟩ := pq_jn (wz := [(h0, ce21 h1 h2 h3 h4), (h1, ce331 h5), (h2, ce3 z.1), (h4, ce366 h7), (h5, ce330 kc0 h8 h9 h10 h11 h12 h13 h14), (h7, ce330 kc2 (z.2.2.1 128) (z.2.2.1 129) (z.2.2.1 130) (z.2.2.1 131) (z.2.2.1 132) (z.2.2.1 133) (z.2.2.1 134)), (h8, ce49), (h9, ce49), (h10, ce49), (h11, ce49), (h12, ce49), (h13, ce49), (h14, ce49), (a2429, ce372 h3), (h3, ce331 h6), (h6, ce330 kc1 (z.2.2.1 128) (z.2.2.1 128) (z.2.2.1 128) (z.2.2.1 128) (z.2.2.1 128) (z.2.2.1 128) (z.2.2.1 128))]) (tz := [(kc0, .object "java/lang/Object"), (kc2, .object "java/lang/Object"), (kc1, .object "java/lang/Object")]) hP hD hK [15, 14, 5] [0, 2] rfl hk2440 hF2436 hB2440.1 ht2440 hvm2440 rfl rfl
  have hG : s.heap.size + 2471 ≤ H2440.size := Nat.le_trans hG hz2440
  refine W.eq (g2 := F0 m 58 ls [.ref (z.2.2.1 128)]) (by rw [hr2440]) ?_
  refine va_castE (nm := "java/lang/Integer") hx hb hown (hts _ q_320) (va_Orecv (hX.2.2.1.1.1 128 (by decide)) hS) dX9_shown_58 ?_
  have hM2444 := k74_intValue l hl9 dC dI z H2440.size
  obtain ⟨hF2442, hC2445⟩ := pc_M hM2444 hP hD hK hS hX hT hA [] [] rfl rfl rfl
  refine va_calli (va_runV (As := []) (rest := []) ⟨hx, hb, hml, hown, hts⟩ hM2444 (cwV 0 hts (gV q_323 q_324 q_325 q_297 q_322) rfl rfl rfl hV_J6_intValue_8abf5 ⟨Nat.le_of_ble_eq_true rfl, Nat.le_of_ble_eq_true rfl⟩) ⟨pc_blind, va_Orecv (hX.2.2.1.1.1 128 (by decide)) hS, fun U hU hW => ⟨rfl, hC2445 U hU hW⟩⟩ rfl rfl hl.1 rfl (lv_room (Nat.le_of_ble_eq_true rfl)) dX9_shown_61 ⟨(Nat.le_of_ble_eq_true rfl), (Nat.le_of_ble_eq_true rfl)⟩) hS (fun q9 _ h9 => hF2442 q9 h9) hF2442 (fun r2447 u2446 t2446 H2446 L2446 ht2446 hvm2446 hw2446 hB2446 hz2446 hk2446 hS => ?_)
  have hP := pq_keep hP hD [] rfl hk2446 hB2446.1 ht2446
  have hG : s.heap.size + 2471 ≤ H2446.size := Nat.le_trans hG hz2446
  refine W.eq (g2 := F0 m 64 ls [.int 0]) (by rw [hw2446]) ?_
  refine lv_istore (lv' := [(6, .int 0), (5, .ref a2429), (4, .int 0), (3, .int 49), (1, .int 0), (2, .int 6), (0, .ref h0)]) hx hb dX9_shown_64 hl (by decide) rfl (fun ls hl => ?_)
  refine lv_iload hx hb dX9_shown_66 (lv_at hl 2 rfl) ?_
  refine lv_if_ne (tgt := 82) hx hb dX9_shown_68 (by decide) (fun cz => absurd (by decide) cz) (fun _ => ?_)
  refine lv_aload_n hx hb dX9_shown_71 rfl (lv_at hl 6 rfl) ?_
  refine lv_iload_n hx hb dX9_shown_72 rfl (lv_at hl 5 rfl) ?_
  refine lv_iload_n hx hb dX9_shown_73 rfl (lv_at hl 3 rfl) ?_
  refine lv_iload hx hb dX9_shown_74 (lv_at hl 0 rfl) ?_
  have hM2450 := k985_showsIt l hl9 dC dI z h0 h1 h2 h4 h5 h7 h8 h9 h10 h11 h12 h13 h14 h3 H2446.size kc0 kc2
  obtain ⟨hF2448, hC2451⟩ := pc_M hM2450 hP hD hK hS hX hT hA [0, 1, 2, 3, 4, 5, 6, 7, 8, 9, 10, 11, 12] [0, 1] rfl rfl rfl
  refine va_calli (va_runV (As := [.int 6, .int 49, .int 0]) (rest := []) ⟨hx, hb, hml, hown, hts⟩ hM2450 (cwV 3 hts (gV q_429 q_430 q_431 q_60 q_428) rfl rfl rfl hV_X9_showsIt ⟨Nat.le_of_ble_eq_true rfl, Nat.le_of_ble_eq_true rfl⟩) ⟨pc_blind, va_recv hK hP (ci := 8) (q := (RX9, TX9, 6)) (q0 := 0) rfl rfl, fun U hU hW => ⟨rfl, hC2451 U hU hW⟩⟩ rfl rfl hl.1 rfl (lv_room (Nat.le_of_ble_eq_true rfl)) dX9_shown_76 ⟨(Nat.le_of_ble_eq_true rfl), (Nat.le_of_ble_eq_true rfl)⟩) hS (fun q9 _ h9 => hF2448 q9 h9) hF2448 (fun r2453 u2452 t2452 H2452 L2452 ht2452 hvm2452 hw2452 hB2452 hz2452 hk2452 hS => ?_)
  have hP := pq_keep hP hD [0, 1, 2, 3, 4, 5, 6, 7, 8, 9, 10, 11, 12] rfl hk2452 hB2452.1 ht2452
  have hG : s.heap.size + 2498 ≤ H2452.size := va_gr (g := 2471) (g1 := 27) hG (by rw [← ht2452]; exact hB2452.2)
  refine W.eq (g2 := F0 m 79 ls [.int 0]) (by rw [hw2452]) ?_
  refine W.widen (k := 2498) (n := 23240) (by decide) (by decide) ?_
  refine lv_if_eq (tgt := 86) hx hb dX9_shown_79 (by decide) (fun _ => ?_) (fun cz => absurd (by decide) cz)
  refine lv_iconst (v := 0) hx hb dX9_shown_86 (by decide) ?_
  refine lv_istore (lv' := [(4, .int 0), (6, .int 0), (5, .ref a2429), (3, .int 49), (1, .int 0), (2, .int 6), (0, .ref h0)]) hx hb dX9_shown_87 hl (by decide) rfl (fun ls hl => ?_)
  refine lv_goto (tgt := 41) hx hb dX9_shown_89 (by decide) ?_
  refine lv_aload hx hb dX9_shown_41 (lv_at hl 2 rfl) ?_
  have hM2456 := k728_hasNext l hl9 dC dI z a2429 h3 h6 H2452.size
  obtain ⟨hF2454, hC2457⟩ := pc_M hM2456 hP hD hK hS hX hT hA [13, 14] [] rfl rfl rfl
  refine va_callFi (va_runF (As := []) (rest := []) (hK.1 1 (RJx35411, TJx35411, 4) rfl).2 ⟨hx, hb, hml, hown, hts⟩ hM2456 (va_cwF 0 hts (gF q_261 q_262 q_263 q_246 q_260) rfl rfl rfl hT.2.2.2.2.2.2.1 hF_xIh ⟨Nat.le_of_ble_eq_true rfl, Nat.le_of_ble_eq_true rfl⟩) ⟨pc_blind, va_recv hK hP (ci := 1) (q := (RJx35411, TJx35411, 4)) (q0 := 13) rfl rfl, fun U hU hW => ⟨rfl, hC2457 U hU hW⟩⟩ rfl rfl hl.1 rfl (lv_room (Nat.le_of_ble_eq_true rfl)) dX9_shown_43 ⟨(Nat.le_of_ble_eq_true rfl), (Nat.le_of_ble_eq_true rfl)⟩) hS (fun q9 _ h9 => hF2454 q9 h9) hF2454 (fun r2459 u2458 t2458 H2458 L2458 ht2458 hvm2458 hw2458 hB2458 hz2458 hk2458 hS => ?_)
  have hP := pq_keep hP hD [13, 14] rfl hk2458 hB2458.1 ht2458
  have hG : s.heap.size + 2498 ≤ H2458.size := Nat.le_trans hG hz2458
  refine W.eq (g2 := F0 m 48 ls [.int 1]) (by rw [hw2458]) ?_
  refine lv_if_eq (tgt := 92) hx hb dX9_shown_48 (by decide) (fun cz => absurd cz (by decide)) (fun _ => ?_)
  refine lv_aload hx hb dX9_shown_51 (lv_at hl 2 rfl) ?_
  have hM2462 := k954_next l hl9 dC dI z a2429 h3 h6 H2458.size kc1
  obtain ⟨hF2460, hC2463⟩ := pc_M hM2462 hP hD hK hS hX hT hA [13, 14, 15] [2] rfl rfl rfl
  refine va_callFr (va_runF (As := []) (rest := []) (hK.1 1 (RJx35411, TJx35411, 4) rfl).2 ⟨hx, hb, hml, hown, hts⟩ hM2462 (va_cwF 0 hts (gF q_308 q_309 q_310 q_246 q_307) rfl rfl rfl hT.2.2.2.2.2.2.2.1 hF_xIn ⟨Nat.le_of_ble_eq_true rfl, Nat.le_of_ble_eq_true rfl⟩) ⟨pc_blind, va_recv hK hP (ci := 1) (q := (RJx35411, TJx35411, 4)) (q0 := 13) rfl rfl, fun U hU hW => ⟨rfl, hC2463 U hU hW⟩⟩ rfl rfl hl.1 rfl (lv_room (Nat.le_of_ble_eq_true rfl)) dX9_shown_53 ⟨(Nat.le_of_ble_eq_true rfl), (Nat.le_of_ble_eq_true rfl)⟩) hS (fun q9 _ h9 => hF2460 q9 h9) hF2460 (fun u2464 r2465 t2464 H2464 L2464 ht2464 hvm2464 hw2464 hB2464 hz2464 hk2464 hS => ?_)
  obtain ⟨hr2464, hB2464⟩ := hB2464
  obtain ⟨hP, hD, hK⟩ := pq_jn (wz := [(h0, ce21 h1 h2 h3 h4), (h1, ce331 h5), (h2, ce3 z.1), (h4, ce366 h7), (h5, ce330 kc0 h8 h9 h10 h11 h12 h13 h14), (h7, ce330 kc2 (z.2.2.1 128) (z.2.2.1 129) (z.2.2.1 130) (z.2.2.1 131) (z.2.2.1 132) (z.2.2.1 133) (z.2.2.1 134)), (h8, ce49), (h9, ce49), (h10, ce49), (h11, ce49), (h12, ce49), (h13, ce49), (h14, ce49), (a2429, ce374 h3), (h3, ce331 h6), (h6, ce330 kc1 (z.2.2.1 128) (z.2.2.1 128) (z.2.2.1 128) (z.2.2.1 128) (z.2.2.1 128) (z.2.2.1 128) (z.2.2.1 128))]) (tz := [(kc0, .object "java/lang/Object"), (kc2, .object "java/lang/Object"), (kc1, .object "java/lang/Object")]) hP hD hK [13, 14, 15] [0, 1] rfl hk2464 hF2460 hB2464.1 ht2464 hvm2464 rfl rfl
  have hG : s.heap.size + 2498 ≤ H2464.size := Nat.le_trans hG hz2464
  refine W.eq (g2 := F0 m 58 ls [.ref (z.2.2.1 128)]) (by rw [hr2464]) ?_
  refine va_castE (nm := "java/lang/Integer") hx hb hown (hts _ q_320) (va_Orecv (hX.2.2.1.1.1 128 (by decide)) hS) dX9_shown_58 ?_
  have hM2468 := k74_intValue l hl9 dC dI z H2464.size
  obtain ⟨hF2466, hC2469⟩ := pc_M hM2468 hP hD hK hS hX hT hA [] [] rfl rfl rfl
  refine va_calli (va_runV (As := []) (rest := []) ⟨hx, hb, hml, hown, hts⟩ hM2468 (cwV 0 hts (gV q_323 q_324 q_325 q_297 q_322) rfl rfl rfl hV_J6_intValue_8abf5 ⟨Nat.le_of_ble_eq_true rfl, Nat.le_of_ble_eq_true rfl⟩) ⟨pc_blind, va_Orecv (hX.2.2.1.1.1 128 (by decide)) hS, fun U hU hW => ⟨rfl, hC2469 U hU hW⟩⟩ rfl rfl hl.1 rfl (lv_room (Nat.le_of_ble_eq_true rfl)) dX9_shown_61 ⟨(Nat.le_of_ble_eq_true rfl), (Nat.le_of_ble_eq_true rfl)⟩) hS (fun q9 _ h9 => hF2466 q9 h9) hF2466 (fun r2471 u2470 t2470 H2470 L2470 ht2470 hvm2470 hw2470 hB2470 hz2470 hk2470 hS => ?_)
  have hP := pq_keep hP hD [] rfl hk2470 hB2470.1 ht2470
  have hG : s.heap.size + 2498 ≤ H2470.size := Nat.le_trans hG hz2470
  refine W.eq (g2 := F0 m 64 ls [.int 0]) (by rw [hw2470]) ?_
  refine lv_istore (lv' := [(6, .int 0), (4, .int 0), (5, .ref a2429), (3, .int 49), (1, .int 0), (2, .int 6), (0, .ref h0)]) hx hb dX9_shown_64 hl (by decide) rfl (fun ls hl => ?_)
  refine lv_iload hx hb dX9_shown_66 (lv_at hl 1 rfl) ?_
  refine lv_if_ne (tgt := 82) hx hb dX9_shown_68 (by decide) (fun cz => absurd (by decide) cz) (fun _ => ?_)
  refine lv_aload_n hx hb dX9_shown_71 rfl (lv_at hl 6 rfl) ?_
  refine lv_iload_n hx hb dX9_shown_72 rfl (lv_at hl 5 rfl) ?_
  refine lv_iload_n hx hb dX9_shown_73 rfl (lv_at hl 3 rfl) ?_
  refine lv_iload hx hb dX9_shown_74 (lv_at hl 0 rfl) ?_
  have hM2474 := k985_showsIt l hl9 dC dI z h0 h1 h2 h4 h5 h7 h8 h9 h10 h11 h12 h13 h14 h3 H2470.size kc0 kc2
  obtain ⟨hF2472, hC2475⟩ := pc_M hM2474 hP hD hK hS hX hT hA [0, 1, 2, 3, 4, 5, 6, 7, 8, 9, 10, 11, 12] [0, 1] rfl rfl rfl
  refine va_calli (va_runV (As := [.int 6, .int 49, .int 0]) (rest := []) ⟨hx, hb, hml, hown, hts⟩ hM2474 (cwV 3 hts (gV q_429 q_430 q_431 q_60 q_428) rfl rfl rfl hV_X9_showsIt ⟨Nat.le_of_ble_eq_true rfl, Nat.le_of_ble_eq_true rfl⟩) ⟨pc_blind, va_recv hK hP (ci := 8) (q := (RX9, TX9, 6)) (q0 := 0) rfl rfl, fun U hU hW => ⟨rfl, hC2475 U hU hW⟩⟩ rfl rfl hl.1 rfl (lv_room (Nat.le_of_ble_eq_true rfl)) dX9_shown_76 ⟨(Nat.le_of_ble_eq_true rfl), (Nat.le_of_ble_eq_true rfl)⟩) hS (fun q9 _ h9 => hF2472 q9 h9) hF2472 (fun r2477 u2476 t2476 H2476 L2476 ht2476 hvm2476 hw2476 hB2476 hz2476 hk2476 hS => ?_)
  have hP := pq_keep hP hD [0, 1, 2, 3, 4, 5, 6, 7, 8, 9, 10, 11, 12] rfl hk2476 hB2476.1 ht2476
  have hG : s.heap.size + 2525 ≤ H2476.size := va_gr (g := 2498) (g1 := 27) hG (by rw [← ht2476]; exact hB2476.2)
  refine W.eq (g2 := F0 m 79 ls [.int 0]) (by rw [hw2476]) ?_
  refine W.widen (k := 2525) (n := 23492) (by decide) (by decide) ?_
  refine lv_if_eq (tgt := 86) hx hb dX9_shown_79 (by decide) (fun _ => ?_) (fun cz => absurd (by decide) cz)
  refine lv_iconst (v := 0) hx hb dX9_shown_86 (by decide) ?_
  refine lv_istore (lv' := [(4, .int 0), (6, .int 0), (5, .ref a2429), (3, .int 49), (1, .int 0), (2, .int 6), (0, .ref h0)]) hx hb dX9_shown_87 hl (by decide) rfl (fun ls hl => ?_)
  refine lv_goto (tgt := 41) hx hb dX9_shown_89 (by decide) ?_
  refine lv_aload hx hb dX9_shown_41 (lv_at hl 2 rfl) ?_
  have hM2480 := k731_hasNext l hl9 dC dI z a2429 h3 h6 H2476.size
  obtain ⟨hF2478, hC2481⟩ := pc_M hM2480 hP hD hK hS hX hT hA [13, 14] [] rfl rfl rfl
  refine va_callFi (va_runF (As := []) (rest := []) (hK.1 1 (RJx35411, TJx35411, 4) rfl).2 ⟨hx, hb, hml, hown, hts⟩ hM2480 (va_cwF 0 hts (gF q_261 q_262 q_263 q_246 q_260) rfl rfl rfl hT.2.2.2.2.2.2.1 hF_xIh ⟨Nat.le_of_ble_eq_true rfl, Nat.le_of_ble_eq_true rfl⟩) ⟨pc_blind, va_recv hK hP (ci := 1) (q := (RJx35411, TJx35411, 4)) (q0 := 13) rfl rfl, fun U hU hW => ⟨rfl, hC2481 U hU hW⟩⟩ rfl rfl hl.1 rfl (lv_room (Nat.le_of_ble_eq_true rfl)) dX9_shown_43 ⟨(Nat.le_of_ble_eq_true rfl), (Nat.le_of_ble_eq_true rfl)⟩) hS (fun q9 _ h9 => hF2478 q9 h9) hF2478 (fun r2483 u2482 t2482 H2482 L2482 ht2482 hvm2482 hw2482 hB2482 hz2482 hk2482 hS => ?_)
  have hP := pq_keep hP hD [13, 14] rfl hk2482 hB2482.1 ht2482
  have hG : s.heap.size + 2525 ≤ H2482.size := Nat.le_trans hG hz2482
  refine W.eq (g2 := F0 m 48 ls [.int 1]) (by rw [hw2482]) ?_
  refine lv_if_eq (tgt := 92) hx hb dX9_shown_48 (by decide) (fun cz => absurd cz (by decide)) (fun _ => ?_)
  refine lv_aload hx hb dX9_shown_51 (lv_at hl 2 rfl) ?_
  have hM2486 := k955_next l hl9 dC dI z a2429 h3 h6 H2482.size kc1
  obtain ⟨hF2484, hC2487⟩ := pc_M hM2486 hP hD hK hS hX hT hA [13, 14, 15] [2] rfl rfl rfl
  refine va_callFr (va_runF (As := []) (rest := []) (hK.1 1 (RJx35411, TJx35411, 4) rfl).2 ⟨hx, hb, hml, hown, hts⟩ hM2486 (va_cwF 0 hts (gF q_308 q_309 q_310 q_246 q_307) rfl rfl rfl hT.2.2.2.2.2.2.2.1 hF_xIn ⟨Nat.le_of_ble_eq_true rfl, Nat.le_of_ble_eq_true rfl⟩) ⟨pc_blind, va_recv hK hP (ci := 1) (q := (RJx35411, TJx35411, 4)) (q0 := 13) rfl rfl, fun U hU hW => ⟨rfl, hC2487 U hU hW⟩⟩ rfl rfl hl.1 rfl (lv_room (Nat.le_of_ble_eq_true rfl)) dX9_shown_53 ⟨(Nat.le_of_ble_eq_true rfl), (Nat.le_of_ble_eq_true rfl)⟩) hS (fun q9 _ h9 => hF2484 q9 h9) hF2484 (fun u2488 r2489 t2488 H2488 L2488 ht2488 hvm2488 hw2488 hB2488 hz2488 hk2488 hS => ?_)
  obtain ⟨hr2488, hB2488⟩ := hB2488
  obtain ⟨hP, hD, hK⟩ := pq_jn (wz := [(h0, ce21 h1 h2 h3 h4), (h1, ce331 h5), (h2, ce3 z.1), (h4, ce366 h7), (h5, ce330 kc0 h8 h9 h10 h11 h12 h13 h14), (h7, ce330 kc2 (z.2.2.1 128) (z.2.2.1 129) (z.2.2.1 130) (z.2.2.1 131) (z.2.2.1 132) (z.2.2.1 133) (z.2.2.1 134)), (h8, ce49), (h9, ce49), (h10, ce49), (h11, ce49), (h12, ce49), (h13, ce49), (h14, ce49), (a2429, ce376 h3), (h3, ce331 h6), (h6, ce330 kc1 (z.2.2.1 128) (z.2.2.1 128) (z.2.2.1 128) (z.2.2.1 128) (z.2.2.1 128) (z.2.2.1 128) (z.2.2.1 128))]) (tz := [(kc0, .object "java/lang/Object"), (kc2, .object "java/lang/Object"), (kc1, .object "java/lang/Object")]) hP hD hK [13, 14, 15] [0, 1] rfl hk2488 hF2484 hB2488.1 ht2488 hvm2488 rfl rfl
  have hG : s.heap.size + 2525 ≤ H2488.size := Nat.le_trans hG hz2488
  refine W.eq (g2 := F0 m 58 ls [.ref (z.2.2.1 128)]) (by rw [hr2488]) ?_
  refine va_castE (nm := "java/lang/Integer") hx hb hown (hts _ q_320) (va_Orecv (hX.2.2.1.1.1 128 (by decide)) hS) dX9_shown_58 ?_
  have hM2492 := k74_intValue l hl9 dC dI z H2488.size
  obtain ⟨hF2490, hC2493⟩ := pc_M hM2492 hP hD hK hS hX hT hA [] [] rfl rfl rfl
  refine va_calli (va_runV (As := []) (rest := []) ⟨hx, hb, hml, hown, hts⟩ hM2492 (cwV 0 hts (gV q_323 q_324 q_325 q_297 q_322) rfl rfl rfl hV_J6_intValue_8abf5 ⟨Nat.le_of_ble_eq_true rfl, Nat.le_of_ble_eq_true rfl⟩) ⟨pc_blind, va_Orecv (hX.2.2.1.1.1 128 (by decide)) hS, fun U hU hW => ⟨rfl, hC2493 U hU hW⟩⟩ rfl rfl hl.1 rfl (lv_room (Nat.le_of_ble_eq_true rfl)) dX9_shown_61 ⟨(Nat.le_of_ble_eq_true rfl), (Nat.le_of_ble_eq_true rfl)⟩) hS (fun q9 _ h9 => hF2490 q9 h9) hF2490 (fun r2495 u2494 t2494 H2494 L2494 ht2494 hvm2494 hw2494 hB2494 hz2494 hk2494 hS => ?_)
  have hP := pq_keep hP hD [] rfl hk2494 hB2494.1 ht2494
  have hG : s.heap.size + 2525 ≤ H2494.size := Nat.le_trans hG hz2494
  refine W.eq (g2 := F0 m 64 ls [.int 0]) (by rw [hw2494]) ?_
  refine lv_istore (lv' := [(6, .int 0), (4, .int 0), (5, .ref a2429), (3, .int 49), (1, .int 0), (2, .int 6), (0, .ref h0)]) hx hb dX9_shown_64 hl (by decide) rfl (fun ls hl => ?_)
  refine lv_iload hx hb dX9_shown_66 (lv_at hl 1 rfl) ?_
  refine lv_if_ne (tgt := 82) hx hb dX9_shown_68 (by decide) (fun cz => absurd (by decide) cz) (fun _ => ?_)
  refine lv_aload_n hx hb dX9_shown_71 rfl (lv_at hl 6 rfl) ?_
  refine lv_iload_n hx hb dX9_shown_72 rfl (lv_at hl 5 rfl) ?_
  refine lv_iload_n hx hb dX9_shown_73 rfl (lv_at hl 3 rfl) ?_
  refine lv_iload hx hb dX9_shown_74 (lv_at hl 0 rfl) ?_
  have hM2498 := k985_showsIt l hl9 dC dI z h0 h1 h2 h4 h5 h7 h8 h9 h10 h11 h12 h13 h14 h3 H2494.size kc0 kc2
  obtain ⟨hF2496, hC2499⟩ := pc_M hM2498 hP hD hK hS hX hT hA [0, 1, 2, 3, 4, 5, 6, 7, 8, 9, 10, 11, 12] [0, 1] rfl rfl rfl
  refine va_calli (va_runV (As := [.int 6, .int 49, .int 0]) (rest := []) ⟨hx, hb, hml, hown, hts⟩ hM2498 (cwV 3 hts (gV q_429 q_430 q_431 q_60 q_428) rfl rfl rfl hV_X9_showsIt ⟨Nat.le_of_ble_eq_true rfl, Nat.le_of_ble_eq_true rfl⟩) ⟨pc_blind, va_recv hK hP (ci := 8) (q := (RX9, TX9, 6)) (q0 := 0) rfl rfl, fun U hU hW => ⟨rfl, hC2499 U hU hW⟩⟩ rfl rfl hl.1 rfl (lv_room (Nat.le_of_ble_eq_true rfl)) dX9_shown_76 ⟨(Nat.le_of_ble_eq_true rfl), (Nat.le_of_ble_eq_true rfl)⟩) hS (fun q9 _ h9 => hF2496 q9 h9) hF2496 (fun r2501 u2500 t2500 H2500 L2500 ht2500 hvm2500 hw2500 hB2500 hz2500 hk2500 hS => ?_)
  have hP := pq_keep hP hD [0, 1, 2, 3, 4, 5, 6, 7, 8, 9, 10, 11, 12] rfl hk2500 hB2500.1 ht2500
  have hG : s.heap.size + 2552 ≤ H2500.size := va_gr (g := 2525) (g1 := 27) hG (by rw [← ht2500]; exact hB2500.2)
  refine W.eq (g2 := F0 m 79 ls [.int 0]) (by rw [hw2500]) ?_
  refine W.widen (k := 2552) (n := 23744) (by decide) (by decide) ?_
  refine lv_if_eq (tgt := 86) hx hb dX9_shown_79 (by decide) (fun _ => ?_) (fun cz => absurd (by decide) cz)
  refine lv_iconst (v := 0) hx hb dX9_shown_86 (by decide) ?_
  refine lv_istore (lv' := [(4, .int 0), (6, .int 0), (5, .ref a2429), (3, .int 49), (1, .int 0), (2, .int 6), (0, .ref h0)]) hx hb dX9_shown_87 hl (by decide) rfl (fun ls hl => ?_)
  refine lv_goto (tgt := 41) hx hb dX9_shown_89 (by decide) ?_
  refine lv_aload hx hb dX9_shown_41 (lv_at hl 2 rfl) ?_
  have hM2504 := k734_hasNext l hl9 dC dI z a2429 h3 h6 H2500.size
  obtain ⟨hF2502, hC2505⟩ := pc_M hM2504 hP hD hK hS hX hT hA [13, 14] [] rfl rfl rfl
  refine va_callFi (va_runF (As := []) (rest := []) (hK.1 1 (RJx35411, TJx35411, 4) rfl).2 ⟨hx, hb, hml, hown, hts⟩ hM2504 (va_cwF 0 hts (gF q_261 q_262 q_263 q_246 q_260) rfl rfl rfl hT.2.2.2.2.2.2.1 hF_xIh ⟨Nat.le_of_ble_eq_true rfl, Nat.le_of_ble_eq_true rfl⟩) ⟨pc_blind, va_recv hK hP (ci := 1) (q := (RJx35411, TJx35411, 4)) (q0 := 13) rfl rfl, fun U hU hW => ⟨rfl, hC2505 U hU hW⟩⟩ rfl rfl hl.1 rfl (lv_room (Nat.le_of_ble_eq_true rfl)) dX9_shown_43 ⟨(Nat.le_of_ble_eq_true rfl), (Nat.le_of_ble_eq_true rfl)⟩) hS (fun q9 _ h9 => hF2502 q9 h9) hF2502 (fun r2507 u2506 t2506 H2506 L2506 ht2506 hvm2506 hw2506 hB2506 hz2506 hk2506 hS => ?_)
  have hP := pq_keep hP hD [13, 14] rfl hk2506 hB2506.1 ht2506
  have hG : s.heap.size + 2552 ≤ H2506.size := Nat.le_trans hG hz2506
  refine W.eq (g2 := F0 m 48 ls [.int 1]) (by rw [hw2506]) ?_
  refine lv_if_eq (tgt := 92) hx hb dX9_shown_48 (by decide) (fun cz => absurd cz (by decide)) (fun _ => ?_)
  refine lv_aload hx hb dX9_shown_51 (lv_at hl 2 rfl) ?_
  have hM2510 := k956_next l hl9 dC dI z a2429 h3 h6 H2506.size kc1
  obtain ⟨hF2508, hC2511⟩ := pc_M hM2510 hP hD hK hS hX hT hA [13, 14, 15] [2] rfl rfl rfl
  refine va_callFr (va_runF (As := []) (rest := []) (hK.1 1 (RJx35411, TJx35411, 4) rfl).2 ⟨hx, hb, hml, hown, hts⟩ hM2510 (va_cwF 0 hts (gF q_308 q_309 q_310 q_246 q_307) rfl rfl rfl hT.2.2.2.2.2.2.2.1 hF_xIn ⟨Nat.le_of_ble_eq_true rfl, Nat.le_of_ble_eq_true rfl⟩) ⟨pc_blind, va_recv hK hP (ci := 1) (q := (RJx35411, TJx35411, 4)) (q0 := 13) rfl rfl, fun U hU hW => ⟨rfl, hC2511 U hU hW⟩⟩ rfl rfl hl.1 rfl (lv_room (Nat.le_of_ble_eq_true rfl)) dX9_shown_53 ⟨(Nat.le_of_ble_eq_true rfl), (Nat.le_of_ble_eq_true rfl)⟩) hS (fun q9 _ h9 => hF2508 q9 h9) hF2508 (fun u2512 r2513 t2512 H2512 L2512 ht2512 hvm2512 hw2512 hB2512 hz2512 hk2512 hS => ?_)
  obtain ⟨hr2512, hB2512⟩ := hB2512
  obtain ⟨hP, hD, hK⟩ := pq_jn (wz := [(h0, ce21 h1 h2 h3 h4), (h1, ce331 h5), (h2, ce3 z.1), (h4, ce366 h7), (h5, ce330 kc0 h8 h9 h10 h11 h12 h13 h14), (h7, ce330 kc2 (z.2.2.1 128) (z.2.2.1 129) (z.2.2.1 130) (z.2.2.1 131) (z.2.2.1 132) (z.2.2.1 133) (z.2.2.1 134)), (h8, ce49), (h9, ce49), (h10, ce49), (h11, ce49), (h12, ce49), (h13, ce49), (h14, ce49), (a2429, ce378 h3), (h3, ce331 h6), (h6, ce330 kc1 (z.2.2.1 128) (z.2.2.1 128) (z.2.2.1 128) (z.2.2.1 128) (z.2.2.1 128) (z.2.2.1 128) (z.2.2.1 128))]) (tz := [(kc0, .object "java/lang/Object"), (kc2, .object "java/lang/Object"), (kc1, .object "java/lang/Object")]) hP hD hK [13, 14, 15] [0, 1] rfl hk2512 hF2508 hB2512.1 ht2512 hvm2512 rfl rfl
  have hG : s.heap.size + 2552 ≤ H2512.size := Nat.le_trans hG hz2512
  refine W.eq (g2 := F0 m 58 ls [.ref (z.2.2.1 128)]) (by rw [hr2512]) ?_
  refine va_castE (nm := "java/lang/Integer") hx hb hown (hts _ q_320) (va_Orecv (hX.2.2.1.1.1 128 (by decide)) hS) dX9_shown_58 ?_
  have hM2516 := k74_intValue l hl9 dC dI z H2512.size
  obtain ⟨hF2514, hC2517⟩ := pc_M hM2516 hP hD hK hS hX hT hA [] [] rfl rfl rfl
  refine va_calli (va_runV (As := []) (rest := []) ⟨hx, hb, hml, hown, hts⟩ hM2516 (cwV 0 hts (gV q_323 q_324 q_325 q_297 q_322) rfl rfl rfl hV_J6_intValue_8abf5 ⟨Nat.le_of_ble_eq_true rfl, Nat.le_of_ble_eq_true rfl⟩) ⟨pc_blind, va_Orecv (hX.2.2.1.1.1 128 (by decide)) hS, fun U hU hW => ⟨rfl, hC2517 U hU hW⟩⟩ rfl rfl hl.1 rfl (lv_room (Nat.le_of_ble_eq_true rfl)) dX9_shown_61 ⟨(Nat.le_of_ble_eq_true rfl), (Nat.le_of_ble_eq_true rfl)⟩) hS (fun q9 _ h9 => hF2514 q9 h9) hF2514 (fun r2519 u2518 t2518 H2518 L2518 ht2518 hvm2518 hw2518 hB2518 hz2518 hk2518 hS => ?_)
  have hP := pq_keep hP hD [] rfl hk2518 hB2518.1 ht2518
  have hG : s.heap.size + 2552 ≤ H2518.size := Nat.le_trans hG hz2518
  refine W.eq (g2 := F0 m 64 ls [.int 0]) (by rw [hw2518]) ?_
  refine lv_istore (lv' := [(6, .int 0), (4, .int 0), (5, .ref a2429), (3, .int 49), (1, .int 0), (2, .int 6), (0, .ref h0)]) hx hb dX9_shown_64 hl (by decide) rfl (fun ls hl => ?_)
  refine lv_iload hx hb dX9_shown_66 (lv_at hl 1 rfl) ?_
  refine lv_if_ne (tgt := 82) hx hb dX9_shown_68 (by decide) (fun cz => absurd (by decide) cz) (fun _ => ?_)
  refine lv_aload_n hx hb dX9_shown_71 rfl (lv_at hl 6 rfl) ?_
  refine lv_iload_n hx hb dX9_shown_72 rfl (lv_at hl 5 rfl) ?_
  refine lv_iload_n hx hb dX9_shown_73 rfl (lv_at hl 3 rfl) ?_
  refine lv_iload hx hb dX9_shown_74 (lv_at hl 0 rfl) ?_
  have hM2522 := k985_showsIt l hl9 dC dI z h0 h1 h2 h4 h5 h7 h8 h9 h10 h11 h12 h13 h14 h3 H2518.size kc0 kc2
  obtain ⟨hF2520, hC2523⟩ := pc_M hM2522 hP hD hK hS hX hT hA [0, 1, 2, 3, 4, 5, 6, 7, 8, 9, 10, 11, 12] [0, 1] rfl rfl rfl
  refine va_calli (va_runV (As := [.int 6, .int 49, .int 0]) (rest := []) ⟨hx, hb, hml, hown, hts⟩ hM2522 (cwV 3 hts (gV q_429 q_430 q_431 q_60 q_428) rfl rfl rfl hV_X9_showsIt ⟨Nat.le_of_ble_eq_true rfl, Nat.le_of_ble_eq_true rfl⟩) ⟨pc_blind, va_recv hK hP (ci := 8) (q := (RX9, TX9, 6)) (q0 := 0) rfl rfl, fun U hU hW => ⟨rfl, hC2523 U hU hW⟩⟩ rfl rfl hl.1 rfl (lv_room (Nat.le_of_ble_eq_true rfl)) dX9_shown_76 ⟨(Nat.le_of_ble_eq_true rfl), (Nat.le_of_ble_eq_true rfl)⟩) hS (fun q9 _ h9 => hF2520 q9 h9) hF2520 (fun r2525 u2524 t2524 H2524 L2524 ht2524 hvm2524 hw2524 hB2524 hz2524 hk2524 hS => ?_)
  have hP := pq_keep hP hD [0, 1, 2, 3, 4, 5, 6, 7, 8, 9, 10, 11, 12] rfl hk2524 hB2524.1 ht2524
  have hG : s.heap.size + 2579 ≤ H2524.size := va_gr (g := 2552) (g1 := 27) hG (by rw [← ht2524]; exact hB2524.2)
  refine W.eq (g2 := F0 m 79 ls [.int 0]) (by rw [hw2524]) ?_
  refine W.widen (k := 2579) (n := 23996) (by decide) (by decide) ?_
  refine lv_if_eq (tgt := 86) hx hb dX9_shown_79 (by decide) (fun _ => ?_) (fun cz => absurd (by decide) cz)
  refine lv_iconst (v := 0) hx hb dX9_shown_86 (by decide) ?_
  refine lv_istore (lv' := [(4, .int 0), (6, .int 0), (5, .ref a2429), (3, .int 49), (1, .int 0), (2, .int 6), (0, .ref h0)]) hx hb dX9_shown_87 hl (by decide) rfl (fun ls hl => ?_)
  refine lv_goto (tgt := 41) hx hb dX9_shown_89 (by decide) ?_
  refine lv_aload hx hb dX9_shown_41 (lv_at hl 2 rfl) ?_
  have hM2528 := k737_hasNext l hl9 dC dI z a2429 h3 h6 H2524.size
  obtain ⟨hF2526, hC2529⟩ := pc_M hM2528 hP hD hK hS hX hT hA [13, 14] [] rfl rfl rfl
  refine va_callFi (va_runF (As := []) (rest := []) (hK.1 1 (RJx35411, TJx35411, 4) rfl).2 ⟨hx, hb, hml, hown, hts⟩ hM2528 (va_cwF 0 hts (gF q_261 q_262 q_263 q_246 q_260) rfl rfl rfl hT.2.2.2.2.2.2.1 hF_xIh ⟨Nat.le_of_ble_eq_true rfl, Nat.le_of_ble_eq_true rfl⟩) ⟨pc_blind, va_recv hK hP (ci := 1) (q := (RJx35411, TJx35411, 4)) (q0 := 13) rfl rfl, fun U hU hW => ⟨rfl, hC2529 U hU hW⟩⟩ rfl rfl hl.1 rfl (lv_room (Nat.le_of_ble_eq_true rfl)) dX9_shown_43 ⟨(Nat.le_of_ble_eq_true rfl), (Nat.le_of_ble_eq_true rfl)⟩) hS (fun q9 _ h9 => hF2526 q9 h9) hF2526 (fun r2531 u2530 t2530 H2530 L2530 ht2530 hvm2530 hw2530 hB2530 hz2530 hk2530 hS => ?_)
  have hP := pq_keep hP hD [13, 14] rfl hk2530 hB2530.1 ht2530
  have hG : s.heap.size + 2579 ≤ H2530.size := Nat.le_trans hG hz2530
  refine W.eq (g2 := F0 m 48 ls [.int 1]) (by rw [hw2530]) ?_
  refine lv_if_eq (tgt := 92) hx hb dX9_shown_48 (by decide) (fun cz => absurd cz (by decide)) (fun _ => ?_)
  refine lv_aload hx hb dX9_shown_51 (lv_at hl 2 rfl) ?_
  have hM2534 := k957_next l hl9 dC dI z a2429 h3 h6 H2530.size kc1
  obtain ⟨hF2532, hC2535⟩ := pc_M hM2534 hP hD hK hS hX hT hA [13, 14, 15] [2] rfl rfl rfl
  refine va_callFr (va_runF (As := []) (rest := []) (hK.1 1 (RJx35411, TJx35411, 4) rfl).2 ⟨hx, hb, hml, hown, hts⟩ hM2534 (va_cwF 0 hts (gF q_308 q_309 q_310 q_246 q_307) rfl rfl rfl hT.2.2.2.2.2.2.2.1 hF_xIn ⟨Nat.le_of_ble_eq_true rfl, Nat.le_of_ble_eq_true rfl⟩) ⟨pc_blind, va_recv hK hP (ci := 1) (q := (RJx35411, TJx35411, 4)) (q0 := 13) rfl rfl, fun U hU hW => ⟨rfl, hC2535 U hU hW⟩⟩ rfl rfl hl.1 rfl (lv_room (Nat.le_of_ble_eq_true rfl)) dX9_shown_53 ⟨(Nat.le_of_ble_eq_true rfl), (Nat.le_of_ble_eq_true rfl)⟩) hS (fun q9 _ h9 => hF2532 q9 h9) hF2532 (fun u2536 r2537 t2536 H2536 L2536 ht2536 hvm2536 hw2536 hB2536 hz2536 hk2536 hS => ?_)
  obtain ⟨hr2536, hB2536⟩ := hB2536
  obtain ⟨hP, hD, hK⟩ := pq_jn (wz := [(h0, ce21 h1 h2 h3 h4), (h1, ce331 h5), (h2, ce3 z.1), (h4, ce366 h7), (h5, ce330 kc0 h8 h9 h10 h11 h12 h13 h14), (h7, ce330 kc2 (z.2.2.1 128) (z.2.2.1 129) (z.2.2.1 130) (z.2.2.1 131) (z.2.2.1 132) (z.2.2.1 133) (z.2.2.1 134)), (h8, ce49), (h9, ce49), (h10, ce49), (h11, ce49), (h12, ce49), (h13, ce49), (h14, ce49), (a2429, ce380 h3), (h3, ce331 h6), (h6, ce330 kc1 (z.2.2.1 128) (z.2.2.1 128) (z.2.2.1 128) (z.2.2.1 128) (z.2.2.1 128) (z.2.2.1 128) (z.2.2.1 128))]) (tz := [(kc0, .object "java/lang/Object"), (kc2, .object "java/lang/Object"), (kc1, .object "java/lang/Object")]) hP hD hK [13, 14, 15] [0, 1] rfl hk2536 hF2532 hB2536.1 ht2536 hvm2536 rfl rfl
  have hG : s.heap.size + 2579 ≤ H2536.size := Nat.le_trans hG hz2536
  refine W.eq (g2 := F0 m 58 ls [.ref (z.2.2.1 128)]) (by rw [hr2536]) ?_
  refine va_castE (nm := "java/lang/Integer") hx hb hown (hts _ q_320) (va_Orecv (hX.2.2.1.1.1 128 (by decide)) hS) dX9_shown_58 ?_
  have hM2540 := k74_intValue l hl9 dC dI z H2536.size
  obtain ⟨hF2538, hC2541⟩ := pc_M hM2540 hP hD hK hS hX hT hA [] [] rfl rfl rfl
  refine va_calli (va_runV (As := []) (rest := []) ⟨hx, hb, hml, hown, hts⟩ hM2540 (cwV 0 hts (gV q_323 q_324 q_325 q_297 q_322) rfl rfl rfl hV_J6_intValue_8abf5 ⟨Nat.le_of_ble_eq_true rfl, Nat.le_of_ble_eq_true rfl⟩) ⟨pc_blind, va_Orecv (hX.2.2.1.1.1 128 (by decide)) hS, fun U hU hW => ⟨rfl, hC2541 U hU hW⟩⟩ rfl rfl hl.1 rfl (lv_room (Nat.le_of_ble_eq_true rfl)) dX9_shown_61 ⟨(Nat.le_of_ble_eq_true rfl), (Nat.le_of_ble_eq_true rfl)⟩) hS (fun q9 _ h9 => hF2538 q9 h9) hF2538 (fun r2543 u2542 t2542 H2542 L2542 ht2542 hvm2542 hw2542 hB2542 hz2542 hk2542 hS => ?_)
  have hP := pq_keep hP hD [] rfl hk2542 hB2542.1 ht2542
  have hG : s.heap.size + 2579 ≤ H2542.size := Nat.le_trans hG hz2542
  refine W.eq (g2 := F0 m 64 ls [.int 0]) (by rw [hw2542]) ?_
  refine lv_istore (lv' := [(6, .int 0), (4, .int 0), (5, .ref a2429), (3, .int 49), (1, .int 0), (2, .int 6), (0, .ref h0)]) hx hb dX9_shown_64 hl (by decide) rfl (fun ls hl => ?_)
  refine lv_iload hx hb dX9_shown_66 (lv_at hl 1 rfl) ?_
  refine lv_if_ne (tgt := 82) hx hb dX9_shown_68 (by decide) (fun cz => absurd (by decide) cz) (fun _ => ?_)
  refine lv_aload_n hx hb dX9_shown_71 rfl (lv_at hl 6 rfl) ?_
  refine lv_iload_n hx hb dX9_shown_72 rfl (lv_at hl 5 rfl) ?_
  refine lv_iload_n hx hb dX9_shown_73 rfl (lv_at hl 3 rfl) ?_
  refine lv_iload hx hb dX9_shown_74 (lv_at hl 0 rfl) ?_
  have hM2546 := k985_showsIt l hl9 dC dI z h0 h1 h2 h4 h5 h7 h8 h9 h10 h11 h12 h13 h14 h3 H2542.size kc0 kc2
  obtain ⟨hF2544, hC2547⟩ := pc_M hM2546 hP hD hK hS hX hT hA [0, 1, 2, 3, 4, 5, 6, 7, 8, 9, 10, 11, 12] [0, 1] rfl rfl rfl
  refine va_calli (va_runV (As := [.int 6, .int 49, .int 0]) (rest := []) ⟨hx, hb, hml, hown, hts⟩ hM2546 (cwV 3 hts (gV q_429 q_430 q_431 q_60 q_428) rfl rfl rfl hV_X9_showsIt ⟨Nat.le_of_ble_eq_true rfl, Nat.le_of_ble_eq_true rfl⟩) ⟨pc_blind, va_recv hK hP (ci := 8) (q := (RX9, TX9, 6)) (q0 := 0) rfl rfl, fun U hU hW => ⟨rfl, hC2547 U hU hW⟩⟩ rfl rfl hl.1 rfl (lv_room (Nat.le_of_ble_eq_true rfl)) dX9_shown_76 ⟨(Nat.le_of_ble_eq_true rfl), (Nat.le_of_ble_eq_true rfl)⟩) hS (fun q9 _ h9 => hF2544 q9 h9) hF2544 (fun r2549 u2548 t2548 H2548 L2548 ht2548 hvm2548 hw2548 hB2548 hz2548 hk2548 hS => ?_)
  have hP := pq_keep hP hD [0, 1, 2, 3, 4, 5, 6, 7, 8, 9, 10, 11, 12] rfl hk2548 hB2548.1 ht2548
  have hG : s.heap.size + 2606 ≤ H2548.size := va_gr (g := 2579) (g1 := 27) hG (by rw [← ht2548]; exact hB2548.2)
  refine W.eq (g2 := F0 m 79 ls [.int 0]) (by rw [hw2548]) ?_
  refine W.widen (k := 2606) (n := 24248) (by decide) (by decide) ?_
  refine lv_if_eq (tgt := 86) hx hb dX9_shown_79 (by decide) (fun _ => ?_) (fun cz => absurd (by decide) cz)
  refine lv_iconst (v := 0) hx hb dX9_shown_86 (by decide) ?_
  refine lv_istore (lv' := [(4, .int 0), (6, .int 0), (5, .ref a2429), (3, .int 49), (1, .int 0), (2, .int 6), (0, .ref h0)]) hx hb dX9_shown_87 hl (by decide) rfl (fun ls hl => ?_)
  refine lv_goto (tgt := 41) hx hb dX9_shown_89 (by decide) ?_
  refine lv_aload hx hb dX9_shown_41 (lv_at hl 2 rfl) ?_
  have hM2552 := k740_hasNext l hl9 dC dI z a2429 h3 h6 H2548.size
  obtain ⟨hF2550, hC2553⟩ := pc_M hM2552 hP hD hK hS hX hT hA [13, 14] [] rfl rfl rfl
  refine va_callFi (va_runF (As := []) (rest := []) (hK.1 1 (RJx35411, TJx35411, 4) rfl).2 ⟨hx, hb, hml, hown, hts⟩ hM2552 (va_cwF 0 hts (gF q_261 q_262 q_263 q_246 q_260) rfl rfl rfl hT.2.2.2.2.2.2.1 hF_xIh ⟨Nat.le_of_ble_eq_true rfl, Nat.le_of_ble_eq_true rfl⟩) ⟨pc_blind, va_recv hK hP (ci := 1) (q := (RJx35411, TJx35411, 4)) (q0 := 13) rfl rfl, fun U hU hW => ⟨rfl, hC2553 U hU hW⟩⟩ rfl rfl hl.1 rfl (lv_room (Nat.le_of_ble_eq_true rfl)) dX9_shown_43 ⟨(Nat.le_of_ble_eq_true rfl), (Nat.le_of_ble_eq_true rfl)⟩) hS (fun q9 _ h9 => hF2550 q9 h9) hF2550 (fun r2555 u2554 t2554 H2554 L2554 ht2554 hvm2554 hw2554 hB2554 hz2554 hk2554 hS => ?_)
  have hP := pq_keep hP hD [13, 14] rfl hk2554 hB2554.1 ht2554
  have hG : s.heap.size + 2606 ≤ H2554.size := Nat.le_trans hG hz2554
  refine W.eq (g2 := F0 m 48 ls [.int 1]) (by rw [hw2554]) ?_
  refine lv_if_eq (tgt := 92) hx hb dX9_shown_48 (by decide) (fun cz => absurd cz (by decide)) (fun _ => ?_)
  refine lv_aload hx hb dX9_shown_51 (lv_at hl 2 rfl) ?_
  have hM2558 := k958_next l hl9 dC dI z a2429 h3 h6 H2554.size kc1
  obtain ⟨hF2556, hC2559⟩ := pc_M hM2558 hP hD hK hS hX hT hA [13, 14, 15] [2] rfl rfl rfl
  refine va_callFr (va_runF (As := []) (rest := []) (hK.1 1 (RJx35411, TJx35411, 4) rfl).2 ⟨hx, hb, hml, hown, hts⟩ hM2558 (va_cwF 0 hts (gF q_308 q_309 q_310 q_246 q_307) rfl rfl rfl hT.2.2.2.2.2.2.2.1 hF_xIn ⟨Nat.le_of_ble_eq_true rfl, Nat.le_of_ble_eq_true rfl⟩) ⟨pc_blind, va_recv hK hP (ci := 1) (q := (RJx35411, TJx35411, 4)) (q0 := 13) rfl rfl, fun U hU hW => ⟨rfl, hC2559 U hU hW⟩⟩ rfl rfl hl.1 rfl (lv_room (Nat.le_of_ble_eq_true rfl)) dX9_shown_53 ⟨(Nat.le_of_ble_eq_true rfl), (Nat.le_of_ble_eq_true rfl)⟩) hS (fun q9 _ h9 => hF2556 q9 h9) hF2556 (fun u2560 r2561 t2560 H2560 L2560 ht2560 hvm2560 hw2560 hB2560 hz2560 hk2560 hS => ?_)
  obtain ⟨hr2560, hB2560⟩ := hB2560
  obtain ⟨hP, hD, hK⟩ := pq_jn (wz := [(h0, ce21 h1 h2 h3 h4), (h1, ce331 h5), (h2, ce3 z.1), (h4, ce366 h7), (h5, ce330 kc0 h8 h9 h10 h11 h12 h13 h14), (h7, ce330 kc2 (z.2.2.1 128) (z.2.2.1 129) (z.2.2.1 130) (z.2.2.1 131) (z.2.2.1 132) (z.2.2.1 133) (z.2.2.1 134)), (h8, ce49), (h9, ce49), (h10, ce49), (h11, ce49), (h12, ce49), (h13, ce49), (h14, ce49), (a2429, ce382 h3), (h3, ce331 h6), (h6, ce330 kc1 (z.2.2.1 128) (z.2.2.1 128) (z.2.2.1 128) (z.2.2.1 128) (z.2.2.1 128) (z.2.2.1 128) (z.2.2.1 128))]) (tz := [(kc0, .object "java/lang/Object"), (kc2, .object "java/lang/Object"), (kc1, .object "java/lang/Object")]) hP hD hK [13, 14, 15] [0, 1] rfl hk2560 hF2556 hB2560.1 ht2560 hvm2560 rfl rfl
  have hG : s.heap.size + 2606 ≤ H2560.size := Nat.le_trans hG hz2560
  refine W.eq (g2 := F0 m 58 ls [.ref (z.2.2.1 128)]) (by rw [hr2560]) ?_
  refine va_castE (nm := "java/lang/Integer") hx hb hown (hts _ q_320) (va_Orecv (hX.2.2.1.1.1 128 (by decide)) hS) dX9_shown_58 ?_
  have hM2564 := k74_intValue l hl9 dC dI z H2560.size
  obtain ⟨hF2562, hC2565⟩ := pc_M hM2564 hP hD hK hS hX hT hA [] [] rfl rfl rfl
  refine va_calli (va_runV (As := []) (rest := []) ⟨hx, hb, hml, hown, hts⟩ hM2564 (cwV 0 hts (gV q_323 q_324 q_325 q_297 q_322) rfl rfl rfl hV_J6_intValue_8abf5 ⟨Nat.le_of_ble_eq_true rfl, Nat.le_of_ble_eq_true rfl⟩) ⟨pc_blind, va_Orecv (hX.2.2.1.1.1 128 (by decide)) hS, fun U hU hW => ⟨rfl, hC2565 U hU hW⟩⟩ rfl rfl hl.1 rfl (lv_room (Nat.le_of_ble_eq_true rfl)) dX9_shown_61 ⟨(Nat.le_of_ble_eq_true rfl), (Nat.le_of_ble_eq_true rfl)⟩) hS (fun q9 _ h9 => hF2562 q9 h9) hF2562 (fun r2567 u2566 t2566 H2566 L2566 ht2566 hvm2566 hw2566 hB2566 hz2566 hk2566 hS => ?_)
  have hP := pq_keep hP hD [] rfl hk2566 hB2566.1 ht2566
  have hG : s.heap.size + 2606 ≤ H2566.size := Nat.le_trans hG hz2566
  refine W.eq (g2 := F0 m 64 ls [.int 0]) (by rw [hw2566]) ?_
  refine lv_istore (lv' := [(6, .int 0), (4, .int 0), (5, .ref a2429), (3, .int 49), (1, .int 0), (2, .int 6), (0, .ref h0)]) hx hb dX9_shown_64 hl (by decide) rfl (fun ls hl => ?_)
  refine lv_iload hx hb dX9_shown_66 (lv_at hl 1 rfl) ?_
  refine lv_if_ne (tgt := 82) hx hb dX9_shown_68 (by decide) (fun cz => absurd (by decide) cz) (fun _ => ?_)
  refine lv_aload_n hx hb dX9_shown_71 rfl (lv_at hl 6 rfl) ?_
  refine lv_iload_n hx hb dX9_shown_72 rfl (lv_at hl 5 rfl) ?_
  refine lv_iload_n hx hb dX9_shown_73 rfl (lv_at hl 3 rfl) ?_
  refine lv_iload hx hb dX9_shown_74 (lv_at hl 0 rfl) ?_
  have hM2570 := k985_showsIt l hl9 dC dI z h0 h1 h2 h4 h5 h7 h8 h9 h10 h11 h12 h13 h14 h3 H2566.size kc0 kc2
  obtain ⟨hF2568, hC2571⟩ := pc_M hM2570 hP hD hK hS hX hT hA [0, 1, 2, 3, 4, 5, 6, 7, 8, 9, 10, 11, 12] [0, 1] rfl rfl rfl
  refine va_calli (va_runV (As := [.int 6, .int 49, .int 0]) (rest := []) ⟨hx, hb, hml, hown, hts⟩ hM2570 (cwV 3 hts (gV q_429 q_430 q_431 q_60 q_428) rfl rfl rfl hV_X9_showsIt ⟨Nat.le_of_ble_eq_true rfl, Nat.le_of_ble_eq_true rfl⟩) ⟨pc_blind, va_recv hK hP (ci := 8) (q := (RX9, TX9, 6)) (q0 := 0) rfl rfl, fun U hU hW => ⟨rfl, hC2571 U hU hW⟩⟩ rfl rfl hl.1 rfl (lv_room (Nat.le_of_ble_eq_true rfl)) dX9_shown_76 ⟨(Nat.le_of_ble_eq_true rfl), (Nat.le_of_ble_eq_true rfl)⟩) hS (fun q9 _ h9 => hF2568 q9 h9) hF2568 (fun r2573 u2572 t2572 H2572 L2572 ht2572 hvm2572 hw2572 hB2572 hz2572 hk2572 hS => ?_)
  have hP := pq_keep hP hD [0, 1, 2, 3, 4, 5, 6, 7, 8, 9, 10, 11, 12] rfl hk2572 hB2572.1 ht2572
  have hG : s.heap.size + 2633 ≤ H2572.size := va_gr (g := 2606) (g1 := 27) hG (by rw [← ht2572]; exact hB2572.2)
  refine W.eq (g2 := F0 m 79 ls [.int 0]) (by rw [hw2572]) ?_
  refine W.widen (k := 2633) (n := 24500) (by decide) (by decide) ?_
  refine lv_if_eq (tgt := 86) hx hb dX9_shown_79 (by decide) (fun _ => ?_) (fun cz => absurd (by decide) cz)
  refine lv_iconst (v := 0) hx hb dX9_shown_86 (by decide) ?_
  refine lv_istore (lv' := [(4, .int 0), (6, .int 0), (5, .ref a2429), (3, .int 49), (1, .int 0), (2, .int 6), (0, .ref h0)]) hx hb dX9_shown_87 hl (by decide) rfl (fun ls hl => ?_)
  refine lv_goto (tgt := 41) hx hb dX9_shown_89 (by decide) ?_
  refine lv_aload hx hb dX9_shown_41 (lv_at hl 2 rfl) ?_
  have hM2576 := k743_hasNext l hl9 dC dI z a2429 h3 h6 H2572.size
  obtain ⟨hF2574, hC2577⟩ := pc_M hM2576 hP hD hK hS hX hT hA [13, 14] [] rfl rfl rfl
  refine va_callFi (va_runF (As := []) (rest := []) (hK.1 1 (RJx35411, TJx35411, 4) rfl).2 ⟨hx, hb, hml, hown, hts⟩ hM2576 (va_cwF 0 hts (gF q_261 q_262 q_263 q_246 q_260) rfl rfl rfl hT.2.2.2.2.2.2.1 hF_xIh ⟨Nat.le_of_ble_eq_true rfl, Nat.le_of_ble_eq_true rfl⟩) ⟨pc_blind, va_recv hK hP (ci := 1) (q := (RJx35411, TJx35411, 4)) (q0 := 13) rfl rfl, fun U hU hW => ⟨rfl, hC2577 U hU hW⟩⟩ rfl rfl hl.1 rfl (lv_room (Nat.le_of_ble_eq_true rfl)) dX9_shown_43 ⟨(Nat.le_of_ble_eq_true rfl), (Nat.le_of_ble_eq_true rfl)⟩) hS (fun q9 _ h9 => hF2574 q9 h9) hF2574 (fun r2579 u2578 t2578 H2578 L2578 ht2578 hvm2578 hw2578 hB2578 hz2578 hk2578 hS => ?_)
  have hP := pq_keep hP hD [13, 14] rfl hk2578 hB2578.1 ht2578
  have hG : s.heap.size + 2633 ≤ H2578.size := Nat.le_trans hG hz2578
  refine W.eq (g2 := F0 m 48 ls [.int 1]) (by rw [hw2578]) ?_
  refine lv_if_eq (tgt := 92) hx hb dX9_shown_48 (by decide) (fun cz => absurd cz (by decide)) (fun _ => ?_)
  refine lv_aload hx hb dX9_shown_51 (lv_at hl 2 rfl) ?_
  have hM2582 := k959_next l hl9 dC dI z a2429 h3 h6 H2578.size kc1
  obtain ⟨hF2580, hC2583⟩ := pc_M hM2582 hP hD hK hS hX hT hA [13, 14, 15] [2] rfl rfl rfl
  refine va_callFr (va_runF (As := []) (rest := []) (hK.1 1 (RJx35411, TJx35411, 4) rfl).2 ⟨hx, hb, hml, hown, hts⟩ hM2582 (va_cwF 0 hts (gF q_308 q_309 q_310 q_246 q_307) rfl rfl rfl hT.2.2.2.2.2.2.2.1 hF_xIn ⟨Nat.le_of_ble_eq_true rfl, Nat.le_of_ble_eq_true rfl⟩) ⟨pc_blind, va_recv hK hP (ci := 1) (q := (RJx35411, TJx35411, 4)) (q0 := 13) rfl rfl, fun U hU hW => ⟨rfl, hC2583 U hU hW⟩⟩ rfl rfl hl.1 rfl (lv_room (Nat.le_of_ble_eq_true rfl)) dX9_shown_53 ⟨(Nat.le_of_ble_eq_true rfl), (Nat.le_of_ble_eq_true rfl)⟩) hS (fun q9 _ h9 => hF2580 q9 h9) hF2580 (fun u2584 r2585 t2584 H2584 L2584 ht2584 hvm2584 hw2584 hB2584 hz2584 hk2584 hS => ?_)
  obtain ⟨hr2584, hB2584⟩ := hB2584
  obtain ⟨hP, hD, hK⟩ := pq_jn (wz := [(h0, ce21 h1 h2 h3 h4), (h1, ce331 h5), (h2, ce3 z.1), (h4, ce366 h7), (h5, ce330 kc0 h8 h9 h10 h11 h12 h13 h14), (h7, ce330 kc2 (z.2.2.1 128) (z.2.2.1 129) (z.2.2.1 130) (z.2.2.1 131) (z.2.2.1 132) (z.2.2.1 133) (z.2.2.1 134)), (h8, ce49), (h9, ce49), (h10, ce49), (h11, ce49), (h12, ce49), (h13, ce49), (h14, ce49), (a2429, ce384 h3), (h3, ce331 h6), (h6, ce330 kc1 (z.2.2.1 128) (z.2.2.1 128) (z.2.2.1 128) (z.2.2.1 128) (z.2.2.1 128) (z.2.2.1 128) (z.2.2.1 128))]) (tz := [(kc0, .object "java/lang/Object"), (kc2, .object "java/lang/Object"), (kc1, .object "java/lang/Object")]) hP hD hK [13, 14, 15] [0, 1] rfl hk2584 hF2580 hB2584.1 ht2584 hvm2584 rfl rfl
  have hG : s.heap.size + 2633 ≤ H2584.size := Nat.le_trans hG hz2584
  refine W.eq (g2 := F0 m 58 ls [.ref (z.2.2.1 128)]) (by rw [hr2584]) ?_
  refine va_castE (nm := "java/lang/Integer") hx hb hown (hts _ q_320) (va_Orecv (hX.2.2.1.1.1 128 (by decide)) hS) dX9_shown_58 ?_
  have hM2588 := k74_intValue l hl9 dC dI z H2584.size
  obtain ⟨hF2586, hC2589⟩ := pc_M hM2588 hP hD hK hS hX hT hA [] [] rfl rfl rfl
  refine va_calli (va_runV (As := []) (rest := []) ⟨hx, hb, hml, hown, hts⟩ hM2588 (cwV 0 hts (gV q_323 q_324 q_325 q_297 q_322) rfl rfl rfl hV_J6_intValue_8abf5 ⟨Nat.le_of_ble_eq_true rfl, Nat.le_of_ble_eq_true rfl⟩) ⟨pc_blind, va_Orecv (hX.2.2.1.1.1 128 (by decide)) hS, fun U hU hW => ⟨rfl, hC2589 U hU hW⟩⟩ rfl rfl hl.1 rfl (lv_room (Nat.le_of_ble_eq_true rfl)) dX9_shown_61 ⟨(Nat.le_of_ble_eq_true rfl), (Nat.le_of_ble_eq_true rfl)⟩) hS (fun q9 _ h9 => hF2586 q9 h9) hF2586 (fun r2591 u2590 t2590 H2590 L2590 ht2590 hvm2590 hw2590 hB2590 hz2590 hk2590 hS => ?_)
  have hP := pq_keep hP hD [] rfl hk2590 hB2590.1 ht2590
  have hG : s.heap.size + 2633 ≤ H2590.size := Nat.le_trans hG hz2590
  refine W.eq (g2 := F0 m 64 ls [.int 0]) (by rw [hw2590]) ?_
  refine lv_istore (lv' := [(6, .int 0), (4, .int 0), (5, .ref a2429), (3, .int 49), (1, .int 0), (2, .int 6), (0, .ref h0)]) hx hb dX9_shown_64 hl (by decide) rfl (fun ls hl => ?_)
  refine lv_iload hx hb dX9_shown_66 (lv_at hl 1 rfl) ?_
  refine lv_if_ne (tgt := 82) hx hb dX9_shown_68 (by decide) (fun cz => absurd (by decide) cz) (fun _ => ?_)
  refine lv_aload_n hx hb dX9_shown_71 rfl (lv_at hl 6 rfl) ?_
  refine lv_iload_n hx hb dX9_shown_72 rfl (lv_at hl 5 rfl) ?_
  refine lv_iload_n hx hb dX9_shown_73 rfl (lv_at hl 3 rfl) ?_
  refine lv_iload hx hb dX9_shown_74 (lv_at hl 0 rfl) ?_
  have hM2594 := k985_showsIt l hl9 dC dI z h0 h1 h2 h4 h5 h7 h8 h9 h10 h11 h12 h13 h14 h3 H2590.size kc0 kc2
  obtain ⟨hF2592, hC2595⟩ := pc_M hM2594 hP hD hK hS hX hT hA [0, 1, 2, 3, 4, 5, 6, 7, 8, 9, 10, 11, 12] [0, 1] rfl rfl rfl
  refine va_calli (va_runV (As := [.int 6, .int 49, .int 0]) (rest := []) ⟨hx, hb, hml, hown, hts⟩ hM2594 (cwV 3 hts (gV q_429 q_430 q_431 q_60 q_428) rfl rfl rfl hV_X9_showsIt ⟨Nat.le_of_ble_eq_true rfl, Nat.le_of_ble_eq_true rfl⟩) ⟨pc_blind, va_recv hK hP (ci := 8) (q := (RX9, TX9, 6)) (q0 := 0) rfl rfl, fun U hU hW => ⟨rfl, hC2595 U hU hW⟩⟩ rfl rfl hl.1 rfl (lv_room (Nat.le_of_ble_eq_true rfl)) dX9_shown_76 ⟨(Nat.le_of_ble_eq_true rfl), (Nat.le_of_ble_eq_true rfl)⟩) hS (fun q9 _ h9 => hF2592 q9 h9) hF2592 (fun r2597 u2596 t2596 H2596 L2596 ht2596 hvm2596 hw2596 hB2596 hz2596 hk2596 hS => ?_)
  have hP := pq_keep hP hD [0, 1, 2, 3, 4, 5, 6, 7, 8, 9, 10, 11, 12] rfl hk2596 hB2596.1 ht2596
  have hG : s.heap.size + 2660 ≤ H2596.size := va_gr (g := 2633) (g1 := 27) hG (by rw [← ht2596]; exact hB2596.2)
  refine W.eq (g2 := F0 m 79 ls [.int 0]) (by rw [hw2596]) ?_
  refine W.widen (k := 2660) (n := 24752) (by decide) (by decide) ?_
  refine lv_if_eq (tgt := 86) hx hb dX9_shown_79 (by decide) (fun _ => ?_) (fun cz => absurd (by decide) cz)
  refine lv_iconst (v := 0) hx hb dX9_shown_86 (by decide) ?_
  refine lv_istore (lv' := [(4, .int 0), (6, .int 0), (5, .ref a2429), (3, .int 49), (1, .int 0), (2, .int 6), (0, .ref h0)]) hx hb dX9_shown_87 hl (by decide) rfl (fun ls hl => ?_)
  refine lv_goto (tgt := 41) hx hb dX9_shown_89 (by decide) ?_
  refine lv_aload hx hb dX9_shown_41 (lv_at hl 2 rfl) ?_
  have hM2600 := k746_hasNext l hl9 dC dI z a2429 h3 h6 H2596.size
  obtain ⟨hF2598, hC2601⟩ := pc_M hM2600 hP hD hK hS hX hT hA [13, 14] [] rfl rfl rfl
  refine va_callFi (va_runF (As := []) (rest := []) (hK.1 1 (RJx35411, TJx35411, 4) rfl).2 ⟨hx, hb, hml, hown, hts⟩ hM2600 (va_cwF 0 hts (gF q_261 q_262 q_263 q_246 q_260) rfl rfl rfl hT.2.2.2.2.2.2.1 hF_xIh ⟨Nat.le_of_ble_eq_true rfl, Nat.le_of_ble_eq_true rfl⟩) ⟨pc_blind, va_recv hK hP (ci := 1) (q := (RJx35411, TJx35411, 4)) (q0 := 13) rfl rfl, fun U hU hW => ⟨rfl, hC2601 U hU hW⟩⟩ rfl rfl hl.1 rfl (lv_room (Nat.le_of_ble_eq_true rfl)) dX9_shown_43 ⟨(Nat.le_of_ble_eq_true rfl), (Nat.le_of_ble_eq_true rfl)⟩) hS (fun q9 _ h9 => hF2598 q9 h9) hF2598 (fun r2603 u2602 t2602 H2602 L2602 ht2602 hvm2602 hw2602 hB2602 hz2602 hk2602 hS => ?_)
  have hP := pq_keep hP hD [13, 14] rfl hk2602 hB2602.1 ht2602
  have hG : s.heap.size + 2660 ≤ H2602.size := Nat.le_trans hG hz2602
  refine W.eq (g2 := F0 m 48 ls [.int 0]) (by rw [hw2602]) ?_
  refine lv_if_eq (tgt := 92) hx hb dX9_shown_48 (by decide) (fun _ => ?_) (fun cz => absurd (by decide) cz)
  refine lv_iload_n hx hb dX9_shown_92 rfl (lv_at hl 4 rfl) ?_
  refine lv_iload hx hb dX9_shown_93 (lv_at hl 0 rfl) ?_
  refine lv_if_eq (tgt := 102) hx hb dX9_shown_95 (by decide) (fun _ => ?_) (fun cz => absurd (by decide) cz)
  refine lv_iconst (v := 0) hx hb dX9_shown_102 (by decide) ?_
  refine lv_iadd hx hb dX9_shown_103 ?_
  refine lv_topi (fun y2604 ey2604 => ?_)
  obtain rfl : y2604 = 0 := ey2604.trans (by decide)
  refine lv_istore_n (lv' := [(1, .int 0), (4, .int 0), (6, .int 0), (5, .ref a2429), (3, .int 49), (2, .int 6), (0, .ref h0)]) hx hb dX9_shown_104 rfl hl (by decide) rfl (fun ls hl => ?_)
  refine lv_iload_n hx hb dX9_shown_105 rfl (lv_at hl 4 rfl) ?_
  refine lv_iconst (v := 1) hx hb dX9_shown_106 (by decide) ?_
  refine lv_iadd hx hb dX9_shown_107 ?_
  refine lv_topi (fun y2605 ey2605 => ?_)
  obtain rfl : y2605 = 50 := ey2605.trans (by decide)
  refine lv_i2c (v := 50) hx hb dX9_shown_108 (by decide) ?_
  refine lv_istore_n (lv' := [(3, .int 50), (1, .int 0), (4, .int 0), (6, .int 0), (5, .ref a2429), (2, .int 6), (0, .ref h0)]) hx hb dX9_shown_109 rfl hl (by decide) rfl (fun ls hl => ?_)
  refine lv_goto (tgt := 23) hx hb dX9_shown_110 (by decide) ?_
  exact hend _ _ _ hS (hP.sub [0, 1, 2, 14, 3, 4, 15, 5, 6, 7, 8, 9, 10, 11, 12] rfl) (hD.sub [0, 1, 2, 14, 3, 4, 15, 5, 6, 7, 8, 9, 10, 11, 12] rfl rfl) (lv_sub hl [0, 1, 5, 6] rfl) hG

set_option maxHeartbeats 4000000 in
set_option maxRecDepth 100000 in
theorem k986_shown (l : Launch) (hl9 : l.stackTraces = false) (dC : Nat → ClassId) (dI : Nat → Nat → Nat) (z : XZ) (h0 h1 h2 h3 h4 h5 h6 h7 h8 h9 h10 h11 h12 h13 h14 : Nat) (sz : Nat) (kc0 kc1 kc2 : ClassId) : Met l yX9_shown (.code yX9_shown cX9_shown 7 (some .int) :: wsL_law) ({ frames := 5, cells := 2660, slots := 24752, locals := 121 }) (va_Pc [.ref h0] (PC (dC, dI) [(h0, ce21 h1 h2 h3 h4), (h1, ce331 h5), (h2, ce3 z.1), (h3, ce331 h6), (h4, ce366 h7), (h5, ce330 kc0 h8 h9 h10 h11 h12 h13 h14), (h6, ce330 kc1 (z.2.2.1 128) (z.2.2.1 128) (z.2.2.1 128) (z.2.2.1 128) (z.2.2.1 128) (z.2.2.1 128) (z.2.2.1 128)), (h7, ce330 kc2 (z.2.2.1 128) (z.2.2.1 129) (z.2.2.1 130) (z.2.2.1 131) (z.2.2.1 132) (z.2.2.1 133) (z.2.2.1 134)), (h8, ce49), (h9, ce49), (h10, ce49), (h11, ce49), (h12, ce49), (h13, ce49), (h14, ce49)] [(kc0, .object "java/lang/Object"), (kc1, .object "java/lang/Object"), (kc2, .object "java/lang/Object")] sz z)) (va_Qi (fun (r : Int32) (_ : Unit) => r = 0) (fun (_ : Unit) (t : State) => PG (dC, dI) [(h0, ce21 h1 h2 h3 h4), (h1, ce331 h5), (h2, ce3 z.1), (h3, ce331 h6), (h4, ce366 h7), (h5, ce330 kc0 h8 h9 h10 h11 h12 h13 h14), (h6, ce330 kc1 (z.2.2.1 128) (z.2.2.1 128) (z.2.2.1 128) (z.2.2.1 128) (z.2.2.1 128) (z.2.2.1 128) (z.2.2.1 128)), (h7, ce330 kc2 (z.2.2.1 128) (z.2.2.1 129) (z.2.2.1 130) (z.2.2.1 131) (z.2.2.1 132) (z.2.2.1 133) (z.2.2.1 134)), (h8, ce49), (h9, ce49), (h10, ce49), (h11, ce49), (h12, ce49), (h13, ce49), (h14, ce49)] [(kc0, .object "java/lang/Object"), (kc1, .object "java/lang/Object"), (kc2, .object "java/lang/Object")] (va_A [(h0, ce21 h1 h2 h3 h4), (h1, ce331 h5), (h2, ce3 z.1), (h3, ce331 h6), (h4, ce366 h7), (h5, ce330 kc0 h8 h9 h10 h11 h12 h13 h14), (h6, ce330 kc1 (z.2.2.1 128) (z.2.2.1 128) (z.2.2.1 128) (z.2.2.1 128) (z.2.2.1 128) (z.2.2.1 128) (z.2.2.1 128)), (h7, ce330 kc2 (z.2.2.1 128) (z.2.2.1 129) (z.2.2.1 130) (z.2.2.1 131) (z.2.2.1 132) (z.2.2.1 133) (z.2.2.1 134)), (h8, ce49), (h9, ce49), (h10, ce49), (h11, ce49), (h12, ce49), (h13, ce49), (h14, ce49)] sz) sz 2660 t) (va_A [(h0, ce21 h1 h2 h3 h4), (h1, ce331 h5), (h2, ce3 z.1), (h3, ce331 h6), (h4, ce366 h7), (h5, ce330 kc0 h8 h9 h10 h11 h12 h13 h14), (h6, ce330 kc1 (z.2.2.1 128) (z.2.2.1 128) (z.2.2.1 128) (z.2.2.1 128) (z.2.2.1 128) (z.2.2.1 128) (z.2.2.1 128)), (h7, ce330 kc2 (z.2.2.1 128) (z.2.2.1 129) (z.2.2.1 130) (z.2.2.1 131) (z.2.2.1 132) (z.2.2.1 133) (z.2.2.1 134)), (h8, ce49), (h9, ce49), (h10, ce49), (h11, ce49), (h12, ce49), (h13, ce49), (h14, ce49)] sz)) 2660 24752 (va_A [(h0, ce21 h1 h2 h3 h4), (h1, ce331 h5), (h2, ce3 z.1), (h3, ce331 h6), (h4, ce366 h7), (h5, ce330 kc0 h8 h9 h10 h11 h12 h13 h14), (h6, ce330 kc1 (z.2.2.1 128) (z.2.2.1 128) (z.2.2.1 128) (z.2.2.1 128) (z.2.2.1 128) (z.2.2.1 128) (z.2.2.1 128)), (h7, ce330 kc2 (z.2.2.1 128) (z.2.2.1 129) (z.2.2.1 130) (z.2.2.1 131) (z.2.2.1 132) (z.2.2.1 133) (z.2.2.1 134)), (h8, ce49), (h9, ce49), (h10, ce49), (h11, ce49), (h12, ce49), (h13, ce49), (h14, ce49)] sz) := by
  refine Met.ofW (cc := cX9_shown) (maxL := 7) (ret := (some .int)) (by decide) rfl ?_
  intro p e s m args below meth c s₁ B hml hv
  obtain ⟨rfl, hsz, hP, hK, hD0, hX, hT⟩ := hv
  have hx := B.exec
  have hb := B.bytes
  have hr := B.returns
  have hts0 := atoms_spec (ws := .code yX9_shown cX9_shown 7 (some .int) :: wsL_law) B.pre
  have hts := xTail hts0
  have hown : s.vm.findClass RX9 = some m.cls := xown B.named rfl
  have hlocks := B.notSynchronized
  subst hsz
  have hD := hD0.self (sz := s.heap.size)
  generalize hAe : va_A [(h0, ce21 h1 h2 h3 h4), (h1, ce331 h5), (h2, ce3 z.1), (h3, ce331 h6), (h4, ce366 h7), (h5, ce330 kc0 h8 h9 h10 h11 h12 h13 h14), (h6, ce330 kc1 (z.2.2.1 128) (z.2.2.1 128) (z.2.2.1 128) (z.2.2.1 128) (z.2.2.1 128) (z.2.2.1 128) (z.2.2.1 128)), (h7, ce330 kc2 (z.2.2.1 128) (z.2.2.1 129) (z.2.2.1 130) (z.2.2.1 131) (z.2.2.1 132) (z.2.2.1 133) (z.2.2.1 134)), (h8, ce49), (h9, ce49), (h10, ce49), (h11, ce49), (h12, ce49), (h13, ce49), (h14, ce49)] s.heap.size = A at hD hX ⊢
  have hA : ∀ q : Nat, s.heap.size ≤ q → A q := fun q h => by rw [← hAe]; exact Or.inr h
  have hS : va_S A s.heap s.heap [] := va_S.rf
  have hG : s.heap.size + 0 ≤ s.heap.size := Nat.le_refl _
  have hl := lv_entry ([.ref h0]) (n := 7) (Nat.le_of_ble_eq_true rfl)
  rw [lg_entry_eq]
  generalize (lg_sl ([.ref h0]) ++ List.replicate (7 - (lg_sl ([.ref h0])).length) Slot.unset).toArray = ls at hl ⊢
  have hl : lv_has ls 7 [(0, .ref h0)] := hl
  refine lv_aload_n hx hb dX9_shown_0 rfl (lv_at hl 0 rfl) ?_
  refine lv_iconst (v := 0) hx hb dX9_shown_1 (by decide) ?_
  refine va_put (D := (dC, dI)) (ci := 8) (v := .int 0) (ty := .int) (C := RX9) (T := TX9) (N := 6) hx hb hts in_X9 tyX9 tyX9_ok nmX9 hown hK hP hD (va_Sre hS) 0 rfl rfl 0 (by decide) (hts _ q_243) (fun _ h9 => h9) rfl (by decide +kernel) rfl rfl (Nat.le_of_ble_eq_true rfl) dX9_shown_2 (fun H1 _ hP hD hS' => ?_)
  have hG : s.heap.size + 0 ≤ H1.size := Nat.le_trans hG hS'.1
  have hS := va_Str hS hS'
  have hP : va_P (dC, dI) xCl [(h0, ce21 h1 h2 h3 h4), (h1, ce331 h5), (h2, ce3 z.1), (h3, ce331 h6), (h4, ce366 h7), (h5, ce330 kc0 h8 h9 h10 h11 h12 h13 h14), (h6, ce330 kc1 (z.2.2.1 128) (z.2.2.1 128) (z.2.2.1 128) (z.2.2.1 128) (z.2.2.1 128) (z.2.2.1 128) (z.2.2.1 128)), (h7, ce330 kc2 (z.2.2.1 128) (z.2.2.1 129) (z.2.2.1 130) (z.2.2.1 131) (z.2.2.1 132) (z.2.2.1 133) (z.2.2.1 134)), (h8, ce49), (h9, ce49), (h10, ce49), (h11, ce49), (h12, ce49), (h13, ce49), (h14, ce49)] H1 := hP
  have hD := vd_as hP hD rfl
  refine lv_iconst (v := 0) hx hb dX9_shown_5 (by decide) ?_
  refine lv_istore_n (lv' := [(1, .int 0), (0, .ref h0)]) hx hb dX9_shown_6 rfl hl (by decide) rfl (fun ls hl => ?_)
  refine lv_iconst (v := 0) hx hb dX9_shown_7 (by decide) ?_
  refine lv_istore_n (lv' := [(2, .int 0), (1, .int 0), (0, .ref h0)]) hx hb dX9_shown_8 rfl hl (by decide) rfl (fun ls hl => ?_)
  refine lv_iload_n hx hb dX9_shown_9 rfl (lv_at hl 0 rfl) ?_
  refine lv_aload_n hx hb dX9_shown_10 rfl (lv_at hl 2 rfl) ?_
  refine va_get (D := (dC, dI)) (ci := 8) (v := .ref h1) (C := RX9) (T := TX9) (N := 6) hx hb hts in_X9 hown hK hP 0 rfl rfl 1 (by decide) (hts _ q_64) (fun _ h9 => h9) rfl dX9_shown_11 ?_
  have hM4 := k20_size l hl9 dC dI z h1 h5 H1.size 7 7
  obtain ⟨hF2, hC5⟩ := pc_M hM4 hP hD hK hS hX hT hA [1] [] rfl rfl rfl
  refine va_calli (va_runV (As := []) (rest := [.int 0]) ⟨hx, hb, hml, hown, hts⟩ hM4 (cwV 0 hts (gV q_272 q_77 q_78 q_12 q_75) rfl rfl rfl hV_Jx4a65c_size_8abf5 ⟨Nat.le_of_ble_eq_true rfl, Nat.le_of_ble_eq_true rfl⟩) ⟨pc_blind, va_recv hK hP (ci := 0) (q := (RJx4a65c, TJx4a65c, 3)) (q0 := 1) rfl rfl, fun U hU hW => ⟨rfl, hC5 U hU hW⟩⟩ rfl rfl hl.1 rfl (lv_room (Nat.le_of_ble_eq_true rfl)) dX9_shown_14 ⟨(Nat.le_of_ble_eq_true rfl), (Nat.le_of_ble_eq_true rfl)⟩) hS (fun q9 _ h9 => hF2 q9 h9) hF2 (fun r7 u6 t6 H6 L6 ht6 hvm6 hw6 hB6 hz6 hk6 hS => ?_)
  have hP := pq_keep hP hD [1] rfl hk6 hB6.1 ht6
  have hG : s.heap.size + 0 ≤ H6.size := Nat.le_trans hG hz6
  refine W.eq (g2 := F0 m 17 ls [.int 7, .int 0]) (by rw [hw6]) ?_
  refine lv_icmp_ge (tgt := 119) hx hb dX9_shown_17 (by decide) (fun cz => absurd cz (by decide)) (fun _ => ?_)
  refine lv_bipush (v := 48) hx hb dX9_shown_20 (by decide) ?_
  refine lv_istore_n (lv' := [(3, .int 48), (2, .int 0), (1, .int 0), (0, .ref h0)]) hx hb dX9_shown_22 rfl hl (by decide) rfl (fun ls hl => ?_)
  obtain ⟨hP, hD⟩ : va_P (dC, dI) xCl [(h0, ce21 h1 h2 h3 h4), (h1, ce331 h5), (h2, ce3 z.1), (h3, ce331 h6), (h4, ce366 h7), (h5, ce330 kc0 h8 h9 h10 h11 h12 h13 h14), (h6, ce330 kc1 (z.2.2.1 128) (z.2.2.1 128) (z.2.2.1 128) (z.2.2.1 128) (z.2.2.1 128) (z.2.2.1 128) (z.2.2.1 128)), (h7, ce330 kc2 (z.2.2.1 128) (z.2.2.1 129) (z.2.2.1 130) (z.2.2.1 131) (z.2.2.1 132) (z.2.2.1 133) (z.2.2.1 134)), (h8, ce49), (h9, ce49), (h10, ce49), (h11, ce49), (h12, ce49), (h13, ce49), (h14, ce49)] H6 ∧ va_D A [(h0, ce21 h1 h2 h3 h4), (h1, ce331 h5), (h2, ce3 z.1), (h3, ce331 h6), (h4, ce366 h7), (h5, ce330 kc0 h8 h9 h10 h11 h12 h13 h14), (h6, ce330 kc1 (z.2.2.1 128) (z.2.2.1 128) (z.2.2.1 128) (z.2.2.1 128) (z.2.2.1 128) (z.2.2.1 128) (z.2.2.1 128)), (h7, ce330 kc2 (z.2.2.1 128) (z.2.2.1 129) (z.2.2.1 130) (z.2.2.1 131) (z.2.2.1 132) (z.2.2.1 133) (z.2.2.1 134)), (h8, ce49), (h9, ce49), (h10, ce49), (h11, ce49), (h12, ce49), (h13, ce49), (h14, ce49)] := ⟨(hP.sub [0, 1, 2, 3, 4, 5, 6, 7, 8, 9, 10, 11, 12, 13, 14] rfl), (hD.sub [0, 1, 2, 3, 4, 5, 6, 7, 8, 9, 10, 11, 12, 13, 14] rfl rfl)⟩
  have hK : va_K (dC, dI) xCl [(kc0, .object "java/lang/Object"), (kc1, .object "java/lang/Object"), (kc2, .object "java/lang/Object")] s := hK.sub [0, 1, 2] rfl
  have hl : lv_has ls 7 [(3, .int 48), (2, .int 0), (1, .int 0), (0, .ref h0)] := lv_sub hl [0, 1, 2, 3] rfl
  refine k986_shown_g1 hl9 hx hb hml hown hts hA hX hT hS hP hD hK hl hG (fun H L9 ls hS hP hD hl hG => ?_)
  refine k986_shown_g2 hl9 hx hb hml hown hts hA hX hT hS hP hD hK hl hG (fun H L9 ls hS hP hD hl hG => ?_)
  refine k986_shown_g3 hl9 hx hb hml hown hts hA hX hT hS hP hD hK hl hG (fun H L9 ls hS hP hD hl hG => ?_)
  refine k986_shown_g4 hl9 hx hb hml hown hts hA hX hT hS hP hD hK hl hG (fun H L9 ls hS hP hD hl hG => ?_)
  refine k986_shown_g5 hl9 hx hb hml hown hts hA hX hT hS hP hD hK hl hG (fun H L9 ls hS hP hD hl hG => ?_)
  refine k986_shown_g6 hl9 hx hb hml hown hts hA hX hT hS hP hD hK hl hG (fun H L9 ls hS hP hD hl hG => ?_)
  refine k986_shown_g7 hl9 hx hb hml hown hts hA hX hT hS hP hD hK hl hG (fun H L9 ls hS hP hD hl hG => ?_)
  refine k986_shown_g8 hl9 hx hb hml hown hts hA hX hT hS hP hD hK hl hG (fun H L9 ls hS hP hD hl hG => ?_)
  refine k986_shown_g9 hl9 hx hb hml hown hts hA hX hT hS hP hD hK hl hG (fun H L9 ls hS hP hD hl hG => ?_)
  refine k986_shown_g10 hl9 hx hb hml hown hts hA hX hT hS hP hD hK hl hG (fun H L9 ls hS hP hD hl hG => ?_)
  refine k986_shown_g11 hl9 hx hb hml hown hts hA hX hT hS hP hD hK hl hG (fun H L9 ls hS hP hD hl hG => ?_)
  refine k986_shown_g12 hl9 hx hb hml hown hts hA hX hT hS hP hD hK hl hG (fun H L9 ls hS hP hD hl hG => ?_)
  refine k986_shown_g13 hl9 hx hb hml hown hts hA hX hT hS hP hD hK hl hG (fun H L9 ls hS hP hD hl hG => ?_)
  refine k986_shown_g14 hl9 hx hb hml hown hts hA hX hT hS hP hD hK hl hG (fun H L9 ls hS hP hD hl hG => ?_)
  refine k986_shown_g15 hl9 hx hb hml hown hts hA hX hT hS hP hD hK hl hG (fun H L9 ls hS hP hD hl hG => ?_)
  refine k986_shown_g16 hl9 hx hb hml hown hts hA hX hT hS hP hD hK hl hG (fun H L9 ls hS hP hD hl hG => ?_)
  refine k986_shown_g17 hl9 hx hb hml hown hts hA hX hT hS hP hD hK hl hG (fun H L9 ls hS hP hD hl hG => ?_)
  refine k986_shown_g18 hl9 hx hb hml hown hts hA hX hT hS hP hD hK hl hG (fun H L9 ls hS hP hD hl hG => ?_)
  refine k986_shown_g19 hl9 hx hb hml hown hts hA hX hT hS hP hD hK hl hG (fun H L9 ls hS hP hD hl hG => ?_)
  refine k986_shown_g20 hl9 hx hb hml hown hts hA hX hT hS hP hD hK hl hG (fun H L9 ls hS hP hD hl hG => ?_)
  refine lv_iload_n hx hb dX9_shown_23 rfl (lv_at hl 0 rfl) ?_
  refine lv_bipush (v := 49) hx hb dX9_shown_24 (by decide) ?_
  refine lv_icmp_gt (tgt := 113) hx hb dX9_shown_26 (by decide) (fun _ => ?_) (fun cz => absurd (by decide) cz)
  refine lv_iinc (v := 7) (lv' := [(2, .int 7), (3, .int 50), (1, .int 0), (0, .ref h0)]) hx hb dX9_shown_113 hl (k := 2) rfl (by decide) (by decide) rfl (fun ls hl => ?_)
  refine lv_goto (tgt := 9) hx hb dX9_shown_116 (by decide) ?_
  refine lv_iload_n hx hb dX9_shown_9 rfl (lv_at hl 0 rfl) ?_
  refine lv_aload_n hx hb dX9_shown_10 rfl (lv_at hl 3 rfl) ?_
  refine va_get (D := (dC, dI)) (ci := 8) (v := .ref h1) (C := RX9) (T := TX9) (N := 6) hx hb hts in_X9 hown hK hP 0 rfl rfl 1 (by decide) (hts _ q_64) (fun _ h9 => h9) rfl dX9_shown_11 ?_
  have hM2608 := k20_size l hl9 dC dI z h1 h5 H.size 7 7
  obtain ⟨hF2606, hC2609⟩ := pc_M hM2608 hP hD hK hS hX hT hA [1] [] rfl rfl rfl
  refine va_calli (va_runV (As := []) (rest := [.int 7]) ⟨hx, hb, hml, hown, hts⟩ hM2608 (cwV 0 hts (gV q_272 q_77 q_78 q_12 q_75) rfl rfl rfl hV_Jx4a65c_size_8abf5 ⟨Nat.le_of_ble_eq_true rfl, Nat.le_of_ble_eq_true rfl⟩) ⟨pc_blind, va_recv hK hP (ci := 0) (q := (RJx4a65c, TJx4a65c, 3)) (q0 := 1) rfl rfl, fun U hU hW => ⟨rfl, hC2609 U hU hW⟩⟩ rfl rfl hl.1 rfl (lv_room (Nat.le_of_ble_eq_true rfl)) dX9_shown_14 ⟨(Nat.le_of_ble_eq_true rfl), (Nat.le_of_ble_eq_true rfl)⟩) hS (fun q9 _ h9 => hF2606 q9 h9) hF2606 (fun r2611 u2610 t2610 H2610 L2610 ht2610 hvm2610 hw2610 hB2610 hz2610 hk2610 hS => ?_)
  have hP := pq_keep hP hD [1] rfl hk2610 hB2610.1 ht2610
  have hG : s.heap.size + 2660 ≤ H2610.size := Nat.le_trans hG hz2610
  refine W.eq (g2 := F0 m 17 ls [.int 7, .int 7]) (by rw [hw2610]) ?_
  refine lv_icmp_ge (tgt := 119) hx hb dX9_shown_17 (by decide) (fun _ => ?_) (fun cz => absurd (by decide) cz)
  refine lv_iload_n hx hb dX9_shown_119 rfl (lv_at hl 2 rfl) ?_
  exact W.iret (v := 0) hx hb hr (fun t9 ht9 hW9 => ⟨⟨0, (), rfl, rfl, ⟨pq_mk2 hP hD hK [0, 1, 2, 3, 4, 5, 6, 7, 8, 9, 10, 11, 12, 13, 14] [0, 1, 2] rfl rfl rfl ht9 hW9, by rw [ht9]; exact Nat.le_trans (Nat.add_le_add_left (Nat.le_of_ble_eq_true rfl) _) hG⟩⟩, hS.F ht9⟩) hS.2.2 dX9_shown_120

set_option maxHeartbeats 4000000 in
set_option maxRecDepth 100000 in
theorem k987_isStuckShown (l : Launch) (hl9 : l.stackTraces = false) (dC : Nat → ClassId) (dI : Nat → Nat → Nat) (z : XZ) (h0 h1 h2 h3 h4 h5 h6 h7 h8 h9 h10 h11 h12 : Nat) (o0 o1 o2 o3 o4 o5 o6 o7 o8 o9 : Nat) (sz : Nat) (kc0 kc1 : ClassId) : Met l yX4_isStuckShown (.code yX4_isStuckShown cX4_isStuckShown 6 (some .boolean) :: wsL_law) ({ frames := 5, cells := 0, slots := 0, locals := 112 }) (va_Pc [.ref h0, .ref h1, .int 48, .int 0] (PC (dC, dI) [(h0, ce417 h2 o0), (h1, ce427 (z.2.1 0) o1 h1), (h2, ce7 o2 h3 o3 h4), (h3, ce331 h5), (h4, ce366 h6), (h5, ce330 kc0 h1 h7 h8 h9 h10 h11 h12), (h6, ce330 kc1 h1 h7 h8 h9 h10 h11 h12), (h7, ce428 (z.2.1 0) o4 h7), (h8, ce429 (z.2.1 0) o5 h8), (h9, ce430 (z.2.1 0) o6 h9), (h10, ce431 (z.2.1 0) o7 h10), (h11, ce432 (z.2.1 0) o8 h11), (h12, ce440 (z.2.1 0) o9 h12)] [(kc0, .object "java/lang/Object"), (kc1, .object "java/lang/Object")] sz z)) (va_Qi (fun (r : Int32) (_ : Unit) => r = 0) (fun (_ : Unit) (t : State) => PG (dC, dI) [(h0, ce417 h2 o0), (h1, ce427 (z.2.1 0) o1 h1), (h2, ce7 o2 h3 o3 h4), (h3, ce331 h5), (h4, ce366 h6), (h5, ce330 kc0 h1 h7 h8 h9 h10 h11 h12), (h6, ce330 kc1 h1 h7 h8 h9 h10 h11 h12), (h7, ce428 (z.2.1 0) o4 h7), (h8, ce429 (z.2.1 0) o5 h8), (h9, ce430 (z.2.1 0) o6 h9), (h10, ce431 (z.2.1 0) o7 h10), (h11, ce432 (z.2.1 0) o8 h11), (h12, ce433 (z.2.1 0) o9 h12)] [(kc0, .object "java/lang/Object"), (kc1, .object "java/lang/Object")] (va_A [(h0, ce417 h2 o0), (h1, ce427 (z.2.1 0) o1 h1), (h2, ce7 o2 h3 o3 h4), (h3, ce331 h5), (h4, ce366 h6), (h5, ce330 kc0 h1 h7 h8 h9 h10 h11 h12), (h6, ce330 kc1 h1 h7 h8 h9 h10 h11 h12), (h7, ce428 (z.2.1 0) o4 h7), (h8, ce429 (z.2.1 0) o5 h8), (h9, ce430 (z.2.1 0) o6 h9), (h10, ce431 (z.2.1 0) o7 h10), (h11, ce432 (z.2.1 0) o8 h11), (h12, ce440 (z.2.1 0) o9 h12)] sz) sz 0 t) (va_A [(h0, ce417 h2 o0), (h1, ce427 (z.2.1 0) o1 h1), (h2, ce7 o2 h3 o3 h4), (h3, ce331 h5), (h4, ce366 h6), (h5, ce330 kc0 h1 h7 h8 h9 h10 h11 h12), (h6, ce330 kc1 h1 h7 h8 h9 h10 h11 h12), (h7, ce428 (z.2.1 0) o4 h7), (h8, ce429 (z.2.1 0) o5 h8), (h9, ce430 (z.2.1 0) o6 h9), (h10, ce431 (z.2.1 0) o7 h10), (h11, ce432 (z.2.1 0) o8 h11), (h12, ce440 (z.2.1 0) o9 h12)] sz)) 0 0 (va_A [(h0, ce417 h2 o0), (h1, ce427 (z.2.1 0) o1 h1), (h2, ce7 o2 h3 o3 h4), (h3, ce331 h5), (h4, ce366 h6), (h5, ce330 kc0 h1 h7 h8 h9 h10 h11 h12), (h6, ce330 kc1 h1 h7 h8 h9 h10 h11 h12), (h7, ce428 (z.2.1 0) o4 h7), (h8, ce429 (z.2.1 0) o5 h8), (h9, ce430 (z.2.1 0) o6 h9), (h10, ce431 (z.2.1 0) o7 h10), (h11, ce432 (z.2.1 0) o8 h11), (h12, ce440 (z.2.1 0) o9 h12)] sz) := by
  refine Met.ofW (cc := cX4_isStuckShown) (maxL := 6) (ret := (some .boolean)) (by decide) rfl ?_
  intro p e s m args below meth c s₁ B hml hv
  obtain ⟨rfl, hsz, hP, hK, hD0, hX, hT⟩ := hv
  have hx := B.exec
  have hb := B.bytes
  have hr := B.returns
  have hts0 := atoms_spec (ws := .code yX4_isStuckShown cX4_isStuckShown 6 (some .boolean) :: wsL_law) B.pre
  have hts := xTail hts0
  have hown : s.vm.findClass RX4 = some m.cls := xown B.named rfl
  have hlocks := B.notSynchronized
  subst hsz
  have hD := hD0.self (sz := s.heap.size)
  generalize hAe : va_A [(h0, ce417 h2 o0), (h1, ce427 (z.2.1 0) o1 h1), (h2, ce7 o2 h3 o3 h4), (h3, ce331 h5), (h4, ce366 h6), (h5, ce330 kc0 h1 h7 h8 h9 h10 h11 h12), (h6, ce330 kc1 h1 h7 h8 h9 h10 h11 h12), (h7, ce428 (z.2.1 0) o4 h7), (h8, ce429 (z.2.1 0) o5 h8), (h9, ce430 (z.2.1 0) o6 h9), (h10, ce431 (z.2.1 0) o7 h10), (h11, ce432 (z.2.1 0) o8 h11), (h12, ce440 (z.2.1 0) o9 h12)] s.heap.size = A at hD hX ⊢
  have hA : ∀ q : Nat, s.heap.size ≤ q → A q := fun q h => by rw [← hAe]; exact Or.inr h
  have hS : va_S A s.heap s.heap [] := va_S.rf
  have hG : s.heap.size + 0 ≤ s.heap.size := Nat.le_refl _
  have hl := lv_entry ([.ref h0, .ref h1, .int 48, .int 0]) (n := 6) (Nat.le_of_ble_eq_true rfl)
  rw [lg_entry_eq]
  generalize (lg_sl ([.ref h0, .ref h1, .int 48, .int 0]) ++ List.replicate (6 - (lg_sl ([.ref h0, .ref h1, .int 48, .int 0])).length) Slot.unset).toArray = ls at hl ⊢
  have hl : lv_has ls 6 [(0, .ref h0), (1, .ref h1), (2, .int 48), (3, .int 0)] := hl
  refine lv_aload_n hx hb dX4_isStuckShown_0 rfl (lv_at hl 0 rfl) ?_
  refine lv_iload_n hx hb dX4_isStuckShown_1 rfl (lv_at hl 3 rfl) ?_
  refine lv_null hx hb dX4_isStuckShown_2 ?_
  refine lv_bipush (v := 120) hx hb dX4_isStuckShown_3 (by decide) ?_
  have hM3 := k938_tryRow l hl9 dC dI z h0 h2 h3 h4 h5 h6 h1 h7 h8 h9 h10 h11 h12 o0 o2 o3 o1 o4 o5 o6 o7 o8 o9 s.heap.size kc0 kc1
  obtain ⟨hF1, hC4⟩ := pc_M hM3 hP hD hK hS hX hT hA [0, 2, 3, 4, 5, 6, 1, 7, 8, 9, 10, 11, 12] [0, 1] rfl rfl rfl
  refine va_callv (va_runV (As := [.int 0, .null, .int 120]) (rest := []) ⟨hx, hb, hml, hown, hts⟩ hM3 (cwV 3 hts (gV q_388 q_389 q_390 q_46 q_387) rfl rfl rfl hV_X4_tryRow ⟨Nat.le_of_ble_eq_true rfl, Nat.le_of_ble_eq_true rfl⟩) ⟨pc_blind, va_recv hK hP (ci := 4) (q := (RX4, TX4, 3)) (q0 := 0) rfl rfl, fun U hU hW => ⟨rfl, hC4 U hU hW⟩⟩ rfl rfl hl.1 rfl (lv_room (Nat.le_of_ble_eq_true rfl)) dX4_isStuckShown_5 ⟨(Nat.le_of_ble_eq_true rfl), (Nat.le_of_ble_eq_true rfl)⟩) hS (fun q9 _ h9 => hF1 q9 h9) hF1 (fun u5 t5 H5 L5 ht5 hvm5 hw5 hB5 hz5 hk5 hS => ?_)
  obtain ⟨hP, hD, hK⟩ := pq_jn (wz := [(h0, ce417 h2 o0), (h2, ce7 o2 h3 o3 h4), (h3, ce331 h5), (h4, ce366 h6), (h5, ce330 kc0 h1 h7 h8 h9 h10 h11 h12), (h6, ce330 kc1 h1 h7 h8 h9 h10 h11 h12), (h1, ce427 (z.2.1 0) o1 h1), (h7, ce428 (z.2.1 0) o4 h7), (h8, ce429 (z.2.1 0) o5 h8), (h9, ce430 (z.2.1 0) o6 h9), (h10, ce431 (z.2.1 0) o7 h10), (h11, ce432 (z.2.1 0) o8 h11), (h12, ce433 (z.2.1 0) o9 h12)]) (tz := [(kc0, .object "java/lang/Object"), (kc1, .object "java/lang/Object")]) hP hD hK [0, 2, 3, 4, 5, 6, 1, 7, 8, 9, 10, 11, 12] [] rfl hk5 hF1 hB5.1 ht5 hvm5 rfl rfl
  have hG : s.heap.size + 0 ≤ H5.size := Nat.le_trans hG hz5
  refine lv_aload_n hx hb dX4_isStuckShown_8 rfl (lv_at hl 1 rfl) ?_
  refine va_get (D := (dC, dI)) (ci := 3) (v := .int 48) (C := RX2) (T := TX2) (N := 19) hx hb hts in_X2 hown hK hP 6 rfl rfl 11 (by decide) (hts _ q_385) (fun _ h9 => h9) rfl dX4_isStuckShown_9 ?_
  refine lv_iload_n hx hb dX4_isStuckShown_12 rfl (lv_at hl 2 rfl) ?_
  refine lv_icmp_ne (tgt := 18) hx hb dX4_isStuckShown_13 (by decide) (fun cz => absurd (by decide) cz) (fun _ => ?_)
  refine lv_iconst (v := 0) hx hb dX4_isStuckShown_16 (by decide) ?_
  exact W.zret (v := 0) (ty := .boolean) hx hb hr rfl (fun t9 ht9 hW9 => ⟨⟨0, (), rfl, rfl, ⟨pq_mk2 hP hD hK [0, 6, 1, 2, 3, 4, 5, 7, 8, 9, 10, 11, 12] [0, 1] rfl rfl rfl ht9 hW9, by rw [ht9]; exact Nat.le_trans (Nat.add_le_add_left (Nat.le_of_ble_eq_true rfl) _) hG⟩⟩, hS.F ht9⟩) hS.2.2 dX4_isStuckShown_17

set_option maxHeartbeats 4000000 in
set_option maxRecDepth 100000 in
theorem k988_isStuckShown (l : Launch) (hl9 : l.stackTraces = false) (dC : Nat → ClassId) (dI : Nat → Nat → Nat) (z : XZ) (h0 h1 h2 h3 h4 h5 h6 h7 h8 h9 h10 h11 h12 : Nat) (o0 o1 o2 o3 o4 o5 o6 o7 o8 o9 : Nat) (sz : Nat) (kc0 kc1 : ClassId) : Met l yX4_isStuckShown (.code yX4_isStuckShown cX4_isStuckShown 6 (some .boolean) :: wsL_law) ({ frames := 5, cells := 0, slots := 0, locals := 112 }) (va_Pc [.ref h0, .ref h1, .int 48, .int 0] (PC (dC, dI) [(h0, ce417 h2 o0), (h1, ce427 (z.2.1 0) o1 h1), (h2, ce7 o2 h3 o3 h4), (h3, ce331 h5), (h4, ce366 h6), (h5, ce330 kc0 h1 h7 h8 h9 h10 h11 h12), (h6, ce330 kc1 h1 h7 h8 h9 h10 h11 h12), (h7, ce428 (z.2.1 0) o4 h7), (h8, ce429 (z.2.1 0) o5 h8), (h9, ce430 (z.2.1 0) o6 h9), (h10, ce431 (z.2.1 0) o7 h10), (h11, ce432 (z.2.1 0) o8 h11), (h12, ce433 (z.2.1 0) o9 h12)] [(kc0, .object "java/lang/Object"), (kc1, .object "java/lang/Object")] sz z)) (va_Qi (fun (r : Int32) (_ : Unit) => r = 0) (fun (_ : Unit) (t : State) => PG (dC, dI) [(h0, ce417 h2 o0), (h1, ce427 (z.2.1 0) o1 h1), (h2, ce7 o2 h3 o3 h4), (h3, ce331 h5), (h4, ce366 h6), (h5, ce330 kc0 h1 h7 h8 h9 h10 h11 h12), (h6, ce330 kc1 h1 h7 h8 h9 h10 h11 h12), (h7, ce428 (z.2.1 0) o4 h7), (h8, ce429 (z.2.1 0) o5 h8), (h9, ce430 (z.2.1 0) o6 h9), (h10, ce431 (z.2.1 0) o7 h10), (h11, ce432 (z.2.1 0) o8 h11), (h12, ce433 (z.2.1 0) o9 h12)] [(kc0, .object "java/lang/Object"), (kc1, .object "java/lang/Object")] (va_A [(h0, ce417 h2 o0), (h1, ce427 (z.2.1 0) o1 h1), (h2, ce7 o2 h3 o3 h4), (h3, ce331 h5), (h4, ce366 h6), (h5, ce330 kc0 h1 h7 h8 h9 h10 h11 h12), (h6, ce330 kc1 h1 h7 h8 h9 h10 h11 h12), (h7, ce428 (z.2.1 0) o4 h7), (h8, ce429 (z.2.1 0) o5 h8), (h9, ce430 (z.2.1 0) o6 h9), (h10, ce431 (z.2.1 0) o7 h10), (h11, ce432 (z.2.1 0) o8 h11), (h12, ce433 (z.2.1 0) o9 h12)] sz) sz 0 t) (va_A [(h0, ce417 h2 o0), (h1, ce427 (z.2.1 0) o1 h1), (h2, ce7 o2 h3 o3 h4), (h3, ce331 h5), (h4, ce366 h6), (h5, ce330 kc0 h1 h7 h8 h9 h10 h11 h12), (h6, ce330 kc1 h1 h7 h8 h9 h10 h11 h12), (h7, ce428 (z.2.1 0) o4 h7), (h8, ce429 (z.2.1 0) o5 h8), (h9, ce430 (z.2.1 0) o6 h9), (h10, ce431 (z.2.1 0) o7 h10), (h11, ce432 (z.2.1 0) o8 h11), (h12, ce433 (z.2.1 0) o9 h12)] sz)) 0 0 (va_A [(h0, ce417 h2 o0), (h1, ce427 (z.2.1 0) o1 h1), (h2, ce7 o2 h3 o3 h4), (h3, ce331 h5), (h4, ce366 h6), (h5, ce330 kc0 h1 h7 h8 h9 h10 h11 h12), (h6, ce330 kc1 h1 h7 h8 h9 h10 h11 h12), (h7, ce428 (z.2.1 0) o4 h7), (h8, ce429 (z.2.1 0) o5 h8), (h9, ce430 (z.2.1 0) o6 h9), (h10, ce431 (z.2.1 0) o7 h10), (h11, ce432 (z.2.1 0) o8 h11), (h12, ce433 (z.2.1 0) o9 h12)] sz) := by
  refine Met.ofW (cc := cX4_isStuckShown) (maxL := 6) (ret := (some .boolean)) (by decide) rfl ?_
  intro p e s m args below meth c s₁ B hml hv
  obtain ⟨rfl, hsz, hP, hK, hD0, hX, hT⟩ := hv
  have hx := B.exec
  have hb := B.bytes
  have hr := B.returns
  have hts0 := atoms_spec (ws := .code yX4_isStuckShown cX4_isStuckShown 6 (some .boolean) :: wsL_law) B.pre
  have hts := xTail hts0
  have hown : s.vm.findClass RX4 = some m.cls := xown B.named rfl
  have hlocks := B.notSynchronized
  subst hsz
  have hD := hD0.self (sz := s.heap.size)
  generalize hAe : va_A [(h0, ce417 h2 o0), (h1, ce427 (z.2.1 0) o1 h1), (h2, ce7 o2 h3 o3 h4), (h3, ce331 h5), (h4, ce366 h6), (h5, ce330 kc0 h1 h7 h8 h9 h10 h11 h12), (h6, ce330 kc1 h1 h7 h8 h9 h10 h11 h12), (h7, ce428 (z.2.1 0) o4 h7), (h8, ce429 (z.2.1 0) o5 h8), (h9, ce430 (z.2.1 0) o6 h9), (h10, ce431 (z.2.1 0) o7 h10), (h11, ce432 (z.2.1 0) o8 h11), (h12, ce433 (z.2.1 0) o9 h12)] s.heap.size = A at hD hX ⊢
  have hA : ∀ q : Nat, s.heap.size ≤ q → A q := fun q h => by rw [← hAe]; exact Or.inr h
  have hS : va_S A s.heap s.heap [] := va_S.rf
  have hG : s.heap.size + 0 ≤ s.heap.size := Nat.le_refl _
  have hl := lv_entry ([.ref h0, .ref h1, .int 48, .int 0]) (n := 6) (Nat.le_of_ble_eq_true rfl)
  rw [lg_entry_eq]
  generalize (lg_sl ([.ref h0, .ref h1, .int 48, .int 0]) ++ List.replicate (6 - (lg_sl ([.ref h0, .ref h1, .int 48, .int 0])).length) Slot.unset).toArray = ls at hl ⊢
  have hl : lv_has ls 6 [(0, .ref h0), (1, .ref h1), (2, .int 48), (3, .int 0)] := hl
  refine lv_aload_n hx hb dX4_isStuckShown_0 rfl (lv_at hl 0 rfl) ?_
  refine lv_iload_n hx hb dX4_isStuckShown_1 rfl (lv_at hl 3 rfl) ?_
  refine lv_null hx hb dX4_isStuckShown_2 ?_
  refine lv_bipush (v := 120) hx hb dX4_isStuckShown_3 (by decide) ?_
  have hM3 := k874_tryRow l hl9 dC dI z h0 h2 h3 h4 h5 h6 h1 h7 h8 h9 h10 h11 h12 o0 o2 o3 o1 o4 o5 o6 o7 o8 o9 s.heap.size kc0 kc1
  obtain ⟨hF1, hC4⟩ := pc_M hM3 hP hD hK hS hX hT hA [0, 2, 3, 4, 5, 6, 1, 7, 8, 9, 10, 11, 12] [0, 1] rfl rfl rfl
  refine va_callv (va_runV (As := [.int 0, .null, .int 120]) (rest := []) ⟨hx, hb, hml, hown, hts⟩ hM3 (cwV 3 hts (gV q_388 q_389 q_390 q_46 q_387) rfl rfl rfl hV_X4_tryRow ⟨Nat.le_of_ble_eq_true rfl, Nat.le_of_ble_eq_true rfl⟩) ⟨pc_blind, va_recv hK hP (ci := 4) (q := (RX4, TX4, 3)) (q0 := 0) rfl rfl, fun U hU hW => ⟨rfl, hC4 U hU hW⟩⟩ rfl rfl hl.1 rfl (lv_room (Nat.le_of_ble_eq_true rfl)) dX4_isStuckShown_5 ⟨(Nat.le_of_ble_eq_true rfl), (Nat.le_of_ble_eq_true rfl)⟩) hS (fun q9 _ h9 => hF1 q9 h9) hF1 (fun u5 t5 H5 L5 ht5 hvm5 hw5 hB5 hz5 hk5 hS => ?_)
  have hP := pq_keep hP hD [0, 2, 3, 4, 5, 6, 1, 7, 8, 9, 10, 11, 12] rfl hk5 hB5.1 ht5
  have hG : s.heap.size + 0 ≤ H5.size := Nat.le_trans hG hz5
  refine lv_aload_n hx hb dX4_isStuckShown_8 rfl (lv_at hl 1 rfl) ?_
  refine va_get (D := (dC, dI)) (ci := 3) (v := .int 48) (C := RX2) (T := TX2) (N := 19) hx hb hts in_X2 hown hK hP 1 rfl rfl 11 (by decide) (hts _ q_385) (fun _ h9 => h9) rfl dX4_isStuckShown_9 ?_
  refine lv_iload_n hx hb dX4_isStuckShown_12 rfl (lv_at hl 2 rfl) ?_
  refine lv_icmp_ne (tgt := 18) hx hb dX4_isStuckShown_13 (by decide) (fun cz => absurd (by decide) cz) (fun _ => ?_)
  refine lv_iconst (v := 0) hx hb dX4_isStuckShown_16 (by decide) ?_
  exact W.zret (v := 0) (ty := .boolean) hx hb hr rfl (fun t9 ht9 hW9 => ⟨⟨0, (), rfl, rfl, ⟨pq_mk2 hP hD hK [0, 1, 2, 3, 4, 5, 6, 7, 8, 9, 10, 11, 12] [0, 1] rfl rfl rfl ht9 hW9, by rw [ht9]; exact Nat.le_trans (Nat.add_le_add_left (Nat.le_of_ble_eq_true rfl) _) hG⟩⟩, hS.F ht9⟩) hS.2.2 dX4_isStuckShown_17
