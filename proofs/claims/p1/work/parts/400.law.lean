/-! THE CLAIM OUT OF ONE WALK OF THE LAW'S BODY. Your part is whole_start (and what it stands on); all else here is the same for every law, but numbers. -/
def R_law : String := "DeltacycleLaw"
def lw_P (b : Addr) (xs : List Int32) (args : Array Value) (s : State) : Prop := args = #[.ref b] ∧ s.IntsAt b xs ∧ xs.length ≤ 5 ∧ (Jvm.Cond.and given_1 narrow_1).before args s = true
/-- what a walk over the start with the record d0 says of its end, said of the start itself -/
theorem lw_closed {s t : State} {o : Outcome} {d0 : Drawn} {L : List Loc} {k n : Nat} (hd0 : s.drawn.sameBut d0 lw_cs) (hv : ∃ v, o = .returned v) (hW : (s.setDrawn d0).WarmedH t.vm) (hs : (s.setDrawn d0).sameButNew ({ t with vm := s.vm } : State) L k n) : State.butDraws s t lw_cs (fun t1 => Framed s o t1 L k n) := by
  have h2 : t.drawn = d0 := congrArg State.drawn hs.1
  refine ⟨⟨hv, hW, State.sameButNew.setDrawn hs s.drawn⟩, ?_, by decide⟩
  rw [h2]
  exact hd0
def lw_Q (_ : Array Value) (s : State) (o : Outcome) (t : State) : Prop := o = .returned (some (.int 1)) ∧ State.butDraws s t lw_cs (fun t1 => Framed s o t1 [] 600006 7302055)
def lw_Z (below : List Frame) (a : Array Value) (s : State) : State → Prop := fun t => ∃ o, t.status = .running ∧ Ended t below o ∧ lw_Q a s o t
/-- the law's own end, with 1 on the stack, nothing written that was there before, its room as the claim has it; d0: the record of draws at this point (at the entry s.drawn: begin with 'refine W.base ?_' and 'have hd0 := Drawn.sameBut.refl s.drawn lw_cs') -/
theorem lw_ret {p : Program} {l : Launch} {e : Env} {s : State} {m : MethodId} {below : List Frame} {meth : Method} {c : Code} {b : Nat} {d0 : Drawn} (hd0 : s.drawn.sameBut d0 lw_cs) (hx : p.tables.exec = Jvm.exec) (hb : c.code = code) (hr : meth.sig.returnType = ret) (hlocks : meth.locks = false) {pc : Nat} {H : Heap} {ls : Array Slot} (hdg : decode code pc = .ok (.ireturn, 1)) : W p l e room_1 (s.setDrawn d0) m #[Value.ref b] below meth c H [] 600006 7302055 (lw_Z below #[Value.ref b] s) (F0 m pc ls [.int 1]) := by
  intro T hT X
  obtain ⟨fs, hret, hrun, hended, hW, hframe⟩ := X.leave (v := some (.int 1)) (hlocks := hlocks) (fun h => by rw [hr] at h; cases h)
  have hmeth' : T.vm.method? m = some meth := X.method'
  refine ⟨T.setFrames fs, ?_, .returned (some (.int 1)), hrun, hended, rfl, lw_closed hd0 ⟨_, rfl⟩ hW hframe⟩
  jvm_step X.here [X.here.top, hx, hb, hdg, hmeth', hr, ret, narrow_b1]
  (try refine ⟨rfl, ?_⟩); (try refine ⟨rfl, ?_⟩)
  first | (intro acts; rw [hret _ acts rfl rfl rfl]) | rw [hret _ _ rfl rfl rfl]
  exact Steps.refl _
/-- what holds at the law's entry: the machine, the code, the tables' words (any of lw_tbl by 'hts w (by decide +kernel)'), the script of L ints xs at the cell b, what the Statement gives of the start (any of its parts by flat_of_before) -/
def lw_At (p : Program) (s : State) (m : MethodId) (meth : Method) (c : Code) (b L : Nat) (xs : Nat → Int32) : Prop :=
  p.tables.exec = Jvm.exec ∧ c.code = code ∧ meth.sig.returnType = ret ∧ c.maxLocals = 9 ∧ s.vm.findClass R_law = some m.cls ∧ (∀ w ∈ lw_tbl, w.before #[Value.ref b] s = true) ∧ va_X b L xs s s.heap ∧ b < s.heap.size ∧ meth.locks = false ∧ (Jvm.Cond.and given_1 narrow_1).before #[Value.ref b] s = true
set_option maxHeartbeats 8000000 in
set_option maxRecDepth 100000 in
/-- the law, from its entry -/
theorem whole_start {p : Program} {e : Env} {s : State} {m : MethodId} {below : List Frame} {meth : Method} {c : Code} (l : Launch) (hflags : l.flags = flags0) {b L : Nat} {xs : Nat → Int32} (hL : L ≤ 5) (C0 : lw_At p s m meth c b L xs) : W p l e room_1 s m #[Value.ref b] below meth c s.heap [] 0 0 (lw_Z below #[Value.ref b] s) (entryFrame m ([Value.ref b] : List Value).toArray 9) := by
  obtain ⟨hx, hb, hr, hml, hown, hts0, hX9, hbl, hlocks, hgv⟩ := id C0
  have hl9 : l.stackTraces = false := by unfold Launch.stackTraces; rw [hflags]; decide +kernel
  have hown : s.vm.findClass RL = some m.cls := hown
  have hts : ∀ w ∈ wsL_law, w.before #[Value.ref b] s = true := fun w h => hts0 w (wsL_law_in w h)
  obtain ⟨z, hX, hT⟩ := x_env (A := (fun q : Nat => s.heap.size ≤ q)) hts0 hgv (fun a ha => Nat.not_le.mpr ha)
  obtain ⟨kc0, ki0, hk0⟩ := u_known (C := RJx4a65c) (T := TJx4a65c) (N := 3) (n := 3) hts in_Jx4a65c (hts _ q_8)
  obtain ⟨kc1, ki1, hk1⟩ := u_known (C := RJx35411) (T := TJx35411) (N := 4) (n := 4) hts in_Jx35411 (hts _ q_232)
  obtain ⟨kc2, ki2, hk2⟩ := u_known (C := RX0) (T := TX0) (N := 4) (n := 4) hts in_X0 (hts _ q_4)
  obtain ⟨kc3, ki3, hk3⟩ := u_known (C := RX2) (T := TX2) (N := 19) (n := 19) hts in_X2 (hts _ q_77)
  obtain ⟨kc4, ki4, hk4⟩ := u_known (C := RX4) (T := TX4) (N := 3) (n := 3) hts in_X4 (hts _ q_42)
  obtain ⟨kc5, ki5, hk5⟩ := u_known (C := RX5) (T := TX5) (N := 2) (n := 2) hts in_X5 (hts _ q_33)
  obtain ⟨kc6, ki6, hk6⟩ := u_known (C := RX6) (T := TX6) (N := 3) (n := 3) hts in_X6 (hts _ q_754)
  obtain ⟨kc7, ki7, hk7⟩ := u_known (C := RX8) (T := TX8) (N := 6) (n := 6) hts in_X8 (hts _ q_262)
  obtain ⟨kc8, ki8, hk8⟩ := u_known (C := RX9) (T := TX9) (N := 6) (n := 6) hts in_X9 (hts _ q_759)
  obtain ⟨dC, dI, hKc⟩ : ∃ (dC : Nat → ClassId) (dI : Nat → Nat → Nat), ∀ (k : Nat) (q : vw_C), xCl[k]? = some q → u_Kn s q.1 q.2.1 q.2.2 (dC k) (dI k) := by
    refine ⟨fun k => match k with | 0 => kc0 | 1 => kc1 | 2 => kc2 | 3 => kc3 | 4 => kc4 | 5 => kc5 | 6 => kc6 | 7 => kc7 | _ => kc8, fun k => match k with | 0 => ki0 | 1 => ki1 | 2 => ki2 | 3 => ki3 | 4 => ki4 | 5 => ki5 | 6 => ki6 | 7 => ki7 | _ => ki8, ?_⟩
    intro k q hq
    match k, hq with
    | 0, hq => cases hq; exact hk0
    | 1, hq => cases hq; exact hk1
    | 2, hq => cases hq; exact hk2
    | 3, hq => cases hq; exact hk3
    | 4, hq => cases hq; exact hk4
    | 5, hq => cases hq; exact hk5
    | 6, hq => cases hq; exact hk6
    | 7, hq => cases hq; exact hk7
    | 8, hq => cases hq; exact hk8
    | k + 9, hq => simp [xCl] at hq
  obtain ⟨A, hAe⟩ : ∃ A : Nat → Prop, A = (fun q : Nat => s.heap.size ≤ q) := ⟨_, rfl⟩
  rw [← hAe] at hX
  have hA : ∀ q : Nat, s.heap.size ≤ q → A q := fun q h => by rw [hAe]; exact h
  have hA9 : ∀ q : Nat, A q → s.heap.size ≤ q := fun q h => by rw [hAe] at h; exact h
  have hbA : ¬ A b := fun h => Nat.not_le.mpr hbl (hA9 b h)
  have hS : va_S A s.heap s.heap [] := va_S.rf
  have hK : va_K (dC, dI) xCl [] s := ⟨hKc, fun k q h => by simp at h⟩
  have hP : va_P (dC, dI) xCl [] s.heap := fun k q h => by simp at h
  have hD : va_D A [] := ⟨fun i j p q h => by simp at h, fun k q h => by simp at h⟩
  have hret : ∀ (H' : Heap) (locs' : List Loc) (ls' : Array Slot), va_S A s.heap H' locs' → W p l e room_1 s m #[Value.ref b] below meth c H' locs' 5000 50000 (lw_Z below #[Value.ref b] s) (F0 m 1735 ls' []) := by
    intro H' locs' ls' hS'
    refine lv_iconst (v := 1) hx hb dL_law_1735 (by decide) ?_
    refine va_forget (fun q hq => hA9 _ (hS'.2.2 q hq)) ?_
    refine W.widen (k := 600006) (n := 7302055) (Nat.le_of_ble_eq_true rfl) (Nat.le_of_ble_eq_true rfl) ?_
    exact lw_ret (Drawn.sameBut.refl s.drawn lw_cs) hx hb hr hlocks dL_law_1736
  have hl := lv_entry ([.ref b]) (n := 9) (Nat.le_of_ble_eq_true rfl)
  rw [lg_entry_eq]
  generalize (lg_sl ([.ref b]) ++ List.replicate (9 - (lg_sl ([.ref b])).length) Slot.unset).toArray = ls at hl ⊢
  have hl : lv_has ls 9 [(0, .ref b)] := hl
  refine va_new (ci := 6) (fs := [.null, .null, .null]) (C := RX6) (T := TX6) (N := 3) hx hb hts in_X6 tyX6 tyX6_ok hown (hts _ q_753) (hts _ q_754) (hts _ q_69) hK hP hD hS hA rfl nf_X6 (Nat.le_of_ble_eq_true rfl) (Nat.le_of_ble_eq_true rfl) dL_law_0 (fun a1 H2 hP hD hS => ?_)
  have hP : va_P (dC, dI) xCl [(a1, .inr (6, [.null, .null, .null]))] H2 := hP
  have hD : va_D A [(a1, .inr (6, [.null, .null, .null]))] := hD
  refine W.widen (k := 1) (n := 3) (by decide) (by decide) ?_
  refine lv_dup hx hb dL_law_3 rfl ?_
  have hF3 := va_free (wc := [(a1, .inr (6, [.null, .null, .null]))]) hD hS hA [0] rfl
  refine va_callv (va_runI (As := []) (rest := [.ref a1]) ⟨hx, hb, hml, hown, hts⟩ (k7_init l hl9 dC dI z a1 H2.size) (cwI 0 hts (gIL q_755) rfl rfl rfl (hts _ q_69) (hts _ q_756) (hts _ q_757) rfl (by decide +kernel) ⟨Nat.le_of_ble_eq_true rfl, Nat.le_of_ble_eq_true rfl⟩) ⟨pc_blind, fun U hU hW => ⟨rfl, pc_mk hP hD hK hS hX hT [0] [] rfl rfl rfl rfl hF3 hU hW⟩⟩ rfl rfl hl.1 rfl (lv_room (Nat.le_of_ble_eq_true rfl)) dL_law_4 ⟨(Nat.le_of_ble_eq_true rfl), (Nat.le_of_ble_eq_true rfl)⟩) hS (fun q9 _ h9 => hF3 q9 h9) hF3 (fun u5 t5 H5 L5 ht5 hvm5 hw5 hB5 hz5 hk5 hS => ?_)
  obtain ⟨a7, a8, a9, a10, a11, a12, a13, a14, k15, hB5⟩ := hB5
  obtain ⟨hP, hD, hK⟩ := pq_join (wr := []) (tr := []) (wz := [(a1, .inr (6, [.ref a7, .ref a8, .ref a9])), (a7, .inr (2, [.ref a10, .ref a11, .ref a12, .ref a13])), (a8, .inr (5, [.ref a7, .int 0])), (a9, .inr (4, [.ref a7, .ref a14, .int 0])), (a10, .inr (0, [.int 0, .ref z.1, .int 0])), (a11, .inr (0, [.int 0, .ref z.1, .int 0])), (a12, .inr (0, [.int 0, .ref z.1, .int 0])), (a13, .inr (0, [.int 0, .ref z.1, .int 0])), (a14, .inl (k15, 8, .inl (fun _ => 0)))]) (tz := [(k15, .int)]) hP hD hK [0] [] [] rfl rfl (by decide) (by decide) rfl hk5 hF3 hB5 ht5 hvm5 rfl rfl
  refine W.widen (k := 9) (n := 32) (by decide) (by decide) ?_
  refine lv_astore_n (lv' := [(1, .ref a1), (0, .ref b)]) hx hb dL_law_7 rfl hl (by decide) rfl (fun ls hl => ?_)
  refine va_new (ci := 8) (fs := [.int 0, .null, .null, .null, .null, .int 0]) (C := RX9) (T := TX9) (N := 6) hx hb hts in_X9 tyX9 tyX9_ok hown (hts _ q_758) (hts _ q_759) (hts _ q_255) hK hP hD hS hA rfl nf_X9 (Nat.le_of_ble_eq_true rfl) (Nat.le_of_ble_eq_true rfl) dL_law_8 (fun a16 H17 hP hD hS => ?_)
  have hP : va_P (dC, dI) xCl [(a1, .inr (6, [.ref a7, .ref a8, .ref a9])), (a7, .inr (2, [.ref a10, .ref a11, .ref a12, .ref a13])), (a8, .inr (5, [.ref a7, .int 0])), (a9, .inr (4, [.ref a7, .ref a14, .int 0])), (a10, .inr (0, [.int 0, .ref z.1, .int 0])), (a11, .inr (0, [.int 0, .ref z.1, .int 0])), (a12, .inr (0, [.int 0, .ref z.1, .int 0])), (a13, .inr (0, [.int 0, .ref z.1, .int 0])), (a14, .inl (k15, 8, .inl (fun _ => 0))), (a16, .inr (8, [.int 0, .null, .null, .null, .null, .int 0]))] H17 := hP
  have hD : va_D A [(a1, .inr (6, [.ref a7, .ref a8, .ref a9])), (a7, .inr (2, [.ref a10, .ref a11, .ref a12, .ref a13])), (a8, .inr (5, [.ref a7, .int 0])), (a9, .inr (4, [.ref a7, .ref a14, .int 0])), (a10, .inr (0, [.int 0, .ref z.1, .int 0])), (a11, .inr (0, [.int 0, .ref z.1, .int 0])), (a12, .inr (0, [.int 0, .ref z.1, .int 0])), (a13, .inr (0, [.int 0, .ref z.1, .int 0])), (a14, .inl (k15, 8, .inl (fun _ => 0))), (a16, .inr (8, [.int 0, .null, .null, .null, .null, .int 0]))] := hD
  refine W.widen (k := 10) (n := 38) (by decide) (by decide) ?_
  refine lv_dup hx hb dL_law_11 rfl ?_
  have hF18 := va_free (wc := [(a16, .inr (8, [.int 0, .null, .null, .null, .null, .int 0]))]) hD hS hA [9] rfl
  refine va_callv (va_runI (As := []) (rest := [.ref a16]) ⟨hx, hb, hml, hown, hts⟩ (k8_init l hl9 dC dI z a16 H17.size) (cwI 0 hts (gIL q_760) rfl rfl rfl (hts _ q_255) (hts _ q_761) (hts _ q_762) rfl (by decide +kernel) ⟨Nat.le_of_ble_eq_true rfl, Nat.le_of_ble_eq_true rfl⟩) ⟨pc_blind, fun U hU hW => ⟨rfl, pc_mk hP hD hK hS hX hT [9] [] rfl rfl rfl rfl hF18 hU hW⟩⟩ rfl rfl hl.1 rfl (lv_room (Nat.le_of_ble_eq_true rfl)) dL_law_12 ⟨(Nat.le_of_ble_eq_true rfl), (Nat.le_of_ble_eq_true rfl)⟩) hS (fun q9 _ h9 => hF18 q9 h9) hF18 (fun u20 t20 H20 L20 ht20 hvm20 hw20 hB20 hz20 hk20 hS => ?_)
  obtain ⟨a22, a23, a24, a25, hB20⟩ := hB20
  obtain ⟨hP, hD, hK⟩ := pq_join (wr := [(a1, .inr (6, [.ref a7, .ref a8, .ref a9])), (a7, .inr (2, [.ref a10, .ref a11, .ref a12, .ref a13])), (a8, .inr (5, [.ref a7, .int 0])), (a9, .inr (4, [.ref a7, .ref a14, .int 0])), (a10, .inr (0, [.int 0, .ref z.1, .int 0])), (a11, .inr (0, [.int 0, .ref z.1, .int 0])), (a12, .inr (0, [.int 0, .ref z.1, .int 0])), (a13, .inr (0, [.int 0, .ref z.1, .int 0])), (a14, .inl (k15, 8, .inl (fun _ => 0)))]) (tr := [(k15, .int)]) (wz := [(a1, .inr (6, [.ref a7, .ref a8, .ref a9])), (a7, .inr (2, [.ref a10, .ref a11, .ref a12, .ref a13])), (a8, .inr (5, [.ref a7, .int 0])), (a9, .inr (4, [.ref a7, .ref a14, .int 0])), (a10, .inr (0, [.int 0, .ref z.1, .int 0])), (a11, .inr (0, [.int 0, .ref z.1, .int 0])), (a12, .inr (0, [.int 0, .ref z.1, .int 0])), (a13, .inr (0, [.int 0, .ref z.1, .int 0])), (a14, .inl (k15, 8, .inl (fun _ => 0))), (a16, .inr (8, [.int 0, .ref a22, .ref a23, .ref a24, .ref a25, .int 0])), (a22, .inr (0, [.int 0, .ref z.1, .int 0])), (a23, .inr (0, [.int 0, .ref z.1, .int 0])), (a24, .inr (0, [.int 0, .ref z.1, .int 0])), (a25, .inr (0, [.int 0, .ref z.1, .int 0]))]) (tz := [(k15, .int)]) hP hD hK [9] [0, 1, 2, 3, 4, 5, 6, 7, 8] [0] rfl rfl (by decide) (by decide) rfl hk20 hF18 hB20 ht20 hvm20 rfl rfl
  refine W.widen (k := 14) (n := 50) (by decide) (by decide) ?_
  refine lv_astore_n (lv' := [(2, .ref a16), (1, .ref a1), (0, .ref b)]) hx hb dL_law_15 rfl hl (by decide) rfl (fun ls hl => ?_)
  refine lv_iconst (v := 1) hx hb dL_law_16 (by decide) ?_
  refine va_newa (atype := .long) hx hb (hts _ q_763) rfl hK hP hD hS hA (n := 1) (N' := 1) (a0 := (1, .inr (.inl (fun _ => 0)))) (fun _ => rfl) (by decide) (by decide) (Nat.le_of_ble_eq_true rfl) (Nat.le_of_ble_eq_true rfl) (Nat.le_of_ble_eq_true rfl) dL_law_17 (fun a26 k27 H28 hK hP hD hS => ?_)
  have hK : va_K (dC, dI) xCl [(k15, .int), (k27, .long)] s := hK
  have hP : va_P (dC, dI) xCl [(a1, .inr (6, [.ref a7, .ref a8, .ref a9])), (a7, .inr (2, [.ref a10, .ref a11, .ref a12, .ref a13])), (a8, .inr (5, [.ref a7, .int 0])), (a9, .inr (4, [.ref a7, .ref a14, .int 0])), (a10, .inr (0, [.int 0, .ref z.1, .int 0])), (a11, .inr (0, [.int 0, .ref z.1, .int 0])), (a12, .inr (0, [.int 0, .ref z.1, .int 0])), (a13, .inr (0, [.int 0, .ref z.1, .int 0])), (a14, .inl (k15, 8, .inl (fun _ => 0))), (a16, .inr (8, [.int 0, .ref a22, .ref a23, .ref a24, .ref a25, .int 0])), (a22, .inr (0, [.int 0, .ref z.1, .int 0])), (a23, .inr (0, [.int 0, .ref z.1, .int 0])), (a24, .inr (0, [.int 0, .ref z.1, .int 0])), (a25, .inr (0, [.int 0, .ref z.1, .int 0])), (a26, .inl (k27, 1, .inr (.inl (fun _ => 0))))] H28 := hP
  have hD : va_D A [(a1, .inr (6, [.ref a7, .ref a8, .ref a9])), (a7, .inr (2, [.ref a10, .ref a11, .ref a12, .ref a13])), (a8, .inr (5, [.ref a7, .int 0])), (a9, .inr (4, [.ref a7, .ref a14, .int 0])), (a10, .inr (0, [.int 0, .ref z.1, .int 0])), (a11, .inr (0, [.int 0, .ref z.1, .int 0])), (a12, .inr (0, [.int 0, .ref z.1, .int 0])), (a13, .inr (0, [.int 0, .ref z.1, .int 0])), (a14, .inl (k15, 8, .inl (fun _ => 0))), (a16, .inr (8, [.int 0, .ref a22, .ref a23, .ref a24, .ref a25, .int 0])), (a22, .inr (0, [.int 0, .ref z.1, .int 0])), (a23, .inr (0, [.int 0, .ref z.1, .int 0])), (a24, .inr (0, [.int 0, .ref z.1, .int 0])), (a25, .inr (0, [.int 0, .ref z.1, .int 0])), (a26, .inl (k27, 1, .inr (.inl (fun _ => 0))))] := hD
  refine W.widen (k := 15) (n := 51) (by decide) (by decide) ?_
  refine lv_astore_n (lv' := [(3, .ref a26), (2, .ref a16), (1, .ref a1), (0, .ref b)]) hx hb dL_law_19 rfl hl (by decide) rfl (fun ls hl => ?_)
  refine lv_iconst (v := 1) hx hb dL_law_20 (by decide) ?_
  refine va_newa (atype := .double) hx hb (hts _ q_764) rfl hK hP hD hS hA (n := 1) (N' := 1) (a0 := (1, .inr (.inr (.inr (.inl (fun _ => 0)))))) (fun _ => rfl) (by decide) (by decide) (Nat.le_of_ble_eq_true rfl) (Nat.le_of_ble_eq_true rfl) (Nat.le_of_ble_eq_true rfl) dL_law_21 (fun a29 k30 H31 hK hP hD hS => ?_)
  have hK : va_K (dC, dI) xCl [(k15, .int), (k27, .long), (k30, .double)] s := hK
  have hP : va_P (dC, dI) xCl [(a1, .inr (6, [.ref a7, .ref a8, .ref a9])), (a7, .inr (2, [.ref a10, .ref a11, .ref a12, .ref a13])), (a8, .inr (5, [.ref a7, .int 0])), (a9, .inr (4, [.ref a7, .ref a14, .int 0])), (a10, .inr (0, [.int 0, .ref z.1, .int 0])), (a11, .inr (0, [.int 0, .ref z.1, .int 0])), (a12, .inr (0, [.int 0, .ref z.1, .int 0])), (a13, .inr (0, [.int 0, .ref z.1, .int 0])), (a14, .inl (k15, 8, .inl (fun _ => 0))), (a16, .inr (8, [.int 0, .ref a22, .ref a23, .ref a24, .ref a25, .int 0])), (a22, .inr (0, [.int 0, .ref z.1, .int 0])), (a23, .inr (0, [.int 0, .ref z.1, .int 0])), (a24, .inr (0, [.int 0, .ref z.1, .int 0])), (a25, .inr (0, [.int 0, .ref z.1, .int 0])), (a26, .inl (k27, 1, .inr (.inl (fun _ => 0)))), (a29, .inl (k30, 1, .inr (.inr (.inr (.inl (fun _ => 0))))))] H31 := hP
  have hD : va_D A [(a1, .inr (6, [.ref a7, .ref a8, .ref a9])), (a7, .inr (2, [.ref a10, .ref a11, .ref a12, .ref a13])), (a8, .inr (5, [.ref a7, .int 0])), (a9, .inr (4, [.ref a7, .ref a14, .int 0])), (a10, .inr (0, [.int 0, .ref z.1, .int 0])), (a11, .inr (0, [.int 0, .ref z.1, .int 0])), (a12, .inr (0, [.int 0, .ref z.1, .int 0])), (a13, .inr (0, [.int 0, .ref z.1, .int 0])), (a14, .inl (k15, 8, .inl (fun _ => 0))), (a16, .inr (8, [.int 0, .ref a22, .ref a23, .ref a24, .ref a25, .int 0])), (a22, .inr (0, [.int 0, .ref z.1, .int 0])), (a23, .inr (0, [.int 0, .ref z.1, .int 0])), (a24, .inr (0, [.int 0, .ref z.1, .int 0])), (a25, .inr (0, [.int 0, .ref z.1, .int 0])), (a26, .inl (k27, 1, .inr (.inl (fun _ => 0)))), (a29, .inl (k30, 1, .inr (.inr (.inr (.inl (fun _ => 0))))))] := hD
  refine W.widen (k := 16) (n := 52) (by decide) (by decide) ?_
  refine lv_astore (lv' := [(4, .ref a29), (3, .ref a26), (2, .ref a16), (1, .ref a1), (0, .ref b)]) hx hb dL_law_23 hl (by decide) rfl (fun ls hl => ?_)
  refine lv_iconst (v := 0) hx hb dL_law_25 (by decide) ?_
  refine lv_istore (lv' := [(5, .int 0), (4, .ref a29), (3, .ref a26), (2, .ref a16), (1, .ref a1), (0, .ref b)]) hx hb dL_law_26 hl (by decide) rfl (fun ls hl => ?_)
  rcases (show L = 0 ∨ L = 1 ∨ L = 2 ∨ L = 3 ∨ L = 4 ∨ L = 5 by omega) with rfl | rfl | rfl | rfl | rfl | rfl
  · refine lv_iload hx hb dL_law_28 (lv_at hl 0 rfl) ?_
    refine lv_aload_n hx hb dL_law_30 rfl (lv_at hl 5 rfl) ?_
    refine va_slen hx hb hX9 hbl hbA hS dL_law_31 ?_
    refine lv_iconst (v := 5) hx hb dL_law_32 (by decide) ?_
    refine lv_isub hx hb dL_law_33 ?_
    refine lv_topi (fun y1 ey1 => ?_)
    obtain rfl : y1 = (-5) := ey1.trans (by decide)
    refine lv_icmp_gt (tgt := 1735) hx hb dL_law_34 (by decide) (fun _ => ?_) (fun cz => absurd (by decide) cz)
    refine W.widen (k := 5000) (n := 50000) (Nat.le_of_ble_eq_true rfl) (Nat.le_of_ble_eq_true rfl) ?_
    exact hret _ _ _ hS
  · refine lv_iload hx hb dL_law_28 (lv_at hl 0 rfl) ?_
    refine lv_aload_n hx hb dL_law_30 rfl (lv_at hl 5 rfl) ?_
    refine va_slen hx hb hX9 hbl hbA hS dL_law_31 ?_
    refine lv_iconst (v := 5) hx hb dL_law_32 (by decide) ?_
    refine lv_isub hx hb dL_law_33 ?_
    refine lv_topi (fun y1 ey1 => ?_)
    obtain rfl : y1 = (-4) := ey1.trans (by decide)
    refine lv_icmp_gt (tgt := 1735) hx hb dL_law_34 (by decide) (fun _ => ?_) (fun cz => absurd (by decide) cz)
    refine W.widen (k := 5000) (n := 50000) (Nat.le_of_ble_eq_true rfl) (Nat.le_of_ble_eq_true rfl) ?_
    exact hret _ _ _ hS
  · refine lv_iload hx hb dL_law_28 (lv_at hl 0 rfl) ?_
    refine lv_aload_n hx hb dL_law_30 rfl (lv_at hl 5 rfl) ?_
    refine va_slen hx hb hX9 hbl hbA hS dL_law_31 ?_
    refine lv_iconst (v := 5) hx hb dL_law_32 (by decide) ?_
    refine lv_isub hx hb dL_law_33 ?_
    refine lv_topi (fun y1 ey1 => ?_)
    obtain rfl : y1 = (-3) := ey1.trans (by decide)
    refine lv_icmp_gt (tgt := 1735) hx hb dL_law_34 (by decide) (fun _ => ?_) (fun cz => absurd (by decide) cz)
    refine W.widen (k := 5000) (n := 50000) (Nat.le_of_ble_eq_true rfl) (Nat.le_of_ble_eq_true rfl) ?_
    exact hret _ _ _ hS
  · refine lv_iload hx hb dL_law_28 (lv_at hl 0 rfl) ?_
    refine lv_aload_n hx hb dL_law_30 rfl (lv_at hl 5 rfl) ?_
    refine va_slen hx hb hX9 hbl hbA hS dL_law_31 ?_
    refine lv_iconst (v := 5) hx hb dL_law_32 (by decide) ?_
    refine lv_isub hx hb dL_law_33 ?_
    refine lv_topi (fun y1 ey1 => ?_)
    obtain rfl : y1 = (-2) := ey1.trans (by decide)
    refine lv_icmp_gt (tgt := 1735) hx hb dL_law_34 (by decide) (fun _ => ?_) (fun cz => absurd (by decide) cz)
    refine W.widen (k := 5000) (n := 50000) (Nat.le_of_ble_eq_true rfl) (Nat.le_of_ble_eq_true rfl) ?_
    exact hret _ _ _ hS
  · refine lv_iload hx hb dL_law_28 (lv_at hl 0 rfl) ?_
    refine lv_aload_n hx hb dL_law_30 rfl (lv_at hl 5 rfl) ?_
    refine va_slen hx hb hX9 hbl hbA hS dL_law_31 ?_
    refine lv_iconst (v := 5) hx hb dL_law_32 (by decide) ?_
    refine lv_isub hx hb dL_law_33 ?_
    refine lv_topi (fun y1 ey1 => ?_)
    obtain rfl : y1 = (-1) := ey1.trans (by decide)
    refine lv_icmp_gt (tgt := 1735) hx hb dL_law_34 (by decide) (fun _ => ?_) (fun cz => absurd (by decide) cz)
    refine W.widen (k := 5000) (n := 50000) (Nat.le_of_ble_eq_true rfl) (Nat.le_of_ble_eq_true rfl) ?_
    exact hret _ _ _ hS
  · have hend : ∀ (H' : Heap) (locs' : List Loc) (ls' : Array Slot), va_S A s.heap H' locs' → lv_has ls' 9 [(0, .ref b), (5, .int 0)] → W p l e room_1 s m #[Value.ref b] below meth c H' locs' 5000 50000 (lw_Z below #[Value.ref b] s) (F0 m 1729 ls' []) := by
      intro H' locs' ls' hS' hl
      refine lv_iinc (v := 5) (lv' := [(5, .int 5), (0, .ref b)]) hx hb dL_law_1729 hl (k := 1) rfl (by decide) (by decide) rfl (fun ls hl => ?_)
      refine lv_goto (tgt := 28) hx hb dL_law_1732 (by decide) ?_
      refine lv_iload hx hb dL_law_28 (lv_at hl 0 rfl) ?_
      refine lv_aload_n hx hb dL_law_30 rfl (lv_at hl 1 rfl) ?_
      refine va_slen hx hb hX9 hbl hbA hS' dL_law_31 ?_
      refine lv_iconst (v := 5) hx hb dL_law_32 (by decide) ?_
      refine lv_isub hx hb dL_law_33 ?_
      refine lv_topi (fun y1 ey1 => ?_)
      obtain rfl : y1 = 0 := ey1.trans (by decide)
      refine lv_icmp_gt (tgt := 1735) hx hb dL_law_34 (by decide) (fun _ => ?_) (fun cz => absurd (by decide) cz)
      exact hret _ _ _ hS'
    refine lv_iload hx hb dL_law_28 (lv_at hl 0 rfl) ?_
    refine lv_aload_n hx hb dL_law_30 rfl (lv_at hl 5 rfl) ?_
    refine va_slen hx hb hX9 hbl hbA hS dL_law_31 ?_
    refine lv_iconst (v := 5) hx hb dL_law_32 (by decide) ?_
    refine lv_isub hx hb dL_law_33 ?_
    refine lv_topi (fun y1 ey1 => ?_)
    obtain rfl : y1 = 0 := ey1.trans (by decide)
    refine lv_icmp_gt (tgt := 1735) hx hb dL_law_34 (by decide) (fun cz => absurd cz (by decide)) (fun _ => ?_)
    refine lv_aload_n hx hb dL_law_37 rfl (lv_at hl 5 rfl) ?_
    refine lv_iload hx hb dL_law_38 (lv_at hl 0 rfl) ?_
    refine va_sld hx hb hX9 hbl hbA hS (i := 0) (by unfold vp_in; decide) dL_law_40 ?_
    refine lv_bipush (v := 31) hx hb dL_law_41 (by decide) ?_
    refine lv_iand hx hb dL_law_43 ?_
    obtain ⟨j, hj, ej⟩ := pk_andE (xs (Int32.toNatClampNeg 0)) (m := 31) 5 (by decide)
    refine W.widen (k := 20) (n := 60) (Nat.le_of_ble_eq_true rfl) (Nat.le_of_ble_eq_true rfl) ?_
    rcases (show j = 0 ∨ j = 1 ∨ j = 2 ∨ j = 3 ∨ j = 4 ∨ j = 5 ∨ j = 6 ∨ j = 7 ∨ j = 8 ∨ j = 9 ∨ j = 10 ∨ j = 11 ∨ j = 12 ∨ j = 13 ∨ j = 14 ∨ j = 15 ∨ j = 16 ∨ j = 17 ∨ j = 18 ∨ j = 19 ∨ j = 20 ∨ j = 21 ∨ j = 22 ∨ j = 23 ∨ j = 24 ∨ j = 25 ∨ j = 26 ∨ j = 27 ∨ j = 28 ∨ j = 29 ∨ j = 30 ∨ j = 31 by omega) with rfl | rfl | rfl | rfl | rfl | rfl | rfl | rfl | rfl | rfl | rfl | rfl | rfl | rfl | rfl | rfl | rfl | rfl | rfl | rfl | rfl | rfl | rfl | rfl | rfl | rfl | rfl | rfl | rfl | rfl | rfl | rfl
    · refine W.eq (g2 := F0 m 44 ls [.int 0]) (by rw [ej]; rfl) ?_
      refine lv_tableIn (tgt := 172) hx hb dL_law_44 (by decide) (by decide) rfl (by decide) ?_
      exact lw_c0 hl9 hx hb hml hown hts hX9 hbl hbA hA hX hT hS hP hD hK hl hend
    · refine W.eq (g2 := F0 m 44 ls [.int 1]) (by rw [ej]; rfl) ?_
      refine lv_tableIn (tgt := 216) hx hb dL_law_44 (by decide) (by decide) rfl (by decide) ?_
      exact lw_c1 hl9 hx hb hml hown hts hX9 hbl hbA hA hX hT hS hP hD hK hl hend
    · refine W.eq (g2 := F0 m 44 ls [.int 2]) (by rw [ej]; rfl) ?_
      refine lv_tableIn (tgt := 310) hx hb dL_law_44 (by decide) (by decide) rfl (by decide) ?_
      exact lw_c2 hl9 hx hb hml hown hts hX9 hbl hbA hA hX hT hS hP hD hK hl hend
    · refine W.eq (g2 := F0 m 44 ls [.int 3]) (by rw [ej]; rfl) ?_
      refine lv_tableIn (tgt := 354) hx hb dL_law_44 (by decide) (by decide) rfl (by decide) ?_
      exact lw_c3 hl9 hx hb hml hown hts hX9 hbl hbA hA hX hT hS hP hD hK hl hend
    · refine W.eq (g2 := F0 m 44 ls [.int 4]) (by rw [ej]; rfl) ?_
      refine lv_tableIn (tgt := 446) hx hb dL_law_44 (by decide) (by decide) rfl (by decide) ?_
      exact lw_c4 hl9 hx hb hml hown hts hX9 hbl hbA hA hX hT hS hP hD hK hl hend
    · refine W.eq (g2 := F0 m 44 ls [.int 5]) (by rw [ej]; rfl) ?_
      refine lv_tableIn (tgt := 490) hx hb dL_law_44 (by decide) (by decide) rfl (by decide) ?_
      exact lw_c5 hl9 hx hb hml hown hts hX9 hbl hbA hA hX hT hS hP hD hK hl hend
    · refine W.eq (g2 := F0 m 44 ls [.int 6]) (by rw [ej]; rfl) ?_
      refine lv_tableIn (tgt := 558) hx hb dL_law_44 (by decide) (by decide) rfl (by decide) ?_
      exact lw_c6 hl9 hx hb hml hown hts hX9 hbl hbA hA hX hT hS hP hD hK hl hend
    · refine W.eq (g2 := F0 m 44 ls [.int 7]) (by rw [ej]; rfl) ?_
      refine lv_tableIn (tgt := 649) hx hb dL_law_44 (by decide) (by decide) rfl (by decide) ?_
      exact lw_c7 hl9 hx hb hml hown hts hX9 hbl hbA hA hX hT hS hP hD hK hl hend
    · refine W.eq (g2 := F0 m 44 ls [.int 8]) (by rw [ej]; rfl) ?_
      refine lv_tableIn (tgt := 719) hx hb dL_law_44 (by decide) (by decide) rfl (by decide) ?_
      exact lw_c8 hl9 hx hb hml hown hts hX9 hbl hbA hA hX hT hS hP hD hK hl hend
    · refine W.eq (g2 := F0 m 44 ls [.int 9]) (by rw [ej]; rfl) ?_
      refine lv_tableIn (tgt := 732) hx hb dL_law_44 (by decide) (by decide) rfl (by decide) ?_
      exact lw_c9 hl9 hx hb hml hown hts hX9 hbl hbA hA hX hT hS hP hD hK hl hend
    · refine W.eq (g2 := F0 m 44 ls [.int 10]) (by rw [ej]; rfl) ?_
      refine lv_tableIn (tgt := 802) hx hb dL_law_44 (by decide) (by decide) rfl (by decide) ?_
      exact lw_c10 hl9 hx hb hml hown hts hX9 hbl hbA hA hX hT hS hP hD hK hl hend
    · refine W.eq (g2 := F0 m 44 ls [.int 11]) (by rw [ej]; rfl) ?_
      refine lv_tableIn (tgt := 858) hx hb dL_law_44 (by decide) (by decide) rfl (by decide) ?_
      exact lw_c11 hl9 hx hb hml hown hts hX9 hbl hbA hA hX hT hS hP hD hK hl hend
    · refine W.eq (g2 := F0 m 44 ls [.int 12]) (by rw [ej]; rfl) ?_
      refine lv_tableIn (tgt := 914) hx hb dL_law_44 (by decide) (by decide) rfl (by decide) ?_
      exact lw_c12 hl9 hx hb hml hown hts hX9 hbl hbA hA hX hT hS hP hD hK hl hend
    · refine W.eq (g2 := F0 m 44 ls [.int 13]) (by rw [ej]; rfl) ?_
      refine lv_tableIn (tgt := 970) hx hb dL_law_44 (by decide) (by decide) rfl (by decide) ?_
      exact lw_c13 hl9 hx hb hml hown hts hX9 hbl hbA hA hX hT hS hP hD hK hl hend
    · refine W.eq (g2 := F0 m 44 ls [.int 14]) (by rw [ej]; rfl) ?_
      refine lv_tableIn (tgt := 1026) hx hb dL_law_44 (by decide) (by decide) rfl (by decide) ?_
      exact lw_c14 hl9 hx hb hml hown hts hX9 hbl hbA hA hX hT hS hP hD hK hl hend
    · refine W.eq (g2 := F0 m 44 ls [.int 15]) (by rw [ej]; rfl) ?_
      refine lv_tableIn (tgt := 1039) hx hb dL_law_44 (by decide) (by decide) rfl (by decide) ?_
      exact lw_c15 hl9 hx hb hml hown hts hX9 hbl hbA hA hX hT hS hP hD hK hl hend
    · refine W.eq (g2 := F0 m 44 ls [.int 16]) (by rw [ej]; rfl) ?_
      refine lv_tableIn (tgt := 1095) hx hb dL_law_44 (by decide) (by decide) rfl (by decide) ?_
      exact lw_c16 hl9 hx hb hml hown hts hX9 hbl hbA hA hX hT hS hP hD hK hl hend
    · refine W.eq (g2 := F0 m 44 ls [.int 17]) (by rw [ej]; rfl) ?_
      refine lv_tableIn (tgt := 1151) hx hb dL_law_44 (by decide) (by decide) rfl (by decide) ?_
      exact lw_c17 hl9 hx hb hml hown hts hX9 hbl hbA hA hX hT hS hP hD hK hl hend
    · refine W.eq (g2 := F0 m 44 ls [.int 18]) (by rw [ej]; rfl) ?_
      refine lv_tableIn (tgt := 1219) hx hb dL_law_44 (by decide) (by decide) rfl (by decide) ?_
      exact lw_c18 hl9 hx hb hml hown hts hX9 hbl hbA hA hX hT hS hP hD hK hl hend
    · refine W.eq (g2 := F0 m 44 ls [.int 19]) (by rw [ej]; rfl) ?_
      refine lv_tableIn (tgt := 1275) hx hb dL_law_44 (by decide) (by decide) rfl (by decide) ?_
      exact lw_c19 hl9 hx hb hml hown hts hX9 hbl hbA hA hX hT hS hP hD hK hl hend
    · refine W.eq (g2 := F0 m 44 ls [.int 20]) (by rw [ej]; rfl) ?_
      refine lv_tableIn (tgt := 1343) hx hb dL_law_44 (by decide) (by decide) rfl (by decide) ?_
      exact lw_c20 hl9 hx hb hml hown hts hX9 hbl hbA hA hX hT hS hP hD hK hl hend
    · refine W.eq (g2 := F0 m 44 ls [.int 21]) (by rw [ej]; rfl) ?_
      refine lv_tableIn (tgt := 1432) hx hb dL_law_44 (by decide) (by decide) rfl (by decide) ?_
      exact lw_c21 hl9 hx hb hml hown hts hX9 hbl hbA hA hX hT hS hP hD hK hl hend
    · refine W.eq (g2 := F0 m 44 ls [.int 22]) (by rw [ej]; rfl) ?_
      refine lv_tableIn (tgt := 1502) hx hb dL_law_44 (by decide) (by decide) rfl (by decide) ?_
      exact lw_c22 hl9 hx hb hml hown hts hX9 hbl hbA hA hX hT hS hP hD hK hl hend
    · refine W.eq (g2 := F0 m 44 ls [.int 23]) (by rw [ej]; rfl) ?_
      refine lv_tableIn (tgt := 1558) hx hb dL_law_44 (by decide) (by decide) rfl (by decide) ?_
      exact lw_c23 hl9 hx hb hml hown hts hX9 hbl hbA hA hX hT hS hP hD hK hl hend
    · refine W.eq (g2 := F0 m 44 ls [.int 24]) (by rw [ej]; rfl) ?_
      refine lv_tableIn (tgt := 1571) hx hb dL_law_44 (by decide) (by decide) rfl (by decide) ?_
      exact lw_c24 hl9 hx hb hml hown hts hX9 hbl hbA hA hX hT hS hP hD hK hl hend
    · refine W.eq (g2 := F0 m 44 ls [.int 25]) (by rw [ej]; rfl) ?_
      refine lv_tableIn (tgt := 1585) hx hb dL_law_44 (by decide) (by decide) rfl (by decide) ?_
      exact lw_c25 hl9 hx hb hml hown hts hX9 hbl hbA hA hX hT hS hP hD hK hl hend
    · refine W.eq (g2 := F0 m 44 ls [.int 26]) (by rw [ej]; rfl) ?_
      refine lv_tableIn (tgt := 1651) hx hb dL_law_44 (by decide) (by decide) rfl (by decide) ?_
      exact lw_c26 hl9 hx hb hml hown hts hX9 hbl hbA hA hX hT hS hP hD hK hl hend
    · refine W.eq (g2 := F0 m 44 ls [.int 27]) (by rw [ej]; rfl) ?_
      refine lv_tableIn (tgt := 1716) hx hb dL_law_44 (by decide) (by decide) rfl (by decide) ?_
      exact lw_c27 hl9 hx hb hml hown hts hX9 hbl hbA hA hX hT hS hP hD hK hl hend
    · refine W.eq (g2 := F0 m 44 ls [.int 28]) (by rw [ej]; rfl) ?_
      refine lv_tableOut (tgt := 1729) hx hb dL_law_44 (by decide) (by decide) ?_
      refine W.widen (k := 5000) (n := 50000) (Nat.le_of_ble_eq_true rfl) (Nat.le_of_ble_eq_true rfl) ?_
      exact hend _ _ _ hS (lv_sub hl [5, 0] rfl)
    · refine W.eq (g2 := F0 m 44 ls [.int 29]) (by rw [ej]; rfl) ?_
      refine lv_tableOut (tgt := 1729) hx hb dL_law_44 (by decide) (by decide) ?_
      refine W.widen (k := 5000) (n := 50000) (Nat.le_of_ble_eq_true rfl) (Nat.le_of_ble_eq_true rfl) ?_
      exact hend _ _ _ hS (lv_sub hl [5, 0] rfl)
    · refine W.eq (g2 := F0 m 44 ls [.int 30]) (by rw [ej]; rfl) ?_
      refine lv_tableOut (tgt := 1729) hx hb dL_law_44 (by decide) (by decide) ?_
      refine W.widen (k := 5000) (n := 50000) (Nat.le_of_ble_eq_true rfl) (Nat.le_of_ble_eq_true rfl) ?_
      exact hend _ _ _ hS (lv_sub hl [5, 0] rfl)
    · refine W.eq (g2 := F0 m 44 ls [.int 31]) (by rw [ej]; rfl) ?_
      refine lv_tableOut (tgt := 1729) hx hb dL_law_44 (by decide) (by decide) ?_
      refine W.widen (k := 5000) (n := 50000) (Nat.le_of_ble_eq_true rfl) (Nat.le_of_ble_eq_true rfl) ?_
      exact hend _ _ _ hS (lv_sub hl [5, 0] rfl)
set_option maxHeartbeats 4000000 in
theorem lw_walk (l : Launch) (hflags : l.flags = flags0) (b : Addr) (xs : List Int32) : MetFree l x (headSpec (Jvm.Cond.code x code maxLocals ret :: tables_1) room_1) (lw_P b xs) (fun _ _ _ _ _ => True) lw_Q := by
  refine MetFree.of_bodyS (code := code) (maxLocals := maxLocals) (ret := ret) (by decide) ?_ ?_
  · intro args s m h hn
    obtain ⟨meth, c, h1, h2, h3, h4, h5, h6, -, -⟩ := Cond.code_spec hn (atoms_spec (ws := Jvm.Cond.code x code maxLocals ret :: tables_1) h _ List.mem_cons_self)
    exact ⟨meth, c, h1, h2, h3, h4, h5, h6⟩
  · intro p e s m args below meth c s₁ B hml0 hP _
    obtain ⟨rfl, hx, hbd, hgv⟩ := hP
    obtain ⟨scr, harrAt, hlist, hof, hsmall⟩ := hx
    obtain ⟨hcb, hkn, -, -⟩ := State.arrayAt?_spec harrAt
    have hown : s.vm.findClass R_law = some m.cls := findClass_of_methodNamed B.named
    have hts0 : ∀ c ∈ (Jvm.Cond.code x code maxLocals ret :: tables_1), c.before #[Value.ref b] s = true := atoms_spec (ws := Jvm.Cond.code x code maxLocals ret :: tables_1) B.pre
    have hts : ∀ w ∈ lw_tbl, w.before #[Value.ref b] s = true := k2_hts_sels lw_privs (fun w hw => hts0 w (List.mem_cons_of_mem _ hw)) lw_privs_ok
    have hml : c.maxLocals = 9 := B.maxLocals_eq (hts0 _ List.mem_cons_self)
    have X₀ : Stand p l e room_1 s m #[Value.ref b] below meth c s₁ [] 0 0 := Stand.of_body B
    have hh0 : s₁.heap = s.heap := by rw [B.state]; rfl
    have hsz : scr.slots.size = xs.length := by rw [← Array.length_toList, hlist, List.length_map]
    have hval : ∀ j : Nat, j < xs.length → scr.slots[j]? = some (.int (xs.getD j 0)) := fun j hj => by
      rw [← Array.getElem?_toList, hlist]
      simp [hj]
    have hbl : b < s.heap.size := (Array.getElem?_eq_some_iff.mp hcb).1
    have hX : va_X b xs.length (fun j => xs.getD j 0) s s.heap := ⟨scr, hcb, hof, hkn, hsz, hval⟩
    have K : W p l e room_1 s m #[Value.ref b] below meth c s₁.heap [] 0 0 (lw_Z below #[Value.ref b] s) (entryFrame m ([Value.ref b] : List Value).toArray 9) := by
      rw [hh0]
      exact whole_start l hflags hbd ⟨B.exec, B.bytes, B.returns, hml, hown, hts, hX, hbl, B.notSynchronized, hgv⟩
    obtain ⟨t, a1, o, b1, b2, b3⟩ := K s₁ rfl X₀
    exact ⟨t, o, a1, b1, b2, b3⟩
theorem lw_pre_spec {args : Array Value} {s : State} (h : (Jvm.Cond.and given_1 narrow_1).before args s = true) (hr : rest_1_c.before args s = true) : ∃ (b : Addr) (xs : List Int32), lw_P b xs args s := by
  have hs := flat_of_before _ h
  have hq := flat_of_before _ hr
  have hc : (Cond.count 1).before args s = true := hs _ (by decide +kernel)
  have harr : (Cond.arrayOf (.arg 0) .int).before args s = true := hs _ (by decide +kernel)
  have hle : (Cond.le (.length (.arg 0)) (.int 5)).before args s = true := hs _ (by decide +kernel)
  have hlen : (Cond.isInt (.length (.arg 0))).before args s = true := hq _ (by decide +kernel)
  have hall : (Cond.all (.arg 0) (.isInt (.elem (.arg 0) (.index 0)))).before args s = true := hq _ (by decide +kernel)
  obtain ⟨b, xs, hb, hx⟩ := State.ints_of_pre rfl harr hlen hall
  have hsm : xs.length < 2 ^ 31 := hx.choose_spec.2.2.2
  have hev : (Term.length (.arg 0)).eval args s none [] s = some (.int xs.length.toInt32) := hx.length_eval hb
  have hv := Cond.le_ints hev (show (Term.int 5).eval args s none [] s = some (.int 5) from rfl)
  have hd : xs.length.toInt32 ≤ 5 := by
    simpa [Cond.before, Cond.holds, hv] using hle
  have hN : xs.length ≤ 5 := (Int32.ofNat_le_ofNat hsm (by decide)).mp (show Int32.ofNat xs.length ≤ Int32.ofNat 5 from hd)
  exact ⟨b, xs, Cond.one_arg hc (show args[0]? = some (.ref b) from hb), hx, hN, h⟩
theorem lw_comes (l : Launch) (hflags : l.flags = flags0) : Comes l x (Jvm.Cond.code x code maxLocals ret :: tables_1) room_1 (fun tb e args s => Calls_1 tb e args s ∧ rest_1 tb e args s ∧ Pre_1 tb e args s)
    (fun _ _ args s o t => lw_Q args s o t) := by
  intro p e ha hc hk s m args below hf hfit hheap happ hpre
  obtain ⟨b, xs, hP⟩ := lw_pre_spec hpre.2.2 hpre.2.1
  obtain ⟨k, o, h1, h2, h3, hQ⟩ := lw_walk l hflags b xs p e ha hc hk s m args below hf ((Spec.applies_iff_loose hf).mp happ).1 hP trivial
  exact ⟨k, o, h1, h2, h3, hQ⟩
theorem lw_frame {s t : State} {o : Outcome} {args : Array Value} (h : State.butDraws s t lw_cs (fun t1 => Framed s o t1 [] 600006 7302055)) :
    State.butDraws s t [Jvm.Choice.named "NaN.bits"] (fun t1 => Framed s o t1 (fieldLocs frame_1_writes args s ++ arrayLocs frame_1_arrays args s ++ staticLocs frame_1_statics s) 600006 7302055) := h
theorem lw_limb (L : Cond) (hL : ∀ (args : Array Value) (s t : State), L.after args s (.returned (some (.int 1))) t = true) :
    ArmFor flags0 classFile x code maxLocals ret World_1 tables_1 room_1 Calls_1 rest_1 Pre_1
      (fun tb e a s o t => postC L tb e a s o t ∧ State.butDraws s t [Jvm.Choice.named "NaN.bits"] (fun t1 => Framed s o t1 (fieldLocs frame_1_writes a s ++ arrayLocs frame_1_arrays a s ++ staticLocs frame_1_statics s) 600006 7302055)) := by
  intro l hflags _ _ p e ha hc hk s m args below hf hfit hheap happ hpre
  obtain ⟨k, o, h1, h2, h3, rfl, hF⟩ := lw_comes l hflags p e ha hc hk s m args below hf hfit hheap happ hpre
  exact ⟨k, _, h1, h2, h3, hL args s _, lw_frame hF⟩
theorem i_vc : Claimed_1_1 ∧ Claimed_1_2 := ⟨lw_limb limb_1_1 (fun args s t => by simp [limb_1_1, Cond.after, Cond.holds, Cond.value]), lw_limb limb_1_2 (fun args s t => Cond.after_iff.mpr (by
  first | (rw [show limb_1_2 = Cond.eq .result (.int 1) from rfl, Cond.eq_ints (x := 1) (y := 1) rfl rfl]; simp; done) | (simp [limb_1_2, Cond.value, Term.eval]; done)))⟩
