/-! what lies outside the worlds of all contracts: the empty table of lists, the kinds, the small Integers, Throwable's two statics, Strings, words that are not for lists -/
abbrev XZ : Type := Nat × (Nat → Nat) × (Nat → Nat) × Nat
abbrev xCl : List vw_C := [(RJx4a65c, TJx4a65c, 3), (RJx35411, TJx35411, 4), (RX0, TX0, 4), (RX2, TX2, 19), (RX4, TX4, 3), (RX5, TX5, 2), (RX6, TX6, 3), (RX8, TX8, 6), (RX9, TX9, 6)]
def xStr : List (Nat × String) := [(91, "no such delay"), (67, "no such kind, or no such delay"), (277, "no such row"), (271, "there are no nets"), (251, "no such net"), (152, "no such number of steps")]
def xCs : List (String × String) := [(RX2, "java/lang/Object"), (RX8, "java/lang/Object"), ("java/lang/Integer", "java/lang/Object"), ("java/lang/IllegalArgumentException", "java/lang/IllegalArgumentException"), ("java/lang/IndexOutOfBoundsException", "java/lang/IndexOutOfBoundsException"), ("java/util/NoSuchElementException", "java/util/NoSuchElementException"), ("java/lang/ArithmeticException", "java/lang/ArithmeticException")]
def xNc : List (String × String) := [("java/lang/IndexOutOfBoundsException", "java/lang/IllegalArgumentException")]
def xDs : List MethodName := [⟨"java/lang/RuntimeException", "<init>", "(Ljava/lang/String;)V"⟩, ⟨"java/lang/Exception", "<init>", "(Ljava/lang/String;)V"⟩, ⟨"java/lang/Throwable", "<init>", "(Ljava/lang/String;)V"⟩]
abbrev xIn : MethodName := ⟨"java/util/Iterator", "next", "()Ljava/lang/Object;"⟩
abbrev xIh : MethodName := ⟨"java/util/Iterator", "hasNext", "()Z"⟩
def XE (z : XZ) (A : Nat → Prop) (U : State) (H : Heap) : Prop :=
  (va_Z "java/util/ArrayList" "DEFAULTCAPACITY_EMPTY_ELEMENTDATA" "[Ljava/lang/Object;" (.ref z.1) A U H ∧ va_T (.object "java/lang/Object") z.1 0 (fun _ => .null) A U H) ∧
  va_En "Deltacycle$NetKind" "LDeltacycle$NetKind;" ["INPUT", "GATE", "BUS", "REGISTER"] [] z.2.1 A U H ∧
  (vb_C z.2.2.1 A U H ∧ va_Z "java/lang/Integer$IntegerCache" "high" "I" (.int 127) A U H ∧ va_Z "java/lang/Integer$IntegerCache" "cache" "[Ljava/lang/Integer;" (.ref z.2.2.2) A U H ∧ va_T (.object "java/lang/Integer") z.2.2.2 256 (fun k => .ref (z.2.2.1 k)) A U H) ∧
  (vx_Zq Bundle.tN "UNASSIGNED_STACK" Bundle.steD A U H ∧ vx_Zq Bundle.tN "SUPPRESSED_SENTINEL" Bundle.listD A U H)
def XT (U : State) : Prop :=
  (∀ q ∈ xStr, ∃ a, vk_R "Deltacycle" q.1 q.2 a U) ∧ ((∀ q ∈ xCs, va_Nw (.castable q.1 q.2) U) ∧ ∀ y ∈ xDs, va_Nw (.declares y) U) ∧ (∀ q ∈ xNc, va_Nc q.1 q.2 U) ∧ va_AO "java/lang/Object" U ∧
  va_Nw (.fieldLinkNest RJx35411 28 "java/util/ArrayList" "size" "I" "java/util/ArrayList") U ∧ va_Nw (.methodLinkNest RX6 9 yX0_init "Deltacycle") U ∧
  va_Fw RJx35411 xIh yJx35411_hasNext_aae02 U ∧ va_Fw RJx35411 xIn yJx35411_next_0502b U ∧
  va_Nw (.methodLinkNest "Deltacycle$Rows" 70 yX6_isKnown "Deltacycle") U
theorem XE.moved {z : XZ} {A : Nat → Prop} {u U : State} {H : Heap} (hvm : u.vm.Alike U.vm) (h : XE z A u H) : XE z A U H :=
  ⟨⟨va_Z.moved hvm h.1.1, va_T.moved hvm h.1.2⟩, va_En.moved hvm h.2.1, ⟨vb_C.moved hvm h.2.2.1.1, va_Z.moved hvm h.2.2.1.2.1, va_Z.moved hvm h.2.2.1.2.2.1, va_T.moved hvm h.2.2.1.2.2.2⟩, ⟨vx_Zq.moved hvm h.2.2.2.1, vx_Zq.moved hvm h.2.2.2.2⟩⟩
theorem XE.kept {z : XZ} {A : Nat → Prop} {U : State} {H H1 : Heap} (h : XE z A U H) (hq : ∀ a : Nat, a < H.size → ¬ A a → H1[a]? = H[a]?) : XE z A U H1 :=
  ⟨⟨h.1.1.kept hq, h.1.2.kept hq⟩, h.2.1.kept hq, ⟨h.2.2.1.1.kept hq, h.2.2.1.2.1.kept hq, h.2.2.1.2.2.1.kept hq, h.2.2.1.2.2.2.kept hq⟩, ⟨h.2.2.2.1.kept hq, h.2.2.2.2.kept hq⟩⟩
theorem XE.narrow {z : XZ} {A B : Nat → Prop} {U : State} {H : Heap} (h : XE z A U H) (hAB : ∀ q, B q → A q) : XE z B U H :=
  ⟨⟨h.1.1.narrow hAB, h.1.2.narrow hAB⟩, h.2.1.narrow hAB, ⟨h.2.2.1.1.narrow hAB, h.2.2.1.2.1.narrow hAB, h.2.2.1.2.2.1.narrow hAB, h.2.2.1.2.2.2.narrow hAB⟩, ⟨h.2.2.2.1.narrow hAB, h.2.2.2.2.narrow hAB⟩⟩
theorem XT.warm {s U : State} (hW : s.WarmedH U.vm) (h : XT s) : XT U :=
  ⟨fun q hq => (h.1 q hq).elim fun a ha => ⟨a, vk_R.warm hW ha⟩, ⟨fun q hq => va_Nw.warmC hW (h.2.1.1 q hq), fun y hy => va_Nw.warmD hW (h.2.1.2 y hy)⟩, fun q hq => va_Nc.moved hW.alike (h.2.2.1 q hq), va_AO.moved hW.alike h.2.2.2.1, va_Nw.warmF hW h.2.2.2.2.1, va_Nw.warmM hW h.2.2.2.2.2.1, va_Fw.moved (by decide +kernel) hW.alike h.2.2.2.2.2.2.1, va_Fw.moved (by decide +kernel) hW.alike h.2.2.2.2.2.2.2.1, va_Nw.warmM hW h.2.2.2.2.2.2.2.2⟩
theorem XT.same {s U : State} (hv : s.vm = U.vm) (h : XT s) : XT U := XT.warm (by rw [← hv]; exact State.WarmedH.refl s) h
/-- a contract's start: the cells, their places' tables, the rest of the heap -/
def PC (G : va_G) (ws : va_W) (tys : List (ClassId × FieldType)) (sz : Nat) (z : XZ) (U : State) : Prop :=
  U.heap.size = sz ∧ va_P G xCl ws U.heap ∧ va_K G xCl tys U ∧ va_D (fun _ => True) ws ∧ XE z (va_A ws sz) U U.heap ∧ XT U
theorem pc_blind {av : List Value} {G : va_G} {ws : va_W} {tys : List (ClassId × FieldType)} {sz : Nat} {z : XZ} : FrameBlind (va_Pc av (PC G ws tys sz z)) := fun a U g mk q =>
  ⟨q.1, q.2.1, q.2.2.1, va_K.moved (u := U) (U := U.calling g mk a) (Vm.Alike.refl U.vm) q.2.2.2.1, q.2.2.2.2.1, XE.moved (u := U) (U := U.calling g mk a) (Vm.Alike.refl U.vm) q.2.2.2.2.2.1, XT.same (s := U) (U := U.calling g mk a) rfl q.2.2.2.2.2.2⟩
/-- the callee's start, from the caller's own facts -/
theorem pc_mk {G : va_G} {ws wc : va_W} {tys tc : List (ClassId × FieldType)} {z : XZ} {A : Nat → Prop} {s : State} {H : Heap} {locs : List Loc} (hP : va_P G xCl ws H) (hD : va_D A ws) (hK : va_K G xCl tys s) (hS : va_S A s.heap H locs) (hX : XE z A s s.heap) (hT : XT s)
    (is it : List Nat) (h1 : is.filterMap (fun i => ws[i]?) = wc) (h2 : va_nd is = true) (h3 : is.map (fun i => ws[i]?) = wc.map some) (h4 : it.filterMap (fun i => tys[i]?) = tc) (hF : ∀ q, va_A wc H.size q → A q) {U : State} (hU : U.heap = H) (hW : s.WarmedH U.vm) : PC G wc tc H.size z U :=
  ⟨by rw [hU], by rw [hU]; exact hP.sub is h1, va_K.moved hW.alike (hK.sub it h4), (hD.sub is h2 h3).weaken (fun _ _ _ _ => trivial), by
    rw [hU]
    exact XE.moved hW.alike ((hX.kept hS.2.1).narrow hF), XT.warm hW hT⟩
/-- a contract's end -/
def PQ (G : va_G) (ws : va_W) (tys : List (ClassId × FieldType)) (A : Nat → Prop) (t : State) : Prop := va_P G xCl ws t.heap ∧ va_K G xCl tys t ∧ va_D A ws
theorem pq_mk {G : va_G} {ws wc : va_W} {tys tc : List (ClassId × FieldType)} {A : Nat → Prop} {s t : State} {H : Heap} (hP : va_P G xCl ws H) (hD : va_D A ws) (hK : va_K G xCl tys s) (is it : List Nat) (h1 : is.filterMap (fun i => ws[i]?) = wc) (h2 : va_nd is = true) (h3 : is.map (fun i => ws[i]?) = wc.map some) (h4 : it.filterMap (fun i => tys[i]?) = tc) (ht : t.heap = H) (hW : s.WarmedH t.vm) : PQ G wc tc A t :=
  ⟨by rw [ht]; exact hP.sub is h1, va_K.moved hW.alike (hK.sub it h4), hD.sub is h2 h3⟩
/-- behind a call: the caller's other cells and the callee's -/
theorem pq_join {A0 : Nat → Prop} {G : va_G} {ws wc wr w1 wz : va_W} {tys tr t1 tz : List (ClassId × FieldType)} {s t : State} {H H1 : Heap} (hP : va_P G xCl ws H) (hD : va_D A0 ws) (hK : va_K G xCl tys s) (isC isR it : List Nat) (hC : isC.map (fun i => ws[i]?) = wc.map some) (hR : isR.map (fun i => ws[i]?) = wr.map some) (hn : va_nd isR = true) (hdis : ∀ i ∈ isR, i ∉ isC) (h4 : it.filterMap (fun i => tys[i]?) = tr)
    (hk : ∀ q : Nat, q < H.size → ¬ va_A wc H.size q → H1[q]? = H[q]?) (hF : ∀ q, va_A wc H.size q → A0 q) (hB : PQ G w1 t1 (va_A wc H.size) t) (ht : t.heap = H1) (hvm : s.vm.Alike t.vm) (hz : wr ++ w1 = wz) (hy : tr ++ t1 = tz) : va_P G xCl wz H1 ∧ va_D A0 wz ∧ va_K G xCl tz s := by
  obtain ⟨hP1, hK1, hD1⟩ := hB
  rw [ht] at hP1
  obtain ⟨h5, h6⟩ := va_join hP hD isC isR hC hR hn hdis hk hF hP1 hD1
  subst hz; subst hy
  exact ⟨h5, h6, (hK.sub it h4).app (va_K.moved hvm.symm hK1)⟩
/-- behind a call that threw: the caller's other cells -/
theorem pq_rest {A0 : Nat → Prop} {G : va_G} {ws wc wr : va_W} {H H1 : Heap} (hP : va_P G xCl ws H) (hD : va_D A0 ws) (isC isR : List Nat) (hC : isC.map (fun i => ws[i]?) = wc.map some) (hR : isR.map (fun i => ws[i]?) = wr.map some) (hn : va_nd isR = true) (hdis : ∀ i ∈ isR, i ∉ isC)
    (hk : ∀ q : Nat, q < H.size → ¬ va_A wc H.size q → H1[q]? = H[q]?) (hF : ∀ q, va_A wc H.size q → A0 q) : va_P G xCl wr H1 ∧ va_D A0 wr := by
  obtain ⟨h5, h6⟩ := va_join (w1 := []) (D := G) (cl := xCl) (H1 := H1) hP hD isC isR hC hR hn hdis hk hF (fun k q h => by simp at h) ⟨fun i j p q h => by simp at h, fun k q h => by simp at h⟩
  rw [List.append_nil] at h5 h6
  exact ⟨h5, h6⟩
theorem xF {A : Nat → Prop} {s t : State} {H : Heap} {locs : List Loc} (hS : va_S A s.heap H locs) (h1 : H.size ≤ t.heap.size) (h2 : ∀ q : Nat, q < H.size → t.heap[q]? = H[q]?) : va_F A s t :=
  ⟨Nat.le_trans hS.1 h1, fun q h3 h4 => by rw [h2 q (Nat.lt_of_lt_of_le h3 hS.1)]; exact hS.2.1 q h3 h4⟩
theorem xw_gd : ∀ w ∈ wsL_law, (w.onTables && w.keeps) = true ∨ ∃ ty, w = .arrayClass ty := fun w h => (xw_in w h).2
theorem gI {c0 c1 : Cond} (h : c1 ∈ wsL_law) : GoodIn (c0 :: wsL_law) (c1 :: wsL_law) := fun w hw => (List.mem_cons.mp hw).elim (fun e => by rw [e]; exact ⟨List.mem_cons_of_mem _ h, xw_gd _ h⟩) (fun h2 => ⟨List.mem_cons_of_mem _ h2, xw_gd _ h2⟩)
theorem gIL {c1 : Cond} (h : c1 ∈ wsL_law) : GoodIn wsL_law (c1 :: wsL_law) := fun w hw => (List.mem_cons.mp hw).elim (fun e => by rw [e]; exact ⟨h, xw_gd _ h⟩) (fun h2 => ⟨h2, xw_gd _ h2⟩)
theorem gV {own C : String} {idx : Nat} {y : MethodName} {c1 : Cond} (h1 : Cond.methodLink own idx y ∈ wsL_law) (h2 : Cond.instanceMethod y ∈ wsL_law) (h3 : Cond.selects C y y ∈ wsL_law) (h4 : Cond.initialized C ∈ wsL_law) (h : c1 ∈ wsL_law) : GoodIn wsL_law (wsV own idx C y (c1 :: wsL_law)) := fun w hw => by
  have k : w ∈ wsL_law := by
    simp only [wsV, List.mem_append, List.mem_cons, List.not_mem_nil, or_false] at hw
    rcases hw with (rfl | rfl | rfl | rfl) | rfl | hw <;> assumption
  exact ⟨k, xw_gd _ k⟩
theorem gS {own : String} {idx : Nat} {y : MethodName} {c1 : Cond} (h1 : Cond.methodLink own idx y ∈ wsL_law) (h2 : Cond.static y ∈ wsL_law) (h4 : Cond.initialized y.cls ∈ wsL_law) (h : c1 ∈ wsL_law) : GoodIn wsL_law (va_wsS own idx y (c1 :: wsL_law)) := fun w hw => by
  have k : w ∈ wsL_law := by
    simp only [va_wsS, List.mem_append, List.mem_cons, List.not_mem_nil, or_false] at hw
    rcases hw with (rfl | rfl | rfl) | rfl | hw <;> assumption
  exact ⟨k, xw_gd _ k⟩
theorem gF {own C : String} {idx : Nat} {x y : MethodName} {c1 : Cond} (h1 : Cond.methodLink own idx x ∈ wsL_law) (h2 : Cond.selects C x y ∈ wsL_law) (h3 : Cond.instanceMethod y ∈ wsL_law) (h4 : Cond.initialized y.cls ∈ wsL_law) (h : c1 ∈ wsL_law) : GoodIn wsL_law (va_wsF own idx C x y (c1 :: wsL_law)) := fun w hw => by
  have k : w ∈ wsL_law := by
    simp only [va_wsF, List.mem_append, List.mem_cons, List.not_mem_nil, or_false] at hw
    rcases hw with (rfl | rfl | rfl | rfl) | rfl | hw <;> assumption
  exact ⟨k, xw_gd _ k⟩
theorem xTail {c0 : Cond} {args : Array Value} {s : State} (h : ∀ w ∈ (c0 :: wsL_law), w.before args s = true) : ∀ w ∈ wsL_law, w.before args s = true := fun w hw => h w (List.mem_cons_of_mem _ hw)
theorem xng_69 : ∀ w ∈ (vx_atS RX6 69 "java/lang/IllegalArgumentException" ["java/lang/RuntimeException", "java/lang/Exception"]).filter (fun w => !goodWord w), w ∈ [Cond.castable "java/lang/IllegalArgumentException" "java/lang/IllegalArgumentException", Cond.declares ⟨"java/lang/RuntimeException", "<init>", "(Ljava/lang/String;)V"⟩, Cond.declares ⟨"java/lang/Exception", "<init>", "(Ljava/lang/String;)V"⟩, Cond.declares ⟨"java/lang/Throwable", "<init>", "(Ljava/lang/String;)V"⟩] := by decide +kernel
theorem xot_69 : ∀ w ∈ Cond.classLink RX6 65 "java/lang/IllegalArgumentException" :: Cond.initialized "java/lang/IllegalArgumentException" :: vx_atS RX6 69 "java/lang/IllegalArgumentException" ["java/lang/RuntimeException", "java/lang/Exception"], vx_ot w = true := by decide +kernel
theorem xhat_69 {args : Array Value} {s : State} (hts : ∀ w ∈ wsL_law, w.before args s = true) (hT : XT s) : ∀ w ∈ vx_atS RX6 69 "java/lang/IllegalArgumentException" ["java/lang/RuntimeException", "java/lang/Exception"], w.before args s = true := vx_hat (fun w h => hts w (int_69 w h)) xng_69 (vx_c (va_Nw.use rfl (hT.2.1.1 ("java/lang/IllegalArgumentException", "java/lang/IllegalArgumentException") (by decide))) (vx_c (va_Nw.use rfl (hT.2.1.2 _ (List.mem_of_getElem? (i := 0) rfl))) (vx_c (va_Nw.use rfl (hT.2.1.2 _ (List.mem_of_getElem? (i := 1) rfl))) (vx_c (va_Nw.use rfl (hT.2.1.2 _ (List.mem_of_getElem? (i := 2) rfl))) vx_n))))
theorem xng_253 : ∀ w ∈ (vx_atS RX6 253 "java/lang/IndexOutOfBoundsException" ["java/lang/RuntimeException", "java/lang/Exception"]).filter (fun w => !goodWord w), w ∈ [Cond.castable "java/lang/IndexOutOfBoundsException" "java/lang/IndexOutOfBoundsException", Cond.declares ⟨"java/lang/RuntimeException", "<init>", "(Ljava/lang/String;)V"⟩, Cond.declares ⟨"java/lang/Exception", "<init>", "(Ljava/lang/String;)V"⟩, Cond.declares ⟨"java/lang/Throwable", "<init>", "(Ljava/lang/String;)V"⟩] := by decide +kernel
theorem xot_253 : ∀ w ∈ Cond.classLink RX6 249 "java/lang/IndexOutOfBoundsException" :: Cond.initialized "java/lang/IndexOutOfBoundsException" :: vx_atS RX6 253 "java/lang/IndexOutOfBoundsException" ["java/lang/RuntimeException", "java/lang/Exception"], vx_ot w = true := by decide +kernel
theorem xhat_253 {args : Array Value} {s : State} (hts : ∀ w ∈ wsL_law, w.before args s = true) (hT : XT s) : ∀ w ∈ vx_atS RX6 253 "java/lang/IndexOutOfBoundsException" ["java/lang/RuntimeException", "java/lang/Exception"], w.before args s = true := vx_hat (fun w h => hts w (int_253 w h)) xng_253 (vx_c (va_Nw.use rfl (hT.2.1.1 ("java/lang/IndexOutOfBoundsException", "java/lang/IndexOutOfBoundsException") (by decide))) (vx_c (va_Nw.use rfl (hT.2.1.2 _ (List.mem_of_getElem? (i := 0) rfl))) (vx_c (va_Nw.use rfl (hT.2.1.2 _ (List.mem_of_getElem? (i := 1) rfl))) (vx_c (va_Nw.use rfl (hT.2.1.2 _ (List.mem_of_getElem? (i := 2) rfl))) vx_n))))
theorem xng_273 : ∀ w ∈ (vx_atS RX6 273 "java/lang/ArithmeticException" ["java/lang/RuntimeException", "java/lang/Exception"]).filter (fun w => !goodWord w), w ∈ [Cond.castable "java/lang/ArithmeticException" "java/lang/ArithmeticException", Cond.declares ⟨"java/lang/RuntimeException", "<init>", "(Ljava/lang/String;)V"⟩, Cond.declares ⟨"java/lang/Exception", "<init>", "(Ljava/lang/String;)V"⟩, Cond.declares ⟨"java/lang/Throwable", "<init>", "(Ljava/lang/String;)V"⟩] := by decide +kernel
theorem xot_273 : ∀ w ∈ Cond.classLink RX6 269 "java/lang/ArithmeticException" :: Cond.initialized "java/lang/ArithmeticException" :: vx_atS RX6 273 "java/lang/ArithmeticException" ["java/lang/RuntimeException", "java/lang/Exception"], vx_ot w = true := by decide +kernel
theorem xhat_273 {args : Array Value} {s : State} (hts : ∀ w ∈ wsL_law, w.before args s = true) (hT : XT s) : ∀ w ∈ vx_atS RX6 273 "java/lang/ArithmeticException" ["java/lang/RuntimeException", "java/lang/Exception"], w.before args s = true := vx_hat (fun w h => hts w (int_273 w h)) xng_273 (vx_c (va_Nw.use rfl (hT.2.1.1 ("java/lang/ArithmeticException", "java/lang/ArithmeticException") (by decide))) (vx_c (va_Nw.use rfl (hT.2.1.2 _ (List.mem_of_getElem? (i := 0) rfl))) (vx_c (va_Nw.use rfl (hT.2.1.2 _ (List.mem_of_getElem? (i := 1) rfl))) (vx_c (va_Nw.use rfl (hT.2.1.2 _ (List.mem_of_getElem? (i := 2) rfl))) vx_n))))
theorem fa_lt (a b : Int32) : a < b ↔ a.toInt < b.toInt := Int32.lt_iff_toInt_lt
theorem fa_le (a b : Int32) : a ≤ b ↔ a.toInt ≤ b.toInt := Int32.le_iff_toInt_le
theorem fa_eq (a b : Int32) : a = b ↔ a.toInt = b.toInt := Int32.toInt_inj.symm
theorem tI_m1 : (-1 : Int32).toInt = -1 := by decide
theorem tI_0 : (0 : Int32).toInt = 0 := by decide
theorem tI_1 : (1 : Int32).toInt = 1 := by decide
theorem tI_9 : (9 : Int32).toInt = 9 := by decide
theorem tI_100 : (100 : Int32).toInt = 100 := by decide
theorem tI_126 : (126 : Int32).toInt = 126 := by decide
theorem tI_61 : (61 : Int32).toInt = 61 := by decide
theorem tI_38 : (38 : Int32).toInt = 38 := by decide
theorem tI_124 : (124 : Int32).toInt = 124 := by decide
theorem tI_94 : (94 : Int32).toInt = 94 := by decide
/-- in a range -/
def xBt (x lo hi : Int32) : Int32 := if lo ≤ x ∧ x ≤ hi then 1 else 0
/-- a kind of gate -/
def xGK (k : Int32) : Int32 := if k = 126 ∨ k = 61 ∨ k = 38 ∨ k = 124 ∨ k = 94 then 1 else 0
theorem xBt_or (x lo hi : Int32) : xBt x lo hi = 0 ∨ xBt x lo hi = 1 := by unfold xBt; split; exact Or.inr rfl; exact Or.inl rfl
theorem xGK_or (k : Int32) : xGK k = 0 ∨ xGK k = 1 := by unfold xGK; split; exact Or.inr rfl; exact Or.inl rfl
theorem xBt_1 {x lo hi : Int32} (h : xBt x lo hi = 1) : lo ≤ x ∧ x ≤ hi := by
  unfold xBt at h
  split at h
  · assumption
  · exact absurd h (by decide)
theorem xBt_0 {x lo hi : Int32} (h : xBt x lo hi = 0) : ¬ (lo ≤ x ∧ x ≤ hi) := by
  unfold xBt at h
  split at h
  · exact absurd h (by decide)
  · assumption
theorem xBt_00 {x : Int32} (h : xBt x 0 0 = 1) : x = 0 := by
  have h1 := xBt_1 h
  simp only [fa_le, fa_eq, tI_0] at h1 ⊢
  omega
def xAnd (a b : Int32) : Int32 := if a = 1 ∧ b = 1 then 1 else 0
def eS (g : Int32) : String := if g = 1 then "java/lang/IndexOutOfBoundsException" else "java/lang/IllegalArgumentException"
def kS (g : Int32) : Int32 := if g = 1 then 2 else 1
theorem kS_or (g : Int32) : kS g = 1 ∨ kS g = 2 := by unfold kS; split; exact Or.inr rfl; exact Or.inl rfl
theorem eS_or (g : Int32) : (eS g = "java/lang/IllegalArgumentException" ∧ kS g = 1) ∨ (eS g = "java/lang/IndexOutOfBoundsException" ∧ kS g = 2) := by
  unfold kS eS
  by_cases h : g = 1
  · rw [if_pos h, if_pos h]; exact Or.inr ⟨rfl, rfl⟩
  · rw [if_neg h, if_neg h]; exact Or.inl ⟨rfl, rfl⟩
theorem tI_9999 : (9999 : Int32).toInt = 9999 := by decide
theorem lgc_self (x : Int64) : lg_cmp x x = 0 := by
  unfold lg_cmp
  rw [if_neg (by rw [gt_iff_lt, Int64.lt_iff_toInt_lt]; omega), if_pos rfl]
theorem xBt_n {x : Int32} (h : xBt x 1 100 = 1) : ∃ n : Nat, n ≤ 100 ∧ x = nI n := by
  have h1 := xBt_1 h
  have hx : ¬ x < 0 := by
    simp only [fa_lt, fa_le, tI_0, tI_1, tI_100] at h1 ⊢
    omega
  exact nI_of2 (M := 100) (by decide) hx h1.2
theorem W_up {p : Program} {l : Launch} {e : Env} {R : Room} {s : State} {m : MethodId} {args : Array Value} {below : List Frame} {meth : Method} {c : Code} {Q : State → Prop} (n : Nat) (I : Nat → Heap → List Loc → Nat → Nat → JFrame → Prop)
    (step : ∀ (i : Nat) (H : Heap) (locs : List Loc) (cells slots : Nat) (g : JFrame), i < n → I i H locs cells slots g → (∀ (H' : Heap) (locs' : List Loc) (cells' slots' : Nat) (g' : JFrame), I (i + 1) H' locs' cells' slots' g' → W p l e R s m args below meth c H' locs' cells' slots' Q g') → W p l e R s m args below meth c H locs cells slots Q g)
    (exit : ∀ (H : Heap) (locs : List Loc) (cells slots : Nat) (g : JFrame), I n H locs cells slots g → W p l e R s m args below meth c H locs cells slots Q g) :
    ∀ (H : Heap) (locs : List Loc) (cells slots : Nat) (g : JFrame), I 0 H locs cells slots g → W p l e R s m args below meth c H locs cells slots Q g := by
  have key : ∀ (f i : Nat), i ≤ n → n - i < f → ∀ (H : Heap) (locs : List Loc) (cells slots : Nat) (g : JFrame), I i H locs cells slots g → W p l e R s m args below meth c H locs cells slots Q g := by
    intro f
    induction f with
    | zero => intro i h1 h2; omega
    | succ f ih =>
      intro i h1 h2 H locs cells slots g h
      rcases Nat.lt_or_ge i n with q | q
      · exact step i H locs cells slots g q h (fun H' locs' cells' slots' g' h' => ih (i + 1) q (by omega) H' locs' cells' slots' g' h')
      · have e1 : i = n := by omega
        subst e1
        exact exit H locs cells slots g h
  exact key (n + 1) 0 (Nat.zero_le _) (by omega)
theorem xng_170 : ∀ w ∈ xnW.filter (fun w => !goodWord w), w ∈ [Cond.castable "java/util/NoSuchElementException" "java/util/NoSuchElementException", Cond.declares ⟨"java/lang/RuntimeException", "<init>", "(Ljava/lang/String;)V"⟩, Cond.declares ⟨"java/lang/Exception", "<init>", "(Ljava/lang/String;)V"⟩, Cond.declares ⟨"java/lang/Throwable", "<init>", "(Ljava/lang/String;)V"⟩] := by decide +kernel
theorem xot_170 : ∀ w ∈ Cond.classLink RX6 166 xnC :: Cond.initialized xnC :: xnW, vx_ot w = true := by decide +kernel
theorem xhat_170 {args : Array Value} {s : State} (hts : ∀ w ∈ wsL_law, w.before args s = true) (hT : XT s) : ∀ w ∈ xnW, w.before args s = true := vx_hat (fun w h => hts w (int_170 w h)) xng_170 (vx_c (va_Nw.use rfl (hT.2.1.1 ("java/util/NoSuchElementException", "java/util/NoSuchElementException") (by decide))) (vx_c (va_Nw.use rfl (hT.2.1.2 _ (List.mem_of_getElem? (i := 0) rfl))) (vx_c (va_Nw.use rfl (hT.2.1.2 _ (List.mem_of_getElem? (i := 1) rfl))) (vx_c (va_Nw.use rfl (hT.2.1.2 _ (List.mem_of_getElem? (i := 2) rfl))) vx_n))))
def PG (G : va_G) (ws : va_W) (tys : List (ClassId × FieldType)) (A : Nat → Prop) (sz g : Nat) (t : State) : Prop := PQ G ws tys A t ∧ sz + g ≤ t.heap.size
theorem nf_Jx4a65c : ∀ j, j < 3 → defaultValue (tyJx4a65c j) = vp_V [.int 0, .null, .int 0] j := fun j hj => match j, hj with
  | 0, _ => rfl
  | 1, _ => rfl
  | 2, _ => rfl
  | k + 3, h => absurd h (by omega)
theorem nf_Jx35411 : ∀ j, j < 4 → defaultValue (tyJx35411 j) = vp_V [.int 0, .int 0, .int 0, .null] j := fun j hj => match j, hj with
  | 0, _ => rfl
  | 1, _ => rfl
  | 2, _ => rfl
  | 3, _ => rfl
  | k + 4, h => absurd h (by omega)
theorem nf_X0 : ∀ j, j < 4 → defaultValue (tyX0 j) = vp_V [.null, .null, .null, .null] j := fun j hj => match j, hj with
  | 0, _ => rfl
  | 1, _ => rfl
  | 2, _ => rfl
  | 3, _ => rfl
  | k + 4, h => absurd h (by omega)
theorem nf_X2 : ∀ j, j < 19 → defaultValue (tyX2 j) = vp_V [.int 0, .null, .null, .null, .int 0, .int 0, .int 0, .int 0, .int 0, .int 0, .int 0, .int 0, .int 0, .int 0, .int 0, .int 0, .null, .int 0, .int 0] j := fun j hj => match j, hj with
  | 0, _ => rfl
  | 1, _ => rfl
  | 2, _ => rfl
  | 3, _ => rfl
  | 4, _ => rfl
  | 5, _ => rfl
  | 6, _ => rfl
  | 7, _ => rfl
  | 8, _ => rfl
  | 9, _ => rfl
  | 10, _ => rfl
  | 11, _ => rfl
  | 12, _ => rfl
  | 13, _ => rfl
  | 14, _ => rfl
  | 15, _ => rfl
  | 16, _ => rfl
  | 17, _ => rfl
  | 18, _ => rfl
  | k + 19, h => absurd h (by omega)
theorem nf_X4 : ∀ j, j < 3 → defaultValue (tyX4 j) = vp_V [.null, .null, .int 0] j := fun j hj => match j, hj with
  | 0, _ => rfl
  | 1, _ => rfl
  | 2, _ => rfl
  | k + 3, h => absurd h (by omega)
theorem nf_X5 : ∀ j, j < 2 → defaultValue (tyX5 j) = vp_V [.null, .int 0] j := fun j hj => match j, hj with
  | 0, _ => rfl
  | 1, _ => rfl
  | k + 2, h => absurd h (by omega)
theorem nf_X6 : ∀ j, j < 3 → defaultValue (tyX6 j) = vp_V [.null, .null, .null] j := fun j hj => match j, hj with
  | 0, _ => rfl
  | 1, _ => rfl
  | 2, _ => rfl
  | k + 3, h => absurd h (by omega)
theorem nf_X8 : ∀ j, j < 6 → defaultValue (tyX8 j) = vp_V [.int 0, .int 0, .int 0, .int 0, .int 0, .int 0] j := fun j hj => match j, hj with
  | 0, _ => rfl
  | 1, _ => rfl
  | 2, _ => rfl
  | 3, _ => rfl
  | 4, _ => rfl
  | 5, _ => rfl
  | k + 6, h => absurd h (by omega)
theorem nf_X9 : ∀ j, j < 6 → defaultValue (tyX9 j) = vp_V [.int 0, .null, .null, .null, .null, .int 0] j := fun j hj => match j, hj with
  | 0, _ => rfl
  | 1, _ => rfl
  | 2, _ => rfl
  | 3, _ => rfl
  | 4, _ => rfl
  | 5, _ => rfl
  | k + 6, h => absurd h (by omega)
theorem xown {s : State} {y : MethodName} {R : String} {m : MethodId} (hn : s.methodNamed? y = some m) (h : y.cls = R) : s.vm.findClass R = some m.cls := by
  subst h
  exact findClass_of_methodNamed hn
/-! the same joins with less to read: no list typed that Lean knows already, no number twice told by a Bool -/
def nb : List Nat → Bool
  | [] => true
  | a :: l => l.all (fun b => !(Nat.beq a b)) && nb l
theorem nb_nd : ∀ l : List Nat, nb l = true → va_nd l = true := by
  intro l
  induction l with
  | nil => intro _; rfl
  | cons a l ih =>
    intro h
    simp only [nb, Bool.and_eq_true] at h
    simp only [va_nd, Bool.and_eq_true, decide_eq_true_eq]
    refine ⟨fun hm => ?_, ih h.2⟩
    have h1 : (!(Nat.beq a a)) = true := List.all_eq_true.mp h.1 a hm
    rw [Nat.beq_refl] at h1
    exact absurd h1 (by decide)
theorem fm_map {α β : Type} {f : α → Option β} : ∀ (l : List α) (w : List β), l.map f = w.map some → l.filterMap f = w := by
  intro l
  induction l with
  | nil =>
    intro w h
    cases w with
    | nil => rfl
    | cons b w => simp at h
  | cons a l ih =>
    intro w h
    cases w with
    | nil => simp at h
    | cons b w =>
      simp only [List.map_cons, List.cons.injEq] at h
      rw [List.filterMap_cons_some h.1, ih w h.2]
theorem pc_M {G : va_G} {ws wc : va_W} {tys tc : List (ClassId × FieldType)} {z : XZ} {A : Nat → Prop} {s : State} {H : Heap} {locs : List Loc} {l : Launch} {y : MethodName} {wds : List Cond} {rm : Room} {av : List Value} {Qc : Array Value → State → Outcome → State → Prop} {mc ms : Nat}
    (_hM : Met l y wds rm (va_Pc av (PC G wc tc H.size z)) Qc mc ms (va_A wc H.size)) (hP : va_P G xCl ws H) (hD : va_D A ws) (hK : va_K G xCl tys s) (hS : va_S A s.heap H locs) (hX : XE z A s s.heap) (hT : XT s) (hA : ∀ q : Nat, s.heap.size ≤ q → A q) (is it : List Nat) (h2 : nb is = true) (h3 : is.map (fun i => ws[i]?) = wc.map some) (h4 : it.filterMap (fun i => tys[i]?) = tc) :
    (∀ q, va_A wc H.size q → A q) ∧ ∀ U : State, U.heap = H → s.WarmedH U.vm → PC G wc tc H.size z U := by
  have hF := va_free hD hS hA is h3
  exact ⟨hF, fun U hU hW => pc_mk hP hD hK hS hX hT is it (fm_map is wc h3) (nb_nd is h2) h3 h4 hF hU hW⟩
theorem pq_mk2 {G : va_G} {ws wc : va_W} {tys tc : List (ClassId × FieldType)} {A : Nat → Prop} {s t : State} {H : Heap} (hP : va_P G xCl ws H) (hD : va_D A ws) (hK : va_K G xCl tys s) (is it : List Nat) (h2 : nb is = true) (h3 : is.map (fun i => ws[i]?) = wc.map some) (h4 : it.filterMap (fun i => tys[i]?) = tc) (ht : t.heap = H) (hW : s.WarmedH t.vm) : PQ G wc tc A t :=
  pq_mk hP hD hK is it (fm_map is wc h3) (nb_nd is h2) h3 h4 ht hW
theorem vd_as {G : va_G} {ws ws' : va_W} {A : Nat → Prop} {H : Heap} (_hP : va_P G xCl ws H) (hD : va_D A ws') (h : ws' = ws) : va_D A ws := by
  subst h
  exact hD
theorem at_C {ws wc : va_W} {is : List Nat} (hs : is.map (fun i => ws[i]?) = wc.map some) (k : Nat) (q : Nat × va_E) (hq : wc[k]? = some q) : ∃ i, is[k]? = some i ∧ ws[i]? = some q := by
  have h1 : (is.map (fun i => ws[i]?))[k]? = some (some q) := by rw [hs, List.getElem?_map, hq]; rfl
  rw [List.getElem?_map] at h1
  cases hi : is[k]? with
  | none => rw [hi] at h1; cases h1
  | some i => rw [hi] at h1; exact ⟨i, rfl, Option.some.inj h1⟩
/-- behind a call that left the callee's cells as they were -/
theorem pq_keep {A0 : Nat → Prop} {G : va_G} {ws wc : va_W} {t1 : List (ClassId × FieldType)} {t : State} {H H1 : Heap} (hP : va_P G xCl ws H) (hD : va_D A0 ws) (isC : List Nat) (hC : isC.map (fun i => ws[i]?) = wc.map some)
    (hk : ∀ q : Nat, q < H.size → ¬ va_A wc H.size q → H1[q]? = H[q]?) (hB : PQ G wc t1 (va_A wc H.size) t) (ht : t.heap = H1) : va_P G xCl ws H1 := by
  obtain ⟨hP1, -, -⟩ := hB
  rw [ht] at hP1
  intro k q hq
  have hl := (hP k q hq).lt
  by_cases hm : va_A wc H.size q.1
  · rcases hm with ⟨k2, e, h⟩ | h
    · obtain ⟨i, -, h2⟩ := at_C hC k2 (q.1, e) h
      have hij := hD.1 k i q (q.1, e) hq h2 rfl
      subst hij
      have he : (q.1, e) = q := Option.some.inj (h2.symm.trans hq)
      have h3 := hP1 k2 (q.1, e) h
      rw [he] at h3
      exact h3
    · omega
  · exact (hP k q hq).kept (hk q.1 hl hm)
def pf : va_W → List Nat → Nat → va_W
  | [], _, _ => []
  | q :: ws, is, k => bif is.any (Nat.beq k) then pf ws is (k + 1) else q :: pf ws is (k + 1)
theorem pf_sub (is : List Nat) : ∀ (ws : va_W) (k : Nat), (pf ws is k).Sublist ws := by
  intro ws
  induction ws with
  | nil => intro k; exact List.Sublist.slnil
  | cons q ws ih =>
    intro k
    cases hb : is.any (Nat.beq k) with
    | true =>
      have e : pf (q :: ws) is k = pf ws is (k + 1) := by simp only [pf, hb, cond_true]
      rw [e]
      exact (ih (k + 1)).cons q
    | false =>
      have e : pf (q :: ws) is k = q :: pf ws is (k + 1) := by simp only [pf, hb, cond_false]
      rw [e]
      exact (ih (k + 1)).cons₂ q
theorem pf_in (is : List Nat) : ∀ (ws : va_W) (k j : Nat) (q : Nat × va_E), (pf ws is k)[j]? = some q → ∃ i, ws[i]? = some q ∧ is.any (Nat.beq (k + i)) = false := by
  intro ws
  induction ws with
  | nil => intro k j q h; simp [pf] at h
  | cons p ws ih =>
    intro k j q h
    cases hb : is.any (Nat.beq k) with
    | true =>
      have e : pf (p :: ws) is k = pf ws is (k + 1) := by simp only [pf, hb, cond_true]
      rw [e] at h
      obtain ⟨i, h1, h2⟩ := ih _ _ _ h
      refine ⟨i + 1, h1, ?_⟩
      rw [show k + (i + 1) = k + 1 + i by omega]
      exact h2
    | false =>
      have e : pf (p :: ws) is k = p :: pf ws is (k + 1) := by simp only [pf, hb, cond_false]
      rw [e] at h
      cases j with
      | zero => exact ⟨0, h, hb⟩
      | succ j =>
        obtain ⟨i, h1, h2⟩ := ih _ _ _ h
        refine ⟨i + 1, h1, ?_⟩
        rw [show k + (i + 1) = k + 1 + i by omega]
        exact h2
theorem sub_nd {w ws : va_W} (hs : w.Sublist ws) (h : ∀ (i j : Nat) (p q : Nat × va_E), ws[i]? = some p → ws[j]? = some q → p.1 = q.1 → i = j) : ∀ (i j : Nat) (p q : Nat × va_E), w[i]? = some p → w[j]? = some q → p.1 = q.1 → i = j := by
  have h1 : ws.Pairwise (fun p q => p.1 ≠ q.1) := by
    refine List.pairwise_iff_getElem.mpr (fun i j hi hj hij he => ?_)
    have h9 := h i j ws[i] ws[j] (List.getElem?_eq_some_iff.mpr ⟨hi, rfl⟩) (List.getElem?_eq_some_iff.mpr ⟨hj, rfl⟩) he
    omega
  have h2 := List.Pairwise.sublist hs h1
  intro i j p q hi hj he
  obtain ⟨li, ei⟩ := List.getElem?_eq_some_iff.mp hi
  obtain ⟨lj, ej⟩ := List.getElem?_eq_some_iff.mp hj
  rcases Nat.lt_trichotomy i j with c | c | c
  · exact (List.pairwise_iff_getElem.mp h2 i j li lj c (by rw [ei, ej]; exact he)).elim
  · exact c
  · exact (List.pairwise_iff_getElem.mp h2 j i lj li c (by rw [ei, ej]; exact he.symm)).elim
/-- behind a call: the caller's other cells and the callee's -/
theorem pq_jn {A0 : Nat → Prop} {G : va_G} {ws wc w1 wz : va_W} {tys t1 tz : List (ClassId × FieldType)} {s t : State} {H H1 : Heap} (hP : va_P G xCl ws H) (hD : va_D A0 ws) (hK : va_K G xCl tys s) (isC it : List Nat) (hC : isC.map (fun i => ws[i]?) = wc.map some)
    (hk : ∀ q : Nat, q < H.size → ¬ va_A wc H.size q → H1[q]? = H[q]?) (hF : ∀ q, va_A wc H.size q → A0 q) (hB : PQ G w1 t1 (va_A wc H.size) t) (ht : t.heap = H1) (hvm : s.vm.Alike t.vm) (hz : pf ws isC 0 ++ w1 = wz) (hy : it.filterMap (fun i => tys[i]?) ++ t1 = tz) : va_P G xCl wz H1 ∧ va_D A0 wz ∧ va_K G xCl tz s := by
  obtain ⟨hP1, hK1, hD1⟩ := hB
  rw [ht] at hP1
  have ap : ∀ (j : Nat) (q : Nat × va_E), (pf ws isC 0)[j]? = some q → (∃ i : Nat, ws[i]? = some q) ∧ q.1 < H.size ∧ ¬ va_A wc H.size q.1 := by
    intro j q hq
    obtain ⟨i, h1, h2⟩ := pf_in isC ws 0 j q hq
    have hl := (hP i q h1).lt
    refine ⟨⟨i, h1⟩, hl, fun h => ?_⟩
    rcases h with ⟨k2, e, h⟩ | h
    · obtain ⟨i2, h3, h4⟩ := at_C hC k2 (q.1, e) h
      have hij := hD.1 i i2 q (q.1, e) h1 h4 rfl
      subst hij
      rw [Nat.zero_add] at h2
      have h5 : isC.any (Nat.beq i) = true := List.any_eq_true.mpr ⟨i, List.mem_of_getElem? h3, Nat.beq_refl i⟩
      rw [h5] at h2
      cases h2
    · omega
  subst hz
  subst hy
  refine ⟨va_P.app (fun j q hq => ?_) hP1, va_D.app ⟨sub_nd (pf_sub isC ws 0) hD.1, fun k q hq => ?_⟩ (hD1.weaken (fun k q _ h => hF q.1 h)) (fun i j x y hx hy hxy => ?_), (hK.sub it rfl).app (va_K.moved hvm.symm hK1)⟩
  · obtain ⟨⟨i, h1⟩, g1, g2⟩ := ap j q hq
    exact (hP i q h1).kept (hk q.1 g1 g2)
  · obtain ⟨⟨i, h1⟩, -, -⟩ := ap k q hq
    exact hD.2 i q h1
  · exact (ap i x hx).2.2 (by rw [hxy]; exact hD1.2 j y hy)
