/-! The JDK's own methods: contracts over a few cells, what they rest on, calls, the frame. -/
/-- addresses: the cache's boxes; the cache's row, the empty row, the mirror of Object[], the digits' rows; Strings: theirs, their rows', what they hold -/
abbrev jA : Type := (Nat → Nat) × (Nat × (Nat × (Nat × (Nat × (Nat × List (Nat × (Nat × List Int32)))))))
abbrev jOc : String := "[Ljava/lang/Object;"
/-- the words that no call keeps by itself -/
def jFw : List Cond := [.castable "java/lang/Integer" "java/lang/Object", .castable "java/util/ArrayList$Itr" "java/util/Iterator",
  .declares ⟨"java/util/Iterator", "hasNext", "()Z"⟩, .interfaceMethod "java/util/Iterator" "java/util/Iterator" "hasNext" "()Z", .publicMethod yJx35411_hasNext_aae02, .unhidden "java/util/ArrayList$Itr" "hasNext" "()Z",
  .declares ⟨"java/util/Iterator", "next", "()Ljava/lang/Object;"⟩, .interfaceMethod "java/util/Iterator" "java/util/Iterator" "next" "()Ljava/lang/Object;", .publicMethod yJx35411_next_0502b, .unhidden "java/util/ArrayList$Itr" "next" "()Ljava/lang/Object;",
  .privateMethod yJ5_ensureCapacityInternal_d00df, .privateMethod yJ5_newCapacity_0f7a4, .privateMethod yJ5_putStringAt_47b60, .privateMethod yJ5_inflateIfNeededFor_a7421]
theorem jFw_ok : ∀ w ∈ jFw, w.onTables = true ∧ w.keepsFace = true := by decide +kernel
def jDg (b : Bool) (j : Nat) : Value := .int (nI ((if b then j % 10 else j / 10) + 48))
def gJ (J : jA) (A : Nat → Prop) (U : State) (H : Heap) : Prop :=
  (va_Z "java/lang/Integer$IntegerCache" "high" "I" (.int 127) A U H ∧ va_Z "java/lang/Integer$IntegerCache" "cache" "[Ljava/lang/Integer;" (.ref J.2.1) A U H ∧ va_T (.object "java/lang/Integer") J.2.1 256 (fun j => .ref (J.1 j)) A U H ∧ vb_C J.1 A U H) ∧
  (va_Z "java/util/ArrayList" "DEFAULTCAPACITY_EMPTY_ELEMENTDATA" "[Ljava/lang/Object;" (.ref J.2.2.1) A U H ∧ va_T (.object "java/lang/Object") J.2.2.1 0 (fun _ => .null) A U H) ∧
  (va_Mi jOc J.2.2.2.1 U ∧ va_Dc U ∧ va_AO "java/lang/Object" U ∧ va_Nw (.fieldLinkNest "java/util/ArrayList$Itr" 28 "java/util/ArrayList" "size" "I" "java/util/ArrayList") U ∧ ∀ w ∈ jFw, va_Nw w U) ∧
  (va_Z "java/lang/Integer" "DigitOnes" "[B" (.ref J.2.2.2.2.1) A U H ∧ va_T .byte J.2.2.2.2.1 100 (jDg true) A U H ∧ va_Z "java/lang/Integer" "DigitTens" "[B" (.ref J.2.2.2.2.2.1) A U H ∧ va_T .byte J.2.2.2.2.2.1 100 (jDg false) A U H) ∧
  va_Z "java/lang/String" "COMPACT_STRINGS" "Z" (.int 1) A U H ∧
  ∀ q ∈ J.2.2.2.2.2.2, va_O "java/lang/String" q.1 A U H ∧ va_OF "java/lang/String" "coder" "B" (.int 0) q.1 A U H ∧ va_OF "java/lang/String" "value" "[B" (.ref q.2.1) q.1 A U H ∧ va_T .byte q.2.1 q.2.2.length (fun j => .int (q.2.2.getD j 0)) A U H
section JA
variable {J : jA} {A B : Nat → Prop} {s U : State} {H H1 : Heap}
theorem gJ.warm (hW : s.WarmedH U.vm) (h : gJ J A s H) : gJ J A U H := by
  obtain ⟨⟨a1, a2, a3, a4⟩, ⟨b1, b2⟩, ⟨c1, c2, c3, c4, c5⟩, ⟨d1, d2, d3, d4⟩, e, g⟩ := h
  have m := hW.alike
  exact ⟨⟨a1.moved m, a2.moved m, a3.moved m, a4.moved m⟩, ⟨b1.moved m, b2.moved m⟩, ⟨c1.moved m, c2.moved m, va_AO.moved m c3, va_Nw.warmF hW c4, fun w hw => gFw_warm (jFw_ok w hw).1 (jFw_ok w hw).2 hW (c5 w hw)⟩, ⟨d1.moved m, d2.moved m, d3.moved m, d4.moved m⟩, e.moved m, fun q hq => ⟨va_O.moved m (g q hq).1, va_OF.moved m (g q hq).2.1, va_OF.moved m (g q hq).2.2.1, va_T.moved m (g q hq).2.2.2⟩⟩
theorem gJ.same (hv : U.vm = s.vm) (h : gJ J A s H) : gJ J A U H := by
  have m : s.vm.Alike U.vm := by rw [hv]; exact Vm.Alike.refl _
  obtain ⟨⟨a1, a2, a3, a4⟩, ⟨b1, b2⟩, ⟨c1, c2, c3, c4, c5⟩, ⟨d1, d2, d3, d4⟩, e, g⟩ := h
  exact ⟨⟨a1.moved m, a2.moved m, a3.moved m, a4.moved m⟩, ⟨b1.moved m, b2.moved m⟩, ⟨c1.moved m, c2.moved m, va_AO.moved m c3, va_Nw.same rfl hv.symm c4, fun w hw => va_Nw.same (jFw_ok w hw).1 hv.symm (c5 w hw)⟩, ⟨d1.moved m, d2.moved m, d3.moved m, d4.moved m⟩, e.moved m, fun q hq => ⟨va_O.moved m (g q hq).1, va_OF.moved m (g q hq).2.1, va_OF.moved m (g q hq).2.2.1, va_T.moved m (g q hq).2.2.2⟩⟩
theorem gJ.kept (h : gJ J A U H) (k : ∀ a : Nat, a < H.size → ¬ A a → H1[a]? = H[a]?) : gJ J A U H1 := by
  obtain ⟨⟨a1, a2, a3, a4⟩, ⟨b1, b2⟩, c, ⟨d1, d2, d3, d4⟩, e, g⟩ := h
  exact ⟨⟨a1.kept k, a2.kept k, a3.kept k, a4.kept k⟩, ⟨b1.kept k, b2.kept k⟩, c, ⟨d1.kept k, d2.kept k, d3.kept k, d4.kept k⟩, e.kept k, fun q hq => ⟨(g q hq).1.kept k, (g q hq).2.1.kept k, (g q hq).2.2.1.kept k, (g q hq).2.2.2.kept k⟩⟩
theorem gJ.narrow (h : gJ J A U H) (k : ∀ q, B q → A q) : gJ J B U H := by
  obtain ⟨⟨a1, a2, a3, a4⟩, ⟨b1, b2⟩, c, ⟨d1, d2, d3, d4⟩, e, g⟩ := h
  exact ⟨⟨a1.narrow k, a2.narrow k, a3.narrow k, a4.narrow k⟩, ⟨b1.narrow k, b2.narrow k⟩, c, ⟨d1.narrow k, d2.narrow k, d3.narrow k, d4.narrow k⟩, e.narrow k, fun q hq => ⟨(g q hq).1.narrow k, (g q hq).2.1.narrow k, (g q hq).2.2.1.narrow k, (g q hq).2.2.2.narrow k⟩⟩
end JA
/-- an Integer stands at y -/
def jBx (s : State) (H : Heap) (y : Nat) : Prop := ∃ cell : Cell, H[y]? = some cell ∧ cell.vm.isStatics = false ∧ s.vm.findClass "java/lang/Integer" = some cell.cls
theorem jBx.moved {s U : State} {H : Heap} {y : Nat} (hm : s.vm.Alike U.vm) (h : jBx s H y) : jBx U H y := by
  have h0 : va_O "java/lang/Integer" y (fun _ => False) s H := by obtain ⟨c, h1, h2, h3⟩ := h; exact ⟨c, h1, h2, h3, fun h => h⟩
  obtain ⟨c, h1, h2, h3, -⟩ := va_O.moved hm h0
  exact ⟨c, h1, h2, h3⟩
theorem jBx.at {s : State} {H H1 : Heap} {y : Nat} (h : jBx s H y) (e : H1[y]? = H[y]?) : jBx s H1 y := by
  obtain ⟨c, h1, h2⟩ := h
  exact ⟨c, by rw [e]; exact h1, h2⟩
theorem jBx.lt {s : State} {H : Heap} {y : Nat} (h : jBx s H y) : y < H.size := by
  obtain ⟨c, h1, -⟩ := h
  exact (Array.getElem?_eq_some_iff.mp h1).1
/-- a contract over the cells wc: it answers rv, and what comes back is Z u -/
def jPre (D : va_G) (cid : Nat → ClassId) (J : jA) (wc : va_W) (bx : List Nat) (sz : Nat) (U : State) : Prop :=
  U.heap.size = sz ∧ va_P D vwCl wc U.heap ∧ va_D (va_A wc sz) wc ∧ iK D cid U ∧ gJ J (va_A wc sz) U U.heap ∧ ∀ y ∈ bx, jBx U U.heap y ∧ ¬ va_A wc sz y
def jQ {α : Type} (D : va_G) (wc : va_W) (sz : Nat) (post : Option Value → α → Prop) (Z : α → va_W) : Array Value → State → Outcome → State → Prop := fun _ st oc t =>
  (∃ (rv : Option Value) (u : α), oc = .returned rv ∧ post rv u ∧ va_P D vwCl (Z u) t.heap ∧ va_D (va_A wc sz) (Z u)) ∧ va_F (va_A wc sz) st t
def jM {α : Type} (l : Launch) (D : va_G) (cid : Nat → ClassId) (J : jA) (y : MethodName) (w : Cond) (rm : Room) (av : List Value) (wc : va_W) (bx : List Nat) (mc ms : Nat) (post : Option Value → α → Prop) (Z : α → va_W) : Prop :=
  ∀ sz : Nat, Met l y (gWs w) rm (va_Pc av (jPre D cid J wc bx sz)) (jQ D wc sz post Z) mc ms (va_A wc sz)
/-- what holds within -/
def jI (D : va_G) (s : State) (A : Nat → Prop) (X : va_W) (H : Heap) (locs : List Loc) : Prop := va_P D vwCl X H ∧ va_D A X ∧ va_S A s.heap H locs
def jC (p : Program) (s : State) (m : MethodId) (args : Array Value) (c : Code) (cc : ByteArray) (nL : Nat) (own : String) (D : va_G) (cid : Nat → ClassId) (J : jA) (A : Nat → Prop) (bx : List Nat) : Prop :=
  iC p s m args c cc nL own D cid ∧ gJ J A s s.heap ∧ (∀ q : Nat, s.heap.size ≤ q → A q) ∧ ∀ y ∈ bx, jBx s s.heap y ∧ ¬ A y
theorem jMet {α : Type} {l : Launch} {D : va_G} {cid : Nat → ClassId} {J : jA} {y : MethodName} {cc : ByteArray} {maxL : Nat} {ret : Option FieldType} {rm : Room} {av : List Value} {wc : va_W} {bx : List Nat} {mc ms : Nat} {post : Option Value → α → Prop} {Z : α → va_W} (hy : plainName y.cls = true) (hL : (lg_sl av).length ≤ maxL)
    (body : ∀ (p : Program) (e : Env) (s : State) (m : MethodId) (args : Array Value) (below : List Frame) (meth : Method) (c : Code) (H : Heap) (locs : List Loc) (ls : Array Slot) (Q : State → Prop) (A : Nat → Prop), A = va_A wc s.heap.size → jC p s m args c cc maxL y.cls D cid J A bx → meth.name = y.name → lv_has ls maxL (lv_args 0 av) → jI D s A wc H locs →
      (∀ (rv : Option Value) (u : α) (X : va_W) (H1 : Heap) (locs1 : List Loc) (ls1 : Array Slot) (pc cells slots : Nat), post rv u → Z u = X → jI D s A X H1 locs1 → cells ≤ mc ∧ slots ≤ ms →
        ((∃ v ty, rv = some (.int v) ∧ ret = some ty ∧ narrow ty (.int v) = .int v ∧ decode cc pc = .ok (.ireturn, 1)) ∨ (rv = none ∧ ret = none ∧ decode cc pc = .ok (.return_, 1)) ∨ (∃ a rt, rv = some (.ref a) ∧ ret = some rt ∧ ((∃ n, rt = .object n) ∨ ∃ t, rt = .array t) ∧ decode cc pc = .ok (.areturn, 1))) → W p l e rm s m args below meth c H1 locs1 cells slots Q (F0 m pc ls1 rv.toList)) →
      W p l e rm s m args below meth c H locs 0 0 Q (F0 m 0 ls [])) : jM l D cid J y (.code y cc maxL ret) rm av wc bx mc ms post Z := by
  intro sz
  refine Met.ofW (cc := cc) (maxL := maxL) (ret := ret) hy rfl ?_
  intro p e s m args below meth c s₁ B hml hv
  obtain ⟨rfl, hsz, hP, hD, hK, hJ, hbx⟩ := hv
  subst hsz
  have hts : ∀ w ∈ gWs (.code y cc maxL ret), w.before av.toArray s = true := atoms_spec (ws := gWs (.code y cc maxL ret)) B.pre
  have hlocks := B.notSynchronized
  have hin : meth.name = y.name := (name_of_methodNamed B.named B.method).1
  have hl := lv_entry av (n := maxL) hL
  rw [lg_entry_eq]
  generalize (lg_sl av ++ List.replicate (maxL - (lg_sl av).length) Slot.unset).toArray = ls at hl ⊢
  refine body p e s m _ below meth c s.heap [] ls _ (va_A wc s.heap.size) rfl ⟨⟨B.exec, B.bytes, hml, findClass_of_methodNamed B.named, fun w hw => hts w (List.mem_cons_of_mem _ hw), hK⟩, hJ, fun q hq => Or.inr hq, hbx⟩ hin hl ⟨hP, hD, va_S.rf⟩ ?_
  intro rv u X H1 locs1 ls1 pc cells slots hp hZ hI hcs hend
  subst hZ
  refine W.widen hcs.1 hcs.2 ?_
  rcases hend with ⟨v, ty, rfl, hr, hn, hdg⟩ | ⟨rfl, hr, hdg⟩ | ⟨a, rt, rfl, hr, hrt, hdg⟩
  · exact W.zret B.exec B.bytes (B.returns.trans hr) hn (fun t ht hWm => ⟨⟨_, u, rfl, hp, by rw [ht]; exact hI.1, hI.2.1⟩, hI.2.2.F ht⟩) hI.2.2.2.2 hdg
  · exact W.vret B.exec B.bytes (B.returns.trans hr) (fun t ht hWm => ⟨⟨_, u, rfl, hp, by rw [ht]; exact hI.1, hI.2.1⟩, hI.2.2.F ht⟩) hI.2.2.2.2 hdg
  · exact W.aret B.exec B.bytes (B.returns.trans hr) hrt (Or.inr ⟨a, rfl⟩) (fun t ht hWm => ⟨⟨_, u, rfl, hp, by rw [ht]; exact hI.1, hI.2.1⟩, hI.2.2.F ht⟩) hI.2.2.2.2 hdg
section JC
variable {p : Program} {l : Launch} {e : Env} {R : Room} {s : State} {m : MethodId} {args : Array Value} {below : List Frame} {meth : Method} {c : Code} {H : Heap} {locs : List Loc} {cells slots mc ms : Nat} {Q : State → Prop}
variable {D : va_G} {cid : Nat → ClassId} {J : jA} {A : Nat → Prop} {cc : ByteArray} {own : String} {nL pc : Nat} {X wc : va_W} {bx bx0 : List Nat} {ls : Array Slot} {rest st0 As : List Value}
variable {α : Type} {y : MethodName} {bytes : ByteArray} {maxL n index : Nat} {ret : Option FieldType} {rm : Room} {post : Option Value → α → Prop} {Z : α → va_W}
/-- cells ahead of a callee's stay; what comes back stands behind them -/
theorem j_join {w1 : va_W} {H1 H2 : Heap} (hP : va_P D vwCl (X ++ wc) H1) (hD : va_D A (X ++ wc)) (hk : ∀ a : Nat, a < H1.size → ¬ va_A wc H1.size a → H2[a]? = H1[a]?) (hA : ∀ a, va_A wc H1.size a → A a) (hP1 : va_P D vwCl w1 H2) (hD1 : va_D (va_A wc H1.size) w1) :
    va_P D vwCl (X ++ w1) H2 ∧ va_D A (X ++ w1) := by
  have at1 : ∀ (k : Nat) (z : Nat × va_E), X[k]? = some z → (X ++ wc)[k]? = some z := fun k z hz => by
    rw [List.getElem?_append_left (List.getElem?_eq_some_iff.mp hz).1]; exact hz
  have far : ∀ (k : Nat) (z : Nat × va_E), X[k]? = some z → z.1 < H1.size ∧ ¬ va_A wc H1.size z.1 := fun k z hz => by
    have h1 := (hP k z (at1 k z hz)).lt
    refine ⟨h1, fun h2 => ?_⟩
    rcases h2 with ⟨j, e9, h2⟩ | h2
    · have hj : (X ++ wc)[X.length + j]? = some (z.1, e9) := by
        rw [List.getElem?_append_right (Nat.le_add_right _ _), Nat.add_sub_cancel_left]; exact h2
      have h3 := hD.1 k (X.length + j) z (z.1, e9) (at1 k z hz) hj rfl
      have h4 := (List.getElem?_eq_some_iff.mp hz).1
      omega
    · omega
  refine ⟨va_P.app (fun k z hz => (hP k z (at1 k z hz)).kept (hk _ (far k z hz).1 (far k z hz).2)) hP1, va_D.app ⟨fun i j y z hi hj => hD.1 i j y z (at1 i y hi) (at1 j z hj), fun k z hz => hD.2 k z (at1 k z hz)⟩ (hD1.weaken (fun _ _ _ h9 => hA _ h9)) (fun i j y z hy hz hyz => ?_)⟩
  have h1 := hD1.2 j z hz
  rw [← hyz] at h1
  exact (far i y hy).2 h1
theorem jA_in (hAn : ∀ q : Nat, s.heap.size ≤ q → A q) (hI : jI D s A (X ++ wc) H locs) : ∀ a, va_A wc H.size a → A a := fun a h => by
  rcases h with ⟨j, e9, h⟩ | h
  · exact hI.2.1.2 (X.length + j) (a, e9) (by rw [List.getElem?_append_right (Nat.le_add_right _ _), Nat.add_sub_cancel_left]; exact h)
  · exact hAn a (Nat.le_trans hI.2.2.1 h)
theorem j_wc (hI : jI D s A (X ++ wc) H locs) : va_P D vwCl wc H ∧ va_D (va_A wc H.size) wc := by
  have hr : ∀ (k : Nat) (z : Nat × va_E), wc[k]? = some z → (X ++ wc)[X.length + k]? = some z := fun k z hz => by
    rw [List.getElem?_append_right (Nat.le_add_right _ _), Nat.add_sub_cancel_left]; exact hz
  refine ⟨fun k z hz => hI.1 _ _ (hr k z hz), ⟨fun i j y z hi hj e9 => ?_, fun k z hz => Or.inl ⟨k, z.2, hz⟩⟩⟩
  have := hI.2.1.1 _ _ _ _ (hr i y hi) (hr j z hj) e9
  omega
/-- what a call finds -/
theorem j_pre (hC : jC p s m args c cc nL own D cid J A bx0) (hI : jI D s A (X ++ wc) H locs) (hbx : ∀ y ∈ bx, jBx s H y ∧ ¬ va_A wc H.size y) {U : State} (hU : U.heap = H) (hW : s.WarmedH U.vm) : jPre D cid J wc bx H.size U := by
  subst hU
  obtain ⟨hC0, hJ, hAn, -⟩ := hC
  have hw := j_wc hI
  exact ⟨rfl, hw.1, hw.2, hC0.2.2.2.2.2.warm hW, ((hJ.kept hI.2.2.2.1).warm hW).narrow (jA_in hAn hI), fun y hy => ⟨(hbx y hy).1.moved hW.alike, (hbx y hy).2⟩⟩
theorem j_blind (D : va_G) (cid : Nat → ClassId) (J : jA) (wc : va_W) (bx : List Nat) (sz : Nat) (As : List Value) : FrameBlind (va_Pc As (jPre D cid J wc bx sz)) := fun a U g mk h =>
  ⟨h.1, h.2.1, h.2.2.1, h.2.2.2.1, iK.same (s := U) (U := U.calling g mk a) rfl h.2.2.2.2.1, gJ.same (s := U) (U := U.calling g mk a) rfl h.2.2.2.2.2.1, fun y hy => h.2.2.2.2.2.2 y hy⟩
theorem j_after (hAn : ∀ q : Nat, s.heap.size ≤ q → A q) (hI : jI D s A (X ++ wc) H locs) (hr : va_Run p l e R s m args below meth c H locs cells slots mc ms (F0 m pc ls st0) rest (jQ D wc H.size post Z As.toArray) (va_A wc H.size))
    (kk : ∀ rv u H1 locs1, post rv u → jI D s A (X ++ Z u) H1 locs1 → (∀ a : Nat, a < H.size → ¬ va_A wc H.size a → H1[a]? = H[a]?) → W p l e R s m args below meth c H1 locs1 (cells + mc) (slots + ms) Q (F0 m (pc + 3) ls (rv.toList ++ rest))) : W p l e R s m args below meth c H locs cells slots Q (F0 m pc ls st0) := by
  intro T hT X0
  obtain ⟨v, st₀, t, T', L, e0, X', hL, e1, e2, ⟨⟨rv, u, hv, hp, hP1, hD1⟩, hz, hk⟩, st⟩ := hr T hT X0
  cases hv
  rw [e0] at hz hk
  rw [← e1] at hz hP1
  have hk' : ∀ a : Nat, a < H.size → ¬ va_A wc H.size a → T'.heap[a]? = H[a]? := fun a h1 h2 => by rw [e1]; exact hk a h1 h2
  have hA := jA_in hAn hI
  obtain ⟨j1, j2⟩ := j_join hI.1 hI.2.1 hk' hA hP1 hD1
  obtain ⟨t2, a1, b1⟩ := kk v u T'.heap (locs ++ L) hp ⟨j1, j2, Nat.le_trans hI.2.2.1 hz, fun q h1 h2 => by rw [hk' q (Nat.lt_of_lt_of_le h1 hI.2.2.1) (fun h => h2 (hA q h))]; exact hI.2.2.2.1 q h1 h2, fun q hq => by
    rcases List.mem_append.mp hq with h | h
    · exact hI.2.2.2.2 q h
    · exact hA _ (hL q h)⟩ hk' T' rfl X'
  exact ⟨t2, st t2 a1, b1⟩
theorem jCB (hC : jC p s m args c cc nL own D cid J A bx0) (hy : gY y bytes maxL ret n) (hl : Cond.methodLink own index y ∈ gU) (h0 : rm.cells = mc ∧ rm.slots = ms) (hR : rm.frames + 1 ≤ R.frames ∧ 8 + (maxL + 11) + rm.locals ≤ R.locals) : CallB R s args own index y bytes maxL ret (gWs (.code y bytes maxL ret)) rm mc ms n :=
  callB_of n hC.1.2.2.2.2.1 (gGoodW hy.1) rfl h0.1 h0.2 (hC.1.2.2.2.2.1 _ hy.2.1) (hC.1.2.2.2.2.1 _ hl) ⟨hy.2.2.1.1, hy.2.2.1.2, hy.2.2.2⟩ hR
theorem j_callS (X : va_W) (hC : jC p s m args c cc nL own D cid J A bx0) (hI : jI D s A (X ++ wc) H locs) (hM : jM l D cid J y (.code y bytes maxL ret) rm As wc bx mc ms post Z) (hbx : ∀ y ∈ bx, jBx s H y ∧ ¬ va_A wc H.size y) (hy : gY y bytes maxL ret n) (hi : Cond.static y ∈ gU) (hl : Cond.methodLink own index y ∈ gU) (h0 : rm.cells = mc ∧ rm.slots = ms) (hR : rm.frames + 1 ≤ R.frames ∧ 8 + (maxL + 11) + rm.locals ≤ R.locals)
    (hn : As.length = n) (hls : ls.size = nL) (hst : st0 = As.reverse ++ rest) (hW : (rest.map fun v => v.category).sum ≤ 8) (hdg : decode cc pc = .ok (.invokestatic index, 3)) (hcs : cells + mc ≤ R.cells ∧ slots + ms ≤ R.slots)
    (kk : ∀ rv u H1 locs1, post rv u → jI D s A (X ++ Z u) H1 locs1 → (∀ a : Nat, a < H.size → ¬ va_A wc H.size a → H1[a]? = H[a]?) → W p l e R s m args below meth c H1 locs1 (cells + mc) (slots + ms) Q (F0 m (pc + 3) ls (rv.toList ++ rest))) : W p l e R s m args below meth c H locs cells slots Q (F0 m pc ls st0) := by
  have cb := jCB (R := R) hC hy hl h0 hR
  have hC' := hC
  obtain ⟨⟨hx, hb, hml, hown, hts, hK⟩, -, hAn, -⟩ := hC'
  exact j_after hAn hI (va_runS (As := As) (rest := rest) ⟨hx, hb, hml, hown, hts⟩ (hM H.size) ⟨cb, hts _ hi⟩ ⟨j_blind D cid J wc bx H.size As, fun U hU hW => ⟨rfl, j_pre hC hI hbx hU hW⟩⟩ rfl hn hls hst (lv_room hW) hdg hcs) kk
theorem j_callV (X : va_W) (hC : jC p s m args c cc nL own D cid J A bx0) (hI : jI D s A (X ++ wc) H locs) {b : Nat} (hM : jM l D cid J y (.code y bytes maxL ret) rm (.ref b :: As) wc bx mc ms post Z) (hbx : ∀ y ∈ bx, jBx s H y ∧ ¬ va_A wc H.size y) (hy : gY y bytes maxL ret n) (hi : Cond.instanceMethod y ∈ gU ∧ Cond.selects y.cls y y ∈ gU) (hl : Cond.methodLink own index y ∈ gU) (hr : ∃ cell : Cell, H[b]? = some cell ∧ cell.vm.isStatics = false ∧ s.vm.findClass y.cls = some cell.cls) (h0 : rm.cells = mc ∧ rm.slots = ms) (hR : rm.frames + 1 ≤ R.frames ∧ 8 + (maxL + 11) + rm.locals ≤ R.locals)
    (hn : As.length = n) (hls : ls.size = nL) (hst : st0 = As.reverse ++ .ref b :: rest) (hW : (rest.map fun v => v.category).sum ≤ 8) (hdg : decode cc pc = .ok (.invokevirtual index, 3)) (hcs : cells + mc ≤ R.cells ∧ slots + ms ≤ R.slots)
    (kk : ∀ rv u H1 locs1, post rv u → jI D s A (X ++ Z u) H1 locs1 → (∀ a : Nat, a < H.size → ¬ va_A wc H.size a → H1[a]? = H[a]?) → W p l e R s m args below meth c H1 locs1 (cells + mc) (slots + ms) Q (F0 m (pc + 3) ls (rv.toList ++ rest))) : W p l e R s m args below meth c H locs cells slots Q (F0 m pc ls st0) := by
  have cb := jCB (R := R) hC hy hl h0 hR
  have hC' := hC
  obtain ⟨⟨hx, hb, hml, hown, hts, hK⟩, -, hAn, -⟩ := hC'
  exact j_after hAn hI (va_runV (As := As) (rest := rest) ⟨hx, hb, hml, hown, hts⟩ (hM H.size) ⟨cb, hts _ hi.1, hts _ hi.2⟩ ⟨j_blind D cid J wc bx H.size _, hr, fun U hU hW => ⟨rfl, j_pre hC hI hbx hU hW⟩⟩ rfl hn hls hst (lv_room hW) hdg hcs) kk
theorem j_callI (X : va_W) (hC : jC p s m args c cc nL own D cid J A bx0) (hI : jI D s A (X ++ wc) H locs) {b : Nat} (hM : jM l D cid J y (.code y bytes maxL none) rm (.ref b :: As) wc bx mc ms post Z) (hbx : ∀ y ∈ bx, jBx s H y ∧ ¬ va_A wc H.size y) (hy : gY y bytes maxL none n) (hnm : y.name = "<init>") (hi : Cond.instanceMethod y ∈ gU) (hl : Cond.methodLink own index y ∈ gU) (h0 : rm.cells = mc ∧ rm.slots = ms) (hR : rm.frames + 1 ≤ R.frames ∧ 8 + (maxL + 11) + rm.locals ≤ R.locals)
    (hn : As.length = n) (hls : ls.size = nL) (hst : st0 = As.reverse ++ .ref b :: rest) (hW : (rest.map fun v => v.category).sum ≤ 8) (hdg : decode cc pc = .ok (.invokespecial index, 3)) (hcs : cells + mc ≤ R.cells ∧ slots + ms ≤ R.slots)
    (kk : ∀ rv u H1 locs1, post rv u → jI D s A (X ++ Z u) H1 locs1 → (∀ a : Nat, a < H.size → ¬ va_A wc H.size a → H1[a]? = H[a]?) → W p l e R s m args below meth c H1 locs1 (cells + mc) (slots + ms) Q (F0 m (pc + 3) ls (rv.toList ++ rest))) : W p l e R s m args below meth c H locs cells slots Q (F0 m pc ls st0) := by
  have cb := jCB (R := R) hC hy hl h0 hR
  have hC' := hC
  obtain ⟨⟨hx, hb, hml, hown, hts, hK⟩, -, hAn, -⟩ := hC'
  exact j_after hAn hI (va_runI (As := As) (rest := rest) ⟨hx, hb, hml, hown, hts⟩ (hM H.size) ⟨cb, hnm, hts _ hi⟩ ⟨j_blind D cid J wc bx H.size _, fun U hU hW => ⟨rfl, j_pre hC hI hbx hU hW⟩⟩ rfl hn hls hst (lv_room hW) hdg hcs) kk
/-- Object's constructor -/
theorem j_obj {idx : Nat} {h : Nat} (hC : jC p s m args c cc nL own D cid J A bx0) (hls : ls.size = nL) (hlink : Cond.methodLink own idx objectInit ∈ gU) (hinst : Cond.instanceMethod objectInit ∈ gU) (hcode : Cond.code objectInit ⟨#[0xb1]⟩ 1 none ∈ gU) (hframes : 1 ≤ R.frames ∧ 12 ≤ R.locals)
    (d1 : decode cc pc = .ok (.invokespecial idx, 3)) (kk : W p l e R s m args below meth c H locs cells slots Q (F0 m (pc + 3) ls [])) : W p l e R s m args below meth c H locs cells slots Q (F0 m pc ls [.ref h]) := by
  obtain ⟨⟨hx, hb, hml, hown, hts, hK⟩, -⟩ := hC
  refine W.objInit hx hb hown (hts _ hlink) (hts _ hinst) (hts _ hcode) rfl (by rw [hml]; exact hls) rfl d1 hframes.1 hframes.2 ?_
  exact kk
theorem j_sub {X' : va_W} (hI : jI D s A X H locs) (is : List Nat) (hn : va_nd is = true) (hs : is.map (fun i => X[i]?) = X'.map some) : jI D s A X' H locs := by
  refine ⟨?_, hI.2.1.sub is hn hs, hI.2.2⟩
  intro k z hz
  have h1 : (is.map (fun i => X[i]?))[k]? = some (some z) := by rw [hs, List.getElem?_map, hz]; rfl
  rw [List.getElem?_map] at h1
  cases hi : is[k]? with
  | none => rw [hi] at h1; cases h1
  | some i => rw [hi] at h1; exact hI.1 i z (Option.some.inj h1)
end JC
theorem uJ4' : ∀ w ∈ u_ws RJ4 TJ4 4, w ∈ gU := gUin (by decide +kernel)
theorem uJ0' : ∀ w ∈ u_ws RJ0 TJ0 4, w ∈ gU := gUin (by decide +kernel)
theorem uJ6' : ∀ w ∈ u_ws RJ6 TJ6 1, w ∈ gU := gUin (by decide +kernel)
theorem uJit : ∀ w ∈ u_ws RJx35411 TJx35411 4, w ∈ gU := gUin (by decide +kernel)
theorem uJli : ∀ w ∈ u_ws RJx4a65c TJx4a65c 3, w ∈ gU := gUin (by decide +kernel)
