/-! The law's helpers over one terminal: contracts, calls, what is caught. -/
def gNcl : List (String × String) := [("java/util/NoSuchElementException", "java/lang/IllegalArgumentException"), ("java/util/NoSuchElementException", "java/lang/IllegalStateException"), ("java/lang/IllegalArgumentException", "java/lang/IndexOutOfBoundsException"), ("java/lang/IllegalStateException", "java/lang/IndexOutOfBoundsException"), ("java/lang/IllegalStateException", "java/lang/IllegalArgumentException"), ("java/util/NoSuchElementException", "java/lang/IndexOutOfBoundsException")]
def gNc (U : State) : Prop := ∀ q ∈ gNcl, va_Nc q.1 q.2 U
theorem gNc.warm {s U : State} (hW : s.WarmedH U.vm) (h : gNc s) : gNc U := fun q hq => va_Nc.moved hW.alike (h q hq)
theorem gNc.same {s U : State} (hv : U.vm = s.vm) (h : gNc s) : gNc U := fun q hq => va_Nc.moved (by rw [hv]; exact Vm.Alike.refl _) (h q hq)
/-- a helper's contract: it answers rv, whatever the class did -/
def gH (l : Launch) (E : gE) (y : MethodName) (w : Cond) (rm : Room) (M : gM) (av : List Value) (rv : Option Value) (M' : gM) (mc ms : Nat) : Prop :=
  Met l y (gWs w) rm (va_Pc av (fun U => gW E M () U ∧ gNc U)) (fun _ st oc t => oc = .returned rv ∧ gW E M' () t ∧ va_F (gA E) st t) mc ms (gA E)
theorem gMetH {l : Launch} {y : MethodName} {cc : ByteArray} {maxL : Nat} {hh : List (Nat × Nat × Nat × Nat)} {rm : Room} {E : gE} {M M' : gM} {av : List Value} {k : Int32} {mc ms : Nat} (hy : plainName y.cls = true) (hL : (lg_sl av).length ≤ maxL)
    (body : ∀ (p : Program) (e : Env) (s : State) (m : MethodId) (args : Array Value) (below : List Frame) (meth : Method) (c : Code) (H : Heap) (locs : List Loc) (ls : Array Slot) (Q : State → Prop), gC p s m args c cc maxL y.cls E → gNc s → c.exceptionTable.toList = tableOf hh → lv_has ls maxL (lv_args 0 av) → gI E s M () H locs →
      (∀ (H1 : Heap) (locs1 : List Loc) (ls1 : Array Slot) (pc cells1 slots1 : Nat) (v : Int32), v = k → gI E s M' () H1 locs1 → cells1 ≤ mc ∧ slots1 ≤ ms → decode cc pc = .ok (.ireturn, 1) → W p l e rm s m args below meth c H1 locs1 cells1 slots1 Q (F0 m pc ls1 [.int v])) →
      W p l e rm s m args below meth c H locs 0 0 Q (F0 m 0 ls [])) : gH l E y (.codeWith y cc maxL (some .int) hh) rm M av (some (.int k)) M' mc ms := by
  refine va_MetW (cc := cc) (maxL := maxL) (ret := some .int) (hh := hh) hy rfl ?_
  intro p e s m args below meth c s₁ B hml hv
  obtain ⟨rfl, hW, hN⟩ := hv
  have hts : ∀ w ∈ gWs (.codeWith y cc maxL (some .int) hh), w.before av.toArray s = true := atoms_spec (ws := gWs (.codeWith y cc maxL (some .int) hh)) B.pre
  have hT := vx_table (x := y) B (hts _ List.mem_cons_self)
  have hlocks := B.notSynchronized
  have hl := lv_entry av (n := maxL) hL
  rw [lg_entry_eq]
  generalize (lg_sl av ++ List.replicate (maxL - (lg_sl av).length) Slot.unset).toArray = ls at hl ⊢
  refine body p e s m av.toArray below meth c s.heap [] ls _ ⟨B.exec, B.bytes, hml, findClass_of_methodNamed B.named, fun w hw => hts w (List.mem_cons_of_mem _ hw), hW.2⟩ hN hT hl ⟨hW.1, va_S.rf⟩ ?_
  intro H1 locs1 ls1 pc cells1 slots1 v hv hI hcs hdg
  subst hv
  refine W.widen hcs.1 hcs.2 ?_
  exact W.zret B.exec B.bytes B.returns rfl (fun t ht hWm => ⟨rfl, gW_at hW.2 hI ht hWm, hI.2.F ht⟩) hI.2.2.2 hdg
/-- .. of a helper that catches nothing -/
theorem gMetC {l : Launch} {y : MethodName} {cc : ByteArray} {maxL : Nat} {ret : Option FieldType} {rm : Room} {E : gE} {M M' : gM} {av : List Value} {rv : Option Value} {mc ms : Nat} (hy : plainName y.cls = true) (hL : (lg_sl av).length ≤ maxL)
    (body : ∀ (p : Program) (e : Env) (s : State) (m : MethodId) (args : Array Value) (below : List Frame) (meth : Method) (c : Code) (H : Heap) (locs : List Loc) (ls : Array Slot) (Q : State → Prop), gC p s m args c cc maxL y.cls E → gNc s → lv_has ls maxL (lv_args 0 av) → gI E s M () H locs →
      (∀ (H1 : Heap) (locs1 : List Loc) (ls1 : Array Slot) (pc cells1 slots1 : Nat) (v : Int32), rv = some (.int v) → gI E s M' () H1 locs1 → cells1 ≤ mc ∧ slots1 ≤ ms → (∃ ty, ret = some ty ∧ narrow ty (.int v) = .int v) → decode cc pc = .ok (.ireturn, 1) → W p l e rm s m args below meth c H1 locs1 cells1 slots1 Q (F0 m pc ls1 [.int v])) →
      (∀ (H1 : Heap) (locs1 : List Loc) (ls1 : Array Slot) (pc cells1 slots1 : Nat), rv = none → gI E s M' () H1 locs1 → cells1 ≤ mc ∧ slots1 ≤ ms → ret = none → decode cc pc = .ok (.return_, 1) → W p l e rm s m args below meth c H1 locs1 cells1 slots1 Q (F0 m pc ls1 [])) →
      W p l e rm s m args below meth c H locs 0 0 Q (F0 m 0 ls [])) : gH l E y (.code y cc maxL ret) rm M av rv M' mc ms := by
  refine Met.ofW (cc := cc) (maxL := maxL) (ret := ret) hy rfl ?_
  intro p e s m args below meth c s₁ B hml hv
  obtain ⟨rfl, hW, hN⟩ := hv
  have hts : ∀ w ∈ gWs (.code y cc maxL ret), w.before av.toArray s = true := atoms_spec (ws := gWs (.code y cc maxL ret)) B.pre
  have hlocks := B.notSynchronized
  have hl := lv_entry av (n := maxL) hL
  rw [lg_entry_eq]
  generalize (lg_sl av ++ List.replicate (maxL - (lg_sl av).length) Slot.unset).toArray = ls at hl ⊢
  refine body p e s m av.toArray below meth c s.heap [] ls _ ⟨B.exec, B.bytes, hml, findClass_of_methodNamed B.named, fun w hw => hts w (List.mem_cons_of_mem _ hw), hW.2⟩ hN hl ⟨hW.1, va_S.rf⟩ ?_ ?_
  · intro H1 locs1 ls1 pc cells1 slots1 v hrv hI hcs hty hdg
    subst hrv
    obtain ⟨ty, hr, hn⟩ := hty
    refine W.widen hcs.1 hcs.2 ?_
    exact W.zret B.exec B.bytes (B.returns.trans hr) hn (fun t ht hWm => ⟨rfl, gW_at hW.2 hI ht hWm, hI.2.F ht⟩) hI.2.2.2 hdg
  · intro H1 locs1 ls1 pc cells1 slots1 hrv hI hcs hr hdg
    subst hrv
    refine W.widen hcs.1 hcs.2 ?_
    exact W.vret B.exec B.bytes (B.returns.trans hr) (fun t ht hWm => ⟨rfl, gW_at hW.2 hI ht hWm, hI.2.F ht⟩) hI.2.2.2 hdg
section GLAW
variable {p : Program} {l : Launch} {e : Env} {R : Room} {s : State} {m : MethodId} {args : Array Value} {below : List Frame} {meth : Method} {c : Code} {H : Heap} {locs : List Loc} {cells slots mc ms : Nat} {Q : State → Prop}
variable {E : gE} {M M' : gM} {x : gX} {cc : ByteArray} {own : String} {nL pc : Nat} {ls : Array Slot} {rest : List Value}
variable {y : MethodName} {bytes : ByteArray} {maxL n index : Nat} {ret : Option FieldType} {rm : Room} {As st0 : List Value} {rv : Option Value} {hh : List (Nat × Nat × Nat × Nat)}
theorem g_castE (hC : gC p s m args c cc nL own E) {En : String} (h : Cond.castable En En ∈ gFw) : (Cond.castable En En).before args s = true := va_Nw.use rfl (hC.2.2.2.2.2.2.2.2.2.2.2.2.2.1 _ h)
/-- caught by a row of the helper's table, behind rows that don't take it -/
theorem g_catch {En : String} {ce : Cell} {q : Addr} (hC : gC p s m args c cc nL own E) (hT : c.exceptionTable.toList = tableOf hh) (pre : List ExceptionTableEntry) (z : ExceptionTableEntry) (suf : List ExceptionTableEntry) (hs : tableOf hh = pre ++ z :: suf) (hpass : ∀ r ∈ pre, r.catchType ≠ 0 ∧ ∃ nm : String, Cond.classLink own r.catchType nm ∈ gU ∧ va_Nc En nm s)
    (hz : covers z pc = true) (h0 : z.catchType ≠ 0) (hlink : Cond.classLink own z.catchType En ∈ gU) (hcast : Cond.castable En En ∈ gFw) (hcell : H[q]? = some ce) (hv : ce.vm = .none) (hcl : s.vm.findClass En = some ce.cls)
    (kk : W p l e R s m args below meth c H locs cells slots Q (F0 m z.handlerPc ls [.ref q])) : vx_W p l e R s m args below meth c H locs cells slots Q (F0 m pc ls rest) q :=
  vx_catch hC.2.2.2.1 pre z suf (hT.trans hs) (fun r hr => Or.inr ⟨(hpass r hr).1, (hpass r hr).2.choose, hC.2.2.2.2.1 _ (hpass r hr).2.choose_spec.1, (hpass r hr).2.choose_spec.2⟩) hz h0 (hC.2.2.2.2.1 _ hlink) (g_castE hC hcast) hcell hv hcl kk
theorem gH_pre (h0 : gS0 E s s.heap) (hN : gNc s) (hI : gI E s M () H locs) (As : List Value) : PreS s H (va_Pc As (fun U => gW E M () U ∧ gNc U)) As := ⟨fun a U g mk h => ⟨h.1, (gblind E M () As a U g mk ⟨h.1, h.2.1⟩).2, gNc.same (s := U) (U := U.calling g mk a) rfl h.2.2⟩, fun U hU hWm => ⟨rfl, gW_at h0 hI hU hWm, hN.warm hWm⟩⟩
theorem gH_after (hr : va_Run p l e R s m args below meth c H locs cells slots mc ms (F0 m pc ls st0) rest (fun st oc t => oc = .returned rv ∧ gW E M' () t ∧ va_F (gA E) st t) (gA E)) (hI : gI E s M () H locs)
    (kk : ∀ H1 locs1, gI E s M' () H1 locs1 → W p l e R s m args below meth c H1 locs1 (cells + mc) (slots + ms) Q (F0 m (pc + 3) ls (rv.toList ++ rest))) : W p l e R s m args below meth c H locs cells slots Q (F0 m pc ls st0) := by
  intro T hT X
  obtain ⟨v, st₀, t, T', L, e0, X', hL, e1, e2, ⟨hv, hg, hz, hk⟩, st⟩ := hr T hT X
  cases hv
  rw [e0] at hz hk
  obtain ⟨t2, a1, b1⟩ := kk T'.heap (locs ++ L) ⟨by rw [e1]; exact hg.1, Nat.le_trans hI.2.1 (by rw [e1]; exact hz), fun q h1 h2 => by rw [e1, hk q (Nat.lt_of_lt_of_le h1 hI.2.1) h2]; exact hI.2.2.1 q h1 h2, fun q hq => by
    rcases List.mem_append.mp hq with h | h
    · exact hI.2.2.2 q h
    · exact hL q h⟩ T' rfl X'
  exact ⟨t2, st t2 a1, b1⟩
/-- a helper that catches is called -/
theorem g_callHW (hC : gC p s m args c cc nL own E) (hN : gNc s) (hI : gI E s M () H locs) (hM : gH l E y (.codeWith y bytes maxL (some .int) hh) rm M As rv M' mc ms) (hcode : Cond.codeWith y bytes maxL (some .int) hh ∈ gU) (hini : Cond.initialized y.cls ∈ gU) (hsta : Cond.static y ∈ gU) (hl : Cond.methodLink own index y ∈ gU)
    (hd : (y.cls ≠ "java/lang/invoke/MethodHandle" ∧ y.cls ≠ "java/lang/invoke/VarHandle") ∧ (parseMethodDescriptor y.desc).map (fun d => d.parameters.length) = some n) (h0 : rm.cells = mc ∧ rm.slots = ms) (hR : rm.frames + 1 ≤ R.frames ∧ 8 + (maxL + 11) + rm.locals ≤ R.locals)
    (hn : As.length = n) (hls : ls.size = nL) (hst : st0 = As.reverse ++ rest) (hW : (rest.map fun v => v.category).sum ≤ 8) (hdg : decode cc pc = .ok (.invokestatic index, 3)) (hcs : cells + mc ≤ R.cells ∧ slots + ms ≤ R.slots)
    (kk : ∀ H1 locs1, gI E s M' () H1 locs1 → W p l e R s m args below meth c H1 locs1 (cells + mc) (slots + ms) Q (F0 m (pc + 3) ls (rv.toList ++ rest))) : W p l e R s m args below meth c H locs cells slots Q (F0 m pc ls st0) := by
  obtain ⟨hx, hb, hml, hown, hts, hS0⟩ := hC
  have cw : vx_CSW R s args own index y bytes maxL (some .int) hh (gWs (.codeWith y bytes maxL (some .int) hh)) rm mc ms n := by
    refine ⟨⟨h0.1, h0.2, hR.1, hR.2, pay_in hts (gGoodW hcode), List.mem_cons_self⟩, hts _ hcode, hts _ hini, hd.1, fun sig h => ?_, hts _ hl, hts _ hsta⟩
    have h2 := hd.2
    rw [h] at h2
    exact (Option.some.inj h2).symm
  exact gH_after (vx_runSW (p := p) (l := l) (e := e) (R := R) (below := below) (meth := meth) (c := c) (locs := locs) (cells := cells) (slots := slots) (As := As) (rest := rest) (g := F0 m pc ls st0) ⟨hx, hb, hml, hown, hts⟩ hM cw (gH_pre hS0 hN hI As) rfl hn hls hst (lv_room hW) hdg hcs) hI kk
/-- a helper that catches nothing is called -/
theorem g_callHS (hC : gC p s m args c cc nL own E) (hN : gNc s) (hI : gI E s M () H locs) (hM : gH l E y (.code y bytes maxL ret) rm M As rv M' mc ms) (hy : gY y bytes maxL ret n) (hi : Cond.static y ∈ gU) (hl : Cond.methodLink own index y ∈ gU) (h0 : rm.cells = mc ∧ rm.slots = ms) (hR : rm.frames + 1 ≤ R.frames ∧ 8 + (maxL + 11) + rm.locals ≤ R.locals)
    (hn : As.length = n) (hls : ls.size = nL) (hst : st0 = As.reverse ++ rest) (hW : (rest.map fun v => v.category).sum ≤ 8) (hdg : decode cc pc = .ok (.invokestatic index, 3)) (hcs : cells + mc ≤ R.cells ∧ slots + ms ≤ R.slots)
    (kk : ∀ H1 locs1, gI E s M' () H1 locs1 → W p l e R s m args below meth c H1 locs1 (cells + mc) (slots + ms) Q (F0 m (pc + 3) ls (rv.toList ++ rest))) : W p l e R s m args below meth c H locs cells slots Q (F0 m pc ls st0) := by
  have cb := gXB (R := R) hC hy hl h0 hR
  obtain ⟨hx, hb, hml, hown, hts, hS0⟩ := hC
  exact gH_after (va_runS (As := As) (rest := rest) ⟨hx, hb, hml, hown, hts⟩ hM ⟨cb, hts _ hi⟩ (gH_pre hS0 hN hI As) rfl hn hls hst (lv_room hW) hdg hcs) hI kk
end GLAW
/-- what act, stow and runs answer: the exceptions by number -/
def aE (e : String) : Int32 := if e = "java/lang/IndexOutOfBoundsException" then -1 else if e = "java/lang/IllegalArgumentException" then -2 else if e = "java/lang/IllegalStateException" then -3 else -4
def aR (oc : String ⊕ Int32) : Int32 := match oc with | .inr v => v | .inl e => aE e
def rR (oc : String ⊕ Int32) : Int32 := match oc with | .inr v => v | .inl e => if e = "java/lang/IllegalArgumentException" then -1 else -2
/-- an outcome is a value or one of the exceptions -/
def aO {α : Type} (codes : List String) (oc : String ⊕ α) : Prop := ∀ e, oc = .inl e → e ∈ codes
