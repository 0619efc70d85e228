/-! The law over its terminals: what holds between its calls, its calls. -/
abbrev A0 (s : State) : Nat → Prop := fun q => s.heap.size ≤ q
/-- a terminal of the law's -/
def lE (s : State) (D : va_G) (cid : Nat → ClassId) (E : gE) : Prop := gS0 E s s.heap ∧ E.1 = D ∧ E.2.2.1 = cid ∧ ∀ q, gA E q → s.heap.size ≤ q
theorem lE.A {s : State} {D : va_G} {cid : Nat → ClassId} {E : gE} (h : lE s D cid E) : eA E s.heap.size = A0 s := funext fun q => propext ⟨fun h1 => h1.elim (h.2.2.2 q) id, Or.inr⟩
def lC (p : Program) (s : State) (m : MethodId) (args : Array Value) (c : Code) (cc : ByteArray) (nL : Nat) (own : String) (D : va_G) (cid : Nat → ClassId) (J : jA) : Prop := jC p s m args c cc nL own D cid J (A0 s) [] ∧ gNc s
theorem l_more {l : Launch} {y : MethodName} {ws : List Cond} {rm : Room} {Pc : Array Value → State → Prop} {Qc : Array Value → State → Outcome → State → Prop} {mc ms mc' ms' : Nat} {free : Addr → Prop} (h : Met l y ws rm Pc Qc mc ms free) (hc : mc ≤ mc') (hs : ms ≤ ms') : Met l y ws rm Pc Qc mc' ms' free :=
  MetFree.mono h (fun _ _ h => h) (fun _ _ _ _ _ h => h) (fun a s o t _ hq => by
    obtain ⟨hq, L, ⟨f1, f2, f3⟩, hL⟩ := hq
    exact ⟨hq, L, ⟨f1, f2, ⟨f3.1, f3.2.1, Nat.le_trans f3.2.2.1 (Nat.add_le_add_left hc _), f3.2.2.2.1, Nat.le_trans f3.2.2.2.2.1 hs, f3.2.2.2.2.2⟩⟩, hL⟩)
section LLL
variable {p : Program} {l : Launch} {e : Env} {R : Room} {s : State} {m : MethodId} {args : Array Value} {below : List Frame} {meth : Method} {c : Code} {H : Heap} {locs : List Loc} {cells slots mc ms : Nat} {Q : State → Prop}
variable {E : gE} {M M' : gM} {J : jA} {cc : ByteArray} {own : String} {nL pc : Nat} {ws : va_W} {ls : Array Slot} {rest As st0 : List Value}
variable {y : MethodName} {bytes : ByteArray} {maxL n index : Nat} {ret : Option FieldType} {rm : Room} {rv : Option Value} {r : Int32} {hh : List (Nat × Nat × Nat × Nat)}
variable {D : va_G} {cid : Nat → ClassId} {X X' : va_W} {v0 : Value}
theorem lC.g (hC : lC p s m args c cc nL own D cid J) (hE : lE s D cid E) : gC p s m args c cc nL own E := by
  obtain ⟨⟨⟨hx, hb, hml, hown, hU, hK⟩, -⟩, -⟩ := hC
  exact ⟨hx, hb, hml, hown, hU, hE.1⟩
theorem lC.sc (hC : lC p s m args c cc nL own D cid J) (hE : lE s D cid E) : sC p s m args c cc nL own E J := by
  refine ⟨hC.g hE, ?_⟩
  rw [hE.A, hE.2.1, hE.2.2.1]
  exact hC.1
theorem l_in (hE : lE s D cid E) (hI : jI D s (A0 s) X H locs) (hp : X.Perm (gwl E M () ++ ws)) : eI E s M ws H locs := by
  show jI E.1 s (eA E s.heap.size) (gwl E M () ++ ws) H locs
  rw [hE.A, hE.2.1]
  exact jI_perm hp hI
theorem l_out (hE : lE s D cid E) (hI : eI E s M ws H locs) (hp : (gwl E M () ++ ws).Perm X) : jI D s (A0 s) X H locs := by
  have h : jI E.1 s (eA E s.heap.size) (gwl E M () ++ ws) H locs := hI
  rw [hE.A, hE.2.1] at h
  exact jI_perm hp h
theorem e_callXV {v0 : Value} (hC : gC p s m args c cc nL own E) (hI : eI E s M ws H locs) (hM : gX0 l E y (.code y bytes maxL ret) rm M () (.ref (E.2.1 132) :: As) (.inr (some v0)) M' mc ms) (hy : gY y bytes maxL ret n) (hi : Cond.instanceMethod y ∈ gU ∧ Cond.selects y.cls y y ∈ gU) (hl : Cond.methodLink own index y ∈ gU) (hr : ∃ cell : Cell, H[E.2.1 132]? = some cell ∧ cell.vm.isStatics = false ∧ s.vm.findClass y.cls = some cell.cls) (h0 : rm.cells = mc ∧ rm.slots = ms) (hR : rm.frames + 1 ≤ R.frames ∧ 8 + (maxL + 11) + rm.locals ≤ R.locals)
    (hn : As.length = n) (hls : ls.size = nL) (hst : st0 = As.reverse ++ .ref (E.2.1 132) :: rest) (hW : (rest.map fun v => v.category).sum ≤ 8) (hdg : decode cc pc = .ok (.invokevirtual index, 3)) (hcs : cells + mc ≤ R.cells ∧ slots + ms ≤ R.slots)
    (kk : ∀ H1 locs1, eI E s M' ws H1 locs1 → W p l e R s m args below meth c H1 locs1 (cells + mc) (slots + ms) Q (F0 m (pc + 3) ls (v0 :: rest))) : W p l e R s m args below meth c H locs cells slots Q (F0 m pc ls st0) := by
  have cb := gXB (R := R) hC hy hl h0 hR
  obtain ⟨hx, hb, hml, hown, hts, hS0⟩ := hC
  have hr := vx_runV (p := p) (l := l) (e := e) (R := R) (below := below) (meth := meth) (c := c) (locs := locs) (cells := cells) (slots := slots) (As := As) (rest := rest) (g := F0 m pc ls st0) ⟨hx, hb, hml, hown, hts⟩ hM ⟨cb, hts _ hi.1, hts _ hi.2⟩ ⟨gblind E M () _, hr, fun U hU hW => ⟨rfl, eW_at hS0 hI hU hW⟩⟩ rfl hn hls hst (lv_room hW) hdg hcs
  intro T hT X
  rcases hr T hT X with ⟨v, st₀, t, T', L, h0, X', hL, e1, e2, ⟨⟨rv, ho, hv⟩, hg, hz, hk⟩, st⟩ | ⟨q, st₀, t, T', L, En, ce, h0, X', hL, e1, e2, ⟨ho, hg, hz, hk⟩, hce, hcv, hcl, st⟩
  · cases hv
    cases ho
    rw [h0] at hz hk
    rw [← e1] at hz hk
    obtain ⟨t2, a1, b1⟩ := kk T'.heap (locs ++ L) (e_back hI (by rw [e1]; exact hg.1) hz hk hL) T' rfl X'
    exact ⟨t2, st t2 a1, b1⟩
  · cases ho
theorem e_call0V {v0 : Value} (hC : gC p s m args c cc nL own E) (hI : eI E s M ws H locs) (hM : gM0 l E y (.code y bytes maxL ret) rm M () (.ref (E.2.1 132) :: As) (some v0) M') (hy : gY y bytes maxL ret n) (hi : Cond.instanceMethod y ∈ gU ∧ Cond.selects y.cls y y ∈ gU) (hl : Cond.methodLink own index y ∈ gU) (hr : ∃ cell : Cell, H[E.2.1 132]? = some cell ∧ cell.vm.isStatics = false ∧ s.vm.findClass y.cls = some cell.cls) (h0 : rm.cells = 0 ∧ rm.slots = 0) (hR : rm.frames + 1 ≤ R.frames ∧ 8 + (maxL + 11) + rm.locals ≤ R.locals)
    (hn : As.length = n) (hls : ls.size = nL) (hst : st0 = As.reverse ++ .ref (E.2.1 132) :: rest) (hW : (rest.map fun v => v.category).sum ≤ 8) (hdg : decode cc pc = .ok (.invokevirtual index, 3)) (hcs : cells + 0 ≤ R.cells ∧ slots + 0 ≤ R.slots)
    (kk : ∀ H1 locs1, eI E s M' ws H1 locs1 → W p l e R s m args below meth c H1 locs1 (cells + 0) (slots + 0) Q (F0 m (pc + 3) ls (v0 :: rest))) : W p l e R s m args below meth c H locs cells slots Q (F0 m pc ls st0) := by
  have cb := gCB (R := R) hC hy hl h0 hR
  obtain ⟨hx, hb, hml, hown, hts, hS0⟩ := hC
  have hr := va_runV (p := p) (l := l) (e := e) (R := R) (below := below) (meth := meth) (c := c) (locs := locs) (cells := cells) (slots := slots) (As := As) (rest := rest) (g := F0 m pc ls st0) ⟨hx, hb, hml, hown, hts⟩ hM ⟨cb, hts _ hi.1, hts _ hi.2⟩ ⟨gblind E M () _, hr, fun U hU hW => ⟨rfl, eW_at hS0 hI hU hW⟩⟩ rfl hn hls hst (lv_room hW) hdg hcs
  intro T hT X
  obtain ⟨v, st₀, t, T', L, h0, X', hL, e1, e2, ⟨hv, hg, hz, hk⟩, st⟩ := hr T hT X
  cases hv
  rw [h0] at hz hk
  rw [← e1] at hz hk
  obtain ⟨t2, a1, b1⟩ := kk T'.heap (locs ++ L) (e_back hI (by rw [e1]; exact hg.1) hz hk hL) T' rfl X'
  exact ⟨t2, st t2 a1, b1⟩
/-- a terminal's method -/
theorem l_callX (hC : lC p s m args c cc nL own D cid J) (hE : lE s D cid E) (hI : jI D s (A0 s) X H locs) (hp : X.Perm (gwl E M () ++ ws)) (hp' : (gwl E M' () ++ ws).Perm X') (hM : gX0 l E y (.code y bytes maxL ret) rm M () (.ref (E.2.1 132) :: As) (.inr (some v0)) M' mc ms) (hy : gY y bytes maxL ret n) (hi : Cond.instanceMethod y ∈ gU ∧ Cond.selects y.cls y y ∈ gU) (hl : Cond.methodLink own index y ∈ gU) (hcl : y.cls = RX6) (h0 : rm.cells = mc ∧ rm.slots = ms) (hR : rm.frames + 1 ≤ R.frames ∧ 8 + (maxL + 11) + rm.locals ≤ R.locals)
    (hn : As.length = n) (hls : ls.size = nL) (hst : st0 = As.reverse ++ .ref (E.2.1 132) :: rest) (hW : (rest.map fun v => v.category).sum ≤ 8) (hdg : decode cc pc = .ok (.invokevirtual index, 3)) (hcs : cells + mc ≤ R.cells ∧ slots + ms ≤ R.slots)
    (kk : ∀ H1 locs1, jI D s (A0 s) X' H1 locs1 → W p l e R s m args below meth c H1 locs1 (cells + mc) (slots + ms) Q (F0 m (pc + 3) ls (v0 :: rest))) : W p l e R s m args below meth c H locs cells slots Q (F0 m pc ls st0) :=
  e_callXV (hC.g hE) (l_in hE hI hp) hM hy hi hl (by rw [hcl]; exact e_recv6 (hC.g hE) (l_in hE hI hp)) h0 hR hn hls hst hW hdg hcs (fun H1 locs1 h => kk H1 locs1 (l_out hE h hp'))
theorem l_call0 (hC : lC p s m args c cc nL own D cid J) (hE : lE s D cid E) (hI : jI D s (A0 s) X H locs) (hp : X.Perm (gwl E M () ++ ws)) (hp' : (gwl E M' () ++ ws).Perm X') (hM : gM0 l E y (.code y bytes maxL ret) rm M () (.ref (E.2.1 132) :: As) (some v0) M') (hy : gY y bytes maxL ret n) (hi : Cond.instanceMethod y ∈ gU ∧ Cond.selects y.cls y y ∈ gU) (hl : Cond.methodLink own index y ∈ gU) (hcl : y.cls = RX6) (h0 : rm.cells = 0 ∧ rm.slots = 0) (hR : rm.frames + 1 ≤ R.frames ∧ 8 + (maxL + 11) + rm.locals ≤ R.locals)
    (hn : As.length = n) (hls : ls.size = nL) (hst : st0 = As.reverse ++ .ref (E.2.1 132) :: rest) (hW : (rest.map fun v => v.category).sum ≤ 8) (hdg : decode cc pc = .ok (.invokevirtual index, 3)) (hcs : cells + 0 ≤ R.cells ∧ slots + 0 ≤ R.slots)
    (kk : ∀ H1 locs1, jI D s (A0 s) X' H1 locs1 → W p l e R s m args below meth c H1 locs1 (cells + 0) (slots + 0) Q (F0 m (pc + 3) ls (v0 :: rest))) : W p l e R s m args below meth c H locs cells slots Q (F0 m pc ls st0) :=
  e_call0V (hC.g hE) (l_in hE hI hp) hM hy hi hl (by rw [hcl]; exact e_recv6 (hC.g hE) (l_in hE hI hp)) h0 hR hn hls hst hW hdg hcs (fun H1 locs1 h => kk H1 locs1 (l_out hE h hp'))
/-- a helper over a terminal -/
theorem eH_pre (hC : gC p s m args c cc nL own E) (hN : gNc s) (hI : eI E s M ws H locs) (As : List Value) : PreS s H (va_Pc As (fun U => gW E M () U ∧ gNc U)) As := ⟨fun a U g mk h => ⟨h.1, (gblind E M () As a U g mk ⟨h.1, h.2.1⟩).2, gNc.same (s := U) (U := U.calling g mk a) rfl h.2.2⟩, fun U hU hWm => ⟨rfl, eW_at hC.2.2.2.2.2 hI hU hWm, hN.warm hWm⟩⟩
theorem eH_after (hI : eI E s M ws H locs) (hr : va_Run p l e R s m args below meth c H locs cells slots mc ms (F0 m pc ls st0) rest (fun st oc t => oc = .returned rv ∧ gW E M' () t ∧ va_F (gA E) st t) (gA E))
    (kk : ∀ H1 locs1, eI E s M' ws H1 locs1 → W p l e R s m args below meth c H1 locs1 (cells + mc) (slots + ms) Q (F0 m (pc + 3) ls (rv.toList ++ rest))) : W p l e R s m args below meth c H locs cells slots Q (F0 m pc ls st0) := by
  intro T hT X0
  obtain ⟨v, st₀, t, T', L, e0, X', hL, e1, e2, ⟨hv, hg, hz, hk⟩, st⟩ := hr T hT X0
  cases hv
  rw [e0] at hz hk
  rw [← e1] at hz hk
  obtain ⟨t2, a1, b1⟩ := kk T'.heap (locs ++ L) (e_back hI (by rw [e1]; exact hg.1) hz hk hL) T' rfl X'
  exact ⟨t2, st t2 a1, b1⟩
theorem l_callHS (hC : lC p s m args c cc nL own D cid J) (hE : lE s D cid E) (hI : jI D s (A0 s) X H locs) (hp : X.Perm (gwl E M () ++ ws)) (hp' : (gwl E M' () ++ ws).Perm X') (hM : gH l E y (.code y bytes maxL ret) rm M As rv M' mc ms) (hy : gY y bytes maxL ret n) (hi : Cond.static y ∈ gU) (hl : Cond.methodLink own index y ∈ gU) (h0 : rm.cells = mc ∧ rm.slots = ms) (hR : rm.frames + 1 ≤ R.frames ∧ 8 + (maxL + 11) + rm.locals ≤ R.locals)
    (hn : As.length = n) (hls : ls.size = nL) (hst : st0 = As.reverse ++ rest) (hW : (rest.map fun v => v.category).sum ≤ 8) (hdg : decode cc pc = .ok (.invokestatic index, 3)) (hcs : cells + mc ≤ R.cells ∧ slots + ms ≤ R.slots)
    (kk : ∀ H1 locs1, jI D s (A0 s) X' H1 locs1 → W p l e R s m args below meth c H1 locs1 (cells + mc) (slots + ms) Q (F0 m (pc + 3) ls (rv.toList ++ rest))) : W p l e R s m args below meth c H locs cells slots Q (F0 m pc ls st0) := by
  have hg := hC.g hE
  have cb := gXB (R := R) hg hy hl h0 hR
  have hN := hC.2
  have hI' := l_in hE hI hp
  have hp1 := eH_pre hg hN hI' As
  obtain ⟨hx, hb, hml, hown, hts, hS0⟩ := hg
  exact eH_after hI' (va_runS (As := As) (rest := rest) ⟨hx, hb, hml, hown, hts⟩ hM ⟨cb, hts _ hi⟩ hp1 rfl hn hls hst (lv_room hW) hdg hcs) (fun H1 locs1 h => kk H1 locs1 (l_out hE h hp'))
theorem l_callHW (hC : lC p s m args c cc nL own D cid J) (hE : lE s D cid E) (hI : jI D s (A0 s) X H locs) (hp : X.Perm (gwl E M () ++ ws)) (hp' : (gwl E M' () ++ ws).Perm X') (hM : gH l E y (.codeWith y bytes maxL (some .int) hh) rm M As rv M' mc ms) (hcode : Cond.codeWith y bytes maxL (some .int) hh ∈ gU) (hini : Cond.initialized y.cls ∈ gU) (hsta : Cond.static y ∈ gU) (hl : Cond.methodLink own index y ∈ gU)
    (hd : (y.cls ≠ "java/lang/invoke/MethodHandle" ∧ y.cls ≠ "java/lang/invoke/VarHandle") ∧ (parseMethodDescriptor y.desc).map (fun d => d.parameters.length) = some n) (h0 : rm.cells = mc ∧ rm.slots = ms) (hR : rm.frames + 1 ≤ R.frames ∧ 8 + (maxL + 11) + rm.locals ≤ R.locals)
    (hn : As.length = n) (hls : ls.size = nL) (hst : st0 = As.reverse ++ rest) (hW : (rest.map fun v => v.category).sum ≤ 8) (hdg : decode cc pc = .ok (.invokestatic index, 3)) (hcs : cells + mc ≤ R.cells ∧ slots + ms ≤ R.slots)
    (kk : ∀ H1 locs1, jI D s (A0 s) X' H1 locs1 → W p l e R s m args below meth c H1 locs1 (cells + mc) (slots + ms) Q (F0 m (pc + 3) ls (rv.toList ++ rest))) : W p l e R s m args below meth c H locs cells slots Q (F0 m pc ls st0) := by
  have hg := hC.g hE
  have hN := hC.2
  have hI' := l_in hE hI hp
  have hp1 := eH_pre hg hN hI' As
  obtain ⟨hx, hb, hml, hown, hts, hS0⟩ := hg
  have cw : vx_CSW R s args own index y bytes maxL (some .int) hh (gWs (.codeWith y bytes maxL (some .int) hh)) rm mc ms n := by
    refine ⟨⟨h0.1, h0.2, hR.1, hR.2, pay_in hts (gGoodW hcode), List.mem_cons_self⟩, hts _ hcode, hts _ hini, hd.1, fun sig h => ?_, hts _ hl, hts _ hsta⟩
    have h2 := hd.2
    rw [h] at h2
    exact (Option.some.inj h2).symm
  exact eH_after hI' (vx_runSW (p := p) (l := l) (e := e) (R := R) (below := below) (meth := meth) (c := c) (locs := locs) (cells := cells) (slots := slots) (As := As) (rest := rest) (g := F0 m pc ls st0) ⟨hx, hb, hml, hown, hts⟩ hM cw hp1 rfl hn hls hst (lv_room hW) hdg hcs) (fun H1 locs1 h => kk H1 locs1 (l_out hE h hp'))
/-- state -/
theorem l_state {r9 : Nat → Int32} {β : Nat} (hst : l.stackTraces = false) (hC : lC p s m args c cc nL own D cid J) (hE : lE s D cid E) (hI : jI D s (A0 s) X H locs) (hp : X.Perm (gwl E M () ++ ws)) (g : gSim M 0 r9) (w : gRow β r9) (hl : Cond.methodLink own index yL_state ∈ gU) (hR : 21 ≤ R.frames ∧ 527 ≤ R.locals)
    (hls : ls.size = nL) (hW : (rest.map fun v => v.category).sum ≤ 8) (hdg : decode cc pc = .ok (.invokestatic index, 3)) (hcs : cells + 1000 ≤ R.cells ∧ slots + 6000 ≤ R.slots)
    (kk : ∀ H1 locs1, jI D s (A0 s) X H1 locs1 → W p l e R s m args below meth c H1 locs1 (cells + 1000) (slots + 6000) Q (F0 m (pc + 3) ls (.int (stV r9) :: rest))) : W p l e R s m args below meth c H locs cells slots Q (F0 m pc ls (.ref (E.2.1 132) :: rest)) := by
  have hg := hC.g hE
  have hs := hC.sc hE
  have hI' := l_in hE hI hp
  have cb := gXB (R := R) (rm := gRX 20 500 1000 6000) (mc := 1000) (ms := 6000) (n := 1) hg Y_L_state hl ⟨rfl, rfl⟩ ⟨hR.1, hR.2⟩
  obtain ⟨hx, hb, hml, hown, hts, hS0⟩ := hg
  have hr := va_runS (p := p) (l := l) (e := e) (R := R) (below := below) (meth := meth) (c := c) (locs := locs) (cells := cells) (slots := slots) (As := [.ref (E.2.1 132)]) (rest := rest) (g := F0 m pc ls (.ref (E.2.1 132) :: rest)) ⟨hx, hb, hml, hown, hts⟩ (C_state l hst E J (svH_of g w) H.size) ⟨cb, hts _ S_L_state⟩ ⟨s_blind E M J H.size _, fun U hU hW => ⟨rfl, s_pre hs hI' hU hW⟩⟩ rfl rfl hls rfl (lv_room hW) hdg hcs
  intro T hT X0
  obtain ⟨v9, st₀, t, T', L, h0, X9, hL, e1, e2, ⟨⟨hv, hg⟩, hz, hk⟩, st⟩ := hr T hT X0
  cases hv
  rw [h0] at hz hk
  rw [← e1] at hz hk
  have hb0 := e_back (L := []) hI' (by rw [e1]; exact hg.1) hz hk (fun q h => absurd h List.not_mem_nil)
  have hb1 : eI E s M ws T'.heap (locs ++ L) := ⟨hb0.1, hb0.2.1, hb0.2.2.1, hb0.2.2.2.1, fun q hq => by
    rcases List.mem_append.mp hq with h | h
    · exact hI'.2.2.2.2 q h
    · exact (hL q h).imp id (fun h => Nat.le_trans hI'.2.2.1 h)⟩
  obtain ⟨t2, a1, b1⟩ := kk T'.heap (locs ++ L) (l_out hE hb1 hp.symm) T' rfl X9
  exact ⟨t2, st t2 a1, b1⟩
/-- new cells come behind -/
theorem l_app {E : gE} {H1 : Heap} {L : List Loc} (hI : jI D s (A0 s) X H locs) (hz : H.size ≤ H1.size) (hk : ∀ a : Nat, a < H.size → H1[a]? = H[a]?) {G : va_W} (hP : va_P D vwCl G H1) (hD : va_D (fun a => H.size ≤ a) G) (hL : ∀ q ∈ L, H.size ≤ q.base) : jI D s (A0 s) (X ++ G) H1 (locs ++ L) := by
  refine ⟨va_P.app (fun k z hk9 => (hI.1 k z hk9).kept (hk _ (hI.1 k z hk9).lt)) hP, va_D.app hI.2.1 (hD.weaken (fun _ _ _ h => Nat.le_trans hI.2.2.1 h)) (fun i j y z hy hz9 e9 => ?_), Nat.le_trans hI.2.2.1 hz, fun a h1 h2 => ?_, fun q hq => ?_⟩
  · have h1 := (hI.1 i y hy).lt
    have h2 := hD.2 j z hz9
    omega
  · rw [hk a (Nat.lt_of_lt_of_le h1 hI.2.2.1)]
    exact hI.2.2.2.1 a h1 h2
  · rcases List.mem_append.mp hq with h | h
    · exact hI.2.2.2.2 q h
    · exact Nat.le_trans hI.2.2.1 (hL q h)
/-- build -/
theorem bld_blind {b L : Nat} {xs : Nat → Int32} {adK adV : Nat → Nat} {ss : List (List Int32)} {sz : Nat} (As : List Value) : FrameBlind (va_Pc As (bldPre b L xs D cid adK adV ss sz)) := fun a U g mk h =>
  ⟨h.1, h.2.1, va_X.moved (Vm.Alike.refl _) h.2.2.1, h.2.2.2.1, wB.same (s := U) (U := U.calling g mk a) rfl h.2.2.2.2.1, gNc.same (s := U) (U := U.calling g mk a) rfl h.2.2.2.2.2⟩
theorem l_build {b L : Nat} {xs : Nat → Int32} {adK adV : Nat → Nat} {ss : List (List Int32)} {MB : gM} (hst : l.stackTraces = false) (hC : lC p s m args c cc nL own D cid J) (hwB : wB D cid adK adV ss (A0 s) s s.heap) (hX : va_X b L xs s s.heap) (hbl : b < s.heap.size) (hL : L < 2 ^ 31) (hpB : pBuild L xs wM0 MB) (hI : jI D s (A0 s) X H locs) (hl : Cond.methodLink own index yL_build ∈ gU) (hR : 18 ≤ R.frames ∧ 446 ≤ R.locals)
    (hls : ls.size = nL) (hW : (rest.map fun v => v.category).sum ≤ 8) (hdg : decode cc pc = .ok (.invokestatic index, 3)) (hcs : cells + 3000 ≤ R.cells ∧ slots + 20000 ≤ R.slots)
    (kk : ∀ (ad : Nat → Nat) (H1 : Heap) (locs1 : List Loc), lE s D cid (wE D cid adK adV ss ad) → jI D s (A0 s) (X ++ gwl (wE D cid adK adV ss ad) MB ()) H1 locs1 → W p l e R s m args below meth c H1 locs1 (cells + 3000) (slots + 20000) Q (F0 m (pc + 3) ls (.ref (ad 132) :: rest))) : W p l e R s m args below meth c H locs cells slots Q (F0 m pc ls (.ref b :: rest)) := by
  have hN := hC.2
  have cb : CallB R s args own index yL_build cL_build 7 (some (.object "ContainerTerminal")) (gWs (.code yL_build cL_build 7 (some (.object "ContainerTerminal")))) (gRX 17 420 3000 20000) 3000 20000 1 := by
    refine callB_of 1 hC.1.1.2.2.2.2.1 (gGoodW Y_L_build.1) rfl rfl rfl (hC.1.1.2.2.2.2.1 _ Y_L_build.2.1) (hC.1.1.2.2.2.2.1 _ hl) ⟨Y_L_build.2.2.1.1, Y_L_build.2.2.1.2, Y_L_build.2.2.2⟩ ⟨hR.1, hR.2⟩
  obtain ⟨⟨⟨hx, hb, hml, hown, hts, hK⟩, -⟩, -⟩ := id hC
  have hXH : va_X b L xs s H := by
    obtain ⟨scr, h1, h2⟩ := hX
    exact ⟨scr, by rw [hI.2.2.2.1 b hbl (Nat.not_le.mpr hbl)]; exact h1, h2⟩
  have hr := va_runS (p := p) (l := l) (e := e) (R := R) (below := below) (meth := meth) (c := c) (locs := locs) (cells := cells) (slots := slots) (As := [.ref b]) (rest := rest) (g := F0 m pc ls (.ref b :: rest)) ⟨hx, hb, hml, hown, hts⟩ (l_more (C_build l hst hL D cid adK adV ss hpB H.size) (show 2338 ≤ 3000 by omega) (show 17915 ≤ 20000 by omega)) ⟨cb, hts _ S_L_build⟩ ⟨bld_blind _, fun U hU hWm => ⟨rfl, by rw [hU], va_X.moved hWm.alike (by rw [hU]; exact hXH), by rw [hU]; exact Nat.lt_of_lt_of_le hbl hI.2.2.1, by rw [hU]; exact ((hwB.kept hI.2.2.2.1).warm hWm).narrow (fun q h => Nat.le_trans hI.2.2.1 h), hN.warm hWm⟩⟩ rfl rfl hls rfl (lv_room hW) hdg hcs
  intro T hT X0
  obtain ⟨v, st₀, t, T', L9, e0, X9, hL9, e1, e2, ⟨⟨ad, hv, hg, had⟩, hz, hk⟩, st⟩ := hr T hT X0
  cases hv
  rw [e0] at hz hk had
  rw [← e1] at hz hk
  have hk' : ∀ a : Nat, a < H.size → T'.heap[a]? = H[a]? := fun a h1 => hk a h1 (fun h => h)
  have hinj := hg.2.2.1
  have hE : lE s D cid (wE D cid adK adV ss ad) := ⟨hwB.gS0 hinj (fun i hi => Nat.le_trans hI.2.2.1 (had i hi)), rfl, rfl, fun q hq => by
    obtain ⟨i, hi, rfl⟩ := hq
    exact Nat.le_trans hI.2.2.1 (had i hi)⟩
  obtain ⟨t2, a1, b1⟩ := kk ad T'.heap (locs ++ L9) hE (l_app (E := wE D cid adK adV ss ad) hI hz hk' (by rw [e1]; exact hg.1) ((gD_of hg.2 MB ()).weaken (fun k z hz9 h => by obtain ⟨i, hi, e9⟩ := h; exact Nat.le_trans (had i hi) (Nat.le_of_eq (show ad i = z.1 from e9.symm)))) hL9) T' rfl X9
  exact ⟨t2, st t2 a1, b1⟩
/-- at -/
theorem l_at {b L k : Nat} {xs : Nat → Int32} (hC : lC p s m args c cc nL own D cid J) (hX : va_X b L xs s s.heap) (hbl : b < s.heap.size) (hL : L < 2 ^ 31) (hk : k < 2 ^ 31) (hI : jI D s (A0 s) X H locs) (hl : Cond.methodLink own index yL_at ∈ gU) (hR : 1 ≤ R.frames ∧ 21 ≤ R.locals)
    (hls : ls.size = nL) (hW : (rest.map fun v => v.category).sum ≤ 8) (hdg : decode cc pc = .ok (.invokestatic index, 3)) (hcs : cells ≤ R.cells ∧ slots ≤ R.slots)
    (kk : ∀ H1 locs1, jI D s (A0 s) X H1 locs1 → W p l e R s m args below meth c H1 locs1 cells slots Q (F0 m (pc + 3) ls (.int (pAt L xs k) :: rest))) : W p l e R s m args below meth c H locs cells slots Q (F0 m pc ls (.int (nI k) :: .ref b :: rest)) := by
  have hXH : va_X b L xs s H := by
    obtain ⟨scr, h1, h2⟩ := hX
    exact ⟨scr, by rw [hI.2.2.2.1 b hbl (Nat.not_le.mpr hbl)]; exact h1, h2⟩
  have cb : CallB R s args own index yL_at cL_at 2 (some .int) (gWs (.code yL_at cL_at 2 (some .int))) (gRX 0 0 0 0) 0 0 2 := by
    refine callB_of 2 hC.1.1.2.2.2.2.1 (gGoodW Y_L_at.1) rfl rfl rfl (hC.1.1.2.2.2.2.1 _ Y_L_at.2.1) (hC.1.1.2.2.2.2.1 _ hl) ⟨Y_L_at.2.2.1.1, Y_L_at.2.2.1.2, Y_L_at.2.2.2⟩ ⟨hR.1, hR.2⟩
  obtain ⟨⟨⟨hx, hb, hml, hown, hts, hK⟩, -⟩, -⟩ := id hC
  have hr := va_runS (p := p) (l := l) (e := e) (R := R) (below := below) (meth := meth) (c := c) (locs := locs) (cells := cells) (slots := slots) (As := [.ref b, .int (nI k)]) (rest := rest) (g := F0 m pc ls (.int (nI k) :: .ref b :: rest)) ⟨hx, hb, hml, hown, hts⟩ (C_at l hL hk) ⟨cb, hts _ S_L_at⟩ (at_pre hXH rfl) rfl rfl hls rfl (lv_room hW) hdg hcs
  intro T hT X0
  obtain ⟨v, st₀, t, T', L9, e0, X9, hL9, e1, e2, ⟨hv, hz, hk9⟩, st⟩ := hr T hT X0
  cases hv
  rw [e0] at hz hk9
  rw [← e1] at hz hk9
  obtain ⟨t2, a1, b1⟩ := kk T'.heap (locs ++ L9) (by
    have h := l_app (E := (D, fun _ => 0, cid, fun _ => 0, fun _ => 0, [])) (G := []) (L := L9) hI hz (fun a h1 => hk9 a h1 (fun h => h)) (fun k q h => by simp at h) ⟨fun i j p q h => by simp at h, fun k q h => by simp at h⟩ (fun q h => absurd (hL9 q h) (fun h => h))
    rw [List.append_nil] at h
    exact h) T' rfl X9
  exact ⟨t2, st t2 a1, b1⟩
end LLL
theorem pm2 {α : Type} {a b c : List α} : (a ++ (b ++ c)).Perm (b ++ (a ++ c)) := by
  rw [← List.append_assoc, ← List.append_assoc]
  exact (List.perm_append_comm).append_right c
theorem pm3 {α : Type} {a b c d : List α} : (a ++ (b ++ (c ++ d))).Perm (c ++ (a ++ (b ++ d))) := ((pm2 (a := b) (b := c) (c := d)).append_left a).trans pm2
