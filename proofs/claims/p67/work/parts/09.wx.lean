/-! Rows for methods that throw: outcomes, calls, ends; and rows for values of other kinds. -/
def gO (q : String ⊕ Int32) : String ⊕ Option Value := match q with | .inl e => .inl e | .inr v => .inr (some (.int v))
def gOb (q : String ⊕ Bool) : String ⊕ Option Value := match q with | .inl e => .inl e | .inr v => .inr (some (.int (gb v)))
def gOv (q : String ⊕ Unit) : String ⊕ Option Value := match q with | .inl e => .inl e | .inr _ => .inr none
def gOd (q : String ⊕ UInt64) : String ⊕ Option Value := match q with | .inl e => .inl e | .inr v => .inr (some (.double v))
def gOf (q : String ⊕ UInt32) : String ⊕ Option Value := match q with | .inl e => .inl e | .inr v => .inr (some (.float v))
/-- what follows a call that may throw -/
def gSeq {α β : Type} (q : Option ((String ⊕ α) × gM)) (k : α → gM → Option ((String ⊕ β) × gM)) : Option ((String ⊕ β) × gM) := q.bind fun z => match z.1 with | .inl e => some (.inl e, z.2) | .inr v => k v z.2
theorem gseq {α β : Type} {q : Option ((String ⊕ α) × gM)} {k : α → gM → Option ((String ⊕ β) × gM)} {r : (String ⊕ β) × gM} (h : gSeq q k = some r) : (∃ e M', q = some (.inl e, M') ∧ some (Sum.inl e, M') = some r) ∨ (∃ v M', q = some (.inr v, M') ∧ k v M' = some r) := by
  unfold gSeq at h
  obtain ⟨⟨z, M'⟩, h1, h2⟩ := Option.bind_eq_some_iff.mp h
  cases z with
  | inl e => exact Or.inl ⟨e, M', h1, h2⟩
  | inr v => exact Or.inr ⟨v, M', h1, h2⟩
theorem gre {M1 M' : gM} {v : Int32} {o : String ⊕ Int32} (h : some (Sum.inr v, M1) = some (o, M')) : (gO o, M') = (.inr (some (.int v)), M1) := by cases h; rfl
theorem greb {M1 M' : gM} {v : Bool} {o : String ⊕ Bool} (h : some (Sum.inr v, M1) = some (o, M')) : (gOb o, M') = (.inr (some (.int (gb v))), M1) := by cases h; rfl
theorem greb1 {M1 M' : gM} {o : String ⊕ Bool} (h : some (Sum.inr true, M1) = some (o, M')) : (gOb o, M') = (.inr (some (.int 1)), M1) := by cases h; rfl
theorem greb0 {M1 M' : gM} {o : String ⊕ Bool} (h : some (Sum.inr false, M1) = some (o, M')) : (gOb o, M') = (.inr (some (.int 0)), M1) := by cases h; rfl
theorem grev {M1 M' : gM} {o : String ⊕ Unit} (h : some (Sum.inr (), M1) = some (o, M')) : (gOv o, M') = (.inr none, M1) := by cases h; rfl
theorem gred {M1 M' : gM} {v : UInt64} {o : String ⊕ UInt64} (h : some (Sum.inr v, M1) = some (o, M')) : (gOd o, M') = (.inr (some (.double v)), M1) := by cases h; rfl
theorem gref {M1 M' : gM} {v : UInt32} {o : String ⊕ UInt32} (h : some (Sum.inr v, M1) = some (o, M')) : (gOf o, M') = (.inr (some (.float v)), M1) := by cases h; rfl
theorem gtx {M1 M' : gM} {e : String} {o : String ⊕ Int32} (h : some (Sum.inl e, M1) = some (o, M')) : (gO o, M') = (.inl e, M1) := by cases h; rfl
theorem gtxb {M1 M' : gM} {e : String} {o : String ⊕ Bool} (h : some (Sum.inl e, M1) = some (o, M')) : (gOb o, M') = (.inl e, M1) := by cases h; rfl
theorem gtxv {M1 M' : gM} {e : String} {o : String ⊕ Unit} (h : some (Sum.inl e, M1) = some (o, M')) : (gOv o, M') = (.inl e, M1) := by cases h; rfl
theorem gtxd {M1 M' : gM} {e : String} {o : String ⊕ UInt64} (h : some (Sum.inl e, M1) = some (o, M')) : (gOd o, M') = (.inl e, M1) := by cases h; rfl
theorem gtxf {M1 M' : gM} {e : String} {o : String ⊕ UInt32} (h : some (Sum.inl e, M1) = some (o, M')) : (gOf o, M') = (.inl e, M1) := by cases h; rfl
theorem gdv {M1 M' : gM} {v r : UInt64} (h : some (v, M1) = some (r, M')) : ((some (.double r), M') : Option Value × gM) = (some (.double v), M1) := by cases h; rfl
theorem gfv {M1 M' : gM} {v r : UInt32} (h : some (v, M1) = some (r, M')) : ((some (.float r), M') : Option Value × gM) = (some (.float v), M1) := by cases h; rfl
section GWX
variable {p : Program} {l : Launch} {e : Env} {R : Room} {s : State} {m : MethodId} {args : Array Value} {below : List Frame} {meth : Method} {c : Code} {H : Heap} {locs : List Loc} {cells slots mc ms : Nat} {Q : State → Prop}
variable {E : gE} {M M' : gM} {x : gX} {cc : ByteArray} {own : String} {nL pc : Nat} {ls : Array Slot} {rest : List Value}
variable {y : MethodName} {bytes : ByteArray} {maxL n index : Nat} {ret : Option FieldType} {rm : Room} {As st0 : List Value} {r : Int32} {En : String}
theorem g_xVx (hC : gC p s m args c cc nL own E) (hI : gI E s M x H locs) {id : Nat} (hM : gX0 l E y (.code y bytes maxL ret) rm M x (.ref (E.2.1 id) :: As) (.inl En) M' mc ms) (hy : gY y bytes maxL ret n) (hi : Cond.instanceMethod y ∈ gU ∧ Cond.selects y.cls y y ∈ gU) (hl : Cond.methodLink own index y ∈ gU) (hr : ∃ cell : Cell, H[E.2.1 id]? = some cell ∧ cell.vm.isStatics = false ∧ s.vm.findClass y.cls = some cell.cls) (h0 : rm.cells = mc ∧ rm.slots = ms) (hR : rm.frames + 1 ≤ R.frames ∧ 8 + (maxL + 11) + rm.locals ≤ R.locals)
    (hn : As.length = n) (hls : ls.size = nL) (hst : st0 = As.reverse ++ .ref (E.2.1 id) :: rest) (hW : (rest.map fun v => v.category).sum ≤ 8) (hdg : decode cc pc = .ok (.invokevirtual index, 3)) (hcs : cells + mc ≤ R.cells ∧ slots + ms ≤ R.slots)
    (kx : ∀ ce q H1 locs1, gI E s M' x H1 locs1 → H1[q]? = some ce → ce.vm = .none → s.vm.findClass En = some ce.cls → vx_W p l e R s m args below meth c H1 locs1 (cells + mc) (slots + ms) Q (F0 m pc ls rest) q) : W p l e R s m args below meth c H locs cells slots Q (F0 m pc ls st0) :=
  g_xV hC hI hM hy hi hl hr h0 hR hn hls hst hW hdg hcs (fun rv H1 locs1 h _ => by cases h) (fun En' ce q H1 locs1 h => by cases h; exact kx ce q H1 locs1)
theorem g_xVi (hC : gC p s m args c cc nL own E) (hI : gI E s M x H locs) {id : Nat} (hM : gX0 l E y (.code y bytes maxL ret) rm M x (.ref (E.2.1 id) :: As) (.inr (some (.int r))) M' mc ms) (hy : gY y bytes maxL ret n) (hi : Cond.instanceMethod y ∈ gU ∧ Cond.selects y.cls y y ∈ gU) (hl : Cond.methodLink own index y ∈ gU) (hr : ∃ cell : Cell, H[E.2.1 id]? = some cell ∧ cell.vm.isStatics = false ∧ s.vm.findClass y.cls = some cell.cls) (h0 : rm.cells = mc ∧ rm.slots = ms) (hR : rm.frames + 1 ≤ R.frames ∧ 8 + (maxL + 11) + rm.locals ≤ R.locals)
    (hn : As.length = n) (hls : ls.size = nL) (hst : st0 = As.reverse ++ .ref (E.2.1 id) :: rest) (hW : (rest.map fun v => v.category).sum ≤ 8) (hdg : decode cc pc = .ok (.invokevirtual index, 3)) (hcs : cells + mc ≤ R.cells ∧ slots + ms ≤ R.slots)
    (kn : ∀ H1 locs1, gI E s M' x H1 locs1 → W p l e R s m args below meth c H1 locs1 (cells + mc) (slots + ms) Q (F0 m (pc + 3) ls (.int r :: rest))) : W p l e R s m args below meth c H locs cells slots Q (F0 m pc ls st0) :=
  g_xV hC hI hM hy hi hl hr h0 hR hn hls hst hW hdg hcs (fun rv H1 locs1 h => by cases h; exact kn H1 locs1) (fun En' ce q H1 locs1 h => by cases h)
theorem g_xVv (hC : gC p s m args c cc nL own E) (hI : gI E s M x H locs) {id : Nat} (hM : gX0 l E y (.code y bytes maxL ret) rm M x (.ref (E.2.1 id) :: As) (.inr none) M' mc ms) (hy : gY y bytes maxL ret n) (hi : Cond.instanceMethod y ∈ gU ∧ Cond.selects y.cls y y ∈ gU) (hl : Cond.methodLink own index y ∈ gU) (hr : ∃ cell : Cell, H[E.2.1 id]? = some cell ∧ cell.vm.isStatics = false ∧ s.vm.findClass y.cls = some cell.cls) (h0 : rm.cells = mc ∧ rm.slots = ms) (hR : rm.frames + 1 ≤ R.frames ∧ 8 + (maxL + 11) + rm.locals ≤ R.locals)
    (hn : As.length = n) (hls : ls.size = nL) (hst : st0 = As.reverse ++ .ref (E.2.1 id) :: rest) (hW : (rest.map fun v => v.category).sum ≤ 8) (hdg : decode cc pc = .ok (.invokevirtual index, 3)) (hcs : cells + mc ≤ R.cells ∧ slots + ms ≤ R.slots)
    (kn : ∀ H1 locs1, gI E s M' x H1 locs1 → W p l e R s m args below meth c H1 locs1 (cells + mc) (slots + ms) Q (F0 m (pc + 3) ls rest)) : W p l e R s m args below meth c H locs cells slots Q (F0 m pc ls st0) :=
  g_xV hC hI hM hy hi hl hr h0 hR hn hls hst hW hdg hcs (fun rv H1 locs1 h => by cases h; exact kn H1 locs1) (fun En' ce q H1 locs1 h => by cases h)
theorem g_xSx (hC : gC p s m args c cc nL own E) (hI : gI E s M x H locs) (hM : gX0 l E y (.code y bytes maxL ret) rm M x As (.inl En) M' mc ms) (hy : gY y bytes maxL ret n) (hi : Cond.static y ∈ gU) (hl : Cond.methodLink own index y ∈ gU) (h0 : rm.cells = mc ∧ rm.slots = ms) (hR : rm.frames + 1 ≤ R.frames ∧ 8 + (maxL + 11) + rm.locals ≤ R.locals)
    (hn : As.length = n) (hls : ls.size = nL) (hst : st0 = As.reverse ++ rest) (hW : (rest.map fun v => v.category).sum ≤ 8) (hdg : decode cc pc = .ok (.invokestatic index, 3)) (hcs : cells + mc ≤ R.cells ∧ slots + ms ≤ R.slots)
    (kx : ∀ ce q H1 locs1, gI E s M' x H1 locs1 → H1[q]? = some ce → ce.vm = .none → s.vm.findClass En = some ce.cls → vx_W p l e R s m args below meth c H1 locs1 (cells + mc) (slots + ms) Q (F0 m pc ls rest) q) : W p l e R s m args below meth c H locs cells slots Q (F0 m pc ls st0) :=
  g_xS hC hI hM hy hi hl h0 hR hn hls hst hW hdg hcs (fun rv H1 locs1 h _ => by cases h) (fun En' ce q H1 locs1 h => by cases h; exact kx ce q H1 locs1)
theorem g_xSi (hC : gC p s m args c cc nL own E) (hI : gI E s M x H locs) (hM : gX0 l E y (.code y bytes maxL ret) rm M x As (.inr (some (.int r))) M' mc ms) (hy : gY y bytes maxL ret n) (hi : Cond.static y ∈ gU) (hl : Cond.methodLink own index y ∈ gU) (h0 : rm.cells = mc ∧ rm.slots = ms) (hR : rm.frames + 1 ≤ R.frames ∧ 8 + (maxL + 11) + rm.locals ≤ R.locals)
    (hn : As.length = n) (hls : ls.size = nL) (hst : st0 = As.reverse ++ rest) (hW : (rest.map fun v => v.category).sum ≤ 8) (hdg : decode cc pc = .ok (.invokestatic index, 3)) (hcs : cells + mc ≤ R.cells ∧ slots + ms ≤ R.slots)
    (kn : ∀ H1 locs1, gI E s M' x H1 locs1 → W p l e R s m args below meth c H1 locs1 (cells + mc) (slots + ms) Q (F0 m (pc + 3) ls (.int r :: rest))) : W p l e R s m args below meth c H locs cells slots Q (F0 m pc ls st0) :=
  g_xS hC hI hM hy hi hl h0 hR hn hls hst hW hdg hcs (fun rv H1 locs1 h => by cases h; exact kn H1 locs1) (fun En' ce q H1 locs1 h => by cases h)
theorem g_xSv (hC : gC p s m args c cc nL own E) (hI : gI E s M x H locs) (hM : gX0 l E y (.code y bytes maxL ret) rm M x As (.inr none) M' mc ms) (hy : gY y bytes maxL ret n) (hi : Cond.static y ∈ gU) (hl : Cond.methodLink own index y ∈ gU) (h0 : rm.cells = mc ∧ rm.slots = ms) (hR : rm.frames + 1 ≤ R.frames ∧ 8 + (maxL + 11) + rm.locals ≤ R.locals)
    (hn : As.length = n) (hls : ls.size = nL) (hst : st0 = As.reverse ++ rest) (hW : (rest.map fun v => v.category).sum ≤ 8) (hdg : decode cc pc = .ok (.invokestatic index, 3)) (hcs : cells + mc ≤ R.cells ∧ slots + ms ≤ R.slots)
    (kn : ∀ H1 locs1, gI E s M' x H1 locs1 → W p l e R s m args below meth c H1 locs1 (cells + mc) (slots + ms) Q (F0 m (pc + 3) ls rest)) : W p l e R s m args below meth c H locs cells slots Q (F0 m pc ls st0) :=
  g_xS hC hI hM hy hi hl h0 hR hn hls hst hW hdg hcs (fun rv H1 locs1 h => by cases h; exact kn H1 locs1) (fun En' ce q H1 locs1 h => by cases h)
/-- a call of a method of any receiver that answers an int -/
theorem g_callVb (hC : gC p s m args c cc nL own E) (hI : gI E s M x H locs) {b : Nat} {rv : Option Value} (hM : gM0 l E y (.code y bytes maxL ret) rm M x (.ref b :: As) rv M') (hy : gY y bytes maxL ret n) (hi : Cond.instanceMethod y ∈ gU ∧ Cond.selects y.cls y y ∈ gU) (hl : Cond.methodLink own index y ∈ gU) (hr : ∃ cell : Cell, H[b]? = some cell ∧ cell.vm.isStatics = false ∧ s.vm.findClass y.cls = some cell.cls) (h0 : rm.cells = 0 ∧ rm.slots = 0) (hR : rm.frames + 1 ≤ R.frames ∧ 8 + (maxL + 11) + rm.locals ≤ R.locals)
    (hn : As.length = n) (hls : ls.size = nL) (hst : st0 = As.reverse ++ .ref b :: rest) (hW : (rest.map fun v => v.category).sum ≤ 8) (hdg : decode cc pc = .ok (.invokevirtual index, 3)) (hcs : cells ≤ R.cells ∧ slots ≤ R.slots)
    (kk : ∀ H1 locs1, gI E s M' x H1 locs1 → W p l e R s m args below meth c H1 locs1 cells slots Q (F0 m (pc + 3) ls (rv.toList ++ rest))) : W p l e R s m args below meth c H locs cells slots Q (F0 m pc ls st0) := by
  have cb := gCB (R := R) hC hy hl h0 hR
  have hg := hC
  obtain ⟨hx, hb, hml, hown, hts, hS0⟩ := hg
  exact g_after (va_runV (As := As) (rest := rest) ⟨hx, hb, hml, hown, hts⟩ hM ⟨cb, hts _ hi.1, hts _ hi.2⟩ ⟨gblind E M x _, hr, fun U hU hW => ⟨rfl, gW_at hS0 hI hU hW⟩⟩ rfl hn hls hst (lv_room hW) hdg hcs) hI.2 kk
theorem rcv_W (hC : gC p s m args c cc nL own E) (hI : gI E s M x H locs) {k : Nat} (hk : k < gNs E) : ∃ cell : Cell, H[E.2.2.2.1 k]? = some cell ∧ cell.vm.isStatics = false ∧ s.vm.findClass "java/lang/String" = some cell.cls := by
  obtain ⟨cell, h1, h2, h3, -⟩ := (hC.2.2.2.2.2.2.2.2.2.2.2.2.1.1 k hk).1.kept hI.2.2.1
  exact ⟨cell, h1, h2, h3⟩
theorem g_ldcW (hC : gC p s m args c cc nL RX2 E) (k : Nat) {q : Nat × String} (hq : gWd[k]? = some q) (hdg : decode cc pc = .ok (.ldc q.1, 2))
    (kk : W p l e R s m args below meth c H locs cells slots Q (F0 m (pc + 2) ls (.ref (E.2.2.2.1 k) :: rest))) : W p l e R s m args below meth c H locs cells slots Q (F0 m pc ls rest) :=
  va_ldcS hC.1 hC.2.1 hC.2.2.2.1 (hC.2.2.2.2.2.2.2.2.2.2.2.1 k q hq) hdg kk
end GWX
/-- a method's contract out of the walk of its body, where it answers a double or a float -/
theorem gMetF {l : Launch} {y : MethodName} {cc : ByteArray} {maxL : Nat} {ret : Option FieldType} {rm : Room} {E : gE} {M M' : gM} {x : gX} {av : List Value} {rv : Option Value} (hy : plainFor y = true) (hL : (lg_sl av).length ≤ maxL)
    (body : ∀ (p : Program) (e : Env) (s : State) (m : MethodId) (args : Array Value) (below : List Frame) (meth : Method) (c : Code) (H : Heap) (locs : List Loc) (ls : Array Slot) (Q : State → Prop), gC p s m args c cc maxL y.cls E → lv_has ls maxL (lv_args 0 av) → gI E s M x H locs →
      (∀ (M1 : gM) (H1 : Heap) (locs1 : List Loc) (ls1 : Array Slot) (pc : Nat) (v : UInt64), (rv, M') = (some (.double v), M1) → gI E s M1 x H1 locs1 → ret = some .double → decode cc pc = .ok (.dreturn, 1) → W p l e rm s m args below meth c H1 locs1 0 0 Q (F0 m pc ls1 [.double v])) →
      (∀ (M1 : gM) (H1 : Heap) (locs1 : List Loc) (ls1 : Array Slot) (pc : Nat) (v : UInt32), (rv, M') = (some (.float v), M1) → gI E s M1 x H1 locs1 → ret = some .float → decode cc pc = .ok (.freturn, 1) → W p l e rm s m args below meth c H1 locs1 0 0 Q (F0 m pc ls1 [.float v])) →
      W p l e rm s m args below meth c H locs 0 0 Q (F0 m 0 ls [])) : gM0 l E y (.code y cc maxL ret) rm M x av rv M' := by
  refine gOfW (cc := cc) (maxL := maxL) (ret := ret) hy rfl ?_
  intro p e s m args below meth c s₁ B hml hv
  obtain ⟨rfl, hW⟩ := hv
  have hts : ∀ w ∈ gWs (.code y cc maxL ret), w.before av.toArray s = true := atoms_spec (ws := gWs (.code y cc maxL ret)) B.pre
  have hlocks := B.notSynchronized
  have hl := lv_entry av (n := maxL) hL
  rw [lg_entry_eq]
  generalize (lg_sl av ++ List.replicate (maxL - (lg_sl av).length) Slot.unset).toArray = ls at hl ⊢
  refine body p e s m av.toArray below meth c s.heap [] ls _ ⟨B.exec, B.bytes, hml, findClass_of_methodNamed B.named, fun w hw => hts w (List.mem_cons_of_mem _ hw), hW.2⟩ hl ⟨hW.1, va_S.rf⟩ ?_ ?_
  · intro M1 H1 locs1 ls1 pc v he hI hr hdg
    cases he
    exact W.dret B.exec B.bytes (B.returns.trans hr) (fun t ht hWm => ⟨rfl, gW_at hW.2 hI ht hWm, hI.2.F ht⟩) hI.2.2.2 hdg
  · intro M1 H1 locs1 ls1 pc v he hI hr hdg
    cases he
    exact W.fret B.exec B.bytes (B.returns.trans hr) (fun t ht hWm => ⟨rfl, gW_at hW.2 hI ht hWm, hI.2.F ht⟩) hI.2.2.2 hdg
/-- no NaN -/
def gn64 (x : UInt64) : Bool := decide (x &&& 0x7fffffffffffffff ≤ 0x7ff0000000000000)
def gn32 (x : UInt32) : Bool := decide (x &&& 0x7fffffff ≤ 0x7f800000)
