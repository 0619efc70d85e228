/-! Methods that return or throw, over the one world. -/
abbrev gRX (fr lo mc ms : Nat) : Room := { frames := fr, cells := mc, slots := ms, locals := lo }
/-- a contract: over the world with the memory M, the method returns or throws as o says, and the world's memory is M' -/
def gX0 (l : Launch) (E : gE) (y : MethodName) (w : Cond) (rm : Room) (M : gM) (x : gX) (av : List Value) (o : String ⊕ Option Value) (M' : gM) (mc ms : Nat) : Prop :=
  vx_Met l y (gWs w) rm (va_Pc av (gW E M x)) (fun _ st oc t => (∃ rv, o = .inr rv ∧ oc = .returned rv) ∧ gW E M' x t ∧ va_F (gA E) st t) (fun En st t => o = .inl En ∧ va_P E.1 vwCl (gwl E M' x) t.heap ∧ va_F (gA E) st t) mc ms (gA E)
/-- what the throwing of a class's exception with a text rests on -/
def gThN : List String := ["java/lang/RuntimeException", "java/lang/Exception"]
def gB13 : ByteArray := ⟨#[0x2a, 0x2b, 0xb7, 0x00, 0x0d, 0xb1]⟩
def gThA (own : String) (ik ic : Nat) (cls : String) (L : List Cond) : Prop :=
  (∀ w ∈ L.filter goodWord, w ∈ gU) ∧ (∀ w ∈ L.filter (fun w => !goodWord w), w ∈ gFw) ∧ (∀ w ∈ Cond.classLink own ik cls :: Cond.initialized cls :: L, vx_ot w = true)
def gTh (own : String) (ik ic : Nat) (cls : String) : Prop :=
  Cond.classLink own ik cls ∈ gU ∧ Cond.initialized cls ∈ gU ∧ Bundle.fit cls = true ∧ (gThA own ik ic cls (vx_atS own ic cls gThN) ∨ gThA own ik ic cls (vyAt0 own ic cls "java/lang/RuntimeException" 13 gB13 ["java/lang/Exception"]))
section GVX
variable {p : Program} {l : Launch} {e : Env} {R : Room} {s : State} {m : MethodId} {args : Array Value} {below : List Frame} {meth : Method} {c : Code} {H : Heap} {locs : List Loc} {cells slots mc ms : Nat} {Q : State → Prop}
variable {E : gE} {M M' : gM} {x : gX} {cc : ByteArray} {own : String} {nL pc : Nat} {ls : Array Slot} {rest : List Value}
variable {y : MethodName} {bytes : ByteArray} {maxL n index : Nat} {ret : Option FieldType} {rm : Room} {o : String ⊕ Option Value} {As st0 : List Value} {r : Int32}
theorem gx_after (hr : vx_Run p l e R s m args below meth c H locs cells slots mc ms (F0 m pc ls st0) rest (fun st oc t => (∃ rv, o = .inr rv ∧ oc = .returned rv) ∧ gW E M' x t ∧ va_F (gA E) st t) (fun En st t => o = .inl En ∧ va_P E.1 vwCl (gwl E M' x) t.heap ∧ va_F (gA E) st t) (gA E)) (hS : va_S (gA E) s.heap H locs)
    (kn : ∀ rv H1 locs1, o = .inr rv → gI E s M' x H1 locs1 → W p l e R s m args below meth c H1 locs1 (cells + mc) (slots + ms) Q (F0 m (pc + 3) ls (rv.toList ++ rest)))
    (kx : ∀ En ce q H1 locs1, o = .inl En → gI E s M' x H1 locs1 → H1[q]? = some ce → ce.vm = .none → s.vm.findClass En = some ce.cls → vx_W p l e R s m args below meth c H1 locs1 (cells + mc) (slots + ms) Q (F0 m pc ls rest) q) : W p l e R s m args below meth c H locs cells slots Q (F0 m pc ls st0) := by
  intro T hT X
  rcases hr T hT X with ⟨v, st₀, t, T', L, h0, X', hL, e1, e2, ⟨⟨rv, ho, hv⟩, hg, hz, hk⟩, st⟩ | ⟨q, st₀, t, T', L, En, ce, h0, X', hL, e1, e2, ⟨ho, hg, hz, hk⟩, hce, hcv, hcl, st⟩
  · cases hv
    rw [h0] at hz hk
    obtain ⟨t2, a1, b1⟩ := kn v T'.heap (locs ++ L) ho ⟨by rw [e1]; exact hg.1, Nat.le_trans hS.1 (by rw [e1]; exact hz), fun q h1 h2 => by rw [e1, hk q (Nat.lt_of_lt_of_le h1 hS.1) h2]; exact hS.2.1 q h1 h2, fun q hq => by
      rcases List.mem_append.mp hq with h | h
      · exact hS.2.2 q h
      · exact hL q h⟩ T' rfl X'
    exact ⟨t2, st t2 a1, b1⟩
  · rw [h0] at hz hk
    obtain ⟨t2, a1, b1⟩ := kx En ce q T'.heap (locs ++ L) ho ⟨by rw [e1]; exact hg, Nat.le_trans hS.1 (by rw [e1]; exact hz), fun q h1 h2 => by rw [e1, hk q (Nat.lt_of_lt_of_le h1 hS.1) h2]; exact hS.2.1 q h1 h2, fun q hq => by
      rcases List.mem_append.mp hq with h | h
      · exact hS.2.2 q h
      · exact hL q h⟩ (by rw [e1]; exact hce) hcv hcl T' rfl X'
    exact ⟨t2, st.trans a1, b1⟩
theorem gXB (hC : gC p s m args c cc nL own E) (hy : gY y bytes maxL ret n) (hl : Cond.methodLink own index y ∈ gU) (h0 : rm.cells = mc ∧ rm.slots = ms) (hR : rm.frames + 1 ≤ R.frames ∧ 8 + (maxL + 11) + rm.locals ≤ R.locals) : CallB R s args own index y bytes maxL ret (gWs (.code y bytes maxL ret)) rm mc ms n :=
  callB_of n hC.2.2.2.2.1 (gGoodW hy.1) rfl h0.1 h0.2 (hC.2.2.2.2.1 _ hy.2.1) (hC.2.2.2.2.1 _ hl) ⟨hy.2.2.1.1, hy.2.2.1.2, hy.2.2.2⟩ hR
theorem g_xV (hC : gC p s m args c cc nL own E) (hI : gI E s M x H locs) {id : Nat} (hM : gX0 l E y (.code y bytes maxL ret) rm M x (.ref (E.2.1 id) :: As) o M' mc ms) (hy : gY y bytes maxL ret n) (hi : Cond.instanceMethod y ∈ gU ∧ Cond.selects y.cls y y ∈ gU) (hl : Cond.methodLink own index y ∈ gU) (hr : ∃ cell : Cell, H[E.2.1 id]? = some cell ∧ cell.vm.isStatics = false ∧ s.vm.findClass y.cls = some cell.cls) (h0 : rm.cells = mc ∧ rm.slots = ms) (hR : rm.frames + 1 ≤ R.frames ∧ 8 + (maxL + 11) + rm.locals ≤ R.locals)
    (hn : As.length = n) (hls : ls.size = nL) (hst : st0 = As.reverse ++ .ref (E.2.1 id) :: rest) (hW : (rest.map fun v => v.category).sum ≤ 8) (hdg : decode cc pc = .ok (.invokevirtual index, 3)) (hcs : cells + mc ≤ R.cells ∧ slots + ms ≤ R.slots)
    (kn : ∀ rv H1 locs1, o = .inr rv → gI E s M' x H1 locs1 → W p l e R s m args below meth c H1 locs1 (cells + mc) (slots + ms) Q (F0 m (pc + 3) ls (rv.toList ++ rest)))
    (kx : ∀ En ce q H1 locs1, o = .inl En → gI E s M' x H1 locs1 → H1[q]? = some ce → ce.vm = .none → s.vm.findClass En = some ce.cls → vx_W p l e R s m args below meth c H1 locs1 (cells + mc) (slots + ms) Q (F0 m pc ls rest) q) : W p l e R s m args below meth c H locs cells slots Q (F0 m pc ls st0) := by
  have cb := gXB (R := R) hC hy hl h0 hR
  have hg := hC
  obtain ⟨hx, hb, hml, hown, hts, hS0⟩ := hg
  exact gx_after (vx_runV (As := As) (rest := rest) ⟨hx, hb, hml, hown, hts⟩ hM ⟨cb, hts _ hi.1, hts _ hi.2⟩ ⟨gblind E M x _, hr, fun U hU hW => ⟨rfl, gW_at hS0 hI hU hW⟩⟩ rfl hn hls hst (lv_room hW) hdg hcs) hI.2 kn kx
theorem g_xS (hC : gC p s m args c cc nL own E) (hI : gI E s M x H locs) (hM : gX0 l E y (.code y bytes maxL ret) rm M x As o M' mc ms) (hy : gY y bytes maxL ret n) (hi : Cond.static y ∈ gU) (hl : Cond.methodLink own index y ∈ gU) (h0 : rm.cells = mc ∧ rm.slots = ms) (hR : rm.frames + 1 ≤ R.frames ∧ 8 + (maxL + 11) + rm.locals ≤ R.locals)
    (hn : As.length = n) (hls : ls.size = nL) (hst : st0 = As.reverse ++ rest) (hW : (rest.map fun v => v.category).sum ≤ 8) (hdg : decode cc pc = .ok (.invokestatic index, 3)) (hcs : cells + mc ≤ R.cells ∧ slots + ms ≤ R.slots)
    (kn : ∀ rv H1 locs1, o = .inr rv → gI E s M' x H1 locs1 → W p l e R s m args below meth c H1 locs1 (cells + mc) (slots + ms) Q (F0 m (pc + 3) ls (rv.toList ++ rest)))
    (kx : ∀ En ce q H1 locs1, o = .inl En → gI E s M' x H1 locs1 → H1[q]? = some ce → ce.vm = .none → s.vm.findClass En = some ce.cls → vx_W p l e R s m args below meth c H1 locs1 (cells + mc) (slots + ms) Q (F0 m pc ls rest) q) : W p l e R s m args below meth c H locs cells slots Q (F0 m pc ls st0) := by
  have cb := gXB (R := R) hC hy hl h0 hR
  have hg := hC
  obtain ⟨hx, hb, hml, hown, hts, hS0⟩ := hg
  exact gx_after (vx_runS (As := As) (rest := rest) ⟨hx, hb, hml, hown, hts⟩ hM ⟨cb, hts _ hi⟩ ⟨gblind E M x _, fun U hU hW => ⟨rfl, gW_at hS0 hI hU hW⟩⟩ rfl hn hls hst (lv_room hW) hdg hcs) hI.2 kn kx
end GVX
/-- a throwing method's contract out of the walk of its body -/
theorem gMetX {l : Launch} (hst : l.stackTraces = false) {y : MethodName} {cc : ByteArray} {maxL : Nat} {ret : Option FieldType} {fr lo mc ms : Nat} {E : gE} {M M' : gM} {x : gX} {av : List Value} {o : String ⊕ Option Value} (hy : plainName y.cls = true) (hL : (lg_sl av).length ≤ maxL)
    (body : ∀ (p : Program) (e : Env) (s : State) (m : MethodId) (args : Array Value) (below : List Frame) (meth : Method) (c : Code) (H : Heap) (locs : List Loc) (ls : Array Slot) (Q : State → Prop), gC p s m args c cc maxL y.cls E → lv_has ls maxL (lv_args 0 av) → gI E s M x H locs →
      (∀ (M1 : gM) (H1 : Heap) (locs1 : List Loc) (ls1 : Array Slot) (pc cells1 slots1 : Nat) (v : Int32), (o, M') = (.inr (some (.int v)), M1) → gI E s M1 x H1 locs1 → (∃ ty, ret = some ty ∧ narrow ty (.int v) = .int v) → cells1 ≤ mc ∧ slots1 ≤ ms → decode cc pc = .ok (.ireturn, 1) → W p l e (gRX fr lo mc ms) s m args below meth c H1 locs1 cells1 slots1 Q (F0 m pc ls1 [.int v])) →
      (∀ (M1 : gM) (H1 : Heap) (locs1 : List Loc) (ls1 : Array Slot) (pc cells1 slots1 : Nat), (o, M') = (.inr none, M1) → gI E s M1 x H1 locs1 → ret = none → cells1 ≤ mc ∧ slots1 ≤ ms → decode cc pc = .ok (.return_, 1) → W p l e (gRX fr lo mc ms) s m args below meth c H1 locs1 cells1 slots1 Q (F0 m pc ls1 [])) →
      (∀ (M1 : gM) (H1 : Heap) (locs1 : List Loc) (ls1 : Array Slot) (pc cells1 slots1 : Nat) (rest : List Value) (En : String) (ce : Cell) (q : Addr), (o, M') = (.inl En, M1) → gI E s M1 x H1 locs1 → H1[q]? = some ce → ce.vm = .none → s.vm.findClass En = some ce.cls → cells1 ≤ mc ∧ slots1 ≤ ms → vx_W p l e (gRX fr lo mc ms) s m args below meth c H1 locs1 cells1 slots1 Q (F0 m pc ls1 rest) q) →
      (∀ (M1 : gM) (H1 : Heap) (locs1 : List Loc) (ls1 : Array Slot) (pc cells1 slots1 : Nat) (rest : List Value) (cls text : String) (ik is ic : Nat), (o, M') = (.inl cls, M1) → gI E s M1 x H1 locs1 → ls1.size = maxL → y.cls = RX6 → gTh y.cls ik ic cls → (is, text) ∈ gTx → 5 < fr ∧ (rest.map fun v => v.category).sum + 82 ≤ lo → cells1 + 1 ≤ mc ∧ slots1 + 6 ≤ ms →
        (decode cc pc = .ok (.new ik, 3) ∧ decode cc (pc + 3) = .ok (.dup, 1) ∧ ((decode cc (pc + 4) = .ok (.ldc_w is, 3) ∧ decode cc (pc + 7) = .ok (.invokespecial ic, 3) ∧ decode cc (pc + 10) = .ok (.athrow, 1)) ∨ (decode cc (pc + 4) = .ok (.ldc is, 2) ∧ decode cc (pc + 6) = .ok (.invokespecial ic, 3) ∧ decode cc (pc + 9) = .ok (.athrow, 1)))) →
        W p l e (gRX fr lo mc ms) s m args below meth c H1 locs1 cells1 slots1 Q (F0 m pc ls1 rest)) →
      (∀ (M1 : gM) (H1 : Heap) (locs1 : List Loc) (ls1 : Array Slot) (pc cells1 slots1 : Nat) (v : UInt64), (o, M') = (.inr (some (.double v)), M1) → gI E s M1 x H1 locs1 → ret = some .double → cells1 ≤ mc ∧ slots1 ≤ ms → decode cc pc = .ok (.dreturn, 1) → W p l e (gRX fr lo mc ms) s m args below meth c H1 locs1 cells1 slots1 Q (F0 m pc ls1 [.double v])) →
      (∀ (M1 : gM) (H1 : Heap) (locs1 : List Loc) (ls1 : Array Slot) (pc cells1 slots1 : Nat) (v : UInt32), (o, M') = (.inr (some (.float v)), M1) → gI E s M1 x H1 locs1 → ret = some .float → cells1 ≤ mc ∧ slots1 ≤ ms → decode cc pc = .ok (.freturn, 1) → W p l e (gRX fr lo mc ms) s m args below meth c H1 locs1 cells1 slots1 Q (F0 m pc ls1 [.float v])) →
      W p l e (gRX fr lo mc ms) s m args below meth c H locs 0 0 Q (F0 m 0 ls [])) : gX0 l E y (.code y cc maxL ret) (gRX fr lo mc ms) M x av o M' mc ms := by
  refine vx_ofW (cc := cc) (maxL := maxL) (ret := ret) hy rfl ?_
  intro p e s m args below meth c s₁ B hml htab hv
  obtain ⟨rfl, hW⟩ := hv
  have hts : ∀ w ∈ gWs (.code y cc maxL ret), w.before av.toArray s = true := atoms_spec (ws := gWs (.code y cc maxL ret)) B.pre
  have hlocks := B.notSynchronized
  have hown := findClass_of_methodNamed B.named
  have htu : ∀ w ∈ gU, w.before av.toArray s = true := fun w hw => hts w (List.mem_cons_of_mem _ hw)
  have hl := lv_entry av (n := maxL) hL
  rw [lg_entry_eq]
  generalize (lg_sl av ++ List.replicate (maxL - (lg_sl av).length) Slot.unset).toArray = ls at hl ⊢
  have hthrow : ∀ (M1 : gM) (H1 : Heap) (locs1 : List Loc) (cls : String), (o, M') = (.inl cls, M1) → gI E s M1 x H1 locs1 → ∀ t : State, s.vm.Alike t.vm → H1.size ≤ t.heap.size → (∀ q : Nat, q < H1.size → t.heap[q]? = H1[q]?) → (o = .inl cls ∧ va_P E.1 vwCl (gwl E M' x) t.heap ∧ va_F (gA E) s t) := by
    intro M1 H1 locs1 cls he hI t _ hz hk
    cases he
    refine ⟨rfl, hI.1.kept (fun k q hq => hk q.1 ((hI.1 k q hq).lt)), Nat.le_trans hI.2.1 hz, fun q h1 h2 => ?_⟩
    rw [hk q (Nat.lt_of_lt_of_le h1 hI.2.1)]
    exact hI.2.2.1 q h1 h2
  refine body p e s m av.toArray below meth c s.heap [] ls _ ⟨B.exec, B.bytes, hml, hown, htu, hW.2⟩ hl ⟨hW.1, va_S.rf⟩ ?_ ?_ ?_ ?_ ?_ ?_
  · intro M1 H1 locs1 ls1 pc cells1 slots1 v he hI hty hcs hdg
    cases he
    obtain ⟨ty, hr, hn⟩ := hty
    refine W.widen hcs.1 hcs.2 (vx_ret ?_)
    exact W.zret B.exec B.bytes (B.returns.trans hr) hn (fun t ht hWm => ⟨⟨_, rfl, rfl⟩, gW_at hW.2 hI ht hWm, hI.2.F ht⟩) hI.2.2.2 hdg
  · intro M1 H1 locs1 ls1 pc cells1 slots1 he hI hr hcs hdg
    cases he
    refine W.widen hcs.1 hcs.2 (vx_ret ?_)
    exact W.vret B.exec B.bytes (B.returns.trans hr) (fun t ht hWm => ⟨⟨_, rfl, rfl⟩, gW_at hW.2 hI ht hWm, hI.2.F ht⟩) hI.2.2.2 hdg
  · intro M1 H1 locs1 ls1 pc cells1 slots1 rest En ce q he hI hce hcv hcl hcs
    cases he
    exact vx_out (fun x hx => (htab x hx).elim) hlocks hce hcv hcl (fun t ht _ => ⟨rfl, by rw [ht]; exact hI.1, hI.2.F ht⟩) hI.2.2.2 hcs.1 hcs.2
  · intro M1 H1 locs1 ls1 pc cells1 slots1 rest cls text ik is ic he hI hsz hyc hth htx hfl hcs hd
    obtain ⟨d0, d3, hd⟩ := hd
    obtain ⟨t1, t2, t6, hth⟩ := hth
    obtain ⟨sa, hsa⟩ := hW.2.2.2.2.2.2.1 _ htx
    have hsa' : vk_R y.cls is text sa s := by rw [hyc]; exact hsa
    have hfw : ∀ w ∈ gFw, w.before av.toArray s = true := fun w hw => va_Nw.use (gFw_ok w hw).1 (hW.2.2.2.2.2.2.2.2.2.1 w hw)
    rcases hth with ⟨t3, t4, t5⟩ | ⟨t3, t4, t5⟩
    · have hat : ∀ w ∈ vx_atS y.cls ic cls gThN, w.before av.toArray s = true := vx_hat (fun w hw => htu w (t3 w hw)) t4 hfw
      have hn : ∀ n ∈ gThN, Bundle.fit n = true := by decide +kernel
      rcases hd with ⟨d4, d7, d10⟩ | ⟨d4, d7, d10⟩
      · exact vx_throwSW (names := gThN) B.exec B.bytes hst hown t6 hn (htu _ t1) (htu _ t2) hsa' hat t5 hW.2.2.2.2.2.1.1 hW.2.2.2.2.2.1.2 hI.2 (hsz.trans hml.symm) d0 d3 d4 d7 d10 (fun x hx => (htab x hx).elim) hfl.1 hfl.2 hcs.1 hcs.2 hlocks (hthrow M1 H1 locs1 cls he hI) hI.2.2.2 hcs.1 hcs.2
      · exact vx_throwS (names := gThN) B.exec B.bytes hst hown t6 hn (htu _ t1) (htu _ t2) hsa' hat t5 hW.2.2.2.2.2.1.1 hW.2.2.2.2.2.1.2 hI.2 (hsz.trans hml.symm) d0 d3 d4 d7 d10 (fun x hx => (htab x hx).elim) hfl.1 hfl.2 hcs.1 hcs.2 hlocks (hthrow M1 H1 locs1 cls he hI) hI.2.2.2 hcs.1 hcs.2
    · have hat : ∀ w ∈ vyAt0 y.cls ic cls "java/lang/RuntimeException" 13 gB13 ["java/lang/Exception"], w.before av.toArray s = true := vx_hat (fun w hw => htu w (t3 w hw)) t4 hfw
      have hn : ∀ n ∈ ["java/lang/Exception"], Bundle.fit n = true := by decide +kernel
      have hY : Bundle.fit "java/lang/RuntimeException" = true := by decide +kernel
      have b0 : decode gB13 0 = .ok (.aload_n 0, 1) := by decide +kernel
      have b1 : decode gB13 1 = .ok (.aload_n 1, 1) := by decide +kernel
      have b2 : decode gB13 2 = .ok (.invokespecial 13, 3) := by decide +kernel
      have b5 : decode gB13 5 = .ok (.return_, 1) := by decide +kernel
      rcases hd with ⟨d4, d7, d10⟩ | ⟨d4, d7, d10⟩
      · exact vy_throwSW (names := ["java/lang/Exception"]) B.exec B.bytes hst hown t6 hY hn b0 b1 b2 b5 (htu _ t1) (htu _ t2) hsa' hat t5 hW.2.2.2.2.2.1.1 hW.2.2.2.2.2.1.2 hI.2 (hsz.trans hml.symm) d0 d3 d4 d7 d10 (fun x hx => (htab x hx).elim) hfl.1 hfl.2 hcs.1 hcs.2 hlocks (hthrow M1 H1 locs1 cls he hI) hI.2.2.2 hcs.1 hcs.2
      · exact vy_throwS (names := ["java/lang/Exception"]) B.exec B.bytes hst hown t6 hY hn b0 b1 b2 b5 (htu _ t1) (htu _ t2) hsa' hat t5 hW.2.2.2.2.2.1.1 hW.2.2.2.2.2.1.2 hI.2 (hsz.trans hml.symm) d0 d3 d4 d7 d10 (fun x hx => (htab x hx).elim) hfl.1 hfl.2 hcs.1 hcs.2 hlocks (hthrow M1 H1 locs1 cls he hI) hI.2.2.2 hcs.1 hcs.2
  · intro M1 H1 locs1 ls1 pc cells1 slots1 v he hI hr hcs hdg
    cases he
    refine W.widen hcs.1 hcs.2 (vx_ret ?_)
    exact W.dret B.exec B.bytes (B.returns.trans hr) (fun t ht hWm => ⟨⟨_, rfl, rfl⟩, gW_at hW.2 hI ht hWm, hI.2.F ht⟩) hI.2.2.2 hdg
  · intro M1 H1 locs1 ls1 pc cells1 slots1 v he hI hr hcs hdg
    cases he
    refine W.widen hcs.1 hcs.2 (vx_ret ?_)
    exact W.fret B.exec B.bytes (B.returns.trans hr) (fun t ht hWm => ⟨⟨_, rfl, rfl⟩, gW_at hW.2 hI ht hWm, hI.2.F ht⟩) hI.2.2.2 hdg
