/-! Within the law's stack, inYard, state: a terminal's cells and further ones behind them. -/
abbrev eA (E : gE) (sz : Nat) : Nat → Prop := fun q => gA E q ∨ sz ≤ q
/-- a helper's contract that makes cells of its own -/
def sPre (E : gE) (M : gM) (J : jA) (sz : Nat) (U : State) : Prop := U.heap.size = sz ∧ gW E M () U ∧ iK E.1 E.2.2.1 U ∧ gJ J (eA E sz) U U.heap
def sC (p : Program) (s : State) (m : MethodId) (args : Array Value) (c : Code) (cc : ByteArray) (nL : Nat) (own : String) (E : gE) (J : jA) : Prop :=
  gC p s m args c cc nL own E ∧ jC p s m args c cc nL own E.1 E.2.2.1 J (eA E s.heap.size) []
abbrev eI (E : gE) (s : State) (M : gM) (ws : va_W) (H : Heap) (locs : List Loc) : Prop := jI E.1 s (eA E s.heap.size) (gwl E M () ++ ws) H locs
theorem gwl_nil (E : gE) (M : gM) : gwl E M () ++ [] = gwl E M () := List.append_nil _
theorem e_lt {E : gE} {s : State} {M : gM} {ws : va_W} {H : Heap} {locs : List Loc} (hI : eI E s M ws H locs) : va_P E.1 vwCl (gwl E M ()) H := fun k q hk => hI.1 k q (by rw [List.getElem?_append_left (List.getElem?_eq_some_iff.mp hk).1]; exact hk)
theorem eW_at {E : gE} {s U : State} {M : gM} {ws : va_W} {H : Heap} {locs : List Loc} (h0 : gS0 E s s.heap) (hI : eI E s M ws H locs) (hU : U.heap = H) (hW : s.WarmedH U.vm) : gW E M () U := by
  subst hU
  exact ⟨e_lt hI, (h0.kept (fun a h1 h2 => hI.2.2.2.1 a h1 (fun h => h.elim h2 (fun h3 => absurd h1 (Nat.not_lt.mpr h3))))).warm hW⟩
/-- a terminal's cells come back as they were, or changed; the further ones stay -/
theorem e_back {E : gE} {s : State} {M M' : gM} {ws : va_W} {H H1 : Heap} {locs L : List Loc} (hI : eI E s M ws H locs) (hP : va_P E.1 vwCl (gwl E M' ()) H1) (hz : H.size ≤ H1.size) (hk : ∀ a : Nat, a < H.size → ¬ gA E a → H1[a]? = H[a]?) (hL : ∀ q ∈ L, gA E q.base) : eI E s M' ws H1 (locs ++ L) := by
  have hw : ∀ (k : Nat) (z : Nat × va_E), ws[k]? = some z → (gwl E M () ++ ws)[(gwl E M ()).length + k]? = some z := fun k z h => by
    rw [List.getElem?_append_right (Nat.le_add_right _ _), Nat.add_sub_cancel_left]; exact h
  have far : ∀ (k : Nat) (z : Nat × va_E), ws[k]? = some z → ¬ gA E z.1 := fun k z h h2 => by
    obtain ⟨i, hi, e⟩ := h2
    have h3 : (gwl E M () ++ ws)[gdn i]? = some (E.2.1 i, gct E (M i) () i) := by
      rw [List.getElem?_append_left (by rw [gwl_len]; exact gdn_lt hi)]; exact gwl_get hi
    have h4 := hI.2.1.1 _ _ _ _ (hw k z h) h3 e
    have := gdn_lt hi
    rw [gwl_len] at h4
    omega
  refine ⟨va_P.app hP (fun k z h => (hI.1 _ _ (hw k z h)).kept (hk _ (hI.1 _ _ (hw k z h)).lt (far k z h))), ⟨fun i j y z hi hj e => ?_, fun k z h => ?_⟩, Nat.le_trans hI.2.2.1 hz, fun a h1 h2 => ?_, fun q hq => ?_⟩
  · have addr : ∀ (k : Nat) (z : Nat × va_E), (gwl E M' () ++ ws)[k]? = some z → ∃ e, (gwl E M () ++ ws)[k]? = some (z.1, e) := fun k z hz => by
      by_cases hl : k < (gwl E M' ()).length
      · rw [List.getElem?_append_left hl] at hz
        obtain ⟨g1, rfl⟩ := gwl_some hz
        rw [gwl_len] at hl
        exact ⟨gct E (M (gup k)) () (gup k), by rw [List.getElem?_append_left (by rw [gwl_len]; exact hl)]; exact gwl_up hl⟩
      · rw [List.getElem?_append_right (by omega), gwl_len] at hz
        rw [gwl_len] at hl
        refine ⟨z.2, ?_⟩
        rw [List.getElem?_append_right (by rw [gwl_len]; omega), gwl_len]
        exact hz
    obtain ⟨e1, h1⟩ := addr i y hi
    obtain ⟨e2, h2⟩ := addr j z hj
    exact hI.2.1.1 i j _ _ h1 h2 e
  · by_cases hl : k < (gwl E M' ()).length
    · rw [List.getElem?_append_left hl] at h
      obtain ⟨g1, rfl⟩ := gwl_some h
      exact Or.inl ⟨_, g1, rfl⟩
    · rw [List.getElem?_append_right (by omega), gwl_len] at h
      exact hI.2.1.2 _ _ (hw _ z h)
  · rw [hk a (Nat.lt_of_lt_of_le h1 hI.2.2.1) (fun h => h2 (Or.inl h))]
    exact hI.2.2.2.1 a h1 h2
  · rcases List.mem_append.mp hq with h | h
    · exact hI.2.2.2.2 q h
    · exact Or.inl (hL q h)
section ECL
variable {p : Program} {l : Launch} {e : Env} {R : Room} {s : State} {m : MethodId} {args : Array Value} {below : List Frame} {meth : Method} {c : Code} {H : Heap} {locs : List Loc} {cells slots mc ms : Nat} {Q : State → Prop}
variable {E : gE} {M M' : gM} {J : jA} {cc : ByteArray} {own : String} {nL pc : Nat} {ws : va_W} {ls : Array Slot} {rest As st0 : List Value}
variable {y : MethodName} {bytes : ByteArray} {maxL n index : Nat} {ret : Option FieldType} {rm : Room} {rv : Option Value} {r : Int32}
theorem e_recv6 (hC : gC p s m args c cc nL own E) (hI : eI E s M ws H locs) : ∃ cell : Cell, H[E.2.1 132]? = some cell ∧ cell.vm.isStatics = false ∧ s.vm.findClass RX6 = some cell.cls :=
  va_recv (q := (RX6, TX6, 10)) (ci := 12) hC.2.2.2.2.2.1 (e_lt hI) rfl (gwl_get (id := 132) (by decide))
/-- the terminal is asked: it answers normally and stays as it is -/
theorem e_callX (hC : gC p s m args c cc nL own E) (hI : eI E s M ws H locs) (hM : gX0 l E y (.code y bytes maxL ret) rm M () (.ref (E.2.1 132) :: As) (.inr (some (.int r))) M' mc ms) (hy : gY y bytes maxL ret n) (hi : Cond.instanceMethod y ∈ gU ∧ Cond.selects y.cls y y ∈ gU) (hl : Cond.methodLink own index y ∈ gU) (hr : ∃ cell : Cell, H[E.2.1 132]? = some cell ∧ cell.vm.isStatics = false ∧ s.vm.findClass y.cls = some cell.cls) (h0 : rm.cells = mc ∧ rm.slots = ms) (hR : rm.frames + 1 ≤ R.frames ∧ 8 + (maxL + 11) + rm.locals ≤ R.locals)
    (hn : As.length = n) (hls : ls.size = nL) (hst : st0 = As.reverse ++ .ref (E.2.1 132) :: rest) (hW : (rest.map fun v => v.category).sum ≤ 8) (hdg : decode cc pc = .ok (.invokevirtual index, 3)) (hcs : cells + mc ≤ R.cells ∧ slots + ms ≤ R.slots)
    (kk : ∀ H1 locs1, eI E s M' ws H1 locs1 → W p l e R s m args below meth c H1 locs1 (cells + mc) (slots + ms) Q (F0 m (pc + 3) ls (.int r :: rest))) : W p l e R s m args below meth c H locs cells slots Q (F0 m pc ls st0) := by
  have cb := gXB (R := R) hC hy hl h0 hR
  obtain ⟨hx, hb, hml, hown, hts, hS0⟩ := hC
  have hr := vx_runV (p := p) (l := l) (e := e) (R := R) (below := below) (meth := meth) (c := c) (locs := locs) (cells := cells) (slots := slots) (As := As) (rest := rest) (g := F0 m pc ls st0) ⟨hx, hb, hml, hown, hts⟩ hM ⟨cb, hts _ hi.1, hts _ hi.2⟩ ⟨gblind E M () _, hr, fun U hU hW => ⟨rfl, eW_at hS0 hI hU hW⟩⟩ rfl hn hls hst (lv_room hW) hdg hcs
  intro T hT X
  rcases hr T hT X with ⟨v, st₀, t, T', L, h0, X', hL, e1, e2, ⟨⟨rv, ho, hv⟩, hg, hz, hk⟩, st⟩ | ⟨q, st₀, t, T', L, En, ce, h0, X', hL, e1, e2, ⟨ho, hg, hz, hk⟩, hce, hcv, hcl, st⟩
  · cases hv
    cases ho
    rw [h0] at hz hk
    rw [← e1] at hz hk
    obtain ⟨t2, a1, b1⟩ := kk T'.heap (locs ++ L) (e_back hI (by rw [e1]; exact hg.1) hz hk hL) T' rfl X'
    exact ⟨t2, st t2 a1, b1⟩
  · cases ho
theorem e_call0 (hC : gC p s m args c cc nL own E) (hI : eI E s M ws H locs) (hM : gM0 l E y (.code y bytes maxL ret) rm M () (.ref (E.2.1 132) :: As) (some (.int r)) M') (hy : gY y bytes maxL ret n) (hi : Cond.instanceMethod y ∈ gU ∧ Cond.selects y.cls y y ∈ gU) (hl : Cond.methodLink own index y ∈ gU) (hr : ∃ cell : Cell, H[E.2.1 132]? = some cell ∧ cell.vm.isStatics = false ∧ s.vm.findClass y.cls = some cell.cls) (h0 : rm.cells = 0 ∧ rm.slots = 0) (hR : rm.frames + 1 ≤ R.frames ∧ 8 + (maxL + 11) + rm.locals ≤ R.locals)
    (hn : As.length = n) (hls : ls.size = nL) (hst : st0 = As.reverse ++ .ref (E.2.1 132) :: rest) (hW : (rest.map fun v => v.category).sum ≤ 8) (hdg : decode cc pc = .ok (.invokevirtual index, 3)) (hcs : cells + 0 ≤ R.cells ∧ slots + 0 ≤ R.slots)
    (kk : ∀ H1 locs1, eI E s M' ws H1 locs1 → W p l e R s m args below meth c H1 locs1 (cells + 0) (slots + 0) Q (F0 m (pc + 3) ls (.int r :: rest))) : W p l e R s m args below meth c H locs cells slots Q (F0 m pc ls st0) := by
  have cb := gCB (R := R) hC hy hl h0 hR
  obtain ⟨hx, hb, hml, hown, hts, hS0⟩ := hC
  have hr := va_runV (p := p) (l := l) (e := e) (R := R) (below := below) (meth := meth) (c := c) (locs := locs) (cells := cells) (slots := slots) (As := As) (rest := rest) (g := F0 m pc ls st0) ⟨hx, hb, hml, hown, hts⟩ hM ⟨cb, hts _ hi.1, hts _ hi.2⟩ ⟨gblind E M () _, hr, fun U hU hW => ⟨rfl, eW_at hS0 hI hU hW⟩⟩ rfl hn hls hst (lv_room hW) hdg hcs
  intro T hT X
  obtain ⟨v, st₀, t, T', L, h0, X', hL, e1, e2, ⟨hv, hg, hz, hk⟩, st⟩ := hr T hT X
  cases hv
  rw [h0] at hz hk
  rw [← e1] at hz hk
  obtain ⟨t2, a1, b1⟩ := kk T'.heap (locs ++ L) (e_back hI (by rw [e1]; exact hg.1) hz hk hL) T' rfl X'
  exact ⟨t2, st t2 a1, b1⟩
end ECL
/-- a helper's start -/
theorem sMet {l : Launch} {y : MethodName} {cc : ByteArray} {maxL : Nat} {ret : Option FieldType} {rm : Room} {E : gE} {M : gM} {J : jA} {av : List Value} {mc ms : Nat} {Qc : Array Value → State → Outcome → State → Prop} {sz : Nat} (hy : plainName y.cls = true) (hL : (lg_sl av).length ≤ maxL)
    (body : ∀ (p : Program) (e : Env) (s : State) (m : MethodId) (args : Array Value) (below : List Frame) (meth : Method) (c : Code) (H : Heap) (locs : List Loc) (ls : Array Slot), s.heap.size = sz → sC p s m args c cc maxL y.cls E J → meth.sig.returnType = ret → meth.locks = false → lv_has ls maxL (lv_args 0 av) → eI E s M [] H locs →
      W p l e rm s m args below meth c H locs 0 0 (MQ below Qc args s mc ms (eA E sz)) (F0 m 0 ls [])) : Met l y (gWs (.code y cc maxL ret)) rm (va_Pc av (sPre E M J sz)) Qc mc ms (eA E sz) := by
  refine Met.ofW (cc := cc) (maxL := maxL) (ret := ret) hy rfl ?_
  intro p e s m args below meth c s₁ B hml hv
  obtain ⟨rfl, hsz, hW, hK, hJ⟩ := hv
  have hts : ∀ w ∈ gWs (.code y cc maxL ret), w.before av.toArray s = true := atoms_spec (ws := gWs (.code y cc maxL ret)) B.pre
  have hl := lv_entry av (n := maxL) hL
  rw [lg_entry_eq]
  generalize (lg_sl av ++ List.replicate (maxL - (lg_sl av).length) Slot.unset).toArray = ls at hl ⊢
  have hown := findClass_of_methodNamed B.named
  have hU : ∀ w ∈ gU, w.before av.toArray s = true := fun w hw => hts w (List.mem_cons_of_mem _ hw)
  subst hsz
  refine body p e s m av.toArray below meth c s.heap [] ls rfl ⟨⟨B.exec, B.bytes, hml, hown, hU, hW.2⟩, ⟨B.exec, B.bytes, hml, hown, hU, hK⟩, hJ, fun q hq => Or.inr hq, fun y hy => absurd hy List.not_mem_nil⟩ B.returns B.notSynchronized hl ?_
  refine ⟨by rw [gwl_nil]; exact hW.1, by rw [gwl_nil]; exact (gD_of hW.2 M ()).weaken (fun _ _ _ h => Or.inl h), va_S.rf⟩
