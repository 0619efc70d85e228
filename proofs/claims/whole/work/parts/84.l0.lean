/-! The law's own rows: its two rows of answers, the script, its helpers. -/
def gNcl : List (String × String) := [("java/lang/IllegalArgumentException", "java/lang/IndexOutOfBoundsException"), ("java/lang/IllegalStateException", "java/lang/IndexOutOfBoundsException"), ("java/lang/IllegalStateException", "java/lang/IllegalArgumentException"), ("java/util/NoSuchElementException", "java/lang/IndexOutOfBoundsException")]
def gNc (U : State) : Prop := ∀ q ∈ gNcl, va_Nc q.1 q.2 U
theorem gNc.warm {s U : State} (hW : s.WarmedH U.vm) (h : gNc s) : gNc U := fun q hq => va_Nc.moved hW.alike (h q hq)
theorem gNc.same {s U : State} (hv : U.vm = s.vm) (h : gNc s) : gNc U := fun q hq => va_Nc.moved (by rw [hv]; exact Vm.Alike.refl _) (h q hq)
/-- the rows of answers behind a call that threw number z (0: none) or answered b -/
def gXo (x : gX) (z : Int32) (b : Int64) : gX := if z = 0 then (vp_updL x.1 0 b, x.2) else x
def gXd (x : gX) (z : Int32) (b : UInt64) : gX := if z = 0 then (x.1, vf_upd x.2 0 b) else x
theorem gXo_0 (x : gX) (b : Int64) : gXo x (nI 0) b = (vp_updL x.1 0 b, x.2) := if_pos rfl
theorem gXd_0 (x : gX) (b : UInt64) : gXd x (nI 0) b = (x.1, vf_upd x.2 0 b) := if_pos rfl
theorem gXo_n (x : gX) {i : Nat} (h : i < 10) (b : Int64) : gXo x (nI (i + 1)) b = x := if_neg (nI_ne0 (by omega) (by omega))
theorem gXd_n (x : gX) {i : Nat} (h : i < 10) (b : UInt64) : gXd x (nI (i + 1)) b = x := if_neg (nI_ne0 (by omega) (by omega))
/-- a helper's contract: it answers k, whatever the class did -/
def gH0 (l : Launch) (E : gE) (y : MethodName) (w : Cond) (rm : Room) (M : gM) (x : gX) (av : List Value) (k : Int32) (M' : gM) (x' : gX) (mc ms : Nat) : Prop :=
  Met l y (gWs w) rm (va_Pc av (fun U => gW E M x U ∧ gNc U)) (fun _ st oc t => oc = .returned (some (.int k)) ∧ gW E M' x' t ∧ va_F (gA E) st t) mc ms (gA E)
theorem gMetH {l : Launch} {y : MethodName} {cc : ByteArray} {maxL : Nat} {hh : List (Nat × Nat × Nat × Nat)} {rm : Room} {E : gE} {M M' : gM} {x x' : gX} {av : List Value} {k : Int32} {mc ms : Nat} (hy : plainName y.cls = true) (hL : (lg_sl av).length ≤ maxL)
    (body : ∀ (p : Program) (e : Env) (s : State) (m : MethodId) (args : Array Value) (below : List Frame) (meth : Method) (c : Code) (H : Heap) (locs : List Loc) (ls : Array Slot) (Q : State → Prop), gC p s m args c cc maxL y.cls E → gNc s → c.exceptionTable.toList = tableOf hh → lv_has ls maxL (lv_args 0 av) → gI E s M x H locs →
      (∀ (x1 : gX) (H1 : Heap) (locs1 : List Loc) (ls1 : Array Slot) (pc cells1 slots1 : Nat) (v : Int32), v = k → x1 = x' → gI E s M' x1 H1 locs1 → cells1 ≤ mc ∧ slots1 ≤ ms → decode cc pc = .ok (.ireturn, 1) → W p l e rm s m args below meth c H1 locs1 cells1 slots1 Q (F0 m pc ls1 [.int v])) →
      W p l e rm s m args below meth c H locs 0 0 Q (F0 m 0 ls [])) : gH0 l E y (.codeWith y cc maxL (some .int) hh) rm M x av k M' x' mc ms := by
  refine va_MetW (cc := cc) (maxL := maxL) (ret := some .int) (hh := hh) hy rfl ?_
  intro p e s m args below meth c s₁ B hml hv
  obtain ⟨rfl, hW, hN⟩ := hv
  have hts : ∀ w ∈ gWs (.codeWith y cc maxL (some .int) hh), w.before av.toArray s = true := atoms_spec (ws := gWs (.codeWith y cc maxL (some .int) hh)) B.pre
  have hT := vx_table (x := y) B (hts _ List.mem_cons_self)
  have hlocks := B.notSynchronized
  have hl := lv_entry av (n := maxL) hL
  rw [lg_entry_eq]
  generalize (lg_sl av ++ List.replicate (maxL - (lg_sl av).length) Slot.unset).toArray = ls at hl ⊢
  refine body p e s m av.toArray below meth c s.heap [] ls _ ⟨B.exec, B.bytes, hml, findClass_of_methodNamed B.named, fun w hw => hts w (List.mem_cons_of_mem _ hw), hW.2⟩ hN hT hl ⟨hW.1, va_S.rf⟩ ?_
  intro x1 H1 locs1 ls1 pc cells1 slots1 v hv hx1 hI hcs hdg
  subst hv
  subst hx1
  refine W.widen hcs.1 hcs.2 ?_
  exact W.zret B.exec B.bytes B.returns rfl (fun t ht hWm => ⟨rfl, gW_at hW.2 hI ht hWm, hI.2.F ht⟩) hI.2.2.2 hdg
section GLAW
variable {p : Program} {l : Launch} {e : Env} {R : Room} {s : State} {m : MethodId} {args : Array Value} {below : List Frame} {meth : Method} {c : Code} {H : Heap} {locs : List Loc} {cells slots mc ms : Nat} {Q : State → Prop}
variable {E : gE} {M M' : gM} {x x' : gX} {cc : ByteArray} {own : String} {nL pc : Nat} {ls : Array Slot} {rest : List Value}
variable {y : MethodName} {bytes : ByteArray} {maxL n index : Nat} {rm : Room} {As st0 : List Value} {k : Int32} {hh : List (Nat × Nat × Nat × Nat)}
theorem g_lastX {v : Int64} (hC : gC p s m args c cc nL own E) (hI : gI E s M x H locs) (hdg : decode cc pc = .ok (.lastore, 1))
    (kk : ∀ H1 locs1, gI E s M (vp_updL x.1 0 v, x.2) H1 locs1 → W p l e R s m args below meth c H1 locs1 cells slots Q (F0 m (pc + 1) ls rest)) : W p l e R s m args below meth c H locs cells slots Q (F0 m pc ls (.long v :: .int 0 :: .ref (E.2.1 159) :: rest)) := by
  obtain ⟨hx, hb, hml, hown, hts, h0⟩ := hC
  refine va_last (f := x.1) hx hb h0.1 hI.1 (gD_of h0 M x) hI.2 151 3 ((gwl_get (id := 159) (by decide)).trans rfl) rfl (vp_in_nI (n := 0) (by decide) (by decide)) hdg (fun H1 locs1 hP hD hS => kk H1 locs1 ⟨?_, hS⟩)
  rw [← gwl_setX1]
  exact hP
theorem g_laldX (hC : gC p s m args c cc nL own E) (hI : gI E s M x H locs) (hdg : decode cc pc = .ok (.laload, 1))
    (kk : W p l e R s m args below meth c H locs cells slots Q (F0 m (pc + 1) ls (.long (x.1 0) :: rest))) : W p l e R s m args below meth c H locs cells slots Q (F0 m pc ls (.int 0 :: .ref (E.2.1 159) :: rest)) := by
  obtain ⟨hx, hb, hml, hown, hts, h0⟩ := hC
  exact va_lald (f := x.1) hx hb h0.1 hI.1 151 3 ((gwl_get (id := 159) (by decide)).trans rfl) rfl (vp_in_nI (n := 0) (by decide) (by decide)) hdg kk
theorem g_dastX {v : UInt64} (hC : gC p s m args c cc nL own E) (hI : gI E s M x H locs) (hdg : decode cc pc = .ok (.dastore, 1))
    (kk : ∀ H1 locs1, gI E s M (x.1, vf_upd x.2 0 v) H1 locs1 → W p l e R s m args below meth c H1 locs1 cells slots Q (F0 m (pc + 1) ls rest)) : W p l e R s m args below meth c H locs cells slots Q (F0 m pc ls (.double v :: .int 0 :: .ref (E.2.1 160) :: rest)) := by
  obtain ⟨hx, hb, hml, hown, hts, h0⟩ := hC
  refine va_dast (f := x.2) hx hb h0.1 hI.1 (gD_of h0 M x) hI.2 152 4 ((gwl_get (id := 160) (by decide)).trans rfl) rfl (vp_in_nI (n := 0) (by decide) (by decide)) hdg (fun H1 locs1 hP hD hS => kk H1 locs1 ⟨?_, hS⟩)
  rw [← gwl_setX2]
  exact hP
theorem g_daldX (hC : gC p s m args c cc nL own E) (hI : gI E s M x H locs) (hdg : decode cc pc = .ok (.daload, 1))
    (kk : W p l e R s m args below meth c H locs cells slots Q (F0 m (pc + 1) ls (.double (x.2 0) :: rest))) : W p l e R s m args below meth c H locs cells slots Q (F0 m pc ls (.int 0 :: .ref (E.2.1 160) :: rest)) := by
  obtain ⟨hx, hb, hml, hown, hts, h0⟩ := hC
  exact va_dald (f := x.2) hx hb h0.1 hI.1 152 4 ((gwl_get (id := 160) (by decide)).trans rfl) rfl (vp_in_nI (n := 0) (by decide) (by decide)) hdg kk
theorem g_castE (hC : gC p s m args c cc nL own E) {En : String} (h : Cond.castable En En ∈ gFw) : (Cond.castable En En).before args s = true := va_Nw.use rfl (hC.2.2.2.2.2.2.2.2.2.2.2.2.2.1 _ h)
/-- caught by a row of the helper's table, behind rows that don't take it -/
theorem g_catch {En : String} {ce : Cell} {q : Addr} (hC : gC p s m args c cc nL own E) (hT : c.exceptionTable.toList = tableOf hh) (pre : List ExceptionTableEntry) (z : ExceptionTableEntry) (suf : List ExceptionTableEntry) (hs : tableOf hh = pre ++ z :: suf) (hpass : ∀ r ∈ pre, r.catchType ≠ 0 ∧ ∃ nm : String, Cond.classLink own r.catchType nm ∈ gU ∧ va_Nc En nm s)
    (hz : covers z pc = true) (h0 : z.catchType ≠ 0) (hlink : Cond.classLink own z.catchType En ∈ gU) (hcast : Cond.castable En En ∈ gFw) (hcell : H[q]? = some ce) (hv : ce.vm = .none) (hcl : s.vm.findClass En = some ce.cls)
    (kk : W p l e R s m args below meth c H locs cells slots Q (F0 m z.handlerPc ls [.ref q])) : vx_W p l e R s m args below meth c H locs cells slots Q (F0 m pc ls rest) q :=
  vx_catch hC.2.2.2.1 pre z suf (hT.trans hs) (fun r hr => Or.inr ⟨(hpass r hr).1, (hpass r hr).2.choose, hC.2.2.2.2.1 _ (hpass r hr).2.choose_spec.1, (hpass r hr).2.choose_spec.2⟩) hz h0 (hC.2.2.2.2.1 _ hlink) (g_castE hC hcast) hcell hv hcl kk
/-- a helper is called -/
theorem g_callH (hC : gC p s m args c cc nL own E) (hN : gNc s) (hI : gI E s M x H locs) (hM : gH0 l E y (.codeWith y bytes maxL (some .int) hh) rm M x As k M' x' mc ms) (hcode : Cond.codeWith y bytes maxL (some .int) hh ∈ gU) (hini : Cond.initialized y.cls ∈ gU) (hsta : Cond.static y ∈ gU) (hl : Cond.methodLink own index y ∈ gU)
    (hd : (y.cls ≠ "java/lang/invoke/MethodHandle" ∧ y.cls ≠ "java/lang/invoke/VarHandle") ∧ (parseMethodDescriptor y.desc).map (fun d => d.parameters.length) = some n) (h0 : rm.cells = mc ∧ rm.slots = ms) (hR : rm.frames + 1 ≤ R.frames ∧ 8 + (maxL + 11) + rm.locals ≤ R.locals)
    (hn : As.length = n) (hls : ls.size = nL) (hst : st0 = As.reverse ++ rest) (hW : (rest.map fun v => v.category).sum ≤ 8) (hdg : decode cc pc = .ok (.invokestatic index, 3)) (hcs : cells + mc ≤ R.cells ∧ slots + ms ≤ R.slots)
    (kk : ∀ H1 locs1, gI E s M' x' H1 locs1 → W p l e R s m args below meth c H1 locs1 (cells + mc) (slots + ms) Q (F0 m (pc + 3) ls (.int k :: rest))) : W p l e R s m args below meth c H locs cells slots Q (F0 m pc ls st0) := by
  obtain ⟨hx, hb, hml, hown, hts, hS0⟩ := hC
  have cw : vx_CSW R s args own index y bytes maxL (some .int) hh (gWs (.codeWith y bytes maxL (some .int) hh)) rm mc ms n := by
    refine ⟨⟨h0.1, h0.2, hR.1, hR.2, pay_in hts (gGoodW hcode), List.mem_cons_self⟩, hts _ hcode, hts _ hini, hd.1, fun sig h => ?_, hts _ hl, hts _ hsta⟩
    have h2 := hd.2
    rw [h] at h2
    exact (Option.some.inj h2).symm
  have hpre : PreS s H (va_Pc As (fun U => gW E M x U ∧ gNc U)) As := ⟨fun a U g mk h => ⟨h.1, (gblind E M x As a U g mk ⟨h.1, h.2.1⟩).2, gNc.same (s := U) (U := U.calling g mk a) rfl h.2.2⟩, fun U hU hWm => ⟨rfl, gW_at hS0 hI hU hWm, hN.warm hWm⟩⟩
  have hr := vx_runSW (p := p) (l := l) (e := e) (R := R) (below := below) (meth := meth) (c := c) (locs := locs) (cells := cells) (slots := slots) (As := As) (rest := rest) (g := F0 m pc ls st0) ⟨hx, hb, hml, hown, hts⟩ hM cw hpre rfl hn hls hst (lv_room hW) hdg hcs
  intro T hT X
  obtain ⟨v, st₀, t, T', L, e0, X', hL, e1, e2, ⟨hv, hg, hz, hk⟩, st⟩ := hr T hT X
  cases hv
  rw [e0] at hz hk
  obtain ⟨t2, a1, b1⟩ := kk T'.heap (locs ++ L) ⟨by rw [e1]; exact hg.1, Nat.le_trans hI.2.1 (by rw [e1]; exact hz), fun q h1 h2 => by rw [e1, hk q (Nat.lt_of_lt_of_le h1 hI.2.1) h2]; exact hI.2.2.1 q h1 h2, fun q hq => by
    rcases List.mem_append.mp hq with h | h
    · exact hI.2.2.2 q h
    · exact hL q h⟩ T' rfl X'
  exact ⟨t2, st t2 a1, b1⟩
end GLAW
theorem gf2d {x : UInt32} (h : gn32 x = true) : vf_n64 (FP.f2d x) := by
  have h1 : x &&& 0x7fffffff ≤ 0x7f800000 := of_decide_eq_true (p := x &&& 0x7fffffff ≤ 0x7f800000) h
  have h2 : FP.Core.fIsNaN x = false := by
    rw [← Bool.not_eq_true, FP.Core.isNaN_bits32]
    have h3 : (x &&& 0x7fffffff).toNat ≤ (0x7f800000 : UInt32).toNat := UInt32.le_iff_toNat_le.mp h1
    rw [UInt32.toNat_and, show (0x7fffffff : UInt32).toNat = 2 ^ 31 - 1 from rfl, Nat.and_two_pow_sub_one_eq_mod] at h3
    have h4 : (0x7f800000 : UInt32).toNat = 2139095040 := rfl
    omega
  have h5 : FP.Core.dIsNaN (FP.f2d x) = false := (FP.f2d_nan x).trans h2
  rw [← Bool.not_eq_true, FP.Core.isNaN_bits] at h5
  show FP.f2d x &&& 0x7fffffffffffffff ≤ 0x7ff0000000000000
  rw [UInt64.le_iff_toNat_le, UInt64.toNat_and, show (0x7fffffffffffffff : UInt64).toNat = 2 ^ 63 - 1 from rfl, Nat.and_two_pow_sub_one_eq_mod]
  have h6 : (0x7ff0000000000000 : UInt64).toNat = 9218868437227405312 := rfl
  omega
theorem rs_n {M M1 : gM} {b : UInt32} (h : f_X6_rightShare M = some (.inr b, M1)) : gn32 b = true := by
  unfold f_X6_rightShare gLet at h
  dsimp only at h
  by_cases h1 : M 0 8 + M 0 10 = 0
  · rw [if_pos h1] at h; cases h
  · rw [if_neg h1] at h
    by_cases h2 : gn32 (FP.fdiv (FP.i2f (M 0 8)) (FP.i2f (M 0 8 + M 0 10))) = true
    · rw [if_pos h2] at h; cases h; exact h2
    · rw [if_neg h2] at h; cases h
theorem mh_n {M M1 : gM} {b : UInt64} (h : f_X6_meanHeight M = some (.inr b, M1)) : gn64 b = true := by
  unfold f_X6_meanHeight gLet at h
  obtain ⟨r1, e1, h⟩ := Option.bind_eq_some_iff.mp h
  dsimp only at h
  by_cases h1 : 4 * r1 = 0
  · rw [if_pos h1] at h; cases h
  · rw [if_neg h1] at h
    obtain ⟨r5, e5, h⟩ := Option.bind_eq_some_iff.mp h
    by_cases h2 : gn64 (FP.ddiv (FP.i2d r5) (FP.i2d (4 * r1))) = true
    · rw [if_pos h2] at h; cases h; exact h2
    · rw [if_neg h2] at h; cases h
theorem gdcmp {x : UInt64} (h : vf_n64 x) : FP.dcmp x x = some .eq := by
  refine FP.Core.dcmp_self (fun q => ?_)
  have h1 : FP.Core.dIsNaN x = true := (FP.Core.dIsNaN_iff x).mpr q
  rw [FP.Core.isNaN_bits] at h1
  have h2 : x &&& 0x7fffffffffffffff ≤ 0x7ff0000000000000 := h
  rw [UInt64.le_iff_toNat_le, UInt64.toNat_and, show (0x7fffffffffffffff : UInt64).toNat = 2 ^ 63 - 1 from rfl, Nat.and_two_pow_sub_one_eq_mod] at h2
  have h6 : (0x7ff0000000000000 : UInt64).toNat = 9218868437227405312 := rfl
  omega
theorem gcmp_self (x : Int64) : lg_cmp x x = 0 := by
  unfold lg_cmp
  simp
