/-! Constructors: an object's world while it is made, and rows over it. -/
/-- the tables, the array classes' numbers, the links within the nest, as constructors need them -/
def iK (D : va_G) (cid : Nat → ClassId) (U : State) : Prop :=
  va_K D vwCl [(cid 0, .int), (cid 1, .char), (cid 2, .object "ContainerTerminal$State"), (cid 3, .byte), (cid 4, .object "java/lang/Object")] U ∧ va_AO "ContainerTerminal$State" U ∧
  (∀ q ∈ gNM, va_Nw (.methodLinkNest q.1 q.2.1 q.2.2 "ContainerTerminal") U)
theorem iK.warm {D : va_G} {cid : Nat → ClassId} {s U : State} (hW : s.WarmedH U.vm) (h : iK D cid s) : iK D cid U :=
  ⟨va_K.moved hW.alike h.1, va_AO.moved hW.alike h.2.1, fun q hq => va_Nw.warmM hW (h.2.2 q hq)⟩
theorem iK.same {D : va_G} {cid : Nat → ClassId} {s U : State} (hv : U.vm = s.vm) (h : iK D cid s) : iK D cid U := by
  have hA : s.vm.Alike U.vm := by rw [hv]; exact Vm.Alike.refl _
  exact ⟨va_K.moved hA h.1, va_AO.moved hA h.2.1, fun q hq => va_Nw.same rfl hv.symm (h.2.2 q hq)⟩
/-- what a constructor may write: its object, and what it makes -/
def iB (h sz : Nat) : Nat → Prop := fun q => q = h ∨ sz ≤ q
/-- the object that is made, and what it holds already -/
def iI (D : va_G) (s : State) (h ci : Nat) (fs : List Value) (tl : va_W) (H : Heap) (locs : List Loc) : Prop :=
  va_P D vwCl ((h, .inr (ci, fs)) :: tl) H ∧ va_D (iB h s.heap.size) ((h, .inr (ci, fs)) :: tl) ∧ va_S (iB h s.heap.size) s.heap H locs
def iC (p : Program) (s : State) (m : MethodId) (args : Array Value) (c : Code) (cc : ByteArray) (nL : Nat) (own : String) (D : va_G) (cid : Nat → ClassId) : Prop :=
  p.tables.exec = Jvm.exec ∧ c.code = cc ∧ c.maxLocals = nL ∧ s.vm.findClass own = some m.cls ∧ (∀ w ∈ gU, w.before args s = true) ∧ iK D cid s
/-- a constructor's contract: from the object's first fields on, its world is Z u -/
def iM {α : Type} (l : Launch) (D : va_G) (cid : Nat → ClassId) (y : MethodName) (w : Cond) (rm : Room) (ci : Nat) (fs : List Value) (mc ms : Nat) (post : Nat → α → Prop) (Z : α → va_W) : Prop :=
  ∀ h sz : Nat, Met l y (gWs w) rm (va_Pc [.ref h] (fun U => U.heap.size = sz ∧ va_P D vwCl [(h, .inr (ci, fs))] U.heap ∧ iK D cid U)) (va_Qv (post h) (fun u t => va_P D vwCl (Z u) t.heap ∧ va_D (iB h sz) (Z u)) (iB h sz)) mc ms (iB h sz)
theorem iMet {α : Type} {l : Launch} {D : va_G} {cid : Nat → ClassId} {y : MethodName} {cc : ByteArray} {maxL : Nat} {rm : Room} {ci : Nat} {fs : List Value} {mc ms : Nat} {post : Nat → α → Prop} {Z : α → va_W} (hy : plainName y.cls = true) (hni : y.name = "<init>") (hL : 1 ≤ maxL)
    (body : ∀ (p : Program) (e : Env) (s : State) (m : MethodId) (args : Array Value) (below : List Frame) (meth : Method) (c : Code) (H : Heap) (locs : List Loc) (ls : Array Slot) (Q : State → Prop) (h : Nat), iC p s m args c cc maxL y.cls D cid → meth.name = "<init>" → lv_has ls maxL [(0, .ref h)] → iI D s h ci fs [] H locs →
      (∀ (u : α) (fs1 : List Value) (tl : va_W) (H1 : Heap) (locs1 : List Loc) (ls1 : Array Slot) (pc cells slots : Nat), post h u → Z u = (h, .inr (ci, fs1)) :: tl → iI D s h ci fs1 tl H1 locs1 → cells ≤ mc ∧ slots ≤ ms → decode cc pc = .ok (.return_, 1) → W p l e rm s m args below meth c H1 locs1 cells slots Q (F0 m pc ls1 [])) →
      W p l e rm s m args below meth c H locs 0 0 Q (F0 m 0 ls [])) : iM l D cid y (.code y cc maxL none) rm ci fs mc ms post Z := by
  intro h sz
  refine Met.ofW (cc := cc) (maxL := maxL) (ret := none) hy rfl ?_
  intro p e s m args below meth c s₁ B hml hv
  obtain ⟨rfl, hsz, hP, hK⟩ := hv
  subst hsz
  have hts : ∀ w ∈ gWs (.code y cc maxL none), w.before ([.ref h] : List Value).toArray s = true := atoms_spec (ws := gWs (.code y cc maxL none)) B.pre
  have hlocks := B.notSynchronized
  have hin : meth.name = "<init>" := (name_of_methodNamed B.named B.method).1.trans hni
  have hl := lv_entry ([.ref h]) (n := maxL) hL
  rw [lg_entry_eq]
  generalize (lg_sl ([.ref h]) ++ List.replicate (maxL - (lg_sl ([.ref h])).length) Slot.unset).toArray = ls at hl ⊢
  have hD : va_D (iB h s.heap.size) [(h, .inr (ci, fs))] := ⟨fun i j p q hi hj _ => by
    have h1 : i < 1 := (List.getElem?_eq_some_iff.mp hi).1
    have h2 : j < 1 := (List.getElem?_eq_some_iff.mp hj).1
    omega, fun k q hk => by
    have h1 : k < 1 := (List.getElem?_eq_some_iff.mp hk).1
    rw [show k = 0 by omega] at hk
    cases hk
    exact Or.inl rfl⟩
  refine body p e s m _ below meth c s.heap [] ls _ h ⟨B.exec, B.bytes, hml, findClass_of_methodNamed B.named, fun w hw => hts w (List.mem_cons_of_mem _ hw), hK⟩ hin hl ⟨hP, hD, va_S.rf⟩ ?_
  intro u fs1 tl H1 locs1 ls1 pc cells slots hp hZ hI hcs hdg
  refine W.widen hcs.1 hcs.2 ?_
  exact W.vret B.exec B.bytes B.returns (fun t ht hWm => ⟨⟨u, rfl, hp, by rw [hZ, ht]; exact hI.1, by rw [hZ]; exact hI.2.1⟩, hI.2.2.F ht⟩) hI.2.2.2.2 hdg
section ICT
variable {p : Program} {l : Launch} {e : Env} {R : Room} {s : State} {m : MethodId} {args : Array Value} {below : List Frame} {meth : Method} {c : Code} {H : Heap} {locs : List Loc} {cells slots : Nat} {Q : State → Prop}
variable {D : va_G} {cid : Nat → ClassId} {cc : ByteArray} {own : String} {nL pc h ci : Nat} {fs : List Value} {tl : va_W} {ls : Array Slot} {rest : List Value}
theorem iB_new : ∀ q, s.heap.size ≤ q → iB h s.heap.size q := fun _ h => Or.inr h
/-- Object's constructor -/
theorem i_obj {idx : Nat} (hC : iC p s m args c cc nL own D cid) (hl : lv_has ls nL [(0, .ref h)]) (hlink : Cond.methodLink own idx objectInit ∈ gU) (hinst : Cond.instanceMethod objectInit ∈ gU) (hcode : Cond.code objectInit ⟨#[0xb1]⟩ 1 none ∈ gU) (hframes : 1 ≤ R.frames ∧ 12 ≤ R.locals)
    (d0 : decode cc pc = .ok (.aload_n 0, 1)) (d1 : decode cc (pc + 1) = .ok (.invokespecial idx, 3)) (kk : W p l e R s m args below meth c H locs cells slots Q (F0 m (pc + 4) ls [])) : W p l e R s m args below meth c H locs cells slots Q (F0 m pc ls []) := by
  obtain ⟨hx, hb, hml, hown, hts, hK⟩ := hC
  refine lv_aload_n hx hb d0 rfl (lv_at hl 0 rfl) ?_
  refine W.objInit hx hb hown (hts _ hlink) (hts _ hinst) (hts _ hcode) rfl (by rw [hml]; exact hl.1) rfl d1 hframes.1 hframes.2 ?_
  exact kk
theorem i_newa (hC : iC p s m args c cc nL own D cid) (hI : iI D s h ci fs tl H locs) (k : Nat) {ty : FieldType} {atype : ArrayType} (harr : Cond.arrayClass (newarray.typeOf atype) ∈ gU) (hty : newarray.typeOf atype = ty) (hid : ∀ cA, va_RA s cA ty → cA = cid k)
    {n : Int32} {N' : Nat} {a0 : vp_A} (ha : ∀ cA : ClassId, vp_cell cA a0 = arrV cA N' (fun _ => defaultValue ty)) (hn : ¬ n < 0) (hN : n.toNatClampNeg = N') (hbytes : N' * componentBytes ty ≤ 536870912) (hcs : cells + 1 ≤ R.cells ∧ slots + N' ≤ R.slots) (hdg : decode cc pc = .ok (.newarray atype, 2))
    (kk : ∀ q H1, iI D s h ci fs (tl ++ [(q, .inl (cid k, a0))]) H1 locs → W p l e R s m args below meth c H1 locs (cells + 1) (slots + N') Q (F0 m (pc + 2) ls (.ref q :: rest))) : W p l e R s m args below meth c H locs cells slots Q (F0 m pc ls (.int n :: rest)) := by
  obtain ⟨hx, hb, hml, hown, hts, hK⟩ := hC
  refine va_newa hx hb (hts _ harr) hty hK.1 hI.1 hI.2.1 hI.2.2 iB_new ha hn hN hbytes hcs.1 hcs.2 hdg (fun q cA H1 hK1 hP hD hS => ?_)
  have e := hid cA (hK1.2 5 _ rfl).2
  subst e
  exact kk q H1 ⟨hP, hD, hS⟩
theorem i_put {ref C : String} {T : u_T} {N index : Nat} (hC : iC p s m args c cc nL own D cid) (hI : iI D s h ci fs tl H locs) (hin2 : meth.name = "<init>") (hin : ∀ w ∈ u_ws C T N, w ∈ gU) (ty0 : Nat → FieldType) (hty : ∀ k, k < N → parseFieldDescriptor (T k).2.2.1 = some (ty0 k)) (hnm : ∀ a, a < N → ∀ b, b < N → a ≠ b → (T a).2.1 ≠ (T b).2.1)
    (hc : vwCl[ci]? = some (C, T, N)) (k : Nat) (hk : k < N) (hlink : Cond.fieldLink own index ref (T k).2.1 (T k).2.2.1 ∈ gU) (href : (T k).1 = ref) (hdecl : (T k).1 = own) {ty : FieldType} {v : Value} (hd : parseFieldDescriptor (T k).2.2.1 = some ty) (hn : narrow ty v = v) (hfit : fits ty v = true) (hl : k < fs.length)
    (hdg : decode cc pc = .ok (.putfield index, 3)) (kk : ∀ H1 locs1, iI D s h ci (fs.set k v) tl H1 locs1 → W p l e R s m args below meth c H1 locs1 cells slots Q (F0 m (pc + 3) ls rest)) : W p l e R s m args below meth c H locs cells slots Q (F0 m pc ls (v :: .ref h :: rest)) := by
  obtain ⟨hx, hb, hml, hown, hts, hK⟩ := hC
  subst href
  by_cases hf : (T k).2.2.2 = true
  · exact va_putF hx hb hts hin ty0 hty hnm hown hK.1 hI.1 hI.2.1 hI.2.2 0 (ws := (h, .inr (ci, fs)) :: tl) rfl hc k hk (hts _ hlink) (fun _ h9 => h9) hf hin2 hdecl hd hn hfit hl hdg (fun H1 locs1 hP hD hS => kk H1 locs1 ⟨hP, hD, hS⟩)
  · exact va_put hx hb hts hin ty0 hty hnm hown hK.1 hI.1 hI.2.1 hI.2.2 0 (ws := (h, .inr (ci, fs)) :: tl) rfl hc k hk (hts _ hlink) (fun _ h9 => h9) (by simpa using hf) hd hn hfit hl hdg (fun H1 locs1 hP hD hS => kk H1 locs1 ⟨hP, hD, hS⟩)
/-- cells ahead of a new one stay behind a call that may write the new one and what it makes; the callee's world comes behind them -/
theorem i_join {A : Nat → Prop} {ws w1 : va_W} {q : Nat} {x : va_E} {H1 H2 : Heap} (hP : va_P D vwCl (ws ++ [(q, x)]) H1) (hD : va_D A (ws ++ [(q, x)])) (hk : ∀ a : Nat, a < H1.size → ¬ iB q H1.size a → H2[a]? = H1[a]?) (hA : ∀ a, iB q H1.size a → A a) (hP1 : va_P D vwCl w1 H2) (hD1 : va_D (iB q H1.size) w1) :
    va_P D vwCl (ws ++ w1) H2 ∧ va_D A (ws ++ w1) := by
  have at1 : ∀ (k : Nat) (z : Nat × va_E), ws[k]? = some z → (ws ++ [(q, x)])[k]? = some z := fun k z hz => by
    rw [List.getElem?_append_left (List.getElem?_eq_some_iff.mp hz).1]; exact hz
  have hq : (ws ++ [(q, x)])[ws.length]? = some (q, x) := by
    rw [List.getElem?_append_right (Nat.le_refl _), Nat.sub_self]; rfl
  have far : ∀ (k : Nat) (z : Nat × va_E), ws[k]? = some z → z.1 < H1.size ∧ ¬ iB q H1.size z.1 := fun k z hz => by
    have h1 := (hP k z (at1 k z hz)).lt
    refine ⟨h1, fun h2 => ?_⟩
    rcases h2 with h2 | h2
    · have h3 := hD.1 k ws.length z (q, x) (at1 k z hz) hq h2
      have h4 := (List.getElem?_eq_some_iff.mp hz).1
      omega
    · omega
  refine ⟨va_P.app (fun k z hz => (hP k z (at1 k z hz)).kept (hk _ (far k z hz).1 (far k z hz).2)) hP1, va_D.app ⟨fun i j y z hi hj => hD.1 i j y z (at1 i y hi) (at1 j z hj), fun k z hz => hD.2 k z (at1 k z hz)⟩ (hD1.weaken (fun _ _ _ h9 => hA _ h9)) (fun i j y z hy hz hyz => ?_)⟩
  have h1 := hD1.2 j z hz
  rw [← hyz] at h1
  exact (far i y hy).2 h1
/-- 'new', 'dup', the constructor, over any world -/
theorem i_newW {α : Type} {A : Nat → Prop} {ws : va_W} {y : MethodName} {C : String} {T : u_T} {N ci2 idx ix2 maxL mc ms : Nat} {fs2 : List Value} {bytes : ByteArray} {rm : Room} {post : Nat → α → Prop} {Z : α → va_W} (hC : iC p s m args c cc nL own D cid) (hI : va_P D vwCl ws H ∧ va_D A ws ∧ va_S A s.heap H locs) (hAn : ∀ q, s.heap.size ≤ q → A q)
    (hM : iM l D cid y (.code y bytes maxL none) rm ci2 fs2 mc ms post Z) (hcls : vwCl[ci2]? = some (C, T, N)) (huw : ∀ w ∈ u_ws C T N, w ∈ gU) (ty : Nat → FieldType) (hty : ∀ k, k < N → parseFieldDescriptor (T k).2.2.1 = some (ty k)) (hcl : Cond.classLink own idx C ∈ gU) (hinst : Cond.instantiable C N ∈ gU) (hini : Cond.initialized C ∈ gU) (hfs : ∀ j, j < N → defaultValue (ty j) = vp_V fs2 j)
    (hy : gY y bytes maxL none 0) (hin : Cond.instanceMethod y ∈ gU) (hnm : y.name = "<init>") (hlk : (own, ix2, y) ∈ gNM ∨ Cond.methodLink own ix2 y ∈ gU) (h0 : rm.cells = mc ∧ rm.slots = ms) (hR : rm.frames + 1 ≤ R.frames ∧ 8 + (maxL + 11) + rm.locals ≤ R.locals)
    (hls : ls.size = nL) (hW : (rest.map fun v => v.category).sum + 1 ≤ 8) (hcs : cells + 1 + mc ≤ R.cells ∧ slots + N + ms ≤ R.slots) (d0 : decode cc pc = .ok (.new idx, 3)) (d1 : decode cc (pc + 3) = .ok (.dup, 1)) (d2 : decode cc (pc + 4) = .ok (.invokespecial ix2, 3))
    (kk : ∀ q u H1 locs1, post q u → (va_P D vwCl (ws ++ Z u) H1 ∧ va_D A (ws ++ Z u) ∧ va_S A s.heap H1 locs1) → W p l e R s m args below meth c H1 locs1 (cells + 1 + mc) (slots + N + ms) Q (F0 m (pc + 7) ls (.ref q :: rest))) : W p l e R s m args below meth c H locs cells slots Q (F0 m pc ls rest) := by
  obtain ⟨hx, hb, hml, hown, hts, hK⟩ := id hC
  refine va_new (ci := ci2) (fs := fs2) hx hb hts huw ty hty hown (hts _ hcl) (hts _ hinst) (hts _ hini) hK.1 hI.1 hI.2.1 hI.2.2 hAn hcls hfs (by omega) (by omega) d0 (fun q H1 hP hD hS => ?_)
  refine lv_dup hx hb d1 rfl ?_
  have hq : (ws ++ [(q, .inr (ci2, fs2))])[ws.length]? = some (q, .inr (ci2, fs2)) := by
    rw [List.getElem?_append_right (Nat.le_refl _), Nat.sub_self]; rfl
  have hA : ∀ a, iB q H1.size a → A a := fun a h9 => by
    rcases h9 with rfl | h9
    · exact hD.2 _ _ hq
    · exact hAn a (Nat.le_trans hS.1 h9)
  have hPq : va_P D vwCl [(q, .inr (ci2, fs2))] H1 := fun k z hz => by
    have h1 : k < 1 := (List.getElem?_eq_some_iff.mp hz).1
    rw [show k = 0 by omega] at hz
    cases hz
    exact hP _ _ hq
  have hpre : PreS s H1 (va_Pc [.ref q] (fun U => U.heap.size = H1.size ∧ va_P D vwCl [(q, .inr (ci2, fs2))] U.heap ∧ iK D cid U)) [.ref q] := ⟨fun a U g mk z => ⟨z.1, z.2.1, z.2.2.1, iK.same (s := U) (U := U.calling g mk a) rfl z.2.2.2⟩, fun U hU hWm => ⟨rfl, by rw [hU], by rw [hU]; exact hPq, hK.warm hWm⟩⟩
  have hrun : va_Run p l e R s m args below meth c H1 locs (cells + 1) (slots + N) mc ms (F0 m (pc + 3 + 1) ls (.ref q :: .ref q :: rest)) (.ref q :: rest) (va_Qv (post q) (fun u t => va_P D vwCl (Z u) t.heap ∧ va_D (iB q H1.size) (Z u)) (iB q H1.size) (Value.ref q :: []).toArray) (iB q H1.size) := by
    have hWr : 2 * (F0 m (pc + 3 + 1) ls (.ref q :: .ref q :: rest)).monitorRoom + ((Value.ref q :: rest).map fun v => v.category).sum ≤ 8 := lv_room (by simp only [List.map_cons, List.sum_cons]; show 1 + _ ≤ 8; omega)
    rcases hlk with hlk | hlk
    · exact va_runIN (As := []) (rest := .ref q :: rest) ⟨hx, hb, hml, hown, hts⟩ (hM q H1.size) ⟨va_cnB 0 hts (gGoodW hy.1) rfl h0.1 h0.2 (hK.2.2 _ hlk) (hts _ hy.2.1) ⟨hy.2.2.1.1, hy.2.2.1.2, hy.2.2.2⟩ hR, hnm, hts _ hin⟩ hpre rfl rfl hls rfl hWr d2 hcs
    · exact va_runI (As := []) (rest := .ref q :: rest) ⟨hx, hb, hml, hown, hts⟩ (hM q H1.size) ⟨callB_of 0 hts (gGoodW hy.1) rfl h0.1 h0.2 (hts _ hy.2.1) (hts _ hlk) ⟨hy.2.2.1.1, hy.2.2.1.2, hy.2.2.2⟩ hR, hnm, hts _ hin⟩ hpre rfl rfl hls rfl hWr d2 hcs
  refine va_callv hrun hS (fun a _ h9 => hA a h9) hA (fun u t H2 locs2 ht hvm hpost hB hz hk2 hS2 => ?_)
  obtain ⟨hB1, hB2⟩ := hB
  rw [ht] at hB1
  obtain ⟨j1, j2⟩ := i_join (ws := ws) hP hD hk2 hA hB1 hB2
  exact kk q u H2 locs2 hpost ⟨j1, j2, hS2⟩
/-- .. over an object that is being made -/
theorem i_new {α : Type} {y : MethodName} {C : String} {T : u_T} {N ci2 idx ix2 maxL mc ms : Nat} {fs2 : List Value} {bytes : ByteArray} {rm : Room} {post : Nat → α → Prop} {Z : α → va_W} (hC : iC p s m args c cc nL own D cid) (hI : iI D s h ci fs tl H locs)
    (hM : iM l D cid y (.code y bytes maxL none) rm ci2 fs2 mc ms post Z) (hcls : vwCl[ci2]? = some (C, T, N)) (huw : ∀ w ∈ u_ws C T N, w ∈ gU) (ty : Nat → FieldType) (hty : ∀ k, k < N → parseFieldDescriptor (T k).2.2.1 = some (ty k)) (hcl : Cond.classLink own idx C ∈ gU) (hinst : Cond.instantiable C N ∈ gU) (hini : Cond.initialized C ∈ gU) (hfs : ∀ j, j < N → defaultValue (ty j) = vp_V fs2 j)
    (hy : gY y bytes maxL none 0) (hin : Cond.instanceMethod y ∈ gU) (hnm : y.name = "<init>") (hlk : (own, ix2, y) ∈ gNM ∨ Cond.methodLink own ix2 y ∈ gU) (h0 : rm.cells = mc ∧ rm.slots = ms) (hR : rm.frames + 1 ≤ R.frames ∧ 8 + (maxL + 11) + rm.locals ≤ R.locals)
    (hls : ls.size = nL) (hW : (rest.map fun v => v.category).sum + 1 ≤ 8) (hcs : cells + 1 + mc ≤ R.cells ∧ slots + N + ms ≤ R.slots) (d0 : decode cc pc = .ok (.new idx, 3)) (d1 : decode cc (pc + 3) = .ok (.dup, 1)) (d2 : decode cc (pc + 4) = .ok (.invokespecial ix2, 3))
    (kk : ∀ q u H1 locs1, post q u → iI D s h ci fs (tl ++ Z u) H1 locs1 → W p l e R s m args below meth c H1 locs1 (cells + 1 + mc) (slots + N + ms) Q (F0 m (pc + 7) ls (.ref q :: rest))) : W p l e R s m args below meth c H locs cells slots Q (F0 m pc ls rest) :=
  i_newW hC (ws := (h, .inr (ci, fs)) :: tl) (A := iB h s.heap.size) hI iB_new hM hcls huw ty hty hcl hinst hini hfs hy hin hnm hlk h0 hR hls hW hcs d0 d1 d2 (fun q u H1 locs1 hp h9 => kk q u H1 locs1 hp h9)
end ICT
theorem iRA {s : State} {c c' : ClassId} (n : String) (h : s.vm.findClass n = some c) (h' : s.vm.findClass n = some c') : c = c' := Option.some.inj (h.symm.trans h')
theorem iid_int {D : va_G} {cid : Nat → ClassId} {s : State} (h : iK D cid s) : ∀ cA, va_RA s cA .int → cA = cid 0 := fun _ h9 => iRA _ h9 (h.1.2 0 _ rfl).2
theorem iid_char {D : va_G} {cid : Nat → ClassId} {s : State} (h : iK D cid s) : ∀ cA, va_RA s cA .char → cA = cid 1 := fun _ h9 => iRA _ h9 (h.1.2 1 _ rfl).2
theorem iid_byte {D : va_G} {cid : Nat → ClassId} {s : State} (h : iK D cid s) : ∀ cA, va_RA s cA .byte → cA = cid 3 := fun _ h9 => iRA _ h9 (h.1.2 3 _ rfl).2
theorem iid_obj {D : va_G} {cid : Nat → ClassId} {s : State} (h : iK D cid s) : ∀ cA, va_RA s cA (.object "java/lang/Object") → cA = cid 4 := fun cA h9 => by
  obtain ⟨_, _, _, _, _, h1⟩ := h9
  obtain ⟨_, _, _, _, _, h2⟩ := (h.1.2 4 _ rfl).2
  exact iRA _ h1 h2
theorem iid_state {D : va_G} {cid : Nat → ClassId} {s : State} (h : iK D cid s) : ∀ cA, va_RA s cA (.object "ContainerTerminal$State") → cA = cid 2 := fun cA h9 => by
  obtain ⟨_, _, _, _, _, h1⟩ := h9
  obtain ⟨_, _, _, _, _, h2⟩ := (h.1.2 2 _ rfl).2
  exact iRA _ h1 h2
