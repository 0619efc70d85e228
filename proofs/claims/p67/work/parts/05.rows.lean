/-! Rows over the one world: reading, writing, arrays, calls, a method's start and end. -/
theorem gT {w : Cond} (n : Nat) (h : tables_1[n]? = some w) (hg : goodWord w = true) : w ∈ gU := List.mem_filter.mpr ⟨List.mem_append_right _ (List.mem_of_getElem? h), hg⟩
theorem gTs {w : Cond} (n : Nat) (h : (k2_sels lw_privs)[n]? = some w) (hg : goodWord w = true) : w ∈ gU := List.mem_filter.mpr ⟨List.mem_append_left _ (List.mem_of_getElem? h), hg⟩
theorem gU_good {w : Cond} (h : w ∈ gU) : (w.onTables && w.keeps) = true ∨ ∃ ty, w = .arrayClass ty := good_of_word (List.mem_filter.mp h).2
def gs (M : gM) (a k : Nat) (v : Int32) : gM := gw M a (upd (M a) k v)
theorem gs_ap (M : gM) (a k : Nat) (v : Int32) (b j : Nat) : gs M a k v b j = if b = a ∧ j = k then v else M b j := by
  unfold gs gw upd
  by_cases h : b = a
  · subst h
    by_cases h2 : j = k <;> simp [h2]
  · simp [h]
theorem gs_same (M : gM) (a k : Nat) (v : Int32) : gs M a k v a k = v := by rw [gs_ap]; simp
theorem gs_nea {M : gM} {a k : Nat} {v : Int32} {b : Nat} (h : b ≠ a) : gs M a k v b = M b := gw_ne h
theorem gs_nek {M : gM} {a k : Nat} {v : Int32} {b j : Nat} (h : j ≠ k) : gs M a k v b j = M b j := by rw [gs_ap]; simp [h]
/-- a state's first cell -/
def gOk (o : Nat) : Prop := ∃ j, j < 11 ∧ o = 12 * j
theorem gOk_0 : gOk 0 := ⟨0, by decide, rfl⟩
theorem gOk_12 : gOk 12 := ⟨1, by decide, rfl⟩
theorem gOk_24 : gOk 24 := ⟨2, by decide, rfl⟩
theorem gOk_h {i : Nat} (h : i < 8) : gOk (36 + 12 * i) := ⟨3 + i, by omega, by omega⟩
theorem gOk_lt {o k : Nat} (ho : gOk o) (hk : k < 12) : gid (o + k) := by obtain ⟨j, hj, rfl⟩ := ho; exact ⟨by omega, by omega⟩
theorem gct_st {o k : Nat} (ho : gOk o) (hk : k < 12) (E : gE) (r : Nat → Int32) (x : gX) : gct E r x (o + k) = gst (E.2.2.1 0) E.2.1 r o k := by
  obtain ⟨j, hj, rfl⟩ := ho
  unfold gct
  rw [if_pos (by omega), show (12 * j + k) / 12 = j by omega, show (12 * j + k) % 12 = k by omega]
/-- an int array, a char array, of the world -/
def gIA (id n : Nat) : Prop := gid id ∧ ∀ (E : gE) (r : Nat → Int32) (x : gX), gct E r x id = .inl (E.2.2.1 0, n, .inl r)
def gCA (id n : Nat) : Prop := gid id ∧ ∀ (E : gE) (r : Nat → Int32) (x : gX), gct E r x id = .inl (E.2.2.1 1, n, .inl r)
theorem gIA_2 {o : Nat} (ho : gOk o) : gIA (o + 2) 75 := ⟨gOk_lt ho (by decide), fun E r x => gct_st ho (k := 2) (by decide) E r x⟩
theorem gIA_3 {o : Nat} (ho : gOk o) : gIA (o + 3) 75 := ⟨gOk_lt ho (by decide), fun E r x => gct_st ho (k := 3) (by decide) E r x⟩
theorem gIA_4 {o : Nat} (ho : gOk o) : gIA (o + 4) 75 := ⟨gOk_lt ho (by decide), fun E r x => gct_st ho (k := 4) (by decide) E r x⟩
theorem gIA_5 {o : Nat} (ho : gOk o) : gIA (o + 5) 75 := ⟨gOk_lt ho (by decide), fun E r x => gct_st ho (k := 5) (by decide) E r x⟩
theorem gIA_6 {o : Nat} (ho : gOk o) : gIA (o + 6) 75 := ⟨gOk_lt ho (by decide), fun E r x => gct_st ho (k := 6) (by decide) E r x⟩
theorem gIA_7 {o : Nat} (ho : gOk o) : gIA (o + 7) 5 := ⟨gOk_lt ho (by decide), fun E r x => gct_st ho (k := 7) (by decide) E r x⟩
theorem gIA_8 {o : Nat} (ho : gOk o) : gIA (o + 8) 3 := ⟨gOk_lt ho (by decide), fun E r x => gct_st ho (k := 8) (by decide) E r x⟩
theorem gIA_9 {o : Nat} (ho : gOk o) : gIA (o + 9) 3 := ⟨gOk_lt ho (by decide), fun E r x => gct_st ho (k := 9) (by decide) E r x⟩
theorem gIA_10 {o : Nat} (ho : gOk o) : gIA (o + 10) 3 := ⟨gOk_lt ho (by decide), fun E r x => gct_st ho (k := 10) (by decide) E r x⟩
theorem gIA_11 {o : Nat} (ho : gOk o) : gIA (o + 11) 3 := ⟨gOk_lt ho (by decide), fun E r x => gct_st ho (k := 11) (by decide) E r x⟩
theorem gIA_kinds : gIA 136 8 := ⟨by decide, fun _ _ _ => rfl⟩
theorem gIA_args : gIA 137 32 := ⟨by decide, fun _ _ _ => rfl⟩
theorem gCA_147 : gCA 147 60 := ⟨by decide, fun _ _ _ => rfl⟩
theorem gCA_149 : gCA 149 100 := ⟨by decide, fun _ _ _ => rfl⟩
/-- an index that is in range -/
abbrev gin (i : Int32) (n : Nat) : Prop := 0 ≤ i.toInt ∧ i.toInt < n
theorem gin_vp {i : Int32} {n : Nat} (h : gin i n) : vp_in i n := vp_in_iff.mpr h
theorem gin_lt {i : Int32} {n : Nat} (h : gin i n) : i.toNatClampNeg < n := by
  have h1 : i.toNatClampNeg = i.toInt.toNat := rfl
  have h2 := h.1
  have h3 := h.2
  omega
theorem gif {α : Type} {c : Prop} [Decidable c] {a b : α} {r : α} (h : c) (e : (if c then a else b) = r) : a = r := by rw [if_pos h] at e; exact e
theorem gifn {α : Type} {c : Prop} [Decidable c] {a b : α} {r : α} (h : ¬ c) (e : (if c then a else b) = r) : b = r := by rw [if_neg h] at e; exact e
theorem gifN {α : Type} {c : Prop} [Decidable c] {a : Option α} {r : α} (e : (if c then a else none) = some r) : c ∧ a = some r := by
  by_cases h : c
  · rw [if_pos h] at e; exact ⟨h, e⟩
  · rw [if_neg h] at e; cases e
theorem gbind {α β : Type} {a : Option α} {f : α → Option β} {r : β} (e : a.bind f = some r) : ∃ v, a = some v ∧ f v = some r := Option.bind_eq_some_iff.mp e
/-- a name for a value -/
def gLet {α β : Type} (v : α) (f : α → β) : β := f v
theorem glet {α β : Type} {v : α} {f : α → β} {r : β} (e : gLet v f = r) : ∃ z, z = v ∧ f z = r := ⟨v, rfl, e⟩
/-- how often a loop may go round at most -/
def gF : Nat := 4000
/-- a truth as the machine has it -/
def gb (b : Bool) : Int32 := if b then 1 else 0
theorem gb_nar (b : Bool) : narrow .boolean (.int (gb b)) = .int (gb b) := by cases b <;> rfl
theorem gb_fit (b : Bool) : fits .boolean (.int (gb b)) = true := by cases b <;> rfl
theorem gb_0 {b : Bool} : gb b = 0 ↔ b = false := by cases b <;> decide
theorem gb_1 {b : Bool} : gb b = 1 ↔ b = true := by cases b <;> decide
section GROW
variable {p : Program} {l : Launch} {e : Env} {R : Room} {s : State} {m : MethodId} {args : Array Value} {below : List Frame} {meth : Method} {c : Code} {H : Heap} {locs : List Loc} {cells slots : Nat} {Q : State → Prop}
variable {E : gE} {M : gM} {x : gX} {cc : ByteArray} {own : String} {nL pc : Nat} {ls : Array Slot} {rest : List Value}
theorem g_get (hC : gC p s m args c cc nL own E) (hI : gI E s M x H locs) {id : Nat} (hid : gid id) {C : String} {T : u_T} {N ci index k : Nat} {fs : List Value} {v : Value} (he : gct E (M id) x id = .inr (ci, fs)) (hc : vwCl[ci]? = some (C, T, N)) (hin : ∀ w ∈ u_ws C T N, w ∈ gU) (hk : k < N) (hv : fs[k]? = some v)
    (hlink : Cond.fieldLink own index (T k).1 (T k).2.1 (T k).2.2.1 ∈ gU) (hdg : decode cc pc = .ok (.getfield index, 3))
    (kk : W p l e R s m args below meth c H locs cells slots Q (F0 m (pc + 3) ls (v :: rest))) : W p l e R s m args below meth c H locs cells slots Q (F0 m pc ls (.ref (E.2.1 id) :: rest)) := by
  obtain ⟨hx, hb, hml, hown, hts, h0⟩ := hC
  exact va_get (ref := (T k).1) hx hb hts hin hown h0.1 hI.1 (gdn id) ((gwl_get hid).trans (by rw [he])) hc k hk (hts _ hlink) (fun _ h => h) hv hdg kk
theorem g_getN (hC : gC p s m args c cc nL own E) (hI : gI E s M x H locs) {id : Nat} (hid : gid id) {C : String} {T : u_T} {N ci index k : Nat} {fs : List Value} {v : Value} (he : gct E (M id) x id = .inr (ci, fs)) (hc : vwCl[ci]? = some (C, T, N)) (hin : ∀ w ∈ u_ws C T N, w ∈ gU) (hk : k < N) (hv : fs[k]? = some v)
    (hlink : (own, index, (T k).1, (T k).2.1, (T k).2.2.1) ∈ gNF) (hdg : decode cc pc = .ok (.getfield index, 3))
    (kk : W p l e R s m args below meth c H locs cells slots Q (F0 m (pc + 3) ls (v :: rest))) : W p l e R s m args below meth c H locs cells slots Q (F0 m pc ls (.ref (E.2.1 id) :: rest)) := by
  obtain ⟨hx, hb, hml, hown, hts, h0⟩ := hC
  exact va_getN (ref := (T k).1) (host := "ContainerTerminal") hx hb hts hin hown h0.1 hI.1 (gdn id) ((gwl_get hid).trans (by rw [he])) hc k hk (va_Nw.use rfl (h0.2.2.1 _ hlink)) (fun _ h => h) hv hdg kk
theorem g_put (hC : gC p s m args c cc nL own E) (hI : gI E s M x H locs) {id : Nat} (hid : gid id) {C : String} {T : u_T} {N ci index k : Nat} {fs : List Value} {v : Int32} {ty : FieldType} (ty0 : Nat → FieldType) (hty : ∀ k, k < N → parseFieldDescriptor (T k).2.2.1 = some (ty0 k)) (hnm : ∀ a, a < N → ∀ b, b < N → a ≠ b → (T a).2.1 ≠ (T b).2.1) (he : gct E (M id) x id = .inr (ci, fs)) (hc : vwCl[ci]? = some (C, T, N)) (hin : ∀ w ∈ u_ws C T N, w ∈ gU) (hk : k < N)
    (hlink : Cond.fieldLink own index (T k).1 (T k).2.1 (T k).2.2.1 ∈ gU) (hfin : (T k).2.2.2 = false) (hd : parseFieldDescriptor (T k).2.2.1 = some ty) (hn : narrow ty (.int v) = .int v) (hfit : fits ty (.int v) = true) (hl : k < fs.length) (hup : gct E (upd (M id) k v) x id = .inr (ci, fs.set k (.int v))) (hdg : decode cc pc = .ok (.putfield index, 3))
    (kk : ∀ H1 locs1, gI E s (gs M id k v) x H1 locs1 → W p l e R s m args below meth c H1 locs1 cells slots Q (F0 m (pc + 3) ls rest)) : W p l e R s m args below meth c H locs cells slots Q (F0 m pc ls (.int v :: .ref (E.2.1 id) :: rest)) := by
  obtain ⟨hx, hb, hml, hown, hts, h0⟩ := hC
  refine va_put (ref := (T k).1) hx hb hts hin ty0 hty hnm hown h0.1 hI.1 (gD_of h0 M x) hI.2 (gdn id) ((gwl_get hid).trans (by rw [he])) hc k hk (hts _ hlink) (fun _ h => h) hfin hd hn hfit hl hdg (fun H1 locs1 hP hD hS => kk H1 locs1 ⟨?_, hS⟩)
  rw [← hup, gwl_set hid] at hP
  exact hP
theorem g_putN (hC : gC p s m args c cc nL own E) (hI : gI E s M x H locs) {id : Nat} (hid : gid id) {C : String} {T : u_T} {N ci index k : Nat} {fs : List Value} {v : Int32} {ty : FieldType} (ty0 : Nat → FieldType) (hty : ∀ k, k < N → parseFieldDescriptor (T k).2.2.1 = some (ty0 k)) (hnm : ∀ a, a < N → ∀ b, b < N → a ≠ b → (T a).2.1 ≠ (T b).2.1) (he : gct E (M id) x id = .inr (ci, fs)) (hc : vwCl[ci]? = some (C, T, N)) (hin : ∀ w ∈ u_ws C T N, w ∈ gU) (hk : k < N)
    (hlink : (own, index, (T k).1, (T k).2.1, (T k).2.2.1) ∈ gNF) (hfin : (T k).2.2.2 = false) (hd : parseFieldDescriptor (T k).2.2.1 = some ty) (hn : narrow ty (.int v) = .int v) (hfit : fits ty (.int v) = true) (hl : k < fs.length) (hup : gct E (upd (M id) k v) x id = .inr (ci, fs.set k (.int v))) (hdg : decode cc pc = .ok (.putfield index, 3))
    (kk : ∀ H1 locs1, gI E s (gs M id k v) x H1 locs1 → W p l e R s m args below meth c H1 locs1 cells slots Q (F0 m (pc + 3) ls rest)) : W p l e R s m args below meth c H locs cells slots Q (F0 m pc ls (.int v :: .ref (E.2.1 id) :: rest)) := by
  obtain ⟨hx, hb, hml, hown, hts, h0⟩ := hC
  refine va_putN (ref := (T k).1) (host := "ContainerTerminal") hx hb hts hin ty0 hty hnm hown h0.1 hI.1 (gD_of h0 M x) hI.2 (gdn id) ((gwl_get hid).trans (by rw [he])) hc k hk (va_Nw.use rfl (h0.2.2.1 _ hlink)) (fun _ h => h) hfin hd hn hfit hl hdg (fun H1 locs1 hP hD hS => kk H1 locs1 ⟨?_, hS⟩)
  rw [← hup, gwl_set hid] at hP
  exact hP
theorem g_iald (hC : gC p s m args c cc nL own E) (hI : gI E s M x H locs) {id n k : Nat} (ha : gIA id n) {i : Int32} (hin : gin i n) (hk : i.toNatClampNeg = k) (hdg : decode cc pc = .ok (.iaload, 1))
    (kk : W p l e R s m args below meth c H locs cells slots Q (F0 m (pc + 1) ls (.int (M id k) :: rest))) : W p l e R s m args below meth c H locs cells slots Q (F0 m pc ls (.int i :: .ref (E.2.1 id) :: rest)) := by
  obtain ⟨hx, hb, hml, hown, hts, h0⟩ := hC
  subst hk
  exact va_iald hx hb h0.1 hI.1 (gdn id) 0 ((gwl_get ha.1).trans (by rw [ha.2])) rfl (gin_vp hin) hdg kk
theorem g_cald (hC : gC p s m args c cc nL own E) (hI : gI E s M x H locs) {id n k : Nat} (ha : gCA id n) {i : Int32} (hin : gin i n) (hk : i.toNatClampNeg = k) (hdg : decode cc pc = .ok (.caload, 1))
    (kk : W p l e R s m args below meth c H locs cells slots Q (F0 m (pc + 1) ls (.int (M id k) :: rest))) : W p l e R s m args below meth c H locs cells slots Q (F0 m pc ls (.int i :: .ref (E.2.1 id) :: rest)) := by
  obtain ⟨hx, hb, hml, hown, hts, h0⟩ := hC
  subst hk
  exact va_cald hx hb h0.1 hI.1 (gdn id) 1 ((gwl_get ha.1).trans (by rw [ha.2])) rfl (gin_vp hin) hdg kk
theorem g_iast (hC : gC p s m args c cc nL own E) (hI : gI E s M x H locs) {id n k : Nat} (ha : gIA id n) {i v : Int32} (hin : gin i n) (hk : i.toNatClampNeg = k) (hdg : decode cc pc = .ok (.iastore, 1))
    (kk : ∀ H1 locs1, gI E s (gs M id k v) x H1 locs1 → W p l e R s m args below meth c H1 locs1 cells slots Q (F0 m (pc + 1) ls rest)) : W p l e R s m args below meth c H locs cells slots Q (F0 m pc ls (.int v :: .int i :: .ref (E.2.1 id) :: rest)) := by
  obtain ⟨hx, hb, hml, hown, hts, h0⟩ := hC
  subst hk
  refine va_iast hx hb h0.1 hI.1 (gD_of h0 M x) hI.2 (gdn id) 0 ((gwl_get ha.1).trans (by rw [ha.2])) rfl (gin_vp hin) hdg (fun H1 locs1 hP hD hS => kk H1 locs1 ⟨?_, hS⟩)
  rw [← ha.2 E _ x, gwl_set ha.1] at hP
  exact hP
theorem g_cast (hC : gC p s m args c cc nL own E) (hI : gI E s M x H locs) {id n k : Nat} (ha : gCA id n) {i v : Int32} (hin : gin i n) (hk : i.toNatClampNeg = k) (hdg : decode cc pc = .ok (.castore, 1))
    (kk : ∀ H1 locs1, gI E s (gs M id k (vp_nar .char v)) x H1 locs1 → W p l e R s m args below meth c H1 locs1 cells slots Q (F0 m (pc + 1) ls rest)) : W p l e R s m args below meth c H locs cells slots Q (F0 m pc ls (.int v :: .int i :: .ref (E.2.1 id) :: rest)) := by
  obtain ⟨hx, hb, hml, hown, hts, h0⟩ := hC
  subst hk
  refine va_cast hx hb h0.1 hI.1 (gD_of h0 M x) hI.2 (gdn id) 1 ((gwl_get ha.1).trans (by rw [ha.2])) rfl (gin_vp hin) hdg (fun H1 locs1 hP hD hS => kk H1 locs1 ⟨?_, hS⟩)
  rw [← ha.2 E _ x, gwl_set ha.1] at hP
  exact hP
theorem g_top {v w : Int32} (h : v = w) (kk : W p l e R s m args below meth c H locs cells slots Q (F0 m pc ls (.int v :: rest))) : W p l e R s m args below meth c H locs cells slots Q (F0 m pc ls (.int w :: rest)) := h ▸ kk
theorem g_mem {M' : gM} (h : M' = M) (hI : gI E s M x H locs) : gI E s M' x H locs := h ▸ hI
theorem g_copyi (hC : gC p s m args c cc nL own E) (hI : gI E s M x H locs) {id n id' n' index : Nat} (ha : gIA id n) (ha' : gIA id' n') (hls : ls.size = nL) (hlink : Cond.methodLink own index arraycopyName ∈ gU) (hnat : Cond.native arraycopyName ∈ gU) (hstat : Cond.static arraycopyName ∈ gU) (hini : Cond.initialized "java/lang/System" ∈ gU)
    {sp dp k : Int32} (hsp : 0 ≤ sp.toInt) (hdp : 0 ≤ dp.toInt) (hk : 0 ≤ k.toInt) (h4 : sp.toNatClampNeg + k.toNatClampNeg ≤ n) (h5 : dp.toNatClampNeg + k.toNatClampNeg ≤ n') (hframes : 1 ≤ R.frames) (hlocals : (rest.map fun v => v.category).sum + (nativeFrameWords "java/lang/System" "arraycopy" 5 + 11) ≤ R.locals) (hdg : decode cc pc = .ok (.invokestatic index, 3))
    (kk : ∀ H1 locs1, gI E s (gw M id' (va_cpy (M id) (M id') sp.toNatClampNeg dp.toNatClampNeg k.toNatClampNeg)) x H1 locs1 → W p l e R s m args below meth c H1 locs1 cells slots Q (F0 m (pc + 3) ls rest)) : W p l e R s m args below meth c H locs cells slots Q (F0 m pc ls (.int k :: .int dp :: .ref (E.2.1 id') :: .int sp :: .ref (E.2.1 id) :: rest)) := by
  obtain ⟨hx, hb, hml, hown, hts, h0⟩ := hC
  have nn : ∀ z : Int32, 0 ≤ z.toInt → ¬ z < 0 := fun z hz h => by
    have := Int32.lt_iff_toInt_lt.mp h
    have e0 : (0 : Int32).toInt = 0 := rfl
    omega
  refine va_copyi hx hb (hml.trans hls.symm) hown (hts _ hlink) (hts _ hnat) (hts _ hstat) (hts _ hini) h0.1 hI.1 (gD_of h0 M x) hI.2 (gdn id) (gdn id') 0 0 ((gwl_get ha.1).trans (by rw [ha.2])) ((gwl_get ha'.1).trans (by rw [ha'.2])) rfl rfl rfl (nn _ hsp) (nn _ hdp) (nn _ hk) h4 h5 (fun _ _ => rfl) hframes hlocals hdg (fun H1 locs1 hP hD hS => kk H1 locs1 ⟨?_, hS⟩)
  rw [← ha'.2 E _ x, gwl_set ha'.1] at hP
  exact hP
theorem g_recv (hC : gC p s m args c cc nL own E) (hI : gI E s M x H locs) {id ci : Nat} {C : String} {T : u_T} {N : Nat} {fs : List Value} (hid : gid id) (he : gct E (M id) x id = .inr (ci, fs)) (hc : vwCl[ci]? = some (C, T, N)) : ∃ cell : Cell, H[E.2.1 id]? = some cell ∧ cell.vm.isStatics = false ∧ s.vm.findClass C = some cell.cls :=
  va_recv (q := (C, T, N)) hC.2.2.2.2.2.1 hI.1 hc ((gwl_get hid).trans (by rw [he]))
end GROW
/-- a method's words: its code, and all words of the tables that calls keep -/
def gWs (w : Cond) : List Cond := w :: gU
/-- a contract: over the world with the memory M, the method returns rv, and the world's memory is M' -/
def gM0 (l : Launch) (E : gE) (y : MethodName) (w : Cond) (rm : Room) (M : gM) (x : gX) (av : List Value) (rv : Option Value) (M' : gM) : Prop :=
  Met l y (gWs w) rm (va_Pc av (gW E M x)) (fun _ st oc t => oc = .returned rv ∧ gW E M' x t ∧ va_F (gA E) st t) 0 0 (gA E)
theorem gblind (E : gE) (M : gM) (x : gX) (av : List Value) : FrameBlind (va_Pc av (gW E M x)) := fun a U g mk h => ⟨h.1, h.2.1, (show gS0 E (U.calling g mk a) U.heap from gS0.same (s := U) (U := U.calling g mk a) rfl h.2.2)⟩
theorem gW_at {E : gE} {M : gM} {x : gX} {s U : State} {H : Heap} {locs : List Loc} (h0 : gS0 E s s.heap) (hI : gI E s M x H locs) (hU : U.heap = H) (hW : s.WarmedH U.vm) : gW E M x U := by
  subst hU
  exact ⟨hI.1, (h0.kept hI.2.2.1).warm hW⟩
theorem gGood {ws : List Cond} (h : ∀ w ∈ ws, w ∈ gU) : GoodIn gU ws := fun w hw => ⟨h w hw, gU_good (h w hw)⟩
theorem gGoodW {code : Cond} (hc : code ∈ gU) : GoodIn gU (gWs code) := gGood (fun w hw => by
  rcases List.mem_cons.mp hw with rfl | h
  · exact hc
  · exact h)
/-- what the tables say of a method: its code among the words, its descriptor's count, no method handle -/
def gY (y : MethodName) (bytes : ByteArray) (maxL : Nat) (ret : Option FieldType) (n : Nat) : Prop :=
  Cond.code y bytes maxL ret ∈ gU ∧ Cond.initialized y.cls ∈ gU ∧ (y.cls ≠ "java/lang/invoke/MethodHandle" ∧ y.cls ≠ "java/lang/invoke/VarHandle") ∧ (parseMethodDescriptor y.desc).map (fun d => d.parameters.length) = some n
section GCALL
variable {p : Program} {l : Launch} {e : Env} {R : Room} {s : State} {m : MethodId} {args : Array Value} {below : List Frame} {meth : Method} {c : Code} {H : Heap} {locs : List Loc} {cells slots : Nat} {Q : State → Prop}
variable {E : gE} {M M' : gM} {x : gX} {cc : ByteArray} {own : String} {nL pc : Nat} {ls : Array Slot} {rest : List Value}
variable {y : MethodName} {bytes : ByteArray} {maxL n index : Nat} {ret : Option FieldType} {rm : Room} {rv : Option Value} {As : List Value}
theorem g_after {st0 : List Value} (hr : va_Run p l e R s m args below meth c H locs cells slots 0 0 (F0 m pc ls st0) rest (fun st oc t => oc = .returned rv ∧ gW E M' x t ∧ va_F (gA E) st t) (gA E)) (hS : va_S (gA E) s.heap H locs)
    (kk : ∀ H1 locs1, gI E s M' x H1 locs1 → W p l e R s m args below meth c H1 locs1 cells slots Q (F0 m (pc + 3) ls (rv.toList ++ rest))) : W p l e R s m args below meth c H locs cells slots Q (F0 m pc ls st0) := by
  intro T hT X
  obtain ⟨v, st₀, t, T', L, h0, X', hL, e1, e2, ⟨hv, hg, hz, hk⟩, st⟩ := hr T hT X
  cases hv
  rw [h0] at hz hk
  obtain ⟨t2, a1, b1⟩ := kk T'.heap (locs ++ L) ⟨by rw [e1]; exact hg.1, Nat.le_trans hS.1 (by rw [e1]; exact hz), fun q h1 h2 => by rw [e1, hk q (Nat.lt_of_lt_of_le h1 hS.1) h2]; exact hS.2.1 q h1 h2, fun q hq => by
    rcases List.mem_append.mp hq with h | h
    · exact hS.2.2 q h
    · exact hL q h⟩ T' rfl X'
  exact ⟨t2, st t2 a1, b1⟩
theorem gCB (hC : gC p s m args c cc nL own E) (hy : gY y bytes maxL ret n) (hl : Cond.methodLink own index y ∈ gU) (h0 : rm.cells = 0 ∧ rm.slots = 0) (hR : rm.frames + 1 ≤ R.frames ∧ 8 + (maxL + 11) + rm.locals ≤ R.locals) : CallB R s args own index y bytes maxL ret (gWs (.code y bytes maxL ret)) rm 0 0 n :=
  callB_of n hC.2.2.2.2.1 (gGoodW hy.1) rfl h0.1 h0.2 (hC.2.2.2.2.1 _ hy.2.1) (hC.2.2.2.2.1 _ hl) ⟨hy.2.2.1.1, hy.2.2.1.2, hy.2.2.2⟩ hR
theorem g_callV {st0 : List Value} (hC : gC p s m args c cc nL own E) (hI : gI E s M x H locs) {id : Nat} (hM : gM0 l E y (.code y bytes maxL ret) rm M x (.ref (E.2.1 id) :: As) rv M') (hy : gY y bytes maxL ret n) (hi : Cond.instanceMethod y ∈ gU ∧ Cond.selects y.cls y y ∈ gU) (hl : Cond.methodLink own index y ∈ gU) (h0 : rm.cells = 0 ∧ rm.slots = 0) (hR : rm.frames + 1 ≤ R.frames ∧ 8 + (maxL + 11) + rm.locals ≤ R.locals)
    (hr : ∃ cell : Cell, H[E.2.1 id]? = some cell ∧ cell.vm.isStatics = false ∧ s.vm.findClass y.cls = some cell.cls) (hn : As.length = n) (hls : ls.size = nL) (hst : st0 = As.reverse ++ .ref (E.2.1 id) :: rest) (hW : (rest.map fun v => v.category).sum ≤ 8) (hdg : decode cc pc = .ok (.invokevirtual index, 3))
    (kk : ∀ H1 locs1, gI E s M' x H1 locs1 → W p l e R s m args below meth c H1 locs1 cells slots Q (F0 m (pc + 3) ls (rv.toList ++ rest))) (hcs : cells ≤ R.cells ∧ slots ≤ R.slots) : W p l e R s m args below meth c H locs cells slots Q (F0 m pc ls st0) := by
  have cb := gCB (R := R) hC hy hl h0 hR
  have hg := hC
  obtain ⟨hx, hb, hml, hown, hts, hS0⟩ := hg
  exact g_after (va_runV (As := As) (rest := rest) ⟨hx, hb, hml, hown, hts⟩ hM ⟨cb, hts _ hi.1, hts _ hi.2⟩ ⟨gblind E M x _, hr, fun U hU hW => ⟨rfl, gW_at hS0 hI hU hW⟩⟩ rfl hn hls hst (lv_room hW) hdg hcs) hI.2 kk
theorem g_callS {st0 : List Value} (hC : gC p s m args c cc nL own E) (hI : gI E s M x H locs) (hM : gM0 l E y (.code y bytes maxL ret) rm M x As rv M') (hy : gY y bytes maxL ret n) (hi : Cond.static y ∈ gU) (hl : Cond.methodLink own index y ∈ gU) (h0 : rm.cells = 0 ∧ rm.slots = 0) (hR : rm.frames + 1 ≤ R.frames ∧ 8 + (maxL + 11) + rm.locals ≤ R.locals)
    (hn : As.length = n) (hls : ls.size = nL) (hst : st0 = As.reverse ++ rest) (hW : (rest.map fun v => v.category).sum ≤ 8) (hdg : decode cc pc = .ok (.invokestatic index, 3))
    (kk : ∀ H1 locs1, gI E s M' x H1 locs1 → W p l e R s m args below meth c H1 locs1 cells slots Q (F0 m (pc + 3) ls (rv.toList ++ rest))) (hcs : cells ≤ R.cells ∧ slots ≤ R.slots) : W p l e R s m args below meth c H locs cells slots Q (F0 m pc ls st0) := by
  have cb := gCB (R := R) hC hy hl h0 hR
  have hg := hC
  obtain ⟨hx, hb, hml, hown, hts, hS0⟩ := hg
  exact g_after (va_runS (As := As) (rest := rest) ⟨hx, hb, hml, hown, hts⟩ hM ⟨cb, hts _ hi⟩ ⟨gblind E M x _, fun U hU hW => ⟨rfl, gW_at hS0 hI hU hW⟩⟩ rfl hn hls hst (lv_room hW) hdg hcs) hI.2 kk
theorem g_callSN {st0 : List Value} (hC : gC p s m args c cc nL own E) (hI : gI E s M x H locs) (hM : gM0 l E y (.code y bytes maxL ret) rm M x As rv M') (hy : gY y bytes maxL ret n) (hi : Cond.static y ∈ gU) (hl : (own, index, y) ∈ gNM) (h0 : rm.cells = 0 ∧ rm.slots = 0) (hR : rm.frames + 1 ≤ R.frames ∧ 8 + (maxL + 11) + rm.locals ≤ R.locals)
    (hn : As.length = n) (hls : ls.size = nL) (hst : st0 = As.reverse ++ rest) (hW : (rest.map fun v => v.category).sum ≤ 8) (hdg : decode cc pc = .ok (.invokestatic index, 3))
    (kk : ∀ H1 locs1, gI E s M' x H1 locs1 → W p l e R s m args below meth c H1 locs1 cells slots Q (F0 m (pc + 3) ls (rv.toList ++ rest))) (hcs : cells ≤ R.cells ∧ slots ≤ R.slots) : W p l e R s m args below meth c H locs cells slots Q (F0 m pc ls st0) := by
  have hg := hC
  obtain ⟨hx, hb, hml, hown, hts, hS0⟩ := hg
  have cb : va_CN R s args own index y "ContainerTerminal" bytes maxL ret (gWs (.code y bytes maxL ret)) rm 0 0 n := va_cnB n hts (gGoodW hy.1) rfl h0.1 h0.2 (hS0.2.2.2.1 _ hl) (hts _ hy.2.1) ⟨hy.2.2.1.1, hy.2.2.1.2, hy.2.2.2⟩ hR
  exact g_after (va_runSN (As := As) (rest := rest) ⟨hx, hb, hml, hown, hts⟩ hM ⟨cb, hts _ hi, trivial⟩ ⟨gblind E M x _, fun U hU hW => ⟨rfl, gW_at hS0 hI hU hW⟩⟩ rfl hn hls hst (lv_room hW) hdg hcs) hI.2 kk
end GCALL
theorem gOfW {l : Launch} {y : MethodName} {ws ws' : List Cond} {rm : Room} {Pc : Array Value → State → Prop} {Qc : Array Value → State → Outcome → State → Prop} {mc ms : Nat} {free : Addr → Prop} {cc : ByteArray} {maxL : Nat} {ret : Option FieldType}
    (hy : plainFor y = true) (hw : ws = Cond.code y cc maxL ret :: ws')
    (body : ∀ p e s m args below meth c s₁, BodyLoose p l y (headSpec ws rm) cc maxL ret e s m args below meth c s₁ → c.maxLocals = maxL → Pc args s →
      W p l e (headSpec ws rm).room s m args below meth c s.heap [] 0 0 (MQ below Qc args s mc ms free) (entryFrame m args maxL)) : Met l y ws rm Pc Qc mc ms free := by
  refine MetFree.of_bodySF (code := cc) (maxLocals := maxL) (ret := ret) hy ?_ ?_
  · intro args s m h hn
    obtain ⟨meth, c, h1, h2, h3, h4, h5, h6, -, -⟩ := Cond.code_spec hn (atoms_spec (ws := ws) h _ (by rw [hw]; exact List.mem_cons_self))
    exact ⟨meth, c, h1, h2, h3, h4, h5, h6⟩
  · intro p e s m args below meth c s₁ B hml hP _
    have hh0 : s₁.heap = s.heap := by rw [B.state]; rfl
    obtain ⟨t, a1, o, b1, b2, b3⟩ := body p e s m args below meth c s₁ B hml hP s₁ hh0 (Stand.of_body B)
    exact ⟨t, o, a1, b1, b2, ⟨b3.1, b3.2⟩⟩
/-- a method's contract out of the walk of its body -/
theorem gMet {l : Launch} {y : MethodName} {cc : ByteArray} {maxL : Nat} {ret : Option FieldType} {rm : Room} {E : gE} {M M' : gM} {x : gX} {av : List Value} {rv : Option Value} (hy : plainFor y = true) (hL : (lg_sl av).length ≤ maxL)
    (body : ∀ (p : Program) (e : Env) (s : State) (m : MethodId) (args : Array Value) (below : List Frame) (meth : Method) (c : Code) (H : Heap) (locs : List Loc) (ls : Array Slot) (Q : State → Prop), gC p s m args c cc maxL y.cls E → lv_has ls maxL (lv_args 0 av) → gI E s M x H locs →
      (∀ (M1 : gM) (H1 : Heap) (locs1 : List Loc) (ls1 : Array Slot) (pc : Nat) (v : Int32), (rv, M') = (some (.int v), M1) → gI E s M1 x H1 locs1 → (∃ ty, ret = some ty ∧ narrow ty (.int v) = .int v) → decode cc pc = .ok (.ireturn, 1) → W p l e rm s m args below meth c H1 locs1 0 0 Q (F0 m pc ls1 [.int v])) →
      (∀ (M1 : gM) (H1 : Heap) (locs1 : List Loc) (ls1 : Array Slot) (pc : Nat), (rv, M') = (none, M1) → gI E s M1 x H1 locs1 → ret = none → decode cc pc = .ok (.return_, 1) → W p l e rm s m args below meth c H1 locs1 0 0 Q (F0 m pc ls1 [])) →
      W p l e rm s m args below meth c H locs 0 0 Q (F0 m 0 ls [])) : gM0 l E y (.code y cc maxL ret) rm M x av rv M' := by
  refine gOfW (cc := cc) (maxL := maxL) (ret := ret) hy rfl ?_
  intro p e s m args below meth c s₁ B hml hv
  obtain ⟨rfl, hW⟩ := hv
  have hts : ∀ w ∈ gWs (.code y cc maxL ret), w.before av.toArray s = true := atoms_spec (ws := gWs (.code y cc maxL ret)) B.pre
  have hlocks := B.notSynchronized
  have hl := lv_entry av (n := maxL) hL
  rw [lg_entry_eq]
  generalize (lg_sl av ++ List.replicate (maxL - (lg_sl av).length) Slot.unset).toArray = ls at hl ⊢
  refine body p e s m av.toArray below meth c s.heap [] ls _ ⟨B.exec, B.bytes, hml, findClass_of_methodNamed B.named, fun w hw => hts w (List.mem_cons_of_mem _ hw), hW.2⟩ hl ⟨hW.1, va_S.rf⟩ ?_ ?_
  · intro M1 H1 locs1 ls1 pc v he hI hty hdg
    cases he
    obtain ⟨ty, hr, hn⟩ := hty
    exact W.zret B.exec B.bytes (B.returns.trans hr) hn (fun t ht hWm => ⟨rfl, gW_at hW.2 hI ht hWm, hI.2.F ht⟩) hI.2.2.2 hdg
  · intro M1 H1 locs1 ls1 pc he hI hr hdg
    cases he
    exact W.vret B.exec B.bytes (B.returns.trans hr) (fun t ht hWm => ⟨rfl, gW_at hW.2 hI ht hWm, hI.2.F ht⟩) hI.2.2.2 hdg
theorem gri {M : gM} {v r : Int32} (h : some v = some r) : ((some (.int r), M) : Option Value × gM) = (some (.int v), M) := by cases h; rfl
theorem grw {M1 M' : gM} {v r : Int32} (h : some (v, M1) = some (r, M')) : ((some (.int r), M') : Option Value × gM) = (some (.int v), M1) := by cases h; rfl
theorem grv {M1 M' : gM} (h : some M1 = some M') : ((none, M') : Option Value × gM) = (none, M1) := by cases h; rfl
theorem grb1 {M : gM} {r : Bool} (h : some true = some r) : ((some (.int (gb r)), M) : Option Value × gM) = (some (.int 1), M) := by cases h; rfl
theorem grb0 {M : gM} {r : Bool} (h : some false = some r) : ((some (.int (gb r)), M) : Option Value × gM) = (some (.int 0), M) := by cases h; rfl
theorem grb {M : gM} {v r : Bool} (h : some v = some r) : ((some (.int (gb r)), M) : Option Value × gM) = (some (.int (gb v)), M) := by cases h; rfl
theorem grwb1 {M1 M' : gM} {r : Bool} (h : some (true, M1) = some (r, M')) : ((some (.int (gb r)), M') : Option Value × gM) = (some (.int 1), M1) := by cases h; rfl
theorem grwb0 {M1 M' : gM} {r : Bool} (h : some (false, M1) = some (r, M')) : ((some (.int (gb r)), M') : Option Value × gM) = (some (.int 0), M1) := by cases h; rfl
theorem grwb {M1 M' : gM} {v r : Bool} (h : some (v, M1) = some (r, M')) : ((some (.int (gb r)), M') : Option Value × gM) = (some (.int (gb v)), M1) := by cases h; rfl
