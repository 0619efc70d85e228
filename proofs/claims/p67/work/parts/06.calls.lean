/-! Calls by what they answer; a switch by its keys; the receivers; the fields. -/
theorem gUin {ws : List Cond} (h : ws.all (fun w => decide (w ∈ lw_tbl) && goodWord w) = true) : ∀ w ∈ ws, w ∈ gU := fun w hw => by
  have h1 := List.all_eq_true.mp h w hw
  simp only [Bool.and_eq_true, decide_eq_true_eq] at h1
  exact List.mem_filter.mpr h1
theorem uX0 : ∀ w ∈ u_ws RX0 TX0 7, w ∈ gU := gUin (by decide +kernel)
theorem uX1 : ∀ w ∈ u_ws RX1 TX1 3, w ∈ gU := gUin (by decide +kernel)
theorem uX2 : ∀ w ∈ u_ws RX2 TX2 3, w ∈ gU := gUin (by decide +kernel)
theorem uX3 : ∀ w ∈ u_ws RX3 TX3 2, w ∈ gU := gUin (by decide +kernel)
theorem uX4 : ∀ w ∈ u_ws RX4 TX4 3, w ∈ gU := gUin (by decide +kernel)
theorem uX5 : ∀ w ∈ u_ws RX5 TX5 11, w ∈ gU := gUin (by decide +kernel)
theorem uX6 : ∀ w ∈ u_ws RX6 TX6 10, w ∈ gU := gUin (by decide +kernel)
abbrev gR (fr lo : Nat) : Room := { frames := fr, cells := 0, slots := 0, locals := lo }
section GC2
variable {p : Program} {l : Launch} {e : Env} {R : Room} {s : State} {m : MethodId} {args : Array Value} {below : List Frame} {meth : Method} {c : Code} {H : Heap} {locs : List Loc} {cells slots : Nat} {Q : State → Prop}
variable {E : gE} {M M' : gM} {x : gX} {cc : ByteArray} {own : String} {nL pc : Nat} {ls : Array Slot} {rest : List Value}
variable {y : MethodName} {bytes : ByteArray} {maxL n index : Nat} {ret : Option FieldType} {rm : Room} {rv : Option Value} {As st0 : List Value} {r : Int32}
theorem g_callVi (hC : gC p s m args c cc nL own E) (hI : gI E s M x H locs) {id : Nat} (hM : gM0 l E y (.code y bytes maxL ret) rm M x (.ref (E.2.1 id) :: As) (some (.int r)) M') (hy : gY y bytes maxL ret n) (hi : Cond.instanceMethod y ∈ gU ∧ Cond.selects y.cls y y ∈ gU) (hl : Cond.methodLink own index y ∈ gU) (hr : ∃ cell : Cell, H[E.2.1 id]? = some cell ∧ cell.vm.isStatics = false ∧ s.vm.findClass y.cls = some cell.cls) (h0 : rm.cells = 0 ∧ rm.slots = 0) (hR : rm.frames + 1 ≤ R.frames ∧ 8 + (maxL + 11) + rm.locals ≤ R.locals)
    (hn : As.length = n) (hls : ls.size = nL) (hst : st0 = As.reverse ++ .ref (E.2.1 id) :: rest) (hW : (rest.map fun v => v.category).sum ≤ 8) (hdg : decode cc pc = .ok (.invokevirtual index, 3)) (hcs : cells ≤ R.cells ∧ slots ≤ R.slots)
    (kk : ∀ H1 locs1, gI E s M' x H1 locs1 → W p l e R s m args below meth c H1 locs1 cells slots Q (F0 m (pc + 3) ls (.int r :: rest))) : W p l e R s m args below meth c H locs cells slots Q (F0 m pc ls st0) := g_callV hC hI hM hy hi hl h0 hR hr hn hls hst hW hdg kk hcs
theorem g_callVv (hC : gC p s m args c cc nL own E) (hI : gI E s M x H locs) {id : Nat} (hM : gM0 l E y (.code y bytes maxL ret) rm M x (.ref (E.2.1 id) :: As) none M') (hy : gY y bytes maxL ret n) (hi : Cond.instanceMethod y ∈ gU ∧ Cond.selects y.cls y y ∈ gU) (hl : Cond.methodLink own index y ∈ gU) (hr : ∃ cell : Cell, H[E.2.1 id]? = some cell ∧ cell.vm.isStatics = false ∧ s.vm.findClass y.cls = some cell.cls) (h0 : rm.cells = 0 ∧ rm.slots = 0) (hR : rm.frames + 1 ≤ R.frames ∧ 8 + (maxL + 11) + rm.locals ≤ R.locals)
    (hn : As.length = n) (hls : ls.size = nL) (hst : st0 = As.reverse ++ .ref (E.2.1 id) :: rest) (hW : (rest.map fun v => v.category).sum ≤ 8) (hdg : decode cc pc = .ok (.invokevirtual index, 3)) (hcs : cells ≤ R.cells ∧ slots ≤ R.slots)
    (kk : ∀ H1 locs1, gI E s M' x H1 locs1 → W p l e R s m args below meth c H1 locs1 cells slots Q (F0 m (pc + 3) ls rest)) : W p l e R s m args below meth c H locs cells slots Q (F0 m pc ls st0) := g_callV hC hI hM hy hi hl h0 hR hr hn hls hst hW hdg kk hcs
theorem g_callSi (hC : gC p s m args c cc nL own E) (hI : gI E s M x H locs) (hM : gM0 l E y (.code y bytes maxL ret) rm M x As (some (.int r)) M') (hy : gY y bytes maxL ret n) (hi : Cond.static y ∈ gU) (hl : Cond.methodLink own index y ∈ gU) (h0 : rm.cells = 0 ∧ rm.slots = 0) (hR : rm.frames + 1 ≤ R.frames ∧ 8 + (maxL + 11) + rm.locals ≤ R.locals)
    (hn : As.length = n) (hls : ls.size = nL) (hst : st0 = As.reverse ++ rest) (hW : (rest.map fun v => v.category).sum ≤ 8) (hdg : decode cc pc = .ok (.invokestatic index, 3)) (hcs : cells ≤ R.cells ∧ slots ≤ R.slots)
    (kk : ∀ H1 locs1, gI E s M' x H1 locs1 → W p l e R s m args below meth c H1 locs1 cells slots Q (F0 m (pc + 3) ls (.int r :: rest))) : W p l e R s m args below meth c H locs cells slots Q (F0 m pc ls st0) := g_callS hC hI hM hy hi hl h0 hR hn hls hst hW hdg kk hcs
theorem g_callSv (hC : gC p s m args c cc nL own E) (hI : gI E s M x H locs) (hM : gM0 l E y (.code y bytes maxL ret) rm M x As none M') (hy : gY y bytes maxL ret n) (hi : Cond.static y ∈ gU) (hl : Cond.methodLink own index y ∈ gU) (h0 : rm.cells = 0 ∧ rm.slots = 0) (hR : rm.frames + 1 ≤ R.frames ∧ 8 + (maxL + 11) + rm.locals ≤ R.locals)
    (hn : As.length = n) (hls : ls.size = nL) (hst : st0 = As.reverse ++ rest) (hW : (rest.map fun v => v.category).sum ≤ 8) (hdg : decode cc pc = .ok (.invokestatic index, 3)) (hcs : cells ≤ R.cells ∧ slots ≤ R.slots)
    (kk : ∀ H1 locs1, gI E s M' x H1 locs1 → W p l e R s m args below meth c H1 locs1 cells slots Q (F0 m (pc + 3) ls rest)) : W p l e R s m args below meth c H locs cells slots Q (F0 m pc ls st0) := g_callS hC hI hM hy hi hl h0 hR hn hls hst hW hdg kk hcs
theorem g_callSNi (hC : gC p s m args c cc nL own E) (hI : gI E s M x H locs) (hM : gM0 l E y (.code y bytes maxL ret) rm M x As (some (.int r)) M') (hy : gY y bytes maxL ret n) (hi : Cond.static y ∈ gU) (hl : (own, index, y) ∈ gNM) (h0 : rm.cells = 0 ∧ rm.slots = 0) (hR : rm.frames + 1 ≤ R.frames ∧ 8 + (maxL + 11) + rm.locals ≤ R.locals)
    (hn : As.length = n) (hls : ls.size = nL) (hst : st0 = As.reverse ++ rest) (hW : (rest.map fun v => v.category).sum ≤ 8) (hdg : decode cc pc = .ok (.invokestatic index, 3)) (hcs : cells ≤ R.cells ∧ slots ≤ R.slots)
    (kk : ∀ H1 locs1, gI E s M' x H1 locs1 → W p l e R s m args below meth c H1 locs1 cells slots Q (F0 m (pc + 3) ls (.int r :: rest))) : W p l e R s m args below meth c H locs cells slots Q (F0 m pc ls st0) := g_callSN hC hI hM hy hi hl h0 hR hn hls hst hW hdg kk hcs
theorem rcv_X0 {o : Nat} (hC : gC p s m args c cc nL own E) (hI : gI E s M x H locs) (ho : gOk o) : ∃ cell : Cell, H[E.2.1 (o + 1)]? = some cell ∧ cell.vm.isStatics = false ∧ s.vm.findClass RX0 = some cell.cls := g_recv hC hI (gOk_lt ho (k := 1) (by decide)) (gct_st ho (k := 1) (by decide) E _ x) rfl
theorem rcv_X5 {o : Nat} (hC : gC p s m args c cc nL own E) (hI : gI E s M x H locs) (ho : gOk o) : ∃ cell : Cell, H[E.2.1 o]? = some cell ∧ cell.vm.isStatics = false ∧ s.vm.findClass RX5 = some cell.cls := g_recv hC hI (gOk_lt ho (k := 0) (by decide)) (gct_st ho (k := 0) (by decide) E _ x) rfl
theorem rcv_X1 (hC : gC p s m args c cc nL own E) (hI : gI E s M x H locs) : ∃ cell : Cell, H[E.2.1 133]? = some cell ∧ cell.vm.isStatics = false ∧ s.vm.findClass RX1 = some cell.cls := g_recv hC hI (by decide) (rfl : gct E _ x 133 = _) rfl
theorem rcv_X2 (hC : gC p s m args c cc nL own E) (hI : gI E s M x H locs) : ∃ cell : Cell, H[E.2.1 146]? = some cell ∧ cell.vm.isStatics = false ∧ s.vm.findClass RX2 = some cell.cls := g_recv hC hI (by decide) (rfl : gct E _ x 146 = _) rfl
theorem rcv_X3 (hC : gC p s m args c cc nL own E) (hI : gI E s M x H locs) : ∃ cell : Cell, H[E.2.1 148]? = some cell ∧ cell.vm.isStatics = false ∧ s.vm.findClass RX3 = some cell.cls := g_recv hC hI (by decide) (rfl : gct E _ x 148 = _) rfl
theorem rcv_X4 (hC : gC p s m args c cc nL own E) (hI : gI E s M x H locs) : ∃ cell : Cell, H[E.2.1 135]? = some cell ∧ cell.vm.isStatics = false ∧ s.vm.findClass RX4 = some cell.cls := g_recv hC hI (by decide) (rfl : gct E _ x 135 = _) rfl
theorem rcv_X6 (hC : gC p s m args c cc nL own E) (hI : gI E s M x H locs) : ∃ cell : Cell, H[E.2.1 132]? = some cell ∧ cell.vm.isStatics = false ∧ s.vm.findClass RX6 = some cell.cls := g_recv hC hI (by decide) (rfl : gct E _ x 132 = _) rfl
/-- a switch, at one of its keys -/
theorem g_tabK {dflt lo hi : Int} {offs : Array Int} {len : Nat} {v k : Int32} {off : Int} {tgt : Nat} (hC : gC p s m args c cc nL own E) (hdg : decode cc pc = .ok (.tableswitch dflt lo hi offs, len)) (hv : v = k) (h1 : ¬ k.toInt < lo) (h2 : ¬ hi < k.toInt) (ho : offs[(k.toInt - lo).toNat]? = some off) (ht : (pc : Int) + off = (tgt : Int))
    (kk : W p l e R s m args below meth c H locs cells slots Q (F0 m tgt ls rest)) : W p l e R s m args below meth c H locs cells slots Q (F0 m pc ls (.int v :: rest)) := by
  subst hv
  exact lv_tableIn hC.1 hC.2.1 hdg h1 h2 ho ht kk
/-- a switch, at none of its keys -/
theorem g_tabD {dflt lo hi : Int} {offs : Array Int} {len : Nat} {v : Int32} {tgt : Nat} (ks : List Int32) (hC : gC p s m args c cc nL own E) (hdg : decode cc pc = .ok (.tableswitch dflt lo hi offs, len)) (hv : ∀ k ∈ ks, ¬ v = k) (hall : ∀ i, i < (hi - lo + 1).toNat → offs[i]? = some dflt ∨ ∃ k ∈ ks, k.toInt = lo + i) (ht : (pc : Int) + dflt = (tgt : Int))
    (kk : W p l e R s m args below meth c H locs cells slots Q (F0 m tgt ls rest)) : W p l e R s m args below meth c H locs cells slots Q (F0 m pc ls (.int v :: rest)) := by
  by_cases h : v.toInt < lo ∨ hi < v.toInt
  · exact lv_tableOut hC.1 hC.2.1 hdg h ht kk
  · have h1 : ¬ v.toInt < lo := fun q => h (Or.inl q)
    have h2 : ¬ hi < v.toInt := fun q => h (Or.inr q)
    rcases hall (v.toInt - lo).toNat (by omega) with q | ⟨k, hk, q⟩
    · exact lv_tableIn hC.1 hC.2.1 hdg h1 h2 q ht kk
    · exact absurd (Int32.toInt_inj.mp (by omega)) (hv k hk)
end GC2
theorem gifNn {α : Type} {c : Prop} [Decidable c] {a : Option α} {r : α} (e : (if c then none else a) = some r) : ¬ c ∧ a = some r := by
  by_cases h : c
  · rw [if_pos h] at e; cases e
  · rw [if_neg h] at e; exact ⟨h, e⟩
theorem gin_nI {v : Int32} {n : Nat} (h : gin v n) : ∃ q : Nat, q < n ∧ v = nI q := by
  refine ⟨v.toInt.toNat, by have := h.1; have := h.2; omega, ?_⟩
  apply Int32.toInt_inj.mp
  have h2 := h.2
  have h1 := h.1
  have hb := v.toInt_lt
  rw [nI_toInt (by omega)]
  omega
theorem gin_char {v : Int32} (h : gin v 65536) : narrow .char (.int v) = .int v := by
  obtain ⟨q, hq, rfl⟩ := gin_nI h
  exact (pk_charN hq).1
section GC3
variable {p : Program} {l : Launch} {e : Env} {R : Room} {s : State} {m : MethodId} {args : Array Value} {below : List Frame} {meth : Method} {c : Code} {H : Heap} {locs : List Loc} {cells slots : Nat} {Q : State → Prop}
variable {E : gE} {M M' : gM} {x : gX} {cc : ByteArray} {own : String} {nL pc : Nat} {ls : Array Slot} {rest : List Value}
theorem g_aaldS (hC : gC p s m args c cc nL own E) (hI : gI E s M x H locs) {i : Int32} (hin : gin i 8) (hdg : decode cc pc = .ok (.aaload, 1))
    (kk : W p l e R s m args below meth c H locs cells slots Q (F0 m (pc + 1) ls (.ref (E.2.1 (36 + 12 * i.toNatClampNeg)) :: rest))) : W p l e R s m args below meth c H locs cells slots Q (F0 m pc ls (.int i :: .ref (E.2.1 134) :: rest)) := by
  obtain ⟨hx, hb, hml, hown, hts, h0⟩ := hC
  have h8 := gin_lt hin
  refine va_aldq (C := "ContainerTerminal$State") hx hb h0.1 hI.1 (gdn 134) 2 ((gwl_get (id := 134) (by decide)).trans rfl) rfl (gin_vp hin) hdg ?_
  rw [if_pos h8]
  exact kk
end GC3
