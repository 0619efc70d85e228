/-! A method that answers a reference: one of the ring's states. -/
theorem gMetR {l : Launch} {y : MethodName} {cc : ByteArray} {maxL a : Nat} {C : String} {rm : Room} {E : gE} {M : gM} {x : gX} {av : List Value} (hy : plainFor y = true) (hL : (lg_sl av).length ≤ maxL)
    (body : ∀ (p : Program) (e : Env) (s : State) (m : MethodId) (args : Array Value) (below : List Frame) (meth : Method) (c : Code) (H : Heap) (locs : List Loc) (ls : Array Slot) (Q : State → Prop), gC p s m args c cc maxL y.cls E → lv_has ls maxL (lv_args 0 av) → gI E s M x H locs →
      (∀ (H1 : Heap) (locs1 : List Loc) (ls1 : Array Slot) (pc : Nat), gI E s M x H1 locs1 → decode cc pc = .ok (.areturn, 1) → W p l e rm s m args below meth c H1 locs1 0 0 Q (F0 m pc ls1 [.ref a])) →
      W p l e rm s m args below meth c H locs 0 0 Q (F0 m 0 ls [])) : gM0 l E y (.code y cc maxL (some (.object C))) rm M x av (some (.ref a)) M := by
  refine gOfW (cc := cc) (maxL := maxL) (ret := some (.object C)) hy rfl ?_
  intro p e s m args below meth c s₁ B hml hv
  obtain ⟨rfl, hW⟩ := hv
  have hts : ∀ w ∈ gWs (.code y cc maxL (some (.object C))), w.before av.toArray s = true := atoms_spec (ws := gWs (.code y cc maxL (some (.object C)))) B.pre
  have hlocks := B.notSynchronized
  have hl := lv_entry av (n := maxL) hL
  rw [lg_entry_eq]
  generalize (lg_sl av ++ List.replicate (maxL - (lg_sl av).length) Slot.unset).toArray = ls at hl ⊢
  refine body p e s m av.toArray below meth c s.heap [] ls _ ⟨B.exec, B.bytes, hml, findClass_of_methodNamed B.named, fun w hw => hts w (List.mem_cons_of_mem _ hw), hW.2⟩ hl ⟨hW.1, va_S.rf⟩ ?_
  intro H1 locs1 ls1 pc hI hdg
  exact W.aret B.exec B.bytes B.returns (Or.inl ⟨C, rfl⟩) (Or.inr ⟨a, rfl⟩) (fun t ht hWm => ⟨rfl, gW_at hW.2 hI ht hWm, hI.2.F ht⟩) hI.2.2.2 hdg
section GCR
variable {p : Program} {l : Launch} {e : Env} {R : Room} {s : State} {m : MethodId} {args : Array Value} {below : List Frame} {meth : Method} {c : Code} {H : Heap} {locs : List Loc} {cells slots : Nat} {Q : State → Prop}
variable {E : gE} {M M' : gM} {x : gX} {cc : ByteArray} {own : String} {nL pc : Nat} {ls : Array Slot} {rest : List Value}
variable {y : MethodName} {bytes : ByteArray} {maxL n index a : Nat} {ret : Option FieldType} {rm : Room} {As st0 : List Value}
theorem g_callVr (hC : gC p s m args c cc nL own E) (hI : gI E s M x H locs) {id : Nat} (hM : gM0 l E y (.code y bytes maxL ret) rm M x (.ref (E.2.1 id) :: As) (some (.ref a)) M') (hy : gY y bytes maxL ret n) (hi : Cond.instanceMethod y ∈ gU ∧ Cond.selects y.cls y y ∈ gU) (hl : Cond.methodLink own index y ∈ gU) (hr : ∃ cell : Cell, H[E.2.1 id]? = some cell ∧ cell.vm.isStatics = false ∧ s.vm.findClass y.cls = some cell.cls) (h0 : rm.cells = 0 ∧ rm.slots = 0) (hR : rm.frames + 1 ≤ R.frames ∧ 8 + (maxL + 11) + rm.locals ≤ R.locals)
    (hn : As.length = n) (hls : ls.size = nL) (hst : st0 = As.reverse ++ .ref (E.2.1 id) :: rest) (hW : (rest.map fun v => v.category).sum ≤ 8) (hdg : decode cc pc = .ok (.invokevirtual index, 3)) (hcs : cells ≤ R.cells ∧ slots ≤ R.slots)
    (kk : ∀ H1 locs1, gI E s M' x H1 locs1 → W p l e R s m args below meth c H1 locs1 cells slots Q (F0 m (pc + 3) ls (.ref a :: rest))) : W p l e R s m args below meth c H locs cells slots Q (F0 m pc ls st0) := g_callV hC hI hM hy hi hl h0 hR hr hn hls hst hW hdg kk hcs
end GCR
section GFS
variable {p : Program} {l : Launch} {e : Env} {R : Room} {s : State} {m : MethodId} {args : Array Value} {below : List Frame} {meth : Method} {c : Code} {H : Heap} {locs : List Loc} {cells slots : Nat} {Q : State → Prop}
variable {E : gE} {M : gM} {x : gX} {cc : ByteArray} {nL pc : Nat} {ls : Array Slot} {rest : List Value}
theorem gt_X1_X1_states (hC : gC p s m args c cc nL RX1 E) (hI : gI E s M x H locs) (hdg : decode cc pc = .ok (.getfield 11, 3)) (kk : W p l e R s m args below meth c H locs cells slots Q (F0 m (pc + 3) ls (.ref (E.2.1 134) :: rest))) : W p l e R s m args below meth c H locs cells slots Q (F0 m pc ls (.ref (E.2.1 133) :: rest)) := g_get hC hI (k := 0) (by decide) (rfl : gct E _ x 133 = _) rfl uX1 (by decide) rfl w136 hdg kk
end GFS
theorem dX1_stateAt_0 : decode cX1_stateAt 0 = .ok (.iload_n 1, 1) := by decide +kernel
theorem dX1_stateAt_1 : decode cX1_stateAt 1 = .ok (.ifCond .lt 18, 3) := by decide +kernel
theorem dX1_stateAt_4 : decode cX1_stateAt 4 = .ok (.iload_n 1, 1) := by decide +kernel
theorem dX1_stateAt_5 : decode cX1_stateAt 5 = .ok (.bipush 8, 2) := by decide +kernel
theorem dX1_stateAt_7 : decode cX1_stateAt 7 = .ok (.if_icmp .ge 12, 3) := by decide +kernel
theorem dX1_stateAt_10 : decode cX1_stateAt 10 = .ok (.aload_n 0, 1) := by decide +kernel
theorem dX1_stateAt_11 : decode cX1_stateAt 11 = .ok (.getfield 11, 3) := by decide +kernel
theorem dX1_stateAt_14 : decode cX1_stateAt 14 = .ok (.iload_n 1, 1) := by decide +kernel
theorem dX1_stateAt_15 : decode cX1_stateAt 15 = .ok (.aaload, 1) := by decide +kernel
theorem dX1_stateAt_16 : decode cX1_stateAt 16 = .ok (.goto 4, 3) := by decide +kernel
theorem dX1_stateAt_19 : decode cX1_stateAt 19 = .ok (.aconst_null, 1) := by decide +kernel
theorem dX1_stateAt_20 : decode cX1_stateAt 20 = .ok (.areturn, 1) := by decide +kernel
theorem C_X1_stateAt (l : Launch) (E : gE) (x : gX) {i : Int32} {M : gM} (hi : gin i 8) : gM0 l E yX1_stateAt (.code yX1_stateAt cX1_stateAt 2 (some (.object "ContainerTerminal$State"))) (gR 0 0) M x [.ref (E.2.1 133), .int i] (some (.ref (E.2.1 (36 + 12 * i.toNatClampNeg)))) M := by
  have h8 := gin_n hi (Nat.le_of_ble_eq_true rfl)
  have h7 : ¬ (8 : Int32) ≤ i := Int32.not_le.mpr (by have := h8.2; rwa [show nI 8 = (8 : Int32) by decide] at this)
  refine gMetR (by decide +kernel) (Nat.le_of_ble_eq_true rfl) ?_
  intro p e s m args below meth c H locs ls Q hC hl hI kr
  replace hC : gC p s m args c cX1_stateAt 2 RX1 E := hC
  replace hl : lv_has ls 2 [(0, .ref (E.2.1 133)), (1, .int i)] := hl
  have hx := hC.1
  have hb := hC.2.1
  refine lv_iload_n hx hb dX1_stateAt_0 rfl (lv_at hl 1 rfl) ?_
  refine lv_if_lt (tgt := 19) hx hb dX1_stateAt_1 rfl (fun h => absurd h h8.1) (fun _ => ?_)
  refine lv_iload_n hx hb dX1_stateAt_4 rfl (lv_at hl 1 rfl) ?_
  refine lv_bipush (v := 8) hx hb dX1_stateAt_5 (by decide) ?_
  refine lv_icmp_ge (tgt := 19) hx hb dX1_stateAt_7 rfl (fun h => absurd h h7) (fun _ => ?_)
  refine lv_aload_n hx hb dX1_stateAt_10 rfl (lv_at hl 0 rfl) ?_
  refine gt_X1_X1_states hC hI dX1_stateAt_11 ?_
  refine lv_iload_n hx hb dX1_stateAt_14 rfl (lv_at hl 1 rfl) ?_
  refine g_aaldS hC hI hi dX1_stateAt_15 ?_
  refine lv_goto (tgt := 20) hx hb dX1_stateAt_16 rfl ?_
  exact kr _ _ _ _ hI dX1_stateAt_20
