/-! The law's constants; a terminal that it makes itself; a String that it has just made is typed. -/
section LCC
variable {p : Program} {l : Launch} {e : Env} {R : Room} {s : State} {m : MethodId} {args : Array Value} {below : List Frame} {meth : Method} {c : Code} {H : Heap} {locs : List Loc} {cells slots mc ms : Nat} {Q : State → Prop}
variable {E : gE} {M M' : gM} {J : jA} {cc : ByteArray} {own : String} {nL pc : Nat} {ws : va_W} {ls : Array Slot} {rest As st0 : List Value}
variable {D : va_G} {cid : Nat → ClassId} {X X' : va_W} {index : Nat} {A : Nat → Prop}
theorem l_ldcwS (hexec : p.tables.exec = Jvm.exec) (hb : c.code = cc) {own tx : String} {index q : Nat} (hown : s.vm.findClass own = some m.cls) (hZ : vk_R own index tx q s) (hdg : decode cc pc = .ok (.ldc_w index, 3))
    (k : W p l e R s m args below meth c H locs cells slots Q (F0 m (pc + 3) ls (.ref q :: rest))) : W p l e R s m args below meth c H locs cells slots Q (F0 m pc ls rest) := by
  obtain ⟨hconst, hev⟩ := hZ
  intro T hT X
  obtain ⟨t, a1, b1⟩ := k T hT X
  refine ⟨t, ?_, b1⟩
  have hdg' : decode c.code pc = .ok (.ldc_w index, 3) := by rw [hb]; exact hdg
  obtain ⟨k, cf, i, a', hk, hcf, hcp, -, hr, hev'⟩ := Cond.stringRef_spec hown hconst
  cases hev.symm.trans hev'
  obtain ⟨k', hk', he⟩ := X.warmed.alike.2.2 _ _ hk
  have hr' : k'.resolved[index]? = some (some (.string q)) := by
    rcases X.warmed.entry hk hk' index with h | ⟨h, -⟩
    · rw [h]; exact hr
    · rw [hr] at h; cases h
  jvm_step X.here [hexec, hdg', ldc_w.wp_string (e := e) (s := T) (f := F0 m pc ls rest) X.here.top hk' (by rw [he]; exact hcf) hcp hr']
  exact a1
theorem l_ldcwF (hexec : p.tables.exec = Jvm.exec) (hb : c.code = cc) {own : String} {index : Nat} {v : UInt32} (hown : s.vm.findClass own = some m.cls) (hconst : (Jvm.Cond.constantFloat own index v).before args s = true) (hdg : decode cc pc = .ok (.ldc_w index, 3))
    (k : W p l e R s m args below meth c H locs cells slots Q (F0 m (pc + 3) ls (.float v :: rest))) : W p l e R s m args below meth c H locs cells slots Q (F0 m pc ls rest) := by
  intro T hT X
  obtain ⟨t, a1, b1⟩ := k T hT X
  refine ⟨t, ?_, b1⟩
  have hdg' : decode c.code pc = .ok (.ldc_w index, 3) := by rw [hb]; exact hdg
  obtain ⟨k, cf, hk, hcf, hcp⟩ := Cond.constantFloat_spec hown hconst
  obtain ⟨k', hk', he⟩ := X.warmed.alike.2.2 _ _ hk
  jvm_step X.here [hexec, hdg', ldc_w.wp_float (s := T) (f := F0 m pc ls rest) X.here.top hk' (by rw [he]; exact hcf) hcp]
  exact a1
/-- the cells of a constructor's are a terminal -/
theorem l_asm {adK adV : Nat → Nat} {ss : List (List Int32)} {u1 u2 u3 u6 u7 : Nat → Nat} {u4 : Nat × Nat × (Nat → Nat → Nat)} {u5 : Nat → Nat} {h : Nat} (hwB : wB D cid adK adV ss (A0 s) s s.heap) (hI : jI D s (A0 s) (X ++ wbig cid u1 u2 u3 u6 u7 u4 u5 h) H locs) :
    ∃ ad : Nat → Nat, h = ad 132 ∧ lE s D cid (wE D cid adK adV ss ad) ∧ jI D s (A0 s) (X ++ gwl (wE D cid adK adV ss ad) wM0 ()) H locs := by
  have hX := jI_left hI
  have at1 : ∀ (k : Nat) (z : Nat × va_E), (wbig cid u1 u2 u3 u6 u7 u4 u5 h)[k]? = some z → (X ++ wbig cid u1 u2 u3 u6 u7 u4 u5 h)[X.length + k]? = some z := fun k z hk => by
    rw [List.getElem?_append_right (Nat.le_add_right _ _), Nat.add_sub_cancel_left]; exact hk
  have hB : va_P D vwCl (wbig cid u1 u2 u3 u6 u7 u4 u5 h) H := fun k z hk => hI.1 _ _ (at1 k z hk)
  have hBD : va_D (A0 s) (wbig cid u1 u2 u3 u6 u7 u4 u5 h) := ⟨fun i j p q hi hj e9 => by
    have := hI.2.1.1 _ _ _ _ (at1 i p hi) (at1 j q hj) e9
    omega, fun k q hk => hI.2.1.2 _ _ (at1 k q hk)⟩
  obtain ⟨gP, gJ9, gAd⟩ := wasm (D := D) (cid := cid) (adK := adK) (adV := adV) (ss := ss) hB hBD
  have far : ∀ (i j : Nat) (y z : Nat × va_E), X[i]? = some y → (gwl (wE D cid adK adV ss (wad u1 u2 u3 u6 u7 u4 u5 h)) wM0 ())[j]? = some z → y.1 ≠ z.1 := fun i j y z hy hz e9 => by
    obtain ⟨h1, rfl⟩ := gwl_some hz
    have h2 := at1 _ _ (wget (cid := cid) (u1 := u1) (u2 := u2) (u3 := u3) (u6 := u6) (u7 := u7) (u4 := u4) (u5 := u5) (h := h) (D := D) (adK := adK) (adV := adV) (ss := ss) (gup j) h1)
    have hi := (List.getElem?_eq_some_iff.mp hy).1
    have h3 := hI.2.1.1 i _ y _ (by rw [List.getElem?_append_left hi]; exact hy) h2 e9
    omega
  obtain ⟨ad, had⟩ : ∃ ad, ad = wad u1 u2 u3 u6 u7 u4 u5 h := ⟨_, rfl⟩
  have a132 : h = ad 132 := by rw [had]; rfl
  rw [← had] at gP gJ9 gAd far
  have hE : lE s D cid (wE D cid adK adV ss ad) := ⟨hwB.gS0 gJ9 gAd, rfl, rfl, fun q hq => by
    obtain ⟨i, hi, rfl⟩ := hq
    exact gAd i hi⟩
  exact ⟨ad, a132, hE, va_P.app hX.1 gP, va_D.app hX.2.1 ((gD_of hE.1 wM0 ()).weaken (fun _ _ _ h9 => hE.2.2.2 _ h9)) far, hX.2.2⟩
theorem dyn_OF {Ts : List Cond} (hts : ∀ w ∈ Ts, w.before args s = true) {C : String} {T : u_T} {N ci a q0 : Nat} (hin : ∀ w ∈ u_ws C T N, w ∈ Ts) {tys : List (ClassId × FieldType)} (hK : va_K D vwCl tys s) (hP : va_P D vwCl ws H) {fs : List Value} (he : ws[q0]? = some (a, .inr (ci, fs))) (hc : vwCl[ci]? = some (C, T, N)) (k : Nat) (hk : k < N) {v : Value} (hv : fs[k]? = some v) (hA : ¬ A a) : va_OF (T k).1 (T k).2.1 (T k).2.2.1 v a A s H := by
  obtain ⟨r, h1, cell, q1, q2, q3, q4⟩ := hP q0 _ he
  have hr : r = (C, T, N) := Option.some.inj (h1.symm.trans hc)
  subst hr
  obtain ⟨hS, hfc, kC, hkC, hkind⟩ := hK.1 ci _ hc
  obtain ⟨cf, kf, fi, f, hi, hsl⟩ := hS k hk
  refine ⟨cf, kf, fi, f, cell, hi, (u_facts hfc hkC (u_lays hts hin hk) hi).1, q1, (by rw [q3]; exact fun h => (by cases h)), ?_, hA⟩
  rw [hsl, q4 k hk]
  simp [vp_V, hv]
theorem dyn_T {cA : ClassId} {v n : Nat} {f g : Nat → Int32} (hK : ArrOfT s cA .byte) (hP : H[v]? = some (vp_cell cA (n, .inl f))) (hA : ¬ A v) (hfg : ∀ j, j < n → f j = g j) : va_T .byte v n (fun j => .int (g j)) A s H := by
  rw [vp_cell_i] at hP
  refine ⟨_, hP, hK n _, (fun h => by cases h), Nat.le_of_eq (arrV_size _ _ _).symm, by rw [arrV_size], fun j hj => ?_, hA⟩
  rw [arrV_read _ _ hj]
  show some (Value.int (f j)) = _
  rw [hfg j hj]

set_option maxRecDepth 100000 in
set_option maxHeartbeats 4000000 in
theorem l_putDyn {bs : List Int32} {w v n : Nat} {f : Nat → Int32} (hst : l.stackTraces = false) (hC : lC p s m args c cc nL own D cid J) (hE : lE s D cid E) (hI : jI D s (A0 s) X H locs) (hp : X.Perm (gwl E M () ++ ((w, .inr (0, [.ref v, .int 0, .int 0, .int 0])) :: (v, .inl (cid 3, n, .inl f)) :: ws)))
    (hn : n = bs.length) (hf : ∀ j, j < n → f j = bs.getD j 0) (h7 : seven bs) (h60 : bs.length ≤ 60) (hP : pPut bs M = some M') (hp' : (gwl E M' () ++ ((w, .inr (0, [.ref v, .int 0, .int 0, .int 0])) :: (v, .inl (cid 3, n, .inl f)) :: ws)).Perm X') (hl : Cond.methodLink own index yL_put ∈ gU) (hR : 10 ≤ R.frames ∧ 222 ≤ R.locals)
    (hls : ls.size = nL) (hW : (rest.map fun v => v.category).sum ≤ 8) (hdg : decode cc pc = .ok (.invokestatic index, 3)) (hcs : cells + 60 ≤ R.cells ∧ slots + 360 ≤ R.slots)
    (kk : ∀ H1 locs1, jI D s (A0 s) X' H1 locs1 → W p l e R s m args below meth c H1 locs1 (cells + 60) (slots + 360) Q (F0 m (pc + 3) ls rest)) : W p l e R s m args below meth c H locs cells slots Q (F0 m pc ls (.ref w :: .ref (E.2.1 132) :: rest)) := by
  have hg := hC.g hE
  have hN := hC.2
  have hI' := l_in hE hI hp
  have cb := gXB (R := R) (rm := gRX 9 200 60 360) (mc := 60) (ms := 360) (n := 2) hg Y_L_put hl ⟨rfl, rfl⟩ ⟨hR.1, hR.2⟩
  have hiK := hC.1.1.2.2.2.2.2
  obtain ⟨hx, hb, hml, hown, hts, hS0⟩ := hg
  obtain ⟨E', hE'⟩ : ∃ E' : gE, E' = (E.1, E.2.1, E.2.2.1, (fun k => if k = 7 + E.2.2.2.2.2.length then w else E.2.2.2.1 k), (fun k => if k = 7 + E.2.2.2.2.2.length then v else E.2.2.2.2.1 k), E.2.2.2.2.2 ++ [bs]) := ⟨_, rfl⟩
  have i0 : (gwl E M () ++ ((w, .inr (0, [.ref v, .int 0, .int 0, .int 0])) :: (v, .inl (cid 3, n, .inl f)) :: ws))[142]? = some (w, (.inr (0, [.ref v, .int 0, .int 0, .int 0]) : va_E)) := e_get0
  have i1 : (gwl E M () ++ ((w, .inr (0, [.ref v, .int 0, .int 0, .int 0])) :: (v, .inl (cid 3, n, .inl f)) :: ws))[143]? = some (v, (.inl (cid 3, n, .inl f) : va_E)) := by
    rw [List.getElem?_append_right (by rw [gwl_len]; omega), gwl_len]; rfl
  have fa : ∀ (k : Nat) (z : Nat × va_E), 142 ≤ k → (gwl E M () ++ ((w, .inr (0, [.ref v, .int 0, .int 0, .int 0])) :: (v, .inl (cid 3, n, .inl f)) :: ws))[k]? = some z → ¬ gA E z.1 := fun k z hk hz h9 => by
    obtain ⟨i, hi, e9⟩ := h9
    have h3 : (gwl E M () ++ ((w, .inr (0, [.ref v, .int 0, .int 0, .int 0])) :: (v, .inl (cid 3, n, .inl f)) :: ws))[gdn i]? = some (E.2.1 i, gct E (M i) () i) := by
      rw [List.getElem?_append_left (by rw [gwl_len]; exact gdn_lt hi)]; exact gwl_get hi
    have h4 := hI'.2.1.1 _ _ _ _ hz h3 e9
    have := gdn_lt hi
    omega
  have fw := fa 142 _ (by omega) i0
  have fv := fa 143 _ (by omega) i1
  have hPH : va_P E.1 vwCl (gwl E M () ++ ((w, .inr (0, [.ref v, .int 0, .int 0, .int 0])) :: (v, .inl (cid 3, n, .inl f)) :: ws)) H := hI'.1
  rw [hE.2.1] at hPH
  have oS : va_O "java/lang/String" w (gA E) s H := by
    obtain ⟨cell, g1, g2, g3⟩ := va_recv hiK.1 hPH (ci := 0) rfl i0
    exact ⟨cell, g1, g2, g3, fw⟩
  have oV : va_OF "java/lang/String" "value" "[B" (.ref v) w (gA E) s H := dyn_OF hts uJ0' hiK.1 hPH i0 rfl 0 (by decide) rfl fw
  have oC : va_OF "java/lang/String" "coder" "B" (.int 0) w (gA E) s H := dyn_OF hts uJ0' hiK.1 hPH i0 rfl 1 (by decide) rfl fw
  have oT : va_T .byte v n (fun j => .int (bs.getD j 0)) (gA E) s H := dyn_T (hiK.1.2 3 _ rfl).1 (hPH 143 _ i1) fv hf
  have eL : gLs E' = gLs E ++ [bs.length] := by rw [hE']; simp [gLs]
  have eB : gBs E' = gBs E ++ [bs] := by rw [hE']; simp [gBs]
  have lL : (gLs E).length = 7 + E.2.2.2.2.2.length := by simp [gLs, gWl]; omega
  have lB : (gBs E).length = 7 + E.2.2.2.2.2.length := by simp [gBs, gWb]; omega
  have key : ∀ U : State, U.heap = H → s.WarmedH U.vm → gW E' M () U := fun U hU hWm => by
    have h0 := eW_at (E := E) (M := M) hS0 hI' hU hWm
    subst hU
    obtain ⟨h0P, h1, h2, h3, h4, h56, h7', h8, h9, h10, h11, h12⟩ := h0
    have kS : gStr E' (gA E) U U.heap := by
      refine ⟨fun i hi => ?_, fun t ht => ?_⟩
      · rw [eL, eB]
        by_cases q : i = 7 + E.2.2.2.2.2.length
        · have a1 : E'.2.2.2.1 i = w := by rw [hE']; exact if_pos q
          have a2 : E'.2.2.2.2.1 i = v := by rw [hE']; exact if_pos q
          have a3 : (gLs E ++ [bs.length]).getD i 0 = n := by
            rw [List.getD_eq_getElem?_getD, List.getElem?_append_right (by omega), lL, q, Nat.sub_self, hn]; rfl
          have a4 : (gBs E ++ [bs]).getD i [] = bs := by
            rw [List.getD_eq_getElem?_getD, List.getElem?_append_right (by omega), lB, q, Nat.sub_self]; rfl
          rw [a1, a2, a3, a4]
          exact ⟨va_O.moved hWm.alike oS, va_OF.moved hWm.alike oC, va_OF.moved hWm.alike oV, va_T.moved hWm.alike oT⟩
        · have hi' : i < 7 + E.2.2.2.2.2.length := by
            have : i < 7 + E'.2.2.2.2.2.length := hi
            rw [hE'] at this
            simp only [List.length_append, List.length_singleton] at this
            omega
          have a1 : E'.2.2.2.1 i = E.2.2.2.1 i := by rw [hE']; exact if_neg q
          have a2 : E'.2.2.2.2.1 i = E.2.2.2.2.1 i := by rw [hE']; exact if_neg q
          have a3 : (gLs E ++ [bs.length]).getD i 0 = (gLs E).getD i 0 := by
            rw [List.getD_eq_getElem?_getD, List.getD_eq_getElem?_getD, List.getElem?_append_left (by omega)]
          have a4 : (gBs E ++ [bs]).getD i [] = (gBs E).getD i [] := by
            rw [List.getD_eq_getElem?_getD, List.getD_eq_getElem?_getD, List.getElem?_append_left (by omega)]
          rw [a1, a2, a3, a4]
          exact h9.1 i hi'
      · rw [hE'] at ht
        rcases List.mem_append.mp ht with ht | ht
        · exact h9.2 t ht
        · rw [List.mem_singleton] at ht
          subst ht
          exact ⟨by omega, h7⟩
    have kD : ∀ (k : Nat) (q : Nat × String), gWd[k]? = some q → vk_R RX2 q.1 q.2 (E'.2.2.2.1 k) U := fun k q hq => by
      have hk : k < 7 := (List.getElem?_eq_some_iff.mp hq).1
      have a1 : E'.2.2.2.1 k = E.2.2.2.1 k := by rw [hE']; exact if_neg (by omega)
      rw [a1]
      exact h8 k q hq
    rw [hE'] at kS kD ⊢
    exact ⟨h0P, h1, h2, h3, h4, h56, h7', kD, kS, h10, h11, h12⟩
  have hj : E'.2.2.2.2.2[E.2.2.2.2.2.length]? = some bs := by rw [hE']; exact List.getElem?_concat_length
  have aw : E'.2.2.2.1 (7 + E.2.2.2.2.2.length) = w := by rw [hE']; exact if_pos rfl
  have a132 : E'.2.1 132 = E.2.1 132 := by rw [hE']
  have hpre : PreS s H (va_Pc [.ref (E.2.1 132), .ref w] (fun U => gW E' M () U ∧ gNc U)) [.ref (E.2.1 132), .ref w] := ⟨fun a U g mk h => ⟨h.1, (gblind E' M () [.ref (E.2.1 132), .ref w] a U g mk ⟨h.1, h.2.1⟩).2, gNc.same (s := U) (U := U.calling g mk a) rfl h.2.2⟩, fun U hU hWm => ⟨rfl, key U hU hWm, hN.warm hWm⟩⟩
  have con := C_put l hst E' hj h60 hP
  rw [aw, a132] at con
  have hr := va_runS (p := p) (l := l) (e := e) (R := R) (below := below) (meth := meth) (c := c) (locs := locs) (cells := cells) (slots := slots) (As := [.ref (E.2.1 132), .ref w]) (rest := rest) (g := F0 m pc ls (.ref w :: .ref (E.2.1 132) :: rest)) ⟨hx, hb, hml, hown, hts⟩ con ⟨cb, hts _ S_L_put⟩ hpre rfl rfl hls rfl (lv_room hW) hdg hcs
  intro T hT X0
  obtain ⟨v9, st₀, t, T', L, e0, X9, hL, e1, e2, ⟨hv, hg2, hz, hk⟩, st⟩ := hr T hT X0
  cases hv
  rw [e0] at hz hk
  rw [← e1] at hz hk
  have hg3 : va_P E.1 vwCl (gwl E M' ()) T'.heap := by
    have := hg2.1
    rw [hE'] at this
    rw [e1]
    exact this
  have eA : gA E' = gA E := by rw [hE']; rfl
  rw [eA] at hk hL
  obtain ⟨t2, a1, b1⟩ := kk T'.heap (locs ++ L) (l_out hE (e_back hI' hg3 hz hk hL) hp') T' rfl X9
  exact ⟨t2, st t2 a1, b1⟩
end LCC
