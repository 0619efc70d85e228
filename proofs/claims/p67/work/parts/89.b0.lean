/-! Calls of a superclass's methods on a StringBuilder. -/
theorem sb_sel {y : MethodName} {s : State} {args : Array Value} (hy : y.cls = "java/lang/AbstractStringBuilder") (h0 : (Cond.selects "java/lang/StringBuilder" yJ5_isLatin1_aae02 yJ5_isLatin1_aae02).before args s = true) (hpriv : (Cond.privateMethod y).before args s = true) (hinst : (Cond.instanceMethod y).before args s = true) : (Cond.selects "java/lang/StringBuilder" y y).before args s = true := by
  obtain ⟨c, r, m0, hc, hr, hm0, hs0, mk0, hmk0, hni⟩ := Cond.selects_spec h0
  obtain ⟨mk, methM, hnamed, hmethM, -, -⟩ := Cond.instanceMethod_spec hinst
  have hfound : s.methodFound? y.cls y.name y.desc = some mk := State.methodFound?_of_named hnamed (by rw [hy]; decide)
  have hcls : mk.cls = m0.cls := by
    have h1 := findClass_of_methodNamed hnamed
    have h2 := findClass_of_methodNamed hm0
    rw [hy] at h1
    exact Option.some.inj (h1.symm.trans h2)
  have hsel : selectMethod {} s.vm c mk = .method mk := selectMethod_private hmethM (Cond.privateMethod_at hpriv mk methM hnamed hmethM)
  simp only [Cond.before, Cond.holds, Cond.value, hc, hfound, hnamed, hsel, hcls, hmk0]
  simp
  exact hni
section SBC
variable {p : Program} {l : Launch} {e : Env} {R : Room} {s : State} {m : MethodId} {args : Array Value} {below : List Frame} {meth : Method} {c : Code} {H : Heap} {locs : List Loc} {cells slots mc ms : Nat} {Q : State → Prop}
variable {D : va_G} {cid : Nat → ClassId} {J : jA} {A : Nat → Prop} {cc : ByteArray} {own : String} {nL pc : Nat} {wc : va_W} {bx bx0 : List Nat} {ls : Array Slot} {rest st0 As : List Value}
variable {α : Type} {x y : MethodName} {bytes : ByteArray} {maxL n index : Nat} {ret : Option FieldType} {rm : Room} {post : Option Value → α → Prop} {Z : α → va_W}
theorem j_callVC (X : va_W) (C : String) (hC : jC p s m args c cc nL own D cid J A bx0) (hI : jI D s A (X ++ wc) H locs) {b : Nat} (hM : jM l D cid J y (.code y bytes maxL ret) rm (.ref b :: As) wc bx mc ms post Z) (hbx : ∀ y ∈ bx, jBx s H y ∧ ¬ va_A wc H.size y) (hy : gY y bytes maxL ret n) (hi : Cond.instanceMethod y ∈ gU) (hsel : (Cond.selects C y y).before args s = true) (hl : Cond.methodLink own index y ∈ gU) (hr : ∃ cell : Cell, H[b]? = some cell ∧ cell.vm.isStatics = false ∧ s.vm.findClass C = some cell.cls) (h0 : rm.cells = mc ∧ rm.slots = ms) (hR : rm.frames + 1 ≤ R.frames ∧ 8 + (maxL + 11) + rm.locals ≤ R.locals)
    (hn : As.length = n) (hls : ls.size = nL) (hst : st0 = As.reverse ++ .ref b :: rest) (hW : (rest.map fun v => v.category).sum ≤ 8) (hdg : decode cc pc = .ok (.invokevirtual index, 3)) (hcs : cells + mc ≤ R.cells ∧ slots + ms ≤ R.slots)
    (kk : ∀ rv u H1 locs1, post rv u → jI D s A (X ++ Z u) H1 locs1 → (∀ a : Nat, a < H.size → ¬ va_A wc H.size a → H1[a]? = H[a]?) → W p l e R s m args below meth c H1 locs1 (cells + mc) (slots + ms) Q (F0 m (pc + 3) ls (rv.toList ++ rest))) : W p l e R s m args below meth c H locs cells slots Q (F0 m pc ls st0) := by
  have cb := jCB (R := R) hC hy hl h0 hR
  have hC' := hC
  obtain ⟨⟨hx, hb, hml, hown, hts, hK⟩, -, hAn, -⟩ := hC'
  exact j_after hAn hI (va_runV (C := C) (As := As) (rest := rest) ⟨hx, hb, hml, hown, hts⟩ (hM H.size) ⟨cb, hts _ hi, hsel⟩ ⟨j_blind D cid J wc bx H.size _, hr, fun U hU hW => ⟨rfl, j_pre hC hI hbx hU hW⟩⟩ rfl hn hls hst (lv_room hW) hdg hcs) kk
/-- a superclass's method by invokespecial -/
theorem j_callSU (X : va_W) {C : String} {cC : ClassId} (hat : ClassAt s C cC) (hC : jC p s m args c cc nL own D cid J A bx0) (hI : jI D s A (X ++ wc) H locs) {b : Nat} (hM : jM l D cid J y (.code y bytes maxL ret) rm (.ref b :: As) wc bx mc ms post Z) (hbx : ∀ y ∈ bx, jBx s H y ∧ ¬ va_A wc H.size y) (hy : gY y bytes maxL ret n) (hi : Cond.instanceMethod y ∈ gU) (hsm : Cond.sameMethod y.cls y.cls y.name y.desc ∈ gU) (hsu : Cond.superclass own y.cls ∈ gU) (hno : y.name ≠ "<init>") (hl : Cond.methodLink own index y ∈ gU) (hr : ∃ cell : Cell, H[b]? = some cell ∧ cell.vm.isStatics = false ∧ s.vm.findClass C = some cell.cls) (h0 : rm.cells = mc ∧ rm.slots = ms) (hR : rm.frames + 1 ≤ R.frames ∧ 8 + (maxL + 11) + rm.locals ≤ R.locals)
    (hn : As.length = n) (hls : ls.size = nL) (hst : st0 = As.reverse ++ .ref b :: rest) (hW : (rest.map fun v => v.category).sum ≤ 8) (hdg : decode cc pc = .ok (.invokespecial index, 3)) (hcs : cells + mc ≤ R.cells ∧ slots + ms ≤ R.slots)
    (kk : ∀ rv u H1 locs1, post rv u → jI D s A (X ++ Z u) H1 locs1 → (∀ a : Nat, a < H.size → ¬ va_A wc H.size a → H1[a]? = H[a]?) → W p l e R s m args below meth c H1 locs1 (cells + mc) (slots + ms) Q (F0 m (pc + 3) ls (rv.toList ++ rest))) : W p l e R s m args below meth c H locs cells slots Q (F0 m pc ls st0) := by
  have hC' := hC
  obtain ⟨⟨hx, hb, hml, hown, hts, hK⟩, -, hAn, -⟩ := hC'
  have cw : va_CS R s args own index y bytes maxL ret (gWs (.code y bytes maxL ret)) rm mc ms n := by
    refine ⟨⟨h0.1, h0.2, hR.1, hR.2, pay_in hts (gGoodW hy.1), List.mem_cons_self⟩, hts _ hl, hts _ hsm, hts _ hsu, hts _ hi, hts _ hy.2.1, hts _ hy.1, hno, fun sig h => ?_⟩
    have h2 := hy.2.2.2
    rw [h] at h2
    exact (Option.some.inj h2).symm
  exact j_after hAn hI (va_runSU (As := As) (rest := rest) hat ⟨hx, hb, hml, hown, hts⟩ (hM H.size) cw ⟨j_blind D cid J wc bx H.size _, hr, fun U hU hW => ⟨rfl, j_pre hC hI hbx hU hW⟩⟩ rfl hn hls hst (lv_room hW) hdg hcs) kk
/-- a method that overrides the one that is named -/
theorem j_callO (X : va_W) (C : String) (hC : jC p s m args c cc nL own D cid J A bx0) (hI : jI D s A (X ++ wc) H locs) {b : Nat} {b0 : ByteArray} {m0 : Nat} {r0 : Option FieldType} (hM : jM l D cid J y (.code y bytes maxL ret) rm (.ref b :: As) wc bx mc ms post Z) (hbx : ∀ y ∈ bx, jBx s H y ∧ ¬ va_A wc H.size y) (hy : gY y bytes maxL ret n) (hi : Cond.instanceMethod y ∈ gU) (hx1 : Cond.instanceMethod x ∈ gU) (hx2 : Cond.code x b0 m0 r0 ∈ gU) (hxc : x.cls ≠ "java/lang/invoke/MethodHandle" ∧ x.cls ≠ "java/lang/invoke/VarHandle") (hxd : x.desc = y.desc) (hsm : Cond.sameMethod x.cls x.cls x.name x.desc ∈ gU) (hsel : Cond.selects C x y ∈ gU) (hl : Cond.methodLink own index x ∈ gU) (hr : ∃ cell : Cell, H[b]? = some cell ∧ cell.vm.isStatics = false ∧ s.vm.findClass C = some cell.cls) (h0 : rm.cells = mc ∧ rm.slots = ms) (hR : rm.frames + 1 ≤ R.frames ∧ 8 + (maxL + 11) + rm.locals ≤ R.locals)
    (hn : As.length = n) (hls : ls.size = nL) (hst : st0 = As.reverse ++ .ref b :: rest) (hW : (rest.map fun v => v.category).sum ≤ 8) (hdg : decode cc pc = .ok (.invokevirtual index, 3)) (hcs : cells + mc ≤ R.cells ∧ slots + ms ≤ R.slots)
    (kk : ∀ rv u H1 locs1, post rv u → jI D s A (X ++ Z u) H1 locs1 → (∀ a : Nat, a < H.size → ¬ va_A wc H.size a → H1[a]? = H[a]?) → W p l e R s m args below meth c H1 locs1 (cells + mc) (slots + ms) Q (F0 m (pc + 3) ls (rv.toList ++ rest))) : W p l e R s m args below meth c H locs cells slots Q (F0 m pc ls st0) := by
  have hC' := hC
  obtain ⟨⟨hx, hb, hml, hown, hts, hK⟩, -, hAn, -⟩ := hC'
  have cw : va_CU R s args own C x.cls index x y bytes maxL ret (gWs (.code y bytes maxL ret)) rm mc ms n := by
    refine ⟨⟨h0.1, h0.2, hR.1, hR.2, pay_in hts (gGoodW hy.1), List.mem_cons_self⟩, hts _ hy.1, hts _ hy.2.1, hxc, fun sig h => ?_, hts _ hl, hts _ hsm, va_Decl.of (hts _ hx1) (hts _ hx2), hts _ hsel, hts _ hi⟩
    have h2 := hy.2.2.2
    rw [← hxd, h] at h2
    exact (Option.some.inj h2).symm
  exact j_after hAn hI (va_runU (As := As) (rest := rest) ⟨hx, hb, hml, hown, hts⟩ (hM H.size) cw ⟨j_blind D cid J wc bx H.size _, hr, fun U hU hW => ⟨rfl, j_pre hC hI hbx hU hW⟩⟩ rfl hn hls hst (lv_room hW) hdg hcs) kk
end SBC
/-- what a StringBuilder's row holds: the text T, letters of seven bits -/
def sbH (T : List Int32) (cap : Nat) (a : Nat → Int32) : Prop := T.length ≤ cap ∧ (∀ i, i < T.length → a i = T.getD i 0) ∧ ∀ i, ∃ m, m < 128 ∧ a i = nI m
def sbC (need cap : Nat) : Nat := if need ≤ cap then cap else 2 * cap + 2
theorem fit128 : ∀ m : Nat, m < 128 → fits .byte (.int (nI m)) = true := by decide +kernel
theorem sbH.fit {T : List Int32} {cap : Nat} {a : Nat → Int32} (h : sbH T cap a) (i : Nat) : fits .byte (.int (a i)) = true := by
  obtain ⟨m, hm, e⟩ := h.2.2 i
  rw [e]
  exact fit128 m hm
theorem sbH.grow {T : List Int32} {cap cap' : Nat} {a : Nat → Int32} (h : sbH T cap a) (hc : cap ≤ cap') : sbH T cap' (va_cpy a (fun _ => 0) 0 0 cap) := by
  refine ⟨Nat.le_trans h.1 hc, fun i hi => ?_, fun i => ?_⟩
  · rw [pk_cpy_in (by omega) (by have := h.1; omega), show 0 + (i - 0) = i by omega]
    exact h.2.1 i hi
  · by_cases q : i < cap
    · rw [pk_cpy_in (by omega) (by omega), show 0 + (i - 0) = i by omega]
      exact h.2.2 i
    · rw [pk_cpy_out (by omega)]
      exact ⟨0, by decide, rfl⟩
theorem shl0 (v : Int32) : v <<< ((0 : Int32) &&& 31) = v := by simp
theorem shr0 (v : Int32) : v >>> ((0 : Int32) &&& 31) = v := by simp
