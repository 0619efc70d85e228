/-! What the start gives of the tables, the statics and the String constants. -/
abbrev wFL : List Cond := flatC (Jvm.Cond.and given_1 narrow_1)
def wTm (i : Nat) : Term := Term.string RX2 (gWd.getD i (0, "")).1
theorem uJ0 : ∀ w ∈ u_ws RJ0 TJ0 2, w ∈ gU := gUin (by decide +kernel)
theorem uJx : ∀ w ∈ u_ws RJx00060 TJx00060 6, w ∈ gU := gUin (by decide +kernel)
theorem wm_nf : ∀ q ∈ gNF, Cond.fieldLinkNest q.1 q.2.1 q.2.2.1 q.2.2.2.1 q.2.2.2.2 "ContainerTerminal" ∈ lw_tbl := by decide +kernel
theorem wm_nm : ∀ q ∈ gNM, Cond.methodLinkNest q.1 q.2.1 q.2.2 "ContainerTerminal" ∈ lw_tbl := by decide +kernel
theorem wm_tx : ∀ q ∈ gTx, Cond.stringRef RX6 q.1 q.2 ∈ lw_tbl := by decide +kernel
theorem wm_tx2 : ∀ q ∈ gTx, Cond.exactly (Term.string RX6 q.1) "java/lang/String" ∈ wFL := by decide +kernel
theorem wm_wd : ∀ i, i < 7 → Cond.stringRef RX2 (gWd.getD i (0, "")).1 (gWd.getD i (0, "")).2 ∈ lw_tbl := by decide +kernel
theorem wm_fw : ∀ w ∈ gFw, w ∈ lw_tbl := by decide +kernel
theorem wm_nc : ∀ q ∈ gNcl, Cond.not (Cond.castable q.1 q.2) ∈ wFL := by decide +kernel
theorem wm_l : ∀ w ∈ ([.laysStatic Bundle.tN "UNASSIGNED_STACK" Bundle.steD, .laysStatic Bundle.tN "SUPPRESSED_SENTINEL" Bundle.listD, .laysStatic "java/lang/String" "COMPACT_STRINGS" "Z", .laysStatic "jdk/internal/util/Preconditions" "SIOOBE_FORMATTER" "Ljava/util/function/BiFunction;", .initialized Bundle.tN, .initialized "java/lang/String", .initialized "jdk/internal/util/Preconditions", .arrayClass .int, .arrayClass .char, .arrayClass .long, .arrayClass .double, .arrayOver (.object "ContainerTerminal$State")] : List Cond), w ∈ lw_tbl := by decide +kernel
theorem wm_n : ∀ w ∈ ([.isRef (.static Bundle.tN "UNASSIGNED_STACK" Bundle.steD), .isRef (.static Bundle.tN "SUPPRESSED_SENTINEL" Bundle.listD), .eq (.static "java/lang/String" "COMPACT_STRINGS" "Z") (.int 1), .isRef (.static "jdk/internal/util/Preconditions" "SIOOBE_FORMATTER" "Ljava/util/function/BiFunction;")] : List Cond), w ∈ wFL := by decide +kernel
theorem wm_s1 : ∀ i, i < 7 → Cond.exactly (wTm i) "java/lang/String" ∈ wFL := by decide +kernel
theorem wm_s2 : ∀ i, i < 7 → Cond.eq (.field (wTm i) "java/lang/String" "coder" "B") (.int 0) ∈ wFL := by decide +kernel
theorem wm_s3 : ∀ i, i < 7 → Cond.arrayOf (.field (wTm i) "java/lang/String" "value" "[B") .byte ∈ wFL := by decide +kernel
theorem wm_s4 : ∀ i, i < 7 → Cond.eq (.length (.field (wTm i) "java/lang/String" "value" "[B")) (.int (Int32.ofNat (gWl.getD i 0))) ∈ wFL := by decide +kernel
theorem wm_s5 : ∀ i, i < 7 → ∀ j, j < gWl.getD i 0 → Cond.eq (.elem (.field (wTm i) "java/lang/String" "value" "[B") (.int (Int32.ofNat j))) (.int ((gWb.getD i []).getD j 0)) ∈ wFL := by decide +kernel
theorem wm_s6 : ∀ i, i < 7 → ∀ j, j < 7 → i ≠ j → Cond.not (Cond.eq (wTm i) (wTm j)) ∈ wFL ∨ Cond.not (Cond.eq (wTm j) (wTm i)) ∈ wFL := by decide +kernel
theorem wK_prim {args : Array Value} {s : State} {ty : FieldType} (h : (Cond.arrayClass ty).before args s = true) : ∃ cA, ArrOfT s cA ty ∧ s.vm.findClass ("[" ++ ty.toString) = some cA := by
  obtain ⟨c, k, comp, h1, h2, h3⟩ := Cond.arrayClass_spec h
  exact ⟨c, fun n z => ⟨fun k h => (by cases h), k, h2, comp, h3⟩, h1⟩
theorem wK {args : Array Value} {s : State} (hts : ∀ w ∈ lw_tbl, w.before args s = true) : ∃ (D : va_G) (cid : Nat → ClassId), iK D cid s := by
  have hU : ∀ w ∈ gU, w.before args s = true := fun w hw => hts w (List.mem_filter.mp hw).1
  have hl : ∀ w ∈ ([.laysStatic Bundle.tN "UNASSIGNED_STACK" Bundle.steD, .laysStatic Bundle.tN "SUPPRESSED_SENTINEL" Bundle.listD, .laysStatic "java/lang/String" "COMPACT_STRINGS" "Z", .laysStatic "jdk/internal/util/Preconditions" "SIOOBE_FORMATTER" "Ljava/util/function/BiFunction;", .initialized Bundle.tN, .initialized "java/lang/String", .initialized "jdk/internal/util/Preconditions", .arrayClass .int, .arrayClass .char, .arrayClass .long, .arrayClass .double, .arrayOver (.object "ContainerTerminal$State")] : List Cond), w.before args s = true := fun w hw => hts w (wm_l w hw)
  obtain ⟨c0, i0, k0⟩ := u_known (C := RJ0) (T := TJ0) (N := 2) (n := 4) hU uJ0 (hU _ w515)
  obtain ⟨c1, i1, k1⟩ := u_known (C := RJx00060) (T := TJx00060) (N := 6) (n := 6) hU uJx (hU _ w443)
  obtain ⟨c2, i2, k2⟩ := u_known (C := RX0) (T := TX0) (N := 7) (n := 7) hU uX0 (hU _ w39)
  obtain ⟨c3, i3, k3⟩ := u_known (C := RX1) (T := TX1) (N := 3) (n := 3) hU uX1 (hU _ w118)
  obtain ⟨c4, i4, k4⟩ := u_known (C := RX2) (T := TX2) (N := 3) (n := 3) hU uX2 (hU _ w156)
  obtain ⟨c5, i5, k5⟩ := u_known (C := RX3) (T := TX3) (N := 2) (n := 2) hU uX3 (hU _ w175)
  obtain ⟨c6, i6, k6⟩ := u_known (C := RX4) (T := TX4) (N := 3) (n := 3) hU uX4 (hU _ w138)
  obtain ⟨c7, i7, k7⟩ := u_known (C := RX5) (T := TX5) (N := 11) (n := 11) hU uX5 (hU _ w33)
  obtain ⟨c8, i8, k8⟩ := u_known (C := RX6) (T := TX6) (N := 10) (n := 10) hU uX6 (hU _ w25)
  obtain ⟨c9, i9, k9⟩ := u_known (C := RX7) (T := TX7) (N := 17) (n := 17) hU uX7 (hU _ w1319)
  obtain ⟨aI, tI, nI'⟩ := wK_prim (ty := .int) (hl _ (by decide +kernel))
  obtain ⟨aC, tC, nC⟩ := wK_prim (ty := .char) (hl _ (by decide +kernel))
  obtain ⟨aL, tL, nL⟩ := wK_prim (ty := .long) (hl _ (by decide +kernel))
  obtain ⟨aD, tD, nD⟩ := wK_prim (ty := .double) (hl _ (by decide +kernel))
  have hO : (Cond.arrayOver (.object "ContainerTerminal$State")).before args s = true := hl _ (by decide +kernel)
  obtain ⟨compS, aS, kS, s1, s2, s3, s4, s5⟩ := Cond.arrayOver_spec hO
  refine ⟨(fun k => ([c0, c1, c2, c3, c4, c5, c6, c7, c8, c9] : List Nat).getD k 0, fun k => ([i0, i1, i2, i3, i4, i5, i6, i7, i8, i9] : List (Nat → Nat)).getD k (fun _ => 0)), fun k => ([aI, aC, aS, 0, aL, aD] : List Nat).getD k 0, ⟨?_, ?_⟩, va_AO.of hO, fun q hq => va_Nw.of rfl (hts _ (wm_nm q hq))⟩
  · intro k q hq
    match k, hq with
    | 0, hq => cases hq; exact k0
    | 1, hq => cases hq; exact k1
    | 2, hq => cases hq; exact k2
    | 3, hq => cases hq; exact k3
    | 4, hq => cases hq; exact k4
    | 5, hq => cases hq; exact k5
    | 6, hq => cases hq; exact k6
    | 7, hq => cases hq; exact k7
    | 8, hq => cases hq; exact k8
    | 9, hq => cases hq; exact k9
    | k + 10, hq => cases hq
  · intro k q hq
    match k, hq with
    | 0, hq => cases hq; exact ⟨tI, nI'⟩
    | 1, hq => cases hq; exact ⟨tC, nC⟩
    | 2, hq => cases hq; exact ⟨fun n z => ⟨fun k h => (by cases h), kS, s3, compS, s4⟩, kS, compS, s3, s4, s1, s5⟩
    | 3, hq => cases hq; exact ⟨tL, nL⟩
    | 4, hq => cases hq; exact ⟨tD, nD⟩
    | k + 5, hq => cases hq
/-- the parts of gS0 that speak of what lies there before the law begins -/
def wS1 (adK adV : Nat → Nat) (A : Nat → Prop) (U : State) (H : Heap) : Prop :=
  (vx_Zq Bundle.tN "UNASSIGNED_STACK" Bundle.steD A U H ∧ vx_Zq Bundle.tN "SUPPRESSED_SENTINEL" Bundle.listD A U H) ∧ (∀ q ∈ gTx, ∃ a, vk_R RX6 q.1 q.2 a U) ∧ (∀ (k : Nat) (q : Nat × String), gWd[k]? = some q → vk_R RX2 q.1 q.2 (adK k) U) ∧ vk_S 7 gWl gWb adK adV A U H ∧
  (∀ w ∈ gFw, va_Nw w U) ∧ va_Z "java/lang/String" "COMPACT_STRINGS" "Z" (.int 1) A U H ∧ va_Zq "jdk/internal/util/Preconditions" "SIOOBE_FORMATTER" "Ljava/util/function/BiFunction;" A U H
theorem wS1.narrow {adK adV : Nat → Nat} {A B : Nat → Prop} {U : State} {H : Heap} (h : wS1 adK adV A U H) (hAB : ∀ q, B q → A q) : wS1 adK adV B U H := by
  obtain ⟨⟨h1, h2⟩, h3, h4, h5, h6, h7, h8⟩ := h
  exact ⟨⟨h1.narrow hAB, h2.narrow hAB⟩, h3, h4, h5.narrow hAB, h6, h7.narrow hAB, h8.narrow hAB⟩
theorem wS1_of {args : Array Value} {s : State} {A : Nat → Prop} (hts : ∀ w ∈ lw_tbl, w.before args s = true) (hn : ∀ w ∈ wFL, w.before args s = true) (hA : ∀ a : Nat, a < s.heap.size → ¬ A a) : ∃ adK adV, wS1 adK adV A s s.heap := by
  have hl := fun w hw => hts w (wm_l w hw)
  have hm := fun w hw => hn w (wm_n w hw)
  obtain ⟨adK, adV, h5, h6⟩ := vk_Sof (args := args) (s := s) (N := 7) (tm := wTm) (len := gWl) (byt := gWb) (A := A) (by decide) (fun i hi => hn _ (wm_s1 i hi)) (fun i hi => hn _ (wm_s2 i hi)) (fun i hi => hn _ (wm_s3 i hi)) (fun i hi => hn _ (wm_s4 i hi)) (fun i hi j hj => hn _ (wm_s5 i hi j hj)) (fun i j hi hj hij => (wm_s6 i hi j hj hij).imp (hn _) (hn _)) hA
  refine ⟨adK, adV, ⟨vx_Zqof (hl _ (by decide +kernel)) (hl _ (by decide +kernel)) (hm _ (by decide +kernel)) hA, vx_Zqof (hl _ (by decide +kernel)) (hl _ (by decide +kernel)) (hm _ (by decide +kernel)) hA⟩, fun q hq => ?_, fun k q hq => ?_, h5, fun w hw => va_Nw.of (gFw_ok w hw).1 (hts w (wm_fw w hw)), va_Zof (hl _ (by decide +kernel)) (hl _ (by decide +kernel)) (va_eqt (hm _ (by decide +kernel))) hA, va_Zqof (hl _ (by decide +kernel)) (hl _ (by decide +kernel)) (hm _ (by decide +kernel)) hA⟩
  · obtain ⟨a, c, cA, kA, q1, -⟩ := Cond.exactly_spec (args := args) (first := s) (o := none) (s := s) (idx := []) (t := Term.string RX6 q.1) (cls := "java/lang/String") (hn _ (wm_tx2 q hq))
    exact ⟨a, vk_R.of (hts _ (wm_tx q hq)) q1⟩
  · have hk : k < 7 := (List.getElem?_eq_some_iff.mp hq).1
    have e : gWd.getD k (0, "") = q := by rw [List.getD_eq_getElem?_getD, hq]; rfl
    have h1 := hts _ (wm_wd k hk)
    have h2 := h6 k hk
    unfold wTm at h2
    rw [e] at h1 h2
    exact vk_R.of h1 h2
theorem wNc_of {args : Array Value} {s : State} (hn : ∀ w ∈ wFL, w.before args s = true) : gNc s := fun q hq => va_Nc.of (hn _ (wm_nc q hq))
