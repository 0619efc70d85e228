/-! What the start gives of the tables, the statics and the String constants; laid by wip/p67/gen/s0.py. -/
abbrev wFL : List Cond := flatC (Jvm.Cond.and given_1 narrow_1)
def lss : List (List Int32) := [tx_h325.map nI, tx_h1101.map nI, tx_lv3.map nI, tx_b0.map nI, tx_b1.map nI, tx_b2.map nI, tx_b3.map nI, tx_b4.map nI, tx_b5.map nI, tx_b6.map nI, tx_b7.map nI, tx_b8.map nI, tx_b9.map nI, tx_b10.map nI, zA, zB, zC, ln_B1, ln_B0, ln_S]
def sIx : List Nat := gWd.map Prod.fst ++ [188, 200, 208, 210, 216, 218, 220, 222, 224, 226, 228, 230, 232, 233, 250, 258, 260, 323, 329, 334]
def sLn : List Nat := gWl ++ lss.map List.length
def sBy : List (List Int32) := gWb ++ lss
def sTm (i : Nat) : Term := Term.string (if i < 7 then RX2 else RL) (sIx.getD i 0)
theorem uJx : ∀ w ∈ u_ws RJx00060 TJx00060 6, w ∈ gU := gUin (by decide +kernel)
theorem wm_nf : ∀ q ∈ gNF, Cond.fieldLinkNest q.1 q.2.1 q.2.2.1 q.2.2.2.1 q.2.2.2.2 "ContainerTerminal" ∈ lw_tbl := by decide +kernel
theorem wm_nm : ∀ q ∈ gNM, Cond.methodLinkNest q.1 q.2.1 q.2.2 "ContainerTerminal" ∈ lw_tbl := by decide +kernel
theorem wm_tx : ∀ q ∈ gTx, Cond.stringRef RX6 q.1 q.2 ∈ lw_tbl := by decide +kernel
theorem wm_tx2 : ∀ q ∈ gTx, Cond.exactly (Term.string RX6 q.1) "java/lang/String" ∈ wFL := by decide +kernel
theorem wm_wd : ∀ i, i < 7 → Cond.stringRef RX2 (gWd.getD i (0, "")).1 (gWd.getD i (0, "")).2 ∈ lw_tbl := by decide +kernel
theorem wm_fw : ∀ w ∈ gFw, w ∈ lw_tbl := by decide +kernel
theorem wm_jf : ∀ w ∈ jFw, w ∈ lw_tbl := by decide +kernel
theorem wm_nc : ∀ q ∈ gNcl, Cond.not (Cond.castable q.1 q.2) ∈ wFL := by decide +kernel
theorem wm_l : ∀ w ∈ ([.laysStatic Bundle.tN "UNASSIGNED_STACK" Bundle.steD, .laysStatic Bundle.tN "SUPPRESSED_SENTINEL" Bundle.listD, .laysStatic "java/lang/String" "COMPACT_STRINGS" "Z", .laysStatic "jdk/internal/util/Preconditions" "SIOOBE_FORMATTER" "Ljava/util/function/BiFunction;", .laysStatic "java/util/ArrayList" "DEFAULTCAPACITY_EMPTY_ELEMENTDATA" "[Ljava/lang/Object;", .laysStatic "java/lang/Integer$IntegerCache" "high" "I", .laysStatic "java/lang/Integer$IntegerCache" "cache" "[Ljava/lang/Integer;", .laysStatic "java/lang/Integer" "DigitOnes" "[B", .laysStatic "java/lang/Integer" "DigitTens" "[B", .initialized Bundle.tN, .initialized "java/lang/String", .initialized "jdk/internal/util/Preconditions", .initialized "java/util/ArrayList", .initialized "java/lang/Integer$IntegerCache", .initialized "java/lang/Integer", .arrayClass .int, .arrayClass .char, .arrayClass .byte, .arrayOver (.object "ContainerTerminal$State"), .arrayOver (.object "java/lang/Object"), .declares ⟨"java/lang/Object", "getClass", "()Ljava/lang/Class;"⟩, .fieldLinkNest "java/util/ArrayList$Itr" 28 "java/util/ArrayList" "size" "I" "java/util/ArrayList"] : List Cond), w ∈ lw_tbl := by decide +kernel
theorem wm_n : ∀ w ∈ ([.isRef (.static Bundle.tN "UNASSIGNED_STACK" Bundle.steD), .isRef (.static Bundle.tN "SUPPRESSED_SENTINEL" Bundle.listD), .eq (.static "java/lang/String" "COMPACT_STRINGS" "Z") (.int 1), .isRef (.static "jdk/internal/util/Preconditions" "SIOOBE_FORMATTER" "Ljava/util/function/BiFunction;"), .arrayOf (.static "java/util/ArrayList" "DEFAULTCAPACITY_EMPTY_ELEMENTDATA" "[Ljava/lang/Object;") (.object "java/lang/Object"), .eq (.length (.static "java/util/ArrayList" "DEFAULTCAPACITY_EMPTY_ELEMENTDATA" "[Ljava/lang/Object;")) (.int 0), .eq (.static "java/lang/Integer$IntegerCache" "high" "I") (.int 127), .arrayOf (.static "java/lang/Integer$IntegerCache" "cache" "[Ljava/lang/Integer;") (.object "java/lang/Integer"), .eq (.length (.static "java/lang/Integer$IntegerCache" "cache" "[Ljava/lang/Integer;")) (.int 256), .all (.static "java/lang/Integer$IntegerCache" "cache" "[Ljava/lang/Integer;") (.and (.exactly (.elem (.static "java/lang/Integer$IntegerCache" "cache" "[Ljava/lang/Integer;") (.index 0)) "java/lang/Integer") (.eq (.field (.elem (.static "java/lang/Integer$IntegerCache" "cache" "[Ljava/lang/Integer;") (.index 0)) "java/lang/Integer" "value" "I") (.sub (.index 0) (.int 128)))), .arrayOf (.static "java/lang/Integer" "DigitOnes" "[B") .byte, .eq (.length (.static "java/lang/Integer" "DigitOnes" "[B")) (.int 100), .arrayOf (.static "java/lang/Integer" "DigitTens" "[B") .byte, .eq (.length (.static "java/lang/Integer" "DigitTens" "[B")) (.int 100), .isRef (.mirror jOc)] : List Cond), w ∈ wFL := by decide +kernel
def sPo : List Nat := [514, 507, 521, 530, 540, 552, 562, 765, 785, 806, 817, 823, 833, 845, 856, 870, 874, 886, 893, 906, 917, 922, 945, 950, 977, 991, 999]
theorem wm_s1 : ∀ i, i < 27 → wFL[sPo.getD i 0]? = some (Cond.exactly (sTm i) "java/lang/String") := by decide +kernel
theorem wm_s2 : ∀ i, i < 27 → wFL[sPo.getD i 0 + 1]? = some (Cond.eq (.field (sTm i) "java/lang/String" "coder" "B") (.int 0)) := by decide +kernel
theorem wm_s3 : ∀ i, i < 27 → wFL[sPo.getD i 0 + 2]? = some (Cond.arrayOf (.field (sTm i) "java/lang/String" "value" "[B") .byte) := by decide +kernel
theorem wm_s4 : ∀ i, i < 27 → wFL[sPo.getD i 0 + 3]? = some (Cond.eq (.length (.field (sTm i) "java/lang/String" "value" "[B")) (.int (Int32.ofNat (sLn.getD i 0)))) := by decide +kernel
theorem wm_s5 : ∀ i, i < 27 → ∀ j, j < sLn.getD i 0 → wFL[sPo.getD i 0 + 4 + j]? = some (Cond.eq (.elem (.field (sTm i) "java/lang/String" "value" "[B") (.int (Int32.ofNat j))) (.int ((sBy.getD i []).getD j 0))) := by decide +kernel
theorem wm_d1 : ∀ j, j < 100 → wFL[23 + j]? = some (Cond.eq (.elem (.static "java/lang/Integer" "DigitOnes" "[B") (.int (Int32.ofNat j))) (.int (nI (j % 10 + 48)))) := by decide +kernel
theorem wm_d2 : ∀ j, j < 100 → wFL[126 + j]? = some (Cond.eq (.elem (.static "java/lang/Integer" "DigitTens" "[B") (.int (Int32.ofNat j))) (.int (nI (j / 10 + 48)))) := by decide +kernel
theorem sLn_lt : ∀ i, i < 27 → sLn.getD i 0 < 2 ^ 31 := by decide +kernel
theorem wK_prim {args : Array Value} {s : State} {ty : FieldType} (h : (Cond.arrayClass ty).before args s = true) : ∃ cA, ArrOfT s cA ty ∧ s.vm.findClass ("[" ++ ty.toString) = some cA := by
  obtain ⟨c, k, comp, h1, h2, h3⟩ := Cond.arrayClass_spec h
  exact ⟨c, fun n z => ⟨fun k h => (by cases h), k, h2, comp, h3⟩, h1⟩
theorem wK {args : Array Value} {s : State} (hts : ∀ w ∈ lw_tbl, w.before args s = true) : ∃ (D : va_G) (cid : Nat → ClassId), iK D cid s := by
  have hU : ∀ w ∈ gU, w.before args s = true := fun w hw => hts w (List.mem_filter.mp hw).1
  have hl := fun w hw => hts w (wm_l w hw)
  obtain ⟨c0, i0, k0⟩ := u_known (C := RJ0) (T := TJ0) (N := 4) (n := 4) hU uJ0' (hU _ w1115)
  obtain ⟨c1, i1, k1⟩ := u_known (C := RJ4) (T := TJ4) (N := 4) (n := 4) hU uJ4' (hU _ w1373)
  obtain ⟨c2, i2, k2⟩ := u_known (C := RJ6) (T := TJ6) (N := 1) (n := 1) hU uJ6' (hU _ w1213)
  obtain ⟨c3, i3, k3⟩ := u_known (C := RJx00060) (T := TJx00060) (N := 6) (n := 6) hU uJx (hU _ w1100)
  obtain ⟨c4, i4, k4⟩ := u_known (C := RJx35411) (T := TJx35411) (N := 4) (n := 4) hU uJit (hU _ w1293)
  obtain ⟨c5, i5, k5⟩ := u_known (C := RJx4a65c) (T := TJx4a65c) (N := 3) (n := 3) hU uJli (hU _ w1177)
  obtain ⟨c6, i6, k6⟩ := u_known (C := RX0) (T := TX0) (N := 7) (n := 7) hU uX0 (hU _ w49)
  obtain ⟨c7, i7, k7⟩ := u_known (C := RX1) (T := TX1) (N := 3) (n := 3) hU uX1 (hU _ w128)
  obtain ⟨c8, i8, k8⟩ := u_known (C := RX2) (T := TX2) (N := 3) (n := 3) hU uX2 (hU _ w166)
  obtain ⟨c9, i9, k9⟩ := u_known (C := RX3) (T := TX3) (N := 2) (n := 2) hU uX3 (hU _ w185)
  obtain ⟨c10, i10, k10⟩ := u_known (C := RX4) (T := TX4) (N := 3) (n := 3) hU uX4 (hU _ w148)
  obtain ⟨c11, i11, k11⟩ := u_known (C := RX5) (T := TX5) (N := 11) (n := 11) hU uX5 (hU _ w43)
  obtain ⟨c12, i12, k12⟩ := u_known (C := RX6) (T := TX6) (N := 10) (n := 10) hU uX6 (hU _ w35)
  obtain ⟨aI, tI, nI'⟩ := wK_prim (ty := .int) (hl _ (by decide +kernel))
  obtain ⟨aC, tC, nC⟩ := wK_prim (ty := .char) (hl _ (by decide +kernel))
  obtain ⟨aB, tB, nB⟩ := wK_prim (ty := .byte) (hl _ (by decide +kernel))
  have hOS : (Cond.arrayOver (.object "ContainerTerminal$State")).before args s = true := hl _ (by decide +kernel)
  obtain ⟨compS, aS, kkS, pS1, pS2, pS3, pS4, pS5⟩ := Cond.arrayOver_spec hOS
  have hOJ : (Cond.arrayOver (.object "java/lang/Object")).before args s = true := hl _ (by decide +kernel)
  obtain ⟨compJ, aJ, kkJ, pJ1, pJ2, pJ3, pJ4, pJ5⟩ := Cond.arrayOver_spec hOJ
  refine ⟨(fun k => ([c0, c1, c2, c3, c4, c5, c6, c7, c8, c9, c10, c11, c12] : List Nat).getD k 0, fun k => ([i0, i1, i2, i3, i4, i5, i6, i7, i8, i9, i10, i11, i12] : List (Nat → Nat)).getD k (fun _ => 0)), fun k => ([aI, aC, aS, aB, aJ] : List Nat).getD k 0, ⟨?_, ?_⟩, va_AO.of hOS, fun q hq => va_Nw.of rfl (hts _ (wm_nm q hq))⟩
  · intro k q hq
    match k, hq with
    | 0, hq => cases hq; exact k0
    | 1, hq => cases hq; exact k1
    | 2, hq => cases hq; exact k2
    | 3, hq => cases hq; exact k3
    | 4, hq => cases hq; exact k4
    | 5, hq => cases hq; exact k5
    | 6, hq => cases hq; exact k6
    | 7, hq => cases hq; exact k7
    | 8, hq => cases hq; exact k8
    | 9, hq => cases hq; exact k9
    | 10, hq => cases hq; exact k10
    | 11, hq => cases hq; exact k11
    | 12, hq => cases hq; exact k12
    | k + 13, hq => cases hq
  · intro k q hq
    match k, hq with
    | 0, hq => cases hq; exact ⟨tI, nI'⟩
    | 1, hq => cases hq; exact ⟨tC, nC⟩
    | 2, hq => cases hq; exact ⟨fun n z => ⟨fun k h => (by cases h), kkS, pS3, compS, pS4⟩, kkS, compS, pS3, pS4, pS1, pS5⟩
    | 3, hq => cases hq; exact ⟨tB, nB⟩
    | 4, hq => cases hq; exact ⟨fun n z => ⟨fun k h => (by cases h), kkJ, pJ3, compJ, pJ4⟩, kkJ, compJ, pJ3, pJ4, pJ1, pJ5⟩
    | k + 5, hq => cases hq
theorem str_of {args : Array Value} {s : State} {t : Term} {n : Nat} {bs : List Int32} {A : Nat → Prop} (hn : n < 2 ^ 31) (hex : (Cond.exactly t "java/lang/String").before args s = true) (hco : (Cond.eq (.field t "java/lang/String" "coder" "B") (.int 0)).before args s = true) (har : (Cond.arrayOf (.field t "java/lang/String" "value" "[B") .byte).before args s = true) (hle : (Cond.eq (.length (.field t "java/lang/String" "value" "[B")) (.int (Int32.ofNat n))).before args s = true)
    (hel : ∀ j : Nat, j < n → (Cond.eq (.elem (.field t "java/lang/String" "value" "[B") (.int (Int32.ofNat j))) (.int (bs.getD j 0))).before args s = true) (hA : ∀ a : Nat, a < s.heap.size → ¬ A a) : ∃ q : Nat × Nat, t.eval args s none [] s = some (.ref q.1) ∧ va_O "java/lang/String" q.1 A s s.heap ∧ va_OF "java/lang/String" "coder" "B" (.int 0) q.1 A s s.heap ∧ va_OF "java/lang/String" "value" "[B" (.ref q.2) q.1 A s s.heap ∧ va_T .byte q.2 n (fun j => .int (bs.getD j 0)) A s s.heap := by
  obtain ⟨a, c, cA, kA, q1, -⟩ := Cond.exactly_spec (args := args) (first := s) (o := none) (s := s) (idx := []) (t := t) (cls := "java/lang/String") hex
  obtain ⟨v, hv, hT⟩ := va_Tof (f := fun j => .int (bs.getD j 0)) hn har (va_eqt hle) (fun j hj => va_eqt (hel j hj)) hA
  exact ⟨(a, v), q1, va_Oof hex q1 hA, vk_OFof q1 (va_eqt hco) hA, vk_OFof q1 hv hA, hT⟩
theorem lss_ok : ∀ t ∈ lss, t.length < 1000 ∧ ∀ b ∈ t, ∃ n, n < 128 ∧ b = nI n := by
  have h : lss.all (fun t => decide (t.length < 1000) && t.all (fun b => decide (b.toNatClampNeg < 128 ∧ b = nI b.toNatClampNeg))) = true := by decide +kernel
  intro t ht
  have h1 := List.all_eq_true.mp h t ht
  rw [Bool.and_eq_true] at h1
  exact ⟨of_decide_eq_true h1.1, fun b hb => ⟨_, of_decide_eq_true (List.all_eq_true.mp h1.2 b hb)⟩⟩
/-- the Strings -/
theorem wS_of {args : Array Value} {s : State} {A : Nat → Prop} (hn : ∀ w ∈ wFL, w.before args s = true) (hA : ∀ a : Nat, a < s.heap.size → ¬ A a) (D : va_G) (cid : Nat → ClassId) : ∃ adK adV : Nat → Nat, gStr (wE D cid adK adV lss (fun _ => 0)) A s s.heap ∧ ∀ i, i < 27 → (sTm i).eval args s none [] s = some (.ref (adK i)) := by
  have h0 : ∀ i : Nat, ∃ q : Nat × Nat, i < 27 → (sTm i).eval args s none [] s = some (.ref q.1) ∧ va_O "java/lang/String" q.1 A s s.heap ∧ va_OF "java/lang/String" "coder" "B" (.int 0) q.1 A s s.heap ∧ va_OF "java/lang/String" "value" "[B" (.ref q.2) q.1 A s s.heap ∧ va_T .byte q.2 (sLn.getD i 0) (fun j => .int ((sBy.getD i []).getD j 0)) A s s.heap := fun i => by
    by_cases hi : i < 27
    · obtain ⟨q, hq⟩ := str_of (t := sTm i) (n := sLn.getD i 0) (bs := sBy.getD i []) (A := A) (sLn_lt i hi) (hn _ (List.mem_of_getElem? (wm_s1 i hi))) (hn _ (List.mem_of_getElem? (wm_s2 i hi))) (hn _ (List.mem_of_getElem? (wm_s3 i hi))) (hn _ (List.mem_of_getElem? (wm_s4 i hi))) (fun j hj => hn _ (List.mem_of_getElem? (wm_s5 i hi j hj))) hA
      exact ⟨q, fun _ => hq⟩
    · exact ⟨(0, 0), fun h => absurd h hi⟩
  obtain ⟨q, hq⟩ := Classical.skolem.mp h0
  refine ⟨fun i => (q i).1, fun i => (q i).2, ⟨fun i hi => ?_, lss_ok⟩, fun i hi => (hq i hi).1⟩
  exact (hq i hi).2
theorem wNc_of {args : Array Value} {s : State} (hn : ∀ w ∈ wFL, w.before args s = true) : gNc s := fun q hq => va_Nc.of (hn _ (wm_nc q hq))
theorem wB_of {args : Array Value} {s : State} {A : Nat → Prop} {D : va_G} {cid : Nat → ClassId} {adK adV : Nat → Nat} (hts : ∀ w ∈ lw_tbl, w.before args s = true) (hn : ∀ w ∈ wFL, w.before args s = true) (hA : ∀ a : Nat, a < s.heap.size → ¬ A a) (hK : iK D cid s) (hS : gStr (wE D cid adK adV lss (fun _ => 0)) A s s.heap) (hE : ∀ i, i < 27 → (sTm i).eval args s none [] s = some (.ref (adK i))) : wB D cid adK adV lss A s s.heap := by
  have hl := fun w hw => hts w (wm_l w hw)
  have hm := fun w hw => hn w (wm_n w hw)
  refine ⟨hK, fun q hq => va_Nw.of rfl (hts _ (wm_nf q hq)), ⟨vx_Zqof (hl _ (by decide +kernel)) (hl _ (by decide +kernel)) (hm _ (by decide +kernel)) hA, vx_Zqof (hl _ (by decide +kernel)) (hl _ (by decide +kernel)) (hm _ (by decide +kernel)) hA⟩, fun q hq => ?_, fun k q hq => ?_, hS, fun w hw => va_Nw.of (gFw_ok w hw).1 (hts w (wm_fw w hw)), va_Zof (hl _ (by decide +kernel)) (hl _ (by decide +kernel)) (va_eqt (hm _ (by decide +kernel))) hA, va_Zqof (hl _ (by decide +kernel)) (hl _ (by decide +kernel)) (hm _ (by decide +kernel)) hA⟩
  · obtain ⟨a, c, cA, kA, q1, -⟩ := Cond.exactly_spec (args := args) (first := s) (o := none) (s := s) (idx := []) (t := Term.string RX6 q.1) (cls := "java/lang/String") (hn _ (wm_tx2 q hq))
    exact ⟨a, vk_R.of (hts _ (wm_tx q hq)) q1⟩
  · have hk : k < 7 := (List.getElem?_eq_some_iff.mp hq).1
    have e : gWd.getD k (0, "") = q := by rw [List.getD_eq_getElem?_getD, hq]; rfl
    have h1 := hts _ (wm_wd k hk)
    have h2 := hE k (by omega)
    have e2 : sTm k = Term.string RX2 q.1 := by
      have h9 : ∀ k, k < 7 → sTm k = Term.string RX2 (gWd.getD k (0, "")).1 := by decide +kernel
      rw [h9 k hk, e]
    rw [e2] at h2
    rw [e] at h1
    exact vk_R.of h1 h2
def sJ (adK adV : Nat → Nat) : List (Nat × (Nat × List Int32)) := (List.range 20).map fun j => (adK (7 + j), (adV (7 + j), lss.getD j []))
theorem sLn_7 : ∀ j, j < 20 → sLn.getD (7 + j) 0 = (lss.getD j []).length := by decide +kernel
theorem sBy_7 : ∀ j, j < 20 → sBy.getD (7 + j) [] = lss.getD j [] := by decide +kernel
theorem wJ_of {args : Array Value} {s : State} {A : Nat → Prop} {D : va_G} {cid : Nat → ClassId} {adK adV : Nat → Nat} (hts : ∀ w ∈ lw_tbl, w.before args s = true) (hn : ∀ w ∈ wFL, w.before args s = true) (hA : ∀ a : Nat, a < s.heap.size → ¬ A a) (hS : gStr (wE D cid adK adV lss (fun _ => 0)) A s s.heap) : ∃ J : jA, gJ J A s s.heap ∧ J.2.2.2.2.2.2 = sJ adK adV := by
  have hl := fun w hw => hts w (wm_l w hw)
  have hm := fun w hw => hn w (wm_n w hw)
  obtain ⟨adC, hC, hCe⟩ := vb_Cof (args := args) (s := s) (A := A) (st := (.static "java/lang/Integer$IntegerCache" "cache" "[Ljava/lang/Integer;")) rfl (va_eqt (hm _ (by decide +kernel))) (hm _ (by decide +kernel)) hA
  obtain ⟨a1, v1, T1⟩ := va_Tof (tm := (.static "java/lang/Integer$IntegerCache" "cache" "[Ljava/lang/Integer;")) (ty := .object "java/lang/Integer") (N := 256) (f := fun j => .ref (adC j)) (A := A) (by decide) (hm _ (by decide +kernel)) (va_eqt (hm _ (by decide +kernel))) (fun j hj => hCe j hj) hA
  obtain ⟨a2, v2, T2⟩ := va_Tof (tm := (.static "java/util/ArrayList" "DEFAULTCAPACITY_EMPTY_ELEMENTDATA" "[Ljava/lang/Object;")) (ty := .object "java/lang/Object") (N := 0) (f := fun _ => .null) (A := A) (by decide) (hm _ (by decide +kernel)) (va_eqt (hm _ (by decide +kernel))) (fun j hj => absurd hj (Nat.not_lt_zero _)) hA
  obtain ⟨mi, hmi⟩ := va_Mi.of (hm (.isRef (.mirror jOc)) (by decide +kernel))
  obtain ⟨d1, v3, T3⟩ := va_Tof (tm := (.static "java/lang/Integer" "DigitOnes" "[B")) (ty := .byte) (N := 100) (f := jDg true) (A := A) (by decide) (hm _ (by decide +kernel)) (va_eqt (hm _ (by decide +kernel))) (fun j hj => va_eqt (hn _ (List.mem_of_getElem? (wm_d1 j hj)))) hA
  obtain ⟨d2, v4, T4⟩ := va_Tof (tm := (.static "java/lang/Integer" "DigitTens" "[B")) (ty := .byte) (N := 100) (f := jDg false) (A := A) (by decide) (hm _ (by decide +kernel)) (va_eqt (hm _ (by decide +kernel))) (fun j hj => va_eqt (hn _ (List.mem_of_getElem? (wm_d2 j hj)))) hA
  refine ⟨(adC, (a1, (a2, (mi, (d1, (d2, sJ adK adV)))))), ⟨⟨va_Zof (hl _ (by decide +kernel)) (hl _ (by decide +kernel)) (va_eqt (hm _ (by decide +kernel))) hA, va_Zof (hl _ (by decide +kernel)) (hl _ (by decide +kernel)) v1 hA, T1, hC⟩, ⟨va_Zof (hl _ (by decide +kernel)) (hl _ (by decide +kernel)) v2 hA, T2⟩, ⟨hmi, va_Dc.of (hl _ (by decide +kernel)), va_AO.of (hl _ (by decide +kernel)), va_Nw.of rfl (hl _ (by decide +kernel)), fun w hw => va_Nw.of (jFw_ok w hw).1 (hts w (wm_jf w hw))⟩, ⟨va_Zof (hl _ (by decide +kernel)) (hl _ (by decide +kernel)) v3 hA, T3, va_Zof (hl _ (by decide +kernel)) (hl _ (by decide +kernel)) v4 hA, T4⟩, va_Zof (hl _ (by decide +kernel)) (hl _ (by decide +kernel)) (va_eqt (hm _ (by decide +kernel))) hA, fun q hq => ?_⟩, rfl⟩
  obtain ⟨j, hj, rfl⟩ := List.mem_map.mp hq
  have hj := List.mem_range.mp hj
  obtain ⟨b1, b2, b3, b4⟩ := hS.1 (7 + j) (show 7 + j < 27 by omega)
  have e1 : (gLs (wE D cid adK adV lss (fun _ => 0))).getD (7 + j) 0 = (lss.getD j []).length := sLn_7 j hj
  have e2 : (gBs (wE D cid adK adV lss (fun _ => 0))).getD (7 + j) [] = lss.getD j [] := sBy_7 j hj
  rw [e1, e2] at b4
  exact ⟨b1, b2, b3, b4⟩
