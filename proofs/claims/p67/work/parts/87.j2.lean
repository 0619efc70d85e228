/-! ArrayList grows, takes, is gone through; laid by wip/p67/gen/jdk67b.py. -/
theorem Z_J8_newLength_cabcc : gY yJ8_newLength_cabcc cJ8_newLength_cabcc 4 (some .int) 3 := ⟨w1243, w25, ⟨by decide, by decide⟩, by decide +kernel⟩
theorem ZS_J8_newLength_cabcc : Cond.static yJ8_newLength_cabcc ∈ gU := w1242
theorem Z_J7_copyOf_6403c : gY yJ7_copyOf_6403c cJ7_copyOf_6403c 4 (some (.array (.object "java/lang/Object"))) 3 := ⟨w1278, w26, ⟨by decide, by decide⟩, by decide +kernel⟩
theorem ZS_J7_copyOf_6403c : Cond.static yJ7_copyOf_6403c ∈ gU := w1277
theorem jmax {x y : Nat} (h : x ≤ y) (hy : y < 2 ^ 31) : (if nI x < nI y then nI y else nI x) = nI y := by
  by_cases q : nI x < nI y
  · rw [if_pos q]
  · rw [if_neg q]
    have h2 : ¬ x < y := fun z => q (nI_lt z hy)
    rw [show x = y by omega]
theorem dJ8_newLength_cabcc_0 : decode cJ8_newLength_cabcc 0 = .ok (.iload_n 0, 1) := by decide +kernel
theorem dJ8_newLength_cabcc_1 : decode cJ8_newLength_cabcc 1 = .ok (.iload_n 1, 1) := by decide +kernel
theorem dJ8_newLength_cabcc_2 : decode cJ8_newLength_cabcc 2 = .ok (.iload_n 2, 1) := by decide +kernel
theorem dJ8_newLength_cabcc_3 : decode cJ8_newLength_cabcc 3 = .ok (.invokestatic 194, 3) := by decide +kernel
theorem dJ8_newLength_cabcc_6 : decode cJ8_newLength_cabcc 6 = .ok (.iadd, 1) := by decide +kernel
theorem dJ8_newLength_cabcc_7 : decode cJ8_newLength_cabcc 7 = .ok (.istore_n 3, 1) := by decide +kernel
theorem dJ8_newLength_cabcc_8 : decode cJ8_newLength_cabcc 8 = .ok (.iconst 0, 1) := by decide +kernel
theorem dJ8_newLength_cabcc_9 : decode cJ8_newLength_cabcc 9 = .ok (.iload_n 3, 1) := by decide +kernel
theorem dJ8_newLength_cabcc_10 : decode cJ8_newLength_cabcc 10 = .ok (.if_icmp .ge 11, 3) := by decide +kernel
theorem dJ8_newLength_cabcc_13 : decode cJ8_newLength_cabcc 13 = .ok (.iload_n 3, 1) := by decide +kernel
theorem dJ8_newLength_cabcc_14 : decode cJ8_newLength_cabcc 14 = .ok (.ldc 200, 2) := by decide +kernel
theorem dJ8_newLength_cabcc_16 : decode cJ8_newLength_cabcc 16 = .ok (.if_icmp .gt 5, 3) := by decide +kernel
theorem dJ8_newLength_cabcc_19 : decode cJ8_newLength_cabcc 19 = .ok (.iload_n 3, 1) := by decide +kernel
theorem dJ8_newLength_cabcc_20 : decode cJ8_newLength_cabcc 20 = .ok (.ireturn, 1) := by decide +kernel
theorem dJ8_newLength_cabcc_21 : decode cJ8_newLength_cabcc 21 = .ok (.iload_n 0, 1) := by decide +kernel
theorem dJ8_newLength_cabcc_22 : decode cJ8_newLength_cabcc 22 = .ok (.iload_n 1, 1) := by decide +kernel
theorem dJ8_newLength_cabcc_23 : decode cJ8_newLength_cabcc 23 = .ok (.invokestatic 201, 3) := by decide +kernel
theorem dJ8_newLength_cabcc_26 : decode cJ8_newLength_cabcc 26 = .ok (.ireturn, 1) := by decide +kernel
set_option maxRecDepth 100000 in
set_option maxHeartbeats 4000000 in
theorem J_newLength (l : Launch) (D : va_G) (cid : Nat → ClassId) (J : jA) {a b c0 : Nat} (h1 : c0 ≤ b) (h2 : a + b < 2 ^ 30) (h3 : 0 < a + b) : jM l D cid J yJ8_newLength_cabcc (.code yJ8_newLength_cabcc cJ8_newLength_cabcc 4 (some .int)) (gRX 2 60 0 0) [.int (nI a), .int (nI c0), .int (nI b)] ([] : va_W) [] 0 0 (α := Unit) (fun rv _ => rv = some (.int (nI (a + b)))) (fun _ => []) := by
  refine jMet (by decide +kernel) (Nat.le_of_ble_eq_true rfl) ?_
  intro p e s m args below meth c H locs ls Q A hA hC hni hl hI kk
  replace hC : jC p s m args c cJ8_newLength_cabcc 4 "jdk/internal/util/ArraysSupport" D cid J A [] := hC
  replace hl : lv_has ls 4 [(0, .int (nI a)), (1, .int (nI c0)), (2, .int (nI b))] := hl
  replace hI : jI D s A ([] : va_W) H locs := hI
  have hx := hC.1.1
  have hb := hC.1.2.1
  have hown := hC.1.2.2.2.1
  have hts := hC.1.2.2.2.2.1
  have hK := hC.1.2.2.2.2.2.1
  have hAn := hC.2.2.1
  have hJ := hC.2.1
  refine lv_iload_n hx hb dJ8_newLength_cabcc_0 rfl (lv_at hl 0 rfl) ?_
  refine lv_iload_n hx hb dJ8_newLength_cabcc_1 rfl (lv_at hl 1 rfl) ?_
  refine lv_iload_n hx hb dJ8_newLength_cabcc_2 rfl (lv_at hl 2 rfl) ?_
  refine va_mmax hx hb (hC.1.2.2.1.trans hl.1.symm) hown (hts _ w1244) (hts _ w1245) (hts _ w18) (hts _ w1246) (Nat.le_of_ble_eq_true rfl) (Nat.le_of_ble_eq_true rfl) (Nat.le_of_ble_eq_true rfl) (Nat.le_of_ble_eq_true rfl) dJ8_newLength_cabcc_3 ?_
  refine g_top (v := nI b) ((jmax h1 (by omega)).symm) ?_
  refine lv_iadd hx hb dJ8_newLength_cabcc_6 ?_
  refine g_top (v := nI (a + b)) ((nI_add a b).symm) ?_
  refine lv_istore_n (lv' := [(3, .int (nI (a + b))), (0, .int (nI a)), (1, .int (nI c0)), (2, .int (nI b))]) hx hb dJ8_newLength_cabcc_7 rfl hl (by decide) rfl (fun ls hl => ?_)
  refine lv_iconst (v := 0) hx hb dJ8_newLength_cabcc_8 (by decide) ?_
  refine lv_iload_n hx hb dJ8_newLength_cabcc_9 rfl (lv_at hl 0 rfl) ?_
  refine lv_icmp_ge (tgt := 21) hx hb dJ8_newLength_cabcc_10 rfl (fun h => absurd h (show ¬ nI (a + b) ≤ nI 0 from nI_ge h3 (by omega))) (fun _ => ?_)
  refine lv_iload_n hx hb dJ8_newLength_cabcc_13 rfl (lv_at hl 0 rfl) ?_
  refine lv_ldc hx hb hown (hts _ w1247) dJ8_newLength_cabcc_14 ?_
  refine lv_icmp_gt (tgt := 21) hx hb dJ8_newLength_cabcc_16 rfl (fun h => absurd h (show ¬ nI 2147483639 < nI (a + b) from nI_nlt (by omega) (by decide))) (fun _ => ?_)
  refine lv_iload_n hx hb dJ8_newLength_cabcc_19 rfl (lv_at hl 0 rfl) ?_
  exact kk _ () _ _ _ _ _ _ _ rfl rfl hI ⟨Nat.le_of_ble_eq_true rfl, Nat.le_of_ble_eq_true rfl⟩ (Or.inl ⟨_, _, rfl, rfl, (by first | rfl | exact gb_nar _), dJ8_newLength_cabcc_20⟩)
/-- the elements of a row, and where they stand -/
def jEl (f : Nat → Option Nat) (n : Nat) (bx : List Nat) : Prop := ∀ i, i < n → ∃ y, f i = some y ∧ y ∈ bx
theorem jAsgO {U : State} (h : va_Nw (.castable "java/lang/Integer" "java/lang/Object") U) : ∀ comp c0 : ClassId, U.vm.findClass "java/lang/Object" = some comp → U.vm.findClass "java/lang/Integer" = some c0 → U.vm.assignable c0 comp = true := fun comp c0 h1 h2 => by
  obtain ⟨c, t, f1, f2, f3⟩ := Cond.castable_spec h
  cases h1.symm.trans f2
  cases h2.symm.trans f1
  exact f3
theorem jB1 {p : Program} {s : State} {m : MethodId} {args : Array Value} {c : Code} {cc : ByteArray} {nL : Nat} {own : String} {D : va_G} {cid : Nat → ClassId} {J : jA} {A : Nat → Prop} {bx : List Nat} {H : Heap} {locs : List Loc} (hC : jC p s m args c cc nL own D cid J A bx) (hS : va_S A s.heap H locs) {y : Nat} (hy : y ∈ bx) : jBx s H y :=
  (hC.2.2.2 y hy).1.at (hS.2.1 y (hC.2.2.2 y hy).1.lt (hC.2.2.2 y hy).2)
theorem dJ7_copyOf_6403c_0 : decode cJ7_copyOf_6403c 0 = .ok (.aload_n 2, 1) := by decide +kernel
theorem dJ7_copyOf_6403c_1 : decode cJ7_copyOf_6403c 1 = .ok (.ldc 110, 2) := by decide +kernel
theorem dJ7_copyOf_6403c_3 : decode cJ7_copyOf_6403c 3 = .ok (.if_acmp .ne 10, 3) := by decide +kernel
theorem dJ7_copyOf_6403c_6 : decode cJ7_copyOf_6403c 6 = .ok (.iload_n 1, 1) := by decide +kernel
theorem dJ7_copyOf_6403c_7 : decode cJ7_copyOf_6403c 7 = .ok (.anewarray 2, 3) := by decide +kernel
theorem dJ7_copyOf_6403c_10 : decode cJ7_copyOf_6403c 10 = .ok (.goto 14, 3) := by decide +kernel
theorem dJ7_copyOf_6403c_13 : decode cJ7_copyOf_6403c 13 = .ok (.aload_n 2, 1) := by decide +kernel
theorem dJ7_copyOf_6403c_14 : decode cJ7_copyOf_6403c 14 = .ok (.invokevirtual 90, 3) := by decide +kernel
theorem dJ7_copyOf_6403c_17 : decode cJ7_copyOf_6403c 17 = .ok (.iload_n 1, 1) := by decide +kernel
theorem dJ7_copyOf_6403c_18 : decode cJ7_copyOf_6403c 18 = .ok (.invokestatic 95, 3) := by decide +kernel
theorem dJ7_copyOf_6403c_21 : decode cJ7_copyOf_6403c 21 = .ok (.checkcast 110, 3) := by decide +kernel
theorem dJ7_copyOf_6403c_24 : decode cJ7_copyOf_6403c 24 = .ok (.astore_n 3, 1) := by decide +kernel
theorem dJ7_copyOf_6403c_25 : decode cJ7_copyOf_6403c 25 = .ok (.aload_n 0, 1) := by decide +kernel
theorem dJ7_copyOf_6403c_26 : decode cJ7_copyOf_6403c 26 = .ok (.iconst 0, 1) := by decide +kernel
theorem dJ7_copyOf_6403c_27 : decode cJ7_copyOf_6403c 27 = .ok (.aload_n 3, 1) := by decide +kernel
theorem dJ7_copyOf_6403c_28 : decode cJ7_copyOf_6403c 28 = .ok (.iconst 0, 1) := by decide +kernel
theorem dJ7_copyOf_6403c_29 : decode cJ7_copyOf_6403c 29 = .ok (.aload_n 0, 1) := by decide +kernel
theorem dJ7_copyOf_6403c_30 : decode cJ7_copyOf_6403c 30 = .ok (.arraylength, 1) := by decide +kernel
theorem dJ7_copyOf_6403c_31 : decode cJ7_copyOf_6403c 31 = .ok (.iload_n 1, 1) := by decide +kernel
theorem dJ7_copyOf_6403c_32 : decode cJ7_copyOf_6403c 32 = .ok (.invokestatic 304, 3) := by decide +kernel
theorem dJ7_copyOf_6403c_35 : decode cJ7_copyOf_6403c 35 = .ok (.invokestatic 150, 3) := by decide +kernel
theorem dJ7_copyOf_6403c_38 : decode cJ7_copyOf_6403c 38 = .ok (.aload_n 3, 1) := by decide +kernel
theorem dJ7_copyOf_6403c_39 : decode cJ7_copyOf_6403c 39 = .ok (.areturn, 1) := by decide +kernel
set_option maxRecDepth 100000 in
set_option maxHeartbeats 4000000 in
theorem J_copyOf3 (l : Launch) (D : va_G) (cid : Nat → ClassId) (J : jA) {a n k : Nat} {f : Nat → Option Nat} {bx : List Nat} (h1 : n ≤ k) (h2 : k ≤ 40) (hf : jEl f n bx) : jM l D cid J yJ7_copyOf_6403c (.code yJ7_copyOf_6403c cJ7_copyOf_6403c 4 (some (.array (.object "java/lang/Object")))) (gRX 1 80 1 40) [.ref a, .int (nI k), .ref J.2.2.2.1] [(a, .inl (cid 4, n, .inr (.inr (.inr (.inr f)))))] bx 1 40 (α := Nat) (fun rv q => rv = some (.ref q)) (fun q => [(a, .inl (cid 4, n, .inr (.inr (.inr (.inr f))))), (q, .inl (cid 4, k, .inr (.inr (.inr (.inr (va_cpy f (fun _ => none) 0 0 n))))))]) := by
  refine jMet (by decide +kernel) (Nat.le_of_ble_eq_true rfl) ?_
  intro p e s m args below meth c H locs ls Q A hA hC hni hl hI kk
  replace hC : jC p s m args c cJ7_copyOf_6403c 4 "java/util/Arrays" D cid J A bx := hC
  replace hl : lv_has ls 4 [(0, .ref a), (1, .int (nI k)), (2, .ref J.2.2.2.1)] := hl
  replace hI : jI D s A [(a, .inl (cid 4, n, .inr (.inr (.inr (.inr f)))))] H locs := hI
  have hx := hC.1.1
  have hb := hC.1.2.1
  have hown := hC.1.2.2.2.1
  have hts := hC.1.2.2.2.2.1
  have hK := hC.1.2.2.2.2.2.1
  have hAn := hC.2.2.1
  have hJ := hC.2.1
  refine lv_aload_n hx hb dJ7_copyOf_6403c_0 rfl (lv_at hl 2 rfl) ?_
  refine va_ldcM hx hb hown (hts _ w1279) hJ.2.2.1.1 dJ7_copyOf_6403c_1 ?_
  refine lv_acmp_ne (tgt := 13) (rx := some J.2.2.2.1) (ry := some J.2.2.2.1) hx hb dJ7_copyOf_6403c_3 rfl (fun h => absurd rfl h) (fun _ => ?_)
  refine lv_iload_n hx hb dJ7_copyOf_6403c_6 rfl (lv_at hl 1 rfl) ?_
  refine va_newq hx hb hown (hts _ w1281) hJ.2.2.1.2.2.1 hK hI.1 hI.2.1 hI.2.2 hAn (N' := k) (nI_pos (by omega)) (nI_clamp (by omega)) (by omega) (Nat.le_of_ble_eq_true rfl) (show 0 + k ≤ 40 by omega) dJ7_copyOf_6403c_7 (fun q cA H hK1 hP hD hS => ?_)
  have ec := iid_obj hC.1.2.2.2.2.2 cA (hK1.2 5 _ rfl).2
  subst ec
  replace hI : jI D s A [(a, .inl (cid 4, n, .inr (.inr (.inr (.inr f))))), (q, .inl (cid 4, k, .inr (.inr (.inr (.inr (fun _ => none))))))] H locs := ⟨hP, hD, hS⟩
  refine lv_goto (tgt := 24) hx hb dJ7_copyOf_6403c_10 rfl ?_
  refine lv_astore_n (lv' := [(3, .ref q), (0, .ref a), (1, .int (nI k)), (2, .ref J.2.2.2.1)]) hx hb dJ7_copyOf_6403c_24 rfl hl (by decide) rfl (fun ls hl => ?_)
  refine lv_aload_n hx hb dJ7_copyOf_6403c_25 rfl (lv_at hl 1 rfl) ?_
  refine lv_iconst (v := 0) hx hb dJ7_copyOf_6403c_26 (by decide) ?_
  refine lv_aload_n hx hb dJ7_copyOf_6403c_27 rfl (lv_at hl 0 rfl) ?_
  refine lv_iconst (v := 0) hx hb dJ7_copyOf_6403c_28 (by decide) ?_
  refine lv_aload_n hx hb dJ7_copyOf_6403c_29 rfl (lv_at hl 1 rfl) ?_
  refine va_alen hx hb hK hI.1 0 4 rfl rfl (v := nI n) rfl dJ7_copyOf_6403c_30 ?_
  refine lv_iload_n hx hb dJ7_copyOf_6403c_31 rfl (lv_at hl 2 rfl) ?_
  refine va_mmin hx hb (hC.1.2.2.1.trans hl.1.symm) hown (hts _ w1282) (hts _ w1283) (hts _ w18) (hts _ w1284) (Nat.le_of_ble_eq_true rfl) (Nat.le_of_ble_eq_true rfl) (Nat.le_of_ble_eq_true rfl) (show 0 + k ≤ 40 by omega) dJ7_copyOf_6403c_32 ?_
  refine g_top (v := nI n) (by first | (rw [if_neg (nI_nlt h1 (by omega))]; done) | (rw [if_pos (nI_le h1 (by omega))]; done) | (by_cases q : nI k < nI n; · exact absurd q (nI_nlt h1 (by omega)); · rw [if_neg q])) ?_
  refine va_copyq hx hb (hC.1.2.2.1.trans hl.1.symm) hown (hts _ w1285) (hts _ w395) (hts _ w394) (hts _ w17) hK hI.1 hI.2.1 hI.2.2 0 1 4 4 rfl rfl rfl rfl (C := "java/lang/Integer") (by decide) (by decide) (nI_pos (by omega)) (show (0 : Int32).toNatClampNeg + (nI n).toNatClampNeg ≤ n by rw [nI_clamp (by omega)]; exact Nat.le_of_eq (Nat.zero_add n)) (show (0 : Int32).toNatClampNeg + (nI n).toNatClampNeg ≤ k by rw [nI_clamp (by omega), show (0 : Int32).toNatClampNeg = 0 by decide]; omega) (fun i hi y hy => ?_) (jAsgO (hJ.2.2.1.2.2.2.2 _ (by decide +kernel))) (Nat.le_of_ble_eq_true rfl) (Nat.le_of_ble_eq_true rfl) dJ7_copyOf_6403c_35 (fun H locs hP hD hS => ?_)
  · rw [nI_clamp (by omega)] at hi
    obtain ⟨y', h5, h6⟩ := hf i hi
    rw [show (0 : Int32).toNatClampNeg = 0 by decide, Nat.zero_add] at hy
    cases h5.symm.trans hy
    exact jB1 hC hI.2.2 h6
  rw [nI_clamp (show n < 2 ^ 31 by omega), show (0 : Int32).toNatClampNeg = 0 by decide] at hP hD
  replace hI : jI D s A [(a, .inl (cid 4, n, .inr (.inr (.inr (.inr f))))), (q, .inl (cid 4, k, .inr (.inr (.inr (.inr (va_cpy f (fun _ => none) 0 0 n))))))] H locs := ⟨hP, hD, hS⟩
  refine lv_aload_n hx hb dJ7_copyOf_6403c_38 rfl (lv_at hl 0 rfl) ?_
  refine W.widen (show _ ≤ 1 by omega) (show _ ≤ 40 by omega) ?_
  exact kk _ q _ _ _ _ _ _ _ rfl rfl hI ⟨Nat.le_of_ble_eq_true rfl, Nat.le_of_ble_eq_true rfl⟩ (Or.inr (Or.inr ⟨_, _, rfl, rfl, (by first | exact Or.inl ⟨_, rfl⟩ | exact Or.inr ⟨_, rfl⟩), dJ7_copyOf_6403c_39⟩))
