/-! ArrayList: growing, adding, its iterator; laid by wip/p67/gen/jdk67c.py. -/
theorem w1624 : Cond.selects "[Ljava/lang/Object;" ⟨"java/lang/Object", "getClass", "()Ljava/lang/Class;"⟩ ⟨"java/lang/Object", "getClass", "()Ljava/lang/Class;"⟩ ∈ gU := gT 1624 (by decide +kernel) rfl
theorem w1227 : Cond.selects RJx4a65c yJx4a65c_add_9ea2d yJx4a65c_add_9ea2d ∈ gU := gT 1227 (by decide +kernel) rfl
theorem w1196 : Cond.sameField "java/util/ArrayList" "java/util/AbstractList" "modCount" "I" ∈ gU := gT 1196 (by decide +kernel) rfl
theorem w1290 : Cond.selects RJx4a65c yJx4a65c_iterator_32c93 yJx4a65c_iterator_32c93 ∈ gU := gT 1290 (by decide +kernel) rfl
theorem w1332 : Cond.selects RJx35411 yJx35411_checkForComodification_da8c8 yJx35411_checkForComodification_da8c8 ∈ gU := gT 1332 (by decide +kernel) rfl
theorem w1348 : Cond.selects RJ6 yJ6_intValue_8abf5 yJ6_intValue_8abf5 ∈ gU := gT 1348 (by decide +kernel) rfl
theorem Z_J7_copyOf_1904c : gY yJ7_copyOf_1904c cJ7_copyOf_1904c 2 (some (.array (.object "java/lang/Object"))) 2 := ⟨w1253, w26, ⟨by decide, by decide⟩, by decide +kernel⟩
theorem ZS_J7_copyOf_1904c : Cond.static yJ7_copyOf_1904c ∈ gU := w1252
theorem Z_Jx4a65c_grow_92f84 : gY yJx4a65c_grow_92f84 cJx4a65c_grow_92f84 4 (some (.array (.object "java/lang/Object"))) 1 := ⟨w1240, w21, ⟨by decide, by decide⟩, by decide +kernel⟩
theorem ZI_Jx4a65c_grow_92f84 : Cond.instanceMethod yJx4a65c_grow_92f84 ∈ gU := w1239
theorem ZV_Jx4a65c_grow_92f84 : Cond.instanceMethod yJx4a65c_grow_92f84 ∈ gU ∧ Cond.selects yJx4a65c_grow_92f84.cls yJx4a65c_grow_92f84 yJx4a65c_grow_92f84 ∈ gU := ⟨ZI_Jx4a65c_grow_92f84, (gTs 39 (by decide +kernel) rfl)⟩
theorem Z_Jx4a65c_grow_d5877 : gY yJx4a65c_grow_d5877 cJx4a65c_grow_d5877 1 (some (.array (.object "java/lang/Object"))) 0 := ⟨w1236, w21, ⟨by decide, by decide⟩, by decide +kernel⟩
theorem ZI_Jx4a65c_grow_d5877 : Cond.instanceMethod yJx4a65c_grow_d5877 ∈ gU := w1235
theorem ZV_Jx4a65c_grow_d5877 : Cond.instanceMethod yJx4a65c_grow_d5877 ∈ gU ∧ Cond.selects yJx4a65c_grow_d5877.cls yJx4a65c_grow_d5877 yJx4a65c_grow_d5877 ∈ gU := ⟨ZI_Jx4a65c_grow_d5877, (gTs 38 (by decide +kernel) rfl)⟩
theorem Z_Jx4a65c_add_72be8 : gY yJx4a65c_add_72be8 cJx4a65c_add_72be8 4 none 3 := ⟨w1232, w21, ⟨by decide, by decide⟩, by decide +kernel⟩
theorem ZI_Jx4a65c_add_72be8 : Cond.instanceMethod yJx4a65c_add_72be8 ∈ gU := w1231
theorem ZV_Jx4a65c_add_72be8 : Cond.instanceMethod yJx4a65c_add_72be8 ∈ gU ∧ Cond.selects yJx4a65c_add_72be8.cls yJx4a65c_add_72be8 yJx4a65c_add_72be8 ∈ gU := ⟨ZI_Jx4a65c_add_72be8, (gTs 37 (by decide +kernel) rfl)⟩
theorem Z_Jx4a65c_add_9ea2d : gY yJx4a65c_add_9ea2d cJx4a65c_add_9ea2d 2 (some .boolean) 1 := ⟨w1228, w21, ⟨by decide, by decide⟩, by decide +kernel⟩
theorem ZI_Jx4a65c_add_9ea2d : Cond.instanceMethod yJx4a65c_add_9ea2d ∈ gU := w1226
theorem ZV_Jx4a65c_add_9ea2d : Cond.instanceMethod yJx4a65c_add_9ea2d ∈ gU ∧ Cond.selects yJx4a65c_add_9ea2d.cls yJx4a65c_add_9ea2d yJx4a65c_add_9ea2d ∈ gU := ⟨ZI_Jx4a65c_add_9ea2d, w1227⟩
theorem Z_Jx35411_init_45d68 : gY yJx35411_init_45d68 cJx35411_init_45d68 2 none 1 := ⟨w1296, w27, ⟨by decide, by decide⟩, by decide +kernel⟩
theorem ZI_Jx35411_init_45d68 : Cond.instanceMethod yJx35411_init_45d68 ∈ gU := w1295
theorem Z_Jx4a65c_iterator_32c93 : gY yJx4a65c_iterator_32c93 cJx4a65c_iterator_32c93 1 (some (.object "java/util/Iterator")) 0 := ⟨w1291, w21, ⟨by decide, by decide⟩, by decide +kernel⟩
theorem ZI_Jx4a65c_iterator_32c93 : Cond.instanceMethod yJx4a65c_iterator_32c93 ∈ gU := w1289
theorem ZV_Jx4a65c_iterator_32c93 : Cond.instanceMethod yJx4a65c_iterator_32c93 ∈ gU ∧ Cond.selects yJx4a65c_iterator_32c93.cls yJx4a65c_iterator_32c93 yJx4a65c_iterator_32c93 ∈ gU := ⟨ZI_Jx4a65c_iterator_32c93, w1290⟩
theorem Z_Jx35411_hasNext_aae02 : gY yJx35411_hasNext_aae02 cJx35411_hasNext_aae02 1 (some .boolean) 0 := ⟨w1320, w27, ⟨by decide, by decide⟩, by decide +kernel⟩
theorem ZI_Jx35411_hasNext_aae02 : Cond.instanceMethod yJx35411_hasNext_aae02 ∈ gU := w1318
theorem Z_Jx35411_checkForComodification_da8c8 : gY yJx35411_checkForComodification_da8c8 cJx35411_checkForComodification_da8c8 1 none 0 := ⟨w1333, w27, ⟨by decide, by decide⟩, by decide +kernel⟩
theorem ZI_Jx35411_checkForComodification_da8c8 : Cond.instanceMethod yJx35411_checkForComodification_da8c8 ∈ gU := w1331
theorem ZV_Jx35411_checkForComodification_da8c8 : Cond.instanceMethod yJx35411_checkForComodification_da8c8 ∈ gU ∧ Cond.selects yJx35411_checkForComodification_da8c8.cls yJx35411_checkForComodification_da8c8 yJx35411_checkForComodification_da8c8 ∈ gU := ⟨ZI_Jx35411_checkForComodification_da8c8, w1332⟩
theorem Z_Jx35411_next_0502b : gY yJx35411_next_0502b cJx35411_next_0502b 3 (some (.object "java/lang/Object")) 0 := ⟨w1329, w27, ⟨by decide, by decide⟩, by decide +kernel⟩
theorem ZI_Jx35411_next_0502b : Cond.instanceMethod yJx35411_next_0502b ∈ gU := w1327
theorem Z_J6_intValue_8abf5 : gY yJ6_intValue_8abf5 cJ6_intValue_8abf5 1 (some .int) 0 := ⟨w1349, w23, ⟨by decide, by decide⟩, by decide +kernel⟩
theorem ZI_J6_intValue_8abf5 : Cond.instanceMethod yJ6_intValue_8abf5 ∈ gU := w1347
theorem ZV_J6_intValue_8abf5 : Cond.instanceMethod yJ6_intValue_8abf5 ∈ gU ∧ Cond.selects yJ6_intValue_8abf5.cls yJ6_intValue_8abf5 yJ6_intValue_8abf5 ∈ gU := ⟨ZI_J6_intValue_8abf5, w1348⟩
theorem dJ7_copyOf_1904c_0 : decode cJ7_copyOf_1904c 0 = .ok (.aload_n 0, 1) := by decide +kernel
theorem dJ7_copyOf_1904c_1 : decode cJ7_copyOf_1904c 1 = .ok (.iload_n 1, 1) := by decide +kernel
theorem dJ7_copyOf_1904c_2 : decode cJ7_copyOf_1904c 2 = .ok (.aload_n 0, 1) := by decide +kernel
theorem dJ7_copyOf_1904c_3 : decode cJ7_copyOf_1904c 3 = .ok (.invokevirtual 86, 3) := by decide +kernel
theorem dJ7_copyOf_1904c_6 : decode cJ7_copyOf_1904c 6 = .ok (.invokestatic 300, 3) := by decide +kernel
theorem dJ7_copyOf_1904c_9 : decode cJ7_copyOf_1904c 9 = .ok (.areturn, 1) := by decide +kernel
set_option maxRecDepth 100000 in
set_option maxHeartbeats 4000000 in
theorem J_copyOf2 (l : Launch) (D : va_G) (cid : Nat → ClassId) (J : jA) {a n k : Nat} {f : Nat → Option Nat} {bx : List Nat} (h1 : n ≤ k) (h2 : k ≤ 40) (hf : jEl f n bx) : jM l D cid J yJ7_copyOf_1904c (.code yJ7_copyOf_1904c cJ7_copyOf_1904c 2 (some (.array (.object "java/lang/Object")))) (gRX 2 110 1 40) [.ref a, .int (nI k)] [(a, .inl (cid 4, n, .inr (.inr (.inr (.inr f)))))] bx 1 40 (α := Nat) (fun rv q => rv = some (.ref q)) (fun q => [(a, .inl (cid 4, n, .inr (.inr (.inr (.inr f))))), (q, .inl (cid 4, k, .inr (.inr (.inr (.inr (va_cpy f (fun _ => none) 0 0 n))))))]) := by
  refine jMet (by decide +kernel) (Nat.le_of_ble_eq_true rfl) ?_
  intro p e s m args below meth c H locs ls Q A hA hC hni hl hI kk
  replace hC : jC p s m args c cJ7_copyOf_1904c 2 "java/util/Arrays" D cid J A bx := hC
  replace hl : lv_has ls 2 [(0, .ref a), (1, .int (nI k))] := hl
  replace hI : jI D s A [(a, .inl (cid 4, n, .inr (.inr (.inr (.inr f)))))] H locs := hI
  have hx := hC.1.1
  have hb := hC.1.2.1
  have hown := hC.1.2.2.2.1
  have hts := hC.1.2.2.2.2.1
  have hK := hC.1.2.2.2.2.2.1
  have hAn := hC.2.2.1
  have hJ := hC.2.1
  refine lv_aload_n hx hb dJ7_copyOf_1904c_0 rfl (lv_at hl 0 rfl) ?_
  refine lv_iload_n hx hb dJ7_copyOf_1904c_1 rfl (lv_at hl 1 rfl) ?_
  refine lv_aload_n hx hb dJ7_copyOf_1904c_2 rfl (lv_at hl 0 rfl) ?_
  have hrc : ∃ cell : Cell, H[a]? = some cell ∧ cell.vm.isStatics = false ∧ s.vm.findClass jOc = some cell.cls := by
    have h9 := hI.1 0 _ rfl
    obtain ⟨_, _, _, _, _, hn9⟩ := (hK.2 4 _ rfl).2
    exact ⟨_, h9, rfl, hn9⟩
  refine va_getC (C := jOc) hx hb (hC.1.2.2.1.trans hl.1.symm) hown (hts _ w1254) hJ.2.2.1.2.1.use (hts _ w1624) (hts _ w1255) (hts _ w1275) hJ.2.2.1.1 hrc (Nat.le_of_ble_eq_true rfl) (Nat.le_of_ble_eq_true rfl) dJ7_copyOf_1904c_3 ?_
  refine j_callS (rest := []) ([] : va_W) hC hI (J_copyOf3 l D cid J h1 h2 hf) (fun y hy => ⟨jB1 hC hI.2.2 hy, fun h9 => (hC.2.2.2 y hy).2 (jA_in (X := []) hAn hI y h9)⟩) Z_J7_copyOf_6403c ZS_J7_copyOf_6403c w1276 ⟨rfl, rfl⟩ ⟨Nat.le_of_ble_eq_true rfl, Nat.le_of_ble_eq_true rfl⟩ rfl hl.1 rfl (Nat.le_of_ble_eq_true rfl) dJ7_copyOf_1904c_6 ⟨Nat.le_of_ble_eq_true rfl, Nat.le_of_ble_eq_true rfl⟩ (fun rv u H1 locs1 hp hI hk1 => ?_)
  obtain ⟨rfl⟩ := hp
  replace hI : jI D s A [(a, .inl (cid 4, n, .inr (.inr (.inr (.inr f))))), (u, .inl (cid 4, k, .inr (.inr (.inr (.inr (va_cpy f (fun _ => none) 0 0 n))))))] H1 locs1 := hI
  skip
  exact kk _ u _ _ _ _ _ _ _ rfl rfl hI ⟨Nat.le_of_ble_eq_true rfl, Nat.le_of_ble_eq_true rfl⟩ (Or.inr (Or.inr ⟨_, _, rfl, rfl, (by first | exact Or.inl ⟨_, rfl⟩ | exact Or.inr ⟨_, rfl⟩), dJ7_copyOf_1904c_9⟩))
theorem dJx4a65c_grow_92f84_0 : decode cJx4a65c_grow_92f84 0 = .ok (.aload_n 0, 1) := by decide +kernel
theorem dJx4a65c_grow_92f84_1 : decode cJx4a65c_grow_92f84 1 = .ok (.getfield 9, 3) := by decide +kernel
theorem dJx4a65c_grow_92f84_4 : decode cJx4a65c_grow_92f84 4 = .ok (.arraylength, 1) := by decide +kernel
theorem dJx4a65c_grow_92f84_5 : decode cJx4a65c_grow_92f84 5 = .ok (.istore_n 2, 1) := by decide +kernel
theorem dJx4a65c_grow_92f84_6 : decode cJx4a65c_grow_92f84 6 = .ok (.iload_n 2, 1) := by decide +kernel
theorem dJx4a65c_grow_92f84_7 : decode cJx4a65c_grow_92f84 7 = .ok (.ifCond .gt 13, 3) := by decide +kernel
theorem dJx4a65c_grow_92f84_10 : decode cJx4a65c_grow_92f84 10 = .ok (.aload_n 0, 1) := by decide +kernel
theorem dJx4a65c_grow_92f84_11 : decode cJx4a65c_grow_92f84 11 = .ok (.getfield 9, 3) := by decide +kernel
theorem dJx4a65c_grow_92f84_14 : decode cJx4a65c_grow_92f84 14 = .ok (.getstatic 39, 3) := by decide +kernel
theorem dJx4a65c_grow_92f84_17 : decode cJx4a65c_grow_92f84 17 = .ok (.if_acmp .eq 28, 3) := by decide +kernel
theorem dJx4a65c_grow_92f84_20 : decode cJx4a65c_grow_92f84 20 = .ok (.iload_n 2, 1) := by decide +kernel
theorem dJx4a65c_grow_92f84_21 : decode cJx4a65c_grow_92f84 21 = .ok (.iload_n 1, 1) := by decide +kernel
theorem dJx4a65c_grow_92f84_22 : decode cJx4a65c_grow_92f84 22 = .ok (.iload_n 2, 1) := by decide +kernel
theorem dJx4a65c_grow_92f84_23 : decode cJx4a65c_grow_92f84 23 = .ok (.isub, 1) := by decide +kernel
theorem dJx4a65c_grow_92f84_24 : decode cJx4a65c_grow_92f84 24 = .ok (.iload_n 2, 1) := by decide +kernel
theorem dJx4a65c_grow_92f84_25 : decode cJx4a65c_grow_92f84 25 = .ok (.iconst 1, 1) := by decide +kernel
theorem dJx4a65c_grow_92f84_26 : decode cJx4a65c_grow_92f84 26 = .ok (.ishr, 1) := by decide +kernel
theorem dJx4a65c_grow_92f84_27 : decode cJx4a65c_grow_92f84 27 = .ok (.invokestatic 73, 3) := by decide +kernel
theorem dJx4a65c_grow_92f84_30 : decode cJx4a65c_grow_92f84 30 = .ok (.istore_n 3, 1) := by decide +kernel
theorem dJx4a65c_grow_92f84_31 : decode cJx4a65c_grow_92f84 31 = .ok (.aload_n 0, 1) := by decide +kernel
theorem dJx4a65c_grow_92f84_32 : decode cJx4a65c_grow_92f84 32 = .ok (.aload_n 0, 1) := by decide +kernel
theorem dJx4a65c_grow_92f84_33 : decode cJx4a65c_grow_92f84 33 = .ok (.getfield 9, 3) := by decide +kernel
theorem dJx4a65c_grow_92f84_36 : decode cJx4a65c_grow_92f84 36 = .ok (.iload_n 3, 1) := by decide +kernel
theorem dJx4a65c_grow_92f84_37 : decode cJx4a65c_grow_92f84 37 = .ok (.invokestatic 66, 3) := by decide +kernel
theorem dJx4a65c_grow_92f84_40 : decode cJx4a65c_grow_92f84 40 = .ok (.dup_x1, 1) := by decide +kernel
theorem dJx4a65c_grow_92f84_41 : decode cJx4a65c_grow_92f84 41 = .ok (.putfield 9, 3) := by decide +kernel
theorem dJx4a65c_grow_92f84_44 : decode cJx4a65c_grow_92f84 44 = .ok (.areturn, 1) := by decide +kernel
theorem dJx4a65c_grow_92f84_45 : decode cJx4a65c_grow_92f84 45 = .ok (.aload_n 0, 1) := by decide +kernel
theorem dJx4a65c_grow_92f84_46 : decode cJx4a65c_grow_92f84 46 = .ok (.bipush 10, 2) := by decide +kernel
theorem dJx4a65c_grow_92f84_48 : decode cJx4a65c_grow_92f84 48 = .ok (.iload_n 1, 1) := by decide +kernel
theorem dJx4a65c_grow_92f84_49 : decode cJx4a65c_grow_92f84 49 = .ok (.invokestatic 79, 3) := by decide +kernel
theorem dJx4a65c_grow_92f84_52 : decode cJx4a65c_grow_92f84 52 = .ok (.anewarray 7, 3) := by decide +kernel
theorem dJx4a65c_grow_92f84_55 : decode cJx4a65c_grow_92f84 55 = .ok (.dup_x1, 1) := by decide +kernel
theorem dJx4a65c_grow_92f84_56 : decode cJx4a65c_grow_92f84 56 = .ok (.putfield 9, 3) := by decide +kernel
theorem dJx4a65c_grow_92f84_59 : decode cJx4a65c_grow_92f84 59 = .ok (.areturn, 1) := by decide +kernel
set_option maxRecDepth 100000 in
set_option maxHeartbeats 4000000 in
theorem J_grow1e (l : Launch) (D : va_G) (cid : Nat → ClassId) (J : jA) {q : Nat} {md sz : Int32} : jM l D cid J yJx4a65c_grow_92f84 (.code yJx4a65c_grow_92f84 cJx4a65c_grow_92f84 4 (some (.array (.object "java/lang/Object")))) (gRX 2 110 1 10) [.ref q, .int 1] [(q, .inr (5, [.int md, .ref J.2.2.1, .int sz]))] [] 1 10 (α := Nat) (fun rv r => rv = some (.ref r)) (fun r => [(q, .inr (5, [.int md, .ref r, .int sz])), (r, .inl (cid 4, 10, .inr (.inr (.inr (.inr (fun _ => none))))))]) := by
  refine jMet (by decide +kernel) (Nat.le_of_ble_eq_true rfl) ?_
  intro p e s m args below meth c H locs ls Q A hA hC hni hl hI kk
  replace hC : jC p s m args c cJx4a65c_grow_92f84 4 "java/util/ArrayList" D cid J A [] := hC
  replace hl : lv_has ls 4 [(0, .ref q), (1, .int 1)] := hl
  replace hI : jI D s A [(q, .inr (5, [.int md, .ref J.2.2.1, .int sz]))] H locs := hI
  have hx := hC.1.1
  have hb := hC.1.2.1
  have hown := hC.1.2.2.2.1
  have hts := hC.1.2.2.2.2.1
  have hK := hC.1.2.2.2.2.2.1
  have hAn := hC.2.2.1
  have hJ := hC.2.1
  refine lv_aload_n hx hb dJx4a65c_grow_92f84_0 rfl (lv_at hl 0 rfl) ?_
  refine va_get (D := D) (ci := 5) (v := .ref J.2.2.1) hx hb hts uJli hown hK hI.1 0 rfl rfl 1 (by decide) (hts _ w1190) (fun _ h9 => h9) rfl dJx4a65c_grow_92f84_1 ?_
  refine va_tlen hx hb hJ.2.1.2 hI.2.2 (v := 0) rfl dJx4a65c_grow_92f84_4 ?_
  refine lv_istore_n (lv' := [(2, .int 0), (0, .ref q), (1, .int 1)]) hx hb dJx4a65c_grow_92f84_5 rfl hl (by decide) rfl (fun ls hl => ?_)
  refine lv_iload_n hx hb dJx4a65c_grow_92f84_6 rfl (lv_at hl 0 rfl) ?_
  refine lv_if_gt (tgt := 20) hx hb dJx4a65c_grow_92f84_7 rfl (fun h => absurd h (by decide)) (fun _ => ?_)
  refine lv_aload_n hx hb dJx4a65c_grow_92f84_10 rfl (lv_at hl 1 rfl) ?_
  refine va_get (D := D) (ci := 5) (v := .ref J.2.2.1) hx hb hts uJli hown hK hI.1 0 rfl rfl 1 (by decide) (hts _ w1190) (fun _ h9 => h9) rfl dJx4a65c_grow_92f84_11 ?_
  refine va_gets hx hb hJ.2.1.1 hI.2.2 hown (hts _ w1188) (fun _ h9 => h9) dJx4a65c_grow_92f84_14 ?_
  refine lv_acmp_eq (tgt := 45) (rx := some J.2.2.1) (ry := some J.2.2.1) hx hb dJx4a65c_grow_92f84_17 rfl (fun _ => ?_) (fun h => absurd rfl h)
  refine lv_aload_n hx hb dJx4a65c_grow_92f84_45 rfl (lv_at hl 1 rfl) ?_
  refine lv_bipush (v := 10) hx hb dJx4a65c_grow_92f84_46 (by decide) ?_
  refine lv_iload_n hx hb dJx4a65c_grow_92f84_48 rfl (lv_at hl 2 rfl) ?_
  refine va_mmax hx hb (hC.1.2.2.1.trans hl.1.symm) hown (hts _ w1286) (hts _ w1245) (hts _ w18) (hts _ w1246) (Nat.le_of_ble_eq_true rfl) (Nat.le_of_ble_eq_true rfl) (Nat.le_of_ble_eq_true rfl) (Nat.le_of_ble_eq_true rfl) dJx4a65c_grow_92f84_49 ?_
  refine g_top (v := 10) (by decide) ?_
  refine va_newq hx hb hown (hts _ w1287) hJ.2.2.1.2.2.1 hK hI.1 hI.2.1 hI.2.2 hAn (N' := 10) (by decide) rfl (by decide) (Nat.le_of_ble_eq_true rfl) (Nat.le_of_ble_eq_true rfl) dJx4a65c_grow_92f84_52 (fun r cA H hK1 hP hD hS => ?_)
  have ec := iid_obj hC.1.2.2.2.2.2 cA (hK1.2 5 _ rfl).2
  subst ec
  replace hI : jI D s A [(q, .inr (5, [.int md, .ref J.2.2.1, .int sz])), (r, .inl (cid 4, 10, .inr (.inr (.inr (.inr (fun _ => none))))))] H locs := ⟨hP, hD, hS⟩
  refine lv_dup_x1 hx hb dJx4a65c_grow_92f84_55 rfl rfl ?_
  refine va_put hx hb hts uJli tyJx4a65c tyJx4a65c_ok nmJx4a65c hown hK hI.1 hI.2.1 hI.2.2 0 (by rfl) rfl 1 (by decide) (hts _ w1190) (fun _ h9 => h9) rfl (ty := .array (.object "java/lang/Object")) (by decide +kernel) rfl rfl (Nat.le_of_ble_eq_true rfl) dJx4a65c_grow_92f84_56 (fun H locs hP hD hS => ?_)
  replace hI : jI D s A [(q, .inr (5, [.int md, .ref r, .int sz])), (r, .inl (cid 4, 10, .inr (.inr (.inr (.inr (fun _ => none))))))] H locs := ⟨hP, hD, hS⟩
  exact kk _ r _ _ _ _ _ _ _ rfl rfl hI ⟨Nat.le_of_ble_eq_true rfl, Nat.le_of_ble_eq_true rfl⟩ (Or.inr (Or.inr ⟨_, _, rfl, rfl, (by first | exact Or.inl ⟨_, rfl⟩ | exact Or.inr ⟨_, rfl⟩), dJx4a65c_grow_92f84_59⟩))
set_option maxRecDepth 100000 in
set_option maxHeartbeats 4000000 in
theorem J_grow1g (l : Launch) (D : va_G) (cid : Nat → ClassId) (J : jA) {q a : Nat} {md : Int32} {f : Nat → Option Nat} {bx : List Nat} (hf : jEl f 10 bx) : jM l D cid J yJx4a65c_grow_92f84 (.code yJx4a65c_grow_92f84 cJx4a65c_grow_92f84 4 (some (.array (.object "java/lang/Object")))) (gRX 3 140 1 40) [.ref q, .int (nI 11)] [(q, .inr (5, [.int md, .ref a, .int (nI 10)])), (a, .inl (cid 4, 10, .inr (.inr (.inr (.inr f)))))] bx 1 40 (α := Nat) (fun rv r => rv = some (.ref r)) (fun r => [(q, .inr (5, [.int md, .ref r, .int (nI 10)])), (a, .inl (cid 4, 10, .inr (.inr (.inr (.inr f))))), (r, .inl (cid 4, 15, .inr (.inr (.inr (.inr (va_cpy f (fun _ => none) 0 0 10))))))]) := by
  refine jMet (by decide +kernel) (Nat.le_of_ble_eq_true rfl) ?_
  intro p e s m args below meth c H locs ls Q A hA hC hni hl hI kk
  replace hC : jC p s m args c cJx4a65c_grow_92f84 4 "java/util/ArrayList" D cid J A bx := hC
  replace hl : lv_has ls 4 [(0, .ref q), (1, .int (nI 11))] := hl
  replace hI : jI D s A [(q, .inr (5, [.int md, .ref a, .int (nI 10)])), (a, .inl (cid 4, 10, .inr (.inr (.inr (.inr f)))))] H locs := hI
  have hx := hC.1.1
  have hb := hC.1.2.1
  have hown := hC.1.2.2.2.1
  have hts := hC.1.2.2.2.2.1
  have hK := hC.1.2.2.2.2.2.1
  have hAn := hC.2.2.1
  have hJ := hC.2.1
  refine lv_aload_n hx hb dJx4a65c_grow_92f84_0 rfl (lv_at hl 0 rfl) ?_
  refine va_get (D := D) (ci := 5) (v := .ref a) hx hb hts uJli hown hK hI.1 0 rfl rfl 1 (by decide) (hts _ w1190) (fun _ h9 => h9) rfl dJx4a65c_grow_92f84_1 ?_
  refine va_alen hx hb hK hI.1 1 4 rfl rfl (v := nI 10) rfl dJx4a65c_grow_92f84_4 ?_
  refine lv_istore_n (lv' := [(2, .int (nI 10)), (0, .ref q), (1, .int (nI 11))]) hx hb dJx4a65c_grow_92f84_5 rfl hl (by decide) rfl (fun ls hl => ?_)
  refine lv_iload_n hx hb dJx4a65c_grow_92f84_6 rfl (lv_at hl 0 rfl) ?_
  refine lv_if_gt (tgt := 20) hx hb dJx4a65c_grow_92f84_7 rfl (fun _ => ?_) (fun h => absurd (by decide) h)
  refine lv_iload_n hx hb dJx4a65c_grow_92f84_20 rfl (lv_at hl 0 rfl) ?_
  refine lv_iload_n hx hb dJx4a65c_grow_92f84_21 rfl (lv_at hl 2 rfl) ?_
  refine lv_iload_n hx hb dJx4a65c_grow_92f84_22 rfl (lv_at hl 0 rfl) ?_
  refine lv_isub hx hb dJx4a65c_grow_92f84_23 ?_
  refine g_top (v := nI 1) (by decide) ?_
  refine lv_iload_n hx hb dJx4a65c_grow_92f84_24 rfl (lv_at hl 0 rfl) ?_
  refine lv_iconst (v := 1) hx hb dJx4a65c_grow_92f84_25 (by decide) ?_
  refine lv_ishr hx hb dJx4a65c_grow_92f84_26 ?_
  refine g_top (v := nI 5) (by decide) ?_
  refine j_callS (rest := []) [(q, .inr (5, [.int md, .ref a, .int (nI 10)])), (a, .inl (cid 4, 10, .inr (.inr (.inr (.inr f)))))] hC hI (J_newLength l D cid J (a := 10) (b := 5) (c0 := 1) (by decide) (by decide) (by decide)) (fun _ h => absurd h List.not_mem_nil) Z_J8_newLength_cabcc ZS_J8_newLength_cabcc w1241 ⟨rfl, rfl⟩ ⟨Nat.le_of_ble_eq_true rfl, Nat.le_of_ble_eq_true rfl⟩ rfl hl.1 rfl (Nat.le_of_ble_eq_true rfl) dJx4a65c_grow_92f84_27 ⟨Nat.le_of_ble_eq_true rfl, Nat.le_of_ble_eq_true rfl⟩ (fun rv u H1 locs1 hp hI hk1 => ?_)
  obtain ⟨rfl⟩ := hp
  replace hI : jI D s A [(q, .inr (5, [.int md, .ref a, .int (nI 10)])), (a, .inl (cid 4, 10, .inr (.inr (.inr (.inr f)))))] H1 locs1 := hI
  skip
  refine lv_istore_n (lv' := [(3, .int (nI 15)), (2, .int (nI 10)), (0, .ref q), (1, .int (nI 11))]) hx hb dJx4a65c_grow_92f84_30 rfl hl (by decide) rfl (fun ls hl => ?_)
  refine lv_aload_n hx hb dJx4a65c_grow_92f84_31 rfl (lv_at hl 2 rfl) ?_
  refine lv_aload_n hx hb dJx4a65c_grow_92f84_32 rfl (lv_at hl 2 rfl) ?_
  refine va_get (D := D) (ci := 5) (v := .ref a) hx hb hts uJli hown hK hI.1 0 rfl rfl 1 (by decide) (hts _ w1190) (fun _ h9 => h9) rfl dJx4a65c_grow_92f84_33 ?_
  refine lv_iload_n hx hb dJx4a65c_grow_92f84_36 rfl (lv_at hl 0 rfl) ?_
  refine j_callS (rest := [.ref q]) [(q, .inr (5, [.int md, .ref a, .int (nI 10)]))] hC hI (J_copyOf2 l D cid J (k := 15) (by decide) (by decide) hf) (fun y hy => ⟨jB1 hC hI.2.2 hy, fun h9 => (hC.2.2.2 y hy).2 (jA_in (X := [(q, .inr (5, [.int md, .ref a, .int (nI 10)]))]) hAn hI y h9)⟩) Z_J7_copyOf_1904c ZS_J7_copyOf_1904c w1251 ⟨rfl, rfl⟩ ⟨Nat.le_of_ble_eq_true rfl, Nat.le_of_ble_eq_true rfl⟩ rfl hl.1 rfl (Nat.le_of_ble_eq_true rfl) dJx4a65c_grow_92f84_37 ⟨Nat.le_of_ble_eq_true rfl, Nat.le_of_ble_eq_true rfl⟩ (fun rv u H1 locs1 hp hI hk1 => ?_)
  obtain ⟨rfl⟩ := hp
  replace hI : jI D s A [(q, .inr (5, [.int md, .ref a, .int (nI 10)])), (a, .inl (cid 4, 10, .inr (.inr (.inr (.inr f))))), (u, .inl (cid 4, 15, .inr (.inr (.inr (.inr (va_cpy f (fun _ => none) 0 0 10))))))] H1 locs1 := hI
  skip
  refine lv_dup_x1 hx hb dJx4a65c_grow_92f84_40 rfl rfl ?_
  refine va_put hx hb hts uJli tyJx4a65c tyJx4a65c_ok nmJx4a65c hown hK hI.1 hI.2.1 hI.2.2 0 (by rfl) rfl 1 (by decide) (hts _ w1190) (fun _ h9 => h9) rfl (ty := .array (.object "java/lang/Object")) (by decide +kernel) rfl rfl (Nat.le_of_ble_eq_true rfl) dJx4a65c_grow_92f84_41 (fun H locs hP hD hS => ?_)
  replace hI : jI D s A [(q, .inr (5, [.int md, .ref u, .int (nI 10)])), (a, .inl (cid 4, 10, .inr (.inr (.inr (.inr f))))), (u, .inl (cid 4, 15, .inr (.inr (.inr (.inr (va_cpy f (fun _ => none) 0 0 10))))))] H locs := ⟨hP, hD, hS⟩
  exact kk _ u _ _ _ _ _ _ _ rfl rfl hI ⟨Nat.le_of_ble_eq_true rfl, Nat.le_of_ble_eq_true rfl⟩ (Or.inr (Or.inr ⟨_, _, rfl, rfl, (by first | exact Or.inl ⟨_, rfl⟩ | exact Or.inr ⟨_, rfl⟩), dJx4a65c_grow_92f84_44⟩))
theorem dJx4a65c_grow_d5877_0 : decode cJx4a65c_grow_d5877 0 = .ok (.aload_n 0, 1) := by decide +kernel
theorem dJx4a65c_grow_d5877_1 : decode cJx4a65c_grow_d5877 1 = .ok (.aload_n 0, 1) := by decide +kernel
theorem dJx4a65c_grow_d5877_2 : decode cJx4a65c_grow_d5877 2 = .ok (.getfield 48, 3) := by decide +kernel
theorem dJx4a65c_grow_d5877_5 : decode cJx4a65c_grow_d5877 5 = .ok (.iconst 1, 1) := by decide +kernel
theorem dJx4a65c_grow_d5877_6 : decode cJx4a65c_grow_d5877 6 = .ok (.iadd, 1) := by decide +kernel
theorem dJx4a65c_grow_d5877_7 : decode cJx4a65c_grow_d5877 7 = .ok (.invokevirtual 69, 3) := by decide +kernel
theorem dJx4a65c_grow_d5877_10 : decode cJx4a65c_grow_d5877 10 = .ok (.areturn, 1) := by decide +kernel
set_option maxRecDepth 100000 in
set_option maxHeartbeats 4000000 in
theorem J_grow0e (l : Launch) (D : va_G) (cid : Nat → ClassId) (J : jA) {q : Nat} {md : Int32} : jM l D cid J yJx4a65c_grow_d5877 (.code yJx4a65c_grow_d5877 cJx4a65c_grow_d5877 1 (some (.array (.object "java/lang/Object")))) (gRX 3 140 1 10) [.ref q] [(q, .inr (5, [.int md, .ref J.2.2.1, .int (nI 0)]))] [] 1 10 (α := Nat) (fun rv r => rv = some (.ref r)) (fun r => [(q, .inr (5, [.int md, .ref r, .int (nI 0)])), (r, .inl (cid 4, 10, .inr (.inr (.inr (.inr (fun _ => none))))))]) := by
  refine jMet (by decide +kernel) (Nat.le_of_ble_eq_true rfl) ?_
  intro p e s m args below meth c H locs ls Q A hA hC hni hl hI kk
  replace hC : jC p s m args c cJx4a65c_grow_d5877 1 "java/util/ArrayList" D cid J A [] := hC
  replace hl : lv_has ls 1 [(0, .ref q)] := hl
  replace hI : jI D s A [(q, .inr (5, [.int md, .ref J.2.2.1, .int (nI 0)]))] H locs := hI
  have hx := hC.1.1
  have hb := hC.1.2.1
  have hown := hC.1.2.2.2.1
  have hts := hC.1.2.2.2.2.1
  have hK := hC.1.2.2.2.2.2.1
  have hAn := hC.2.2.1
  have hJ := hC.2.1
  refine lv_aload_n hx hb dJx4a65c_grow_d5877_0 rfl (lv_at hl 0 rfl) ?_
  refine lv_aload_n hx hb dJx4a65c_grow_d5877_1 rfl (lv_at hl 0 rfl) ?_
  refine va_get (D := D) (ci := 5) (v := .int (nI 0)) hx hb hts uJli hown hK hI.1 0 rfl rfl 2 (by decide) (hts _ w1193) (fun _ h9 => h9) rfl dJx4a65c_grow_d5877_2 ?_
  refine lv_iconst (v := 1) hx hb dJx4a65c_grow_d5877_5 (by decide) ?_
  refine lv_iadd hx hb dJx4a65c_grow_d5877_6 ?_
  refine g_top (v := 1) (by decide) ?_
  refine j_callV (rest := []) ([] : va_W) hC hI (J_grow1e l D cid J (md := md) (sz := nI 0)) (fun _ h => absurd h List.not_mem_nil) Z_Jx4a65c_grow_92f84 ZV_Jx4a65c_grow_92f84 w1237 (va_recv hK hI.1 (ci := 5) rfl (q0 := 0) rfl) ⟨rfl, rfl⟩ ⟨Nat.le_of_ble_eq_true rfl, Nat.le_of_ble_eq_true rfl⟩ rfl hl.1 rfl (Nat.le_of_ble_eq_true rfl) dJx4a65c_grow_d5877_7 ⟨Nat.le_of_ble_eq_true rfl, Nat.le_of_ble_eq_true rfl⟩ (fun rv u H1 locs1 hp hI hk1 => ?_)
  obtain ⟨rfl⟩ := hp
  replace hI : jI D s A [(q, .inr (5, [.int md, .ref u, .int (nI 0)])), (u, .inl (cid 4, 10, .inr (.inr (.inr (.inr (fun _ => none))))))] H1 locs1 := hI
  skip
  exact kk _ u _ _ _ _ _ _ _ rfl rfl hI ⟨Nat.le_of_ble_eq_true rfl, Nat.le_of_ble_eq_true rfl⟩ (Or.inr (Or.inr ⟨_, _, rfl, rfl, (by first | exact Or.inl ⟨_, rfl⟩ | exact Or.inr ⟨_, rfl⟩), dJx4a65c_grow_d5877_10⟩))
set_option maxRecDepth 100000 in
set_option maxHeartbeats 4000000 in
theorem J_grow0g (l : Launch) (D : va_G) (cid : Nat → ClassId) (J : jA) {q a : Nat} {md : Int32} {f : Nat → Option Nat} {bx : List Nat} (hf : jEl f 10 bx) : jM l D cid J yJx4a65c_grow_d5877 (.code yJx4a65c_grow_d5877 cJx4a65c_grow_d5877 1 (some (.array (.object "java/lang/Object")))) (gRX 4 170 1 40) [.ref q] [(q, .inr (5, [.int md, .ref a, .int (nI 10)])), (a, .inl (cid 4, 10, .inr (.inr (.inr (.inr f)))))] bx 1 40 (α := Nat) (fun rv r => rv = some (.ref r)) (fun r => [(q, .inr (5, [.int md, .ref r, .int (nI 10)])), (a, .inl (cid 4, 10, .inr (.inr (.inr (.inr f))))), (r, .inl (cid 4, 15, .inr (.inr (.inr (.inr (va_cpy f (fun _ => none) 0 0 10))))))]) := by
  refine jMet (by decide +kernel) (Nat.le_of_ble_eq_true rfl) ?_
  intro p e s m args below meth c H locs ls Q A hA hC hni hl hI kk
  replace hC : jC p s m args c cJx4a65c_grow_d5877 1 "java/util/ArrayList" D cid J A bx := hC
  replace hl : lv_has ls 1 [(0, .ref q)] := hl
  replace hI : jI D s A [(q, .inr (5, [.int md, .ref a, .int (nI 10)])), (a, .inl (cid 4, 10, .inr (.inr (.inr (.inr f)))))] H locs := hI
  have hx := hC.1.1
  have hb := hC.1.2.1
  have hown := hC.1.2.2.2.1
  have hts := hC.1.2.2.2.2.1
  have hK := hC.1.2.2.2.2.2.1
  have hAn := hC.2.2.1
  have hJ := hC.2.1
  refine lv_aload_n hx hb dJx4a65c_grow_d5877_0 rfl (lv_at hl 0 rfl) ?_
  refine lv_aload_n hx hb dJx4a65c_grow_d5877_1 rfl (lv_at hl 0 rfl) ?_
  refine va_get (D := D) (ci := 5) (v := .int (nI 10)) hx hb hts uJli hown hK hI.1 0 rfl rfl 2 (by decide) (hts _ w1193) (fun _ h9 => h9) rfl dJx4a65c_grow_d5877_2 ?_
  refine lv_iconst (v := 1) hx hb dJx4a65c_grow_d5877_5 (by decide) ?_
  refine lv_iadd hx hb dJx4a65c_grow_d5877_6 ?_
  refine g_top (v := nI 11) (by decide) ?_
  refine j_callV (rest := []) ([] : va_W) hC hI (J_grow1g l D cid J (md := md) hf) (fun y hy => ⟨jB1 hC hI.2.2 hy, fun h9 => (hC.2.2.2 y hy).2 (jA_in (X := []) hAn hI y h9)⟩) Z_Jx4a65c_grow_92f84 ZV_Jx4a65c_grow_92f84 w1237 (va_recv hK hI.1 (ci := 5) rfl (q0 := 0) rfl) ⟨rfl, rfl⟩ ⟨Nat.le_of_ble_eq_true rfl, Nat.le_of_ble_eq_true rfl⟩ rfl hl.1 rfl (Nat.le_of_ble_eq_true rfl) dJx4a65c_grow_d5877_7 ⟨Nat.le_of_ble_eq_true rfl, Nat.le_of_ble_eq_true rfl⟩ (fun rv u H1 locs1 hp hI hk1 => ?_)
  obtain ⟨rfl⟩ := hp
  replace hI : jI D s A [(q, .inr (5, [.int md, .ref u, .int (nI 10)])), (a, .inl (cid 4, 10, .inr (.inr (.inr (.inr f))))), (u, .inl (cid 4, 15, .inr (.inr (.inr (.inr (va_cpy f (fun _ => none) 0 0 10))))))] H1 locs1 := hI
  skip
  exact kk _ u _ _ _ _ _ _ _ rfl rfl hI ⟨Nat.le_of_ble_eq_true rfl, Nat.le_of_ble_eq_true rfl⟩ (Or.inr (Or.inr ⟨_, _, rfl, rfl, (by first | exact Or.inl ⟨_, rfl⟩ | exact Or.inr ⟨_, rfl⟩), dJx4a65c_grow_d5877_10⟩))
theorem dJx4a65c_add_72be8_0 : decode cJx4a65c_add_72be8 0 = .ok (.iload_n 3, 1) := by decide +kernel
theorem dJx4a65c_add_72be8_1 : decode cJx4a65c_add_72be8 1 = .ok (.aload_n 2, 1) := by decide +kernel
theorem dJx4a65c_add_72be8_2 : decode cJx4a65c_add_72be8 2 = .ok (.arraylength, 1) := by decide +kernel
theorem dJx4a65c_add_72be8_3 : decode cJx4a65c_add_72be8 3 = .ok (.if_icmp .ne 8, 3) := by decide +kernel
theorem dJx4a65c_add_72be8_6 : decode cJx4a65c_add_72be8 6 = .ok (.aload_n 0, 1) := by decide +kernel
theorem dJx4a65c_add_72be8_7 : decode cJx4a65c_add_72be8 7 = .ok (.invokevirtual 129, 3) := by decide +kernel
theorem dJx4a65c_add_72be8_10 : decode cJx4a65c_add_72be8 10 = .ok (.astore_n 2, 1) := by decide +kernel
theorem dJx4a65c_add_72be8_11 : decode cJx4a65c_add_72be8 11 = .ok (.aload_n 2, 1) := by decide +kernel
theorem dJx4a65c_add_72be8_12 : decode cJx4a65c_add_72be8 12 = .ok (.iload_n 3, 1) := by decide +kernel
theorem dJx4a65c_add_72be8_13 : decode cJx4a65c_add_72be8 13 = .ok (.aload_n 1, 1) := by decide +kernel
theorem dJx4a65c_add_72be8_14 : decode cJx4a65c_add_72be8 14 = .ok (.aastore, 1) := by decide +kernel
theorem dJx4a65c_add_72be8_15 : decode cJx4a65c_add_72be8 15 = .ok (.aload_n 0, 1) := by decide +kernel
theorem dJx4a65c_add_72be8_16 : decode cJx4a65c_add_72be8 16 = .ok (.iload_n 3, 1) := by decide +kernel
theorem dJx4a65c_add_72be8_17 : decode cJx4a65c_add_72be8 17 = .ok (.iconst 1, 1) := by decide +kernel
theorem dJx4a65c_add_72be8_18 : decode cJx4a65c_add_72be8 18 = .ok (.iadd, 1) := by decide +kernel
theorem dJx4a65c_add_72be8_19 : decode cJx4a65c_add_72be8 19 = .ok (.putfield 48, 3) := by decide +kernel
theorem dJx4a65c_add_72be8_22 : decode cJx4a65c_add_72be8 22 = .ok (.return_, 1) := by decide +kernel
set_option maxRecDepth 100000 in
set_option maxHeartbeats 4000000 in
theorem J_add3s (l : Launch) (D : va_G) (cid : Nat → ClassId) (J : jA) {q a y n cap : Nat} {md : Int32} {f : Nat → Option Nat} {bx : List Nat} (hy : y ∈ bx) (hn : n < cap) (hc : cap ≤ 40) : jM l D cid J yJx4a65c_add_72be8 (.code yJx4a65c_add_72be8 cJx4a65c_add_72be8 4 none) (gRX 5 200 1 40) [.ref q, .ref y, .ref a, .int (nI n)] [(q, .inr (5, [.int md, .ref a, .int (nI n)])), (a, .inl (cid 4, cap, .inr (.inr (.inr (.inr f)))))] bx 1 40 (α := Unit) (fun rv _ => rv = none) (fun _ => [(q, .inr (5, [.int md, .ref a, .int (nI (n + 1))])), (a, .inl (cid 4, cap, .inr (.inr (.inr (.inr (va_up f n (some y)))))))]) := by
  refine jMet (by decide +kernel) (Nat.le_of_ble_eq_true rfl) ?_
  intro p e s m args below meth c H locs ls Q A hA hC hni hl hI kk
  replace hC : jC p s m args c cJx4a65c_add_72be8 4 "java/util/ArrayList" D cid J A bx := hC
  replace hl : lv_has ls 4 [(0, .ref q), (1, .ref y), (2, .ref a), (3, .int (nI n))] := hl
  replace hI : jI D s A [(q, .inr (5, [.int md, .ref a, .int (nI n)])), (a, .inl (cid 4, cap, .inr (.inr (.inr (.inr f)))))] H locs := hI
  have hx := hC.1.1
  have hb := hC.1.2.1
  have hown := hC.1.2.2.2.1
  have hts := hC.1.2.2.2.2.1
  have hK := hC.1.2.2.2.2.2.1
  have hAn := hC.2.2.1
  have hJ := hC.2.1
  refine lv_iload_n hx hb dJx4a65c_add_72be8_0 rfl (lv_at hl 3 rfl) ?_
  refine lv_aload_n hx hb dJx4a65c_add_72be8_1 rfl (lv_at hl 2 rfl) ?_
  refine va_alen hx hb hK hI.1 1 4 rfl rfl (v := nI cap) rfl dJx4a65c_add_72be8_2 ?_
  refine lv_icmp_ne (tgt := 11) hx hb dJx4a65c_add_72be8_3 rfl (fun _ => ?_) (fun h => absurd h (fun h9 => absurd ((nI_eq (by omega) (by omega)).mp h9) (by omega)))
  refine lv_aload_n hx hb dJx4a65c_add_72be8_11 rfl (lv_at hl 2 rfl) ?_
  refine lv_iload_n hx hb dJx4a65c_add_72be8_12 rfl (lv_at hl 3 rfl) ?_
  refine lv_aload_n hx hb dJx4a65c_add_72be8_13 rfl (lv_at hl 1 rfl) ?_
  refine vb_astq hx hb hK hI.1 hI.2.1 hI.2.2 1 4 rfl rfl (C := "java/lang/Integer") (jB1 hC hI.2.2 hy) (jAsgO (hJ.2.2.1.2.2.2.2 _ (by decide +kernel))) (vp_in_nI hn (by omega)) dJx4a65c_add_72be8_14 (fun H locs hP hD hS => ?_)
  rw [nI_clamp (show n < 2 ^ 31 by omega)] at hP hD
  replace hI : jI D s A [(q, .inr (5, [.int md, .ref a, .int (nI n)])), (a, .inl (cid 4, cap, .inr (.inr (.inr (.inr (va_up f n (some y)))))))] H locs := ⟨hP, hD, hS⟩
  refine lv_aload_n hx hb dJx4a65c_add_72be8_15 rfl (lv_at hl 0 rfl) ?_
  refine lv_iload_n hx hb dJx4a65c_add_72be8_16 rfl (lv_at hl 3 rfl) ?_
  refine lv_iconst (v := 1) hx hb dJx4a65c_add_72be8_17 (by decide) ?_
  refine lv_iadd hx hb dJx4a65c_add_72be8_18 ?_
  refine g_top (v := nI (n + 1)) ((nI_add n 1).symm) ?_
  refine va_put hx hb hts uJli tyJx4a65c tyJx4a65c_ok nmJx4a65c hown hK hI.1 hI.2.1 hI.2.2 0 (by rfl) rfl 2 (by decide) (hts _ w1193) (fun _ h9 => h9) rfl (ty := .int) (by decide +kernel) rfl rfl (Nat.le_of_ble_eq_true rfl) dJx4a65c_add_72be8_19 (fun H locs hP hD hS => ?_)
  replace hI : jI D s A [(q, .inr (5, [.int md, .ref a, .int (nI (n + 1))])), (a, .inl (cid 4, cap, .inr (.inr (.inr (.inr (va_up f n (some y)))))))] H locs := ⟨hP, hD, hS⟩
  exact kk _ () _ _ _ _ _ _ _ rfl rfl hI ⟨Nat.le_of_ble_eq_true rfl, Nat.le_of_ble_eq_true rfl⟩ (Or.inr (Or.inl ⟨rfl, rfl, dJx4a65c_add_72be8_22⟩))
set_option maxRecDepth 100000 in
set_option maxHeartbeats 4000000 in
theorem J_add3e (l : Launch) (D : va_G) (cid : Nat → ClassId) (J : jA) {q y : Nat} {md : Int32} {bx : List Nat} (hy : y ∈ bx) : jM l D cid J yJx4a65c_add_72be8 (.code yJx4a65c_add_72be8 cJx4a65c_add_72be8 4 none) (gRX 5 200 1 40) [.ref q, .ref y, .ref J.2.2.1, .int (nI 0)] [(q, .inr (5, [.int md, .ref J.2.2.1, .int (nI 0)]))] bx 1 40 (α := Nat) (fun rv _ => rv = none) (fun r => [(q, .inr (5, [.int md, .ref r, .int (nI 1)])), (r, .inl (cid 4, 10, .inr (.inr (.inr (.inr (va_up (fun _ => none) 0 (some y)))))))]) := by
  refine jMet (by decide +kernel) (Nat.le_of_ble_eq_true rfl) ?_
  intro p e s m args below meth c H locs ls Q A hA hC hni hl hI kk
  replace hC : jC p s m args c cJx4a65c_add_72be8 4 "java/util/ArrayList" D cid J A bx := hC
  replace hl : lv_has ls 4 [(0, .ref q), (1, .ref y), (2, .ref J.2.2.1), (3, .int (nI 0))] := hl
  replace hI : jI D s A [(q, .inr (5, [.int md, .ref J.2.2.1, .int (nI 0)]))] H locs := hI
  have hx := hC.1.1
  have hb := hC.1.2.1
  have hown := hC.1.2.2.2.1
  have hts := hC.1.2.2.2.2.1
  have hK := hC.1.2.2.2.2.2.1
  have hAn := hC.2.2.1
  have hJ := hC.2.1
  refine lv_iload_n hx hb dJx4a65c_add_72be8_0 rfl (lv_at hl 3 rfl) ?_
  refine lv_aload_n hx hb dJx4a65c_add_72be8_1 rfl (lv_at hl 2 rfl) ?_
  refine va_tlen hx hb hJ.2.1.2 hI.2.2 (v := nI 0) rfl dJx4a65c_add_72be8_2 ?_
  refine lv_icmp_ne (tgt := 11) hx hb dJx4a65c_add_72be8_3 rfl (fun h => absurd rfl h) (fun _ => ?_)
  refine lv_aload_n hx hb dJx4a65c_add_72be8_6 rfl (lv_at hl 0 rfl) ?_
  refine j_callV (rest := []) ([] : va_W) hC hI (J_grow0e l D cid J (md := md)) (fun _ h => absurd h List.not_mem_nil) Z_Jx4a65c_grow_d5877 ZV_Jx4a65c_grow_d5877 w1233 (va_recv hK hI.1 (ci := 5) rfl (q0 := 0) rfl) ⟨rfl, rfl⟩ ⟨Nat.le_of_ble_eq_true rfl, Nat.le_of_ble_eq_true rfl⟩ rfl hl.1 rfl (Nat.le_of_ble_eq_true rfl) dJx4a65c_add_72be8_7 ⟨Nat.le_of_ble_eq_true rfl, Nat.le_of_ble_eq_true rfl⟩ (fun rv u H1 locs1 hp hI hk1 => ?_)
  obtain ⟨rfl⟩ := hp
  replace hI : jI D s A [(q, .inr (5, [.int md, .ref u, .int (nI 0)])), (u, .inl (cid 4, 10, .inr (.inr (.inr (.inr (fun _ => none))))))] H1 locs1 := hI
  skip
  refine lv_astore_n (lv' := [(2, .ref u), (0, .ref q), (1, .ref y), (3, .int (nI 0))]) hx hb dJx4a65c_add_72be8_10 rfl hl (by decide) rfl (fun ls hl => ?_)
  refine lv_aload_n hx hb dJx4a65c_add_72be8_11 rfl (lv_at hl 0 rfl) ?_
  refine lv_iload_n hx hb dJx4a65c_add_72be8_12 rfl (lv_at hl 3 rfl) ?_
  refine lv_aload_n hx hb dJx4a65c_add_72be8_13 rfl (lv_at hl 2 rfl) ?_
  refine vb_astq hx hb hK hI.1 hI.2.1 hI.2.2 1 4 rfl rfl (C := "java/lang/Integer") (jB1 hC hI.2.2 hy) (jAsgO (hJ.2.2.1.2.2.2.2 _ (by decide +kernel))) (vp_in_nI (n := 0) (by decide) (by decide)) dJx4a65c_add_72be8_14 (fun H locs hP hD hS => ?_)
  rw [nI_clamp (show 0 < 2 ^ 31 by omega)] at hP hD
  replace hI : jI D s A [(q, .inr (5, [.int md, .ref u, .int (nI 0)])), (u, .inl (cid 4, 10, .inr (.inr (.inr (.inr (va_up (fun _ => none) 0 (some y)))))))] H locs := ⟨hP, hD, hS⟩
  refine lv_aload_n hx hb dJx4a65c_add_72be8_15 rfl (lv_at hl 1 rfl) ?_
  refine lv_iload_n hx hb dJx4a65c_add_72be8_16 rfl (lv_at hl 3 rfl) ?_
  refine lv_iconst (v := 1) hx hb dJx4a65c_add_72be8_17 (by decide) ?_
  refine lv_iadd hx hb dJx4a65c_add_72be8_18 ?_
  refine g_top (v := nI 1) (by decide) ?_
  refine va_put hx hb hts uJli tyJx4a65c tyJx4a65c_ok nmJx4a65c hown hK hI.1 hI.2.1 hI.2.2 0 (by rfl) rfl 2 (by decide) (hts _ w1193) (fun _ h9 => h9) rfl (ty := .int) (by decide +kernel) rfl rfl (Nat.le_of_ble_eq_true rfl) dJx4a65c_add_72be8_19 (fun H locs hP hD hS => ?_)
  replace hI : jI D s A [(q, .inr (5, [.int md, .ref u, .int (nI 1)])), (u, .inl (cid 4, 10, .inr (.inr (.inr (.inr (va_up (fun _ => none) 0 (some y)))))))] H locs := ⟨hP, hD, hS⟩
  exact kk _ u _ _ _ _ _ _ _ rfl rfl hI ⟨Nat.le_of_ble_eq_true rfl, Nat.le_of_ble_eq_true rfl⟩ (Or.inr (Or.inl ⟨rfl, rfl, dJx4a65c_add_72be8_22⟩))
set_option maxRecDepth 100000 in
set_option maxHeartbeats 4000000 in
theorem J_add3g (l : Launch) (D : va_G) (cid : Nat → ClassId) (J : jA) {q a y : Nat} {md : Int32} {f : Nat → Option Nat} {bx : List Nat} (hy : y ∈ bx) (hf : jEl f 10 bx) : jM l D cid J yJx4a65c_add_72be8 (.code yJx4a65c_add_72be8 cJx4a65c_add_72be8 4 none) (gRX 5 200 1 40) [.ref q, .ref y, .ref a, .int (nI 10)] [(q, .inr (5, [.int md, .ref a, .int (nI 10)])), (a, .inl (cid 4, 10, .inr (.inr (.inr (.inr f)))))] bx 1 40 (α := Nat) (fun rv _ => rv = none) (fun r => [(q, .inr (5, [.int md, .ref r, .int (nI 11)])), (r, .inl (cid 4, 15, .inr (.inr (.inr (.inr (va_up (va_cpy f (fun _ => none) 0 0 10) 10 (some y)))))))]) := by
  refine jMet (by decide +kernel) (Nat.le_of_ble_eq_true rfl) ?_
  intro p e s m args below meth c H locs ls Q A hA hC hni hl hI kk
  replace hC : jC p s m args c cJx4a65c_add_72be8 4 "java/util/ArrayList" D cid J A bx := hC
  replace hl : lv_has ls 4 [(0, .ref q), (1, .ref y), (2, .ref a), (3, .int (nI 10))] := hl
  replace hI : jI D s A [(q, .inr (5, [.int md, .ref a, .int (nI 10)])), (a, .inl (cid 4, 10, .inr (.inr (.inr (.inr f)))))] H locs := hI
  have hx := hC.1.1
  have hb := hC.1.2.1
  have hown := hC.1.2.2.2.1
  have hts := hC.1.2.2.2.2.1
  have hK := hC.1.2.2.2.2.2.1
  have hAn := hC.2.2.1
  have hJ := hC.2.1
  refine lv_iload_n hx hb dJx4a65c_add_72be8_0 rfl (lv_at hl 3 rfl) ?_
  refine lv_aload_n hx hb dJx4a65c_add_72be8_1 rfl (lv_at hl 2 rfl) ?_
  refine va_alen hx hb hK hI.1 1 4 rfl rfl (v := nI 10) rfl dJx4a65c_add_72be8_2 ?_
  refine lv_icmp_ne (tgt := 11) hx hb dJx4a65c_add_72be8_3 rfl (fun h => absurd rfl h) (fun _ => ?_)
  refine lv_aload_n hx hb dJx4a65c_add_72be8_6 rfl (lv_at hl 0 rfl) ?_
  refine j_callV (rest := []) ([] : va_W) hC hI (J_grow0g l D cid J (md := md) hf) (fun y hy => ⟨jB1 hC hI.2.2 hy, fun h9 => (hC.2.2.2 y hy).2 (jA_in (X := []) hAn hI y h9)⟩) Z_Jx4a65c_grow_d5877 ZV_Jx4a65c_grow_d5877 w1233 (va_recv hK hI.1 (ci := 5) rfl (q0 := 0) rfl) ⟨rfl, rfl⟩ ⟨Nat.le_of_ble_eq_true rfl, Nat.le_of_ble_eq_true rfl⟩ rfl hl.1 rfl (Nat.le_of_ble_eq_true rfl) dJx4a65c_add_72be8_7 ⟨Nat.le_of_ble_eq_true rfl, Nat.le_of_ble_eq_true rfl⟩ (fun rv u H1 locs1 hp hI hk1 => ?_)
  obtain ⟨rfl⟩ := hp
  replace hI : jI D s A [(q, .inr (5, [.int md, .ref u, .int (nI 10)])), (a, .inl (cid 4, 10, .inr (.inr (.inr (.inr f))))), (u, .inl (cid 4, 15, .inr (.inr (.inr (.inr (va_cpy f (fun _ => none) 0 0 10))))))] H1 locs1 := hI
  skip
  refine lv_astore_n (lv' := [(2, .ref u), (0, .ref q), (1, .ref y), (3, .int (nI 10))]) hx hb dJx4a65c_add_72be8_10 rfl hl (by decide) rfl (fun ls hl => ?_)
  refine lv_aload_n hx hb dJx4a65c_add_72be8_11 rfl (lv_at hl 0 rfl) ?_
  refine lv_iload_n hx hb dJx4a65c_add_72be8_12 rfl (lv_at hl 3 rfl) ?_
  refine lv_aload_n hx hb dJx4a65c_add_72be8_13 rfl (lv_at hl 2 rfl) ?_
  refine vb_astq hx hb hK hI.1 hI.2.1 hI.2.2 2 4 rfl rfl (C := "java/lang/Integer") (jB1 hC hI.2.2 hy) (jAsgO (hJ.2.2.1.2.2.2.2 _ (by decide +kernel))) (vp_in_nI (n := 10) (by decide) (by decide)) dJx4a65c_add_72be8_14 (fun H locs hP hD hS => ?_)
  rw [nI_clamp (show 10 < 2 ^ 31 by omega)] at hP hD
  replace hI : jI D s A [(q, .inr (5, [.int md, .ref u, .int (nI 10)])), (a, .inl (cid 4, 10, .inr (.inr (.inr (.inr f))))), (u, .inl (cid 4, 15, .inr (.inr (.inr (.inr (va_up (va_cpy f (fun _ => none) 0 0 10) 10 (some y)))))))] H locs := ⟨hP, hD, hS⟩
  refine lv_aload_n hx hb dJx4a65c_add_72be8_15 rfl (lv_at hl 1 rfl) ?_
  refine lv_iload_n hx hb dJx4a65c_add_72be8_16 rfl (lv_at hl 3 rfl) ?_
  refine lv_iconst (v := 1) hx hb dJx4a65c_add_72be8_17 (by decide) ?_
  refine lv_iadd hx hb dJx4a65c_add_72be8_18 ?_
  refine g_top (v := nI 11) (by decide) ?_
  refine va_put hx hb hts uJli tyJx4a65c tyJx4a65c_ok nmJx4a65c hown hK hI.1 hI.2.1 hI.2.2 0 (by rfl) rfl 2 (by decide) (hts _ w1193) (fun _ h9 => h9) rfl (ty := .int) (by decide +kernel) rfl rfl (Nat.le_of_ble_eq_true rfl) dJx4a65c_add_72be8_19 (fun H locs hP hD hS => ?_)
  replace hI : jI D s A [(q, .inr (5, [.int md, .ref u, .int (nI 11)])), (a, .inl (cid 4, 10, .inr (.inr (.inr (.inr f))))), (u, .inl (cid 4, 15, .inr (.inr (.inr (.inr (va_up (va_cpy f (fun _ => none) 0 0 10) 10 (some y)))))))] H locs := ⟨hP, hD, hS⟩
  replace hI : jI D s A [(q, .inr (5, [.int md, .ref u, .int (nI 11)])), (u, .inl (cid 4, 15, .inr (.inr (.inr (.inr (va_up (va_cpy f (fun _ => none) 0 0 10) 10 (some y)))))))] H locs := j_sub hI [0, 2] rfl rfl
  exact kk _ u _ _ _ _ _ _ _ rfl rfl hI ⟨Nat.le_of_ble_eq_true rfl, Nat.le_of_ble_eq_true rfl⟩ (Or.inr (Or.inl ⟨rfl, rfl, dJx4a65c_add_72be8_22⟩))
theorem dJx4a65c_add_9ea2d_0 : decode cJx4a65c_add_9ea2d 0 = .ok (.aload_n 0, 1) := by decide +kernel
theorem dJx4a65c_add_9ea2d_1 : decode cJx4a65c_add_9ea2d 1 = .ok (.dup, 1) := by decide +kernel
theorem dJx4a65c_add_9ea2d_2 : decode cJx4a65c_add_9ea2d 2 = .ok (.getfield 63, 3) := by decide +kernel
theorem dJx4a65c_add_9ea2d_5 : decode cJx4a65c_add_9ea2d 5 = .ok (.iconst 1, 1) := by decide +kernel
theorem dJx4a65c_add_9ea2d_6 : decode cJx4a65c_add_9ea2d 6 = .ok (.iadd, 1) := by decide +kernel
theorem dJx4a65c_add_9ea2d_7 : decode cJx4a65c_add_9ea2d 7 = .ok (.putfield 63, 3) := by decide +kernel
theorem dJx4a65c_add_9ea2d_10 : decode cJx4a65c_add_9ea2d 10 = .ok (.aload_n 0, 1) := by decide +kernel
theorem dJx4a65c_add_9ea2d_11 : decode cJx4a65c_add_9ea2d 11 = .ok (.aload_n 1, 1) := by decide +kernel
theorem dJx4a65c_add_9ea2d_12 : decode cJx4a65c_add_9ea2d 12 = .ok (.aload_n 0, 1) := by decide +kernel
theorem dJx4a65c_add_9ea2d_13 : decode cJx4a65c_add_9ea2d 13 = .ok (.getfield 9, 3) := by decide +kernel
theorem dJx4a65c_add_9ea2d_16 : decode cJx4a65c_add_9ea2d 16 = .ok (.aload_n 0, 1) := by decide +kernel
theorem dJx4a65c_add_9ea2d_17 : decode cJx4a65c_add_9ea2d 17 = .ok (.getfield 48, 3) := by decide +kernel
theorem dJx4a65c_add_9ea2d_20 : decode cJx4a65c_add_9ea2d 20 = .ok (.invokevirtual 131, 3) := by decide +kernel
theorem dJx4a65c_add_9ea2d_23 : decode cJx4a65c_add_9ea2d 23 = .ok (.iconst 1, 1) := by decide +kernel
theorem dJx4a65c_add_9ea2d_24 : decode cJx4a65c_add_9ea2d 24 = .ok (.ireturn, 1) := by decide +kernel
set_option maxRecDepth 100000 in
set_option maxHeartbeats 4000000 in
theorem J_addS (l : Launch) (D : va_G) (cid : Nat → ClassId) (J : jA) {q a y n cap : Nat} {md : Int32} {f : Nat → Option Nat} {bx : List Nat} (hy : y ∈ bx) (hn : n < cap) (hc : cap ≤ 40) : jM l D cid J yJx4a65c_add_9ea2d (.code yJx4a65c_add_9ea2d cJx4a65c_add_9ea2d 2 (some .boolean)) (gRX 6 240 1 40) [.ref q, .ref y] [(q, .inr (5, [.int md, .ref a, .int (nI n)])), (a, .inl (cid 4, cap, .inr (.inr (.inr (.inr f)))))] bx 1 40 (α := Unit) (fun rv _ => rv = some (.int 1)) (fun _ => [(q, .inr (5, [.int (md + 1), .ref a, .int (nI (n + 1))])), (a, .inl (cid 4, cap, .inr (.inr (.inr (.inr (va_up f n (some y)))))))]) := by
  refine jMet (by decide +kernel) (Nat.le_of_ble_eq_true rfl) ?_
  intro p e s m args below meth c H locs ls Q A hA hC hni hl hI kk
  replace hC : jC p s m args c cJx4a65c_add_9ea2d 2 "java/util/ArrayList" D cid J A bx := hC
  replace hl : lv_has ls 2 [(0, .ref q), (1, .ref y)] := hl
  replace hI : jI D s A [(q, .inr (5, [.int md, .ref a, .int (nI n)])), (a, .inl (cid 4, cap, .inr (.inr (.inr (.inr f)))))] H locs := hI
  have hx := hC.1.1
  have hb := hC.1.2.1
  have hown := hC.1.2.2.2.1
  have hts := hC.1.2.2.2.2.1
  have hK := hC.1.2.2.2.2.2.1
  have hAn := hC.2.2.1
  have hJ := hC.2.1
  refine lv_aload_n hx hb dJx4a65c_add_9ea2d_0 rfl (lv_at hl 0 rfl) ?_
  refine lv_dup hx hb dJx4a65c_add_9ea2d_1 rfl ?_
  refine va_get (D := D) (ci := 5) (v := .int md) hx hb hts uJli hown hK hI.1 0 rfl rfl 0 (by decide) (hts _ w1197) (u_same (hts _ w1196)) rfl dJx4a65c_add_9ea2d_2 ?_
  refine lv_iconst (v := 1) hx hb dJx4a65c_add_9ea2d_5 (by decide) ?_
  refine lv_iadd hx hb dJx4a65c_add_9ea2d_6 ?_
  refine va_put hx hb hts uJli tyJx4a65c tyJx4a65c_ok nmJx4a65c hown hK hI.1 hI.2.1 hI.2.2 0 (by rfl) rfl 0 (by decide) (hts _ w1197) (u_same (hts _ w1196)) rfl (ty := .int) (by decide +kernel) rfl rfl (Nat.le_of_ble_eq_true rfl) dJx4a65c_add_9ea2d_7 (fun H locs hP hD hS => ?_)
  replace hI : jI D s A [(q, .inr (5, [.int (md + 1), .ref a, .int (nI n)])), (a, .inl (cid 4, cap, .inr (.inr (.inr (.inr f)))))] H locs := ⟨hP, hD, hS⟩
  refine lv_aload_n hx hb dJx4a65c_add_9ea2d_10 rfl (lv_at hl 0 rfl) ?_
  refine lv_aload_n hx hb dJx4a65c_add_9ea2d_11 rfl (lv_at hl 1 rfl) ?_
  refine lv_aload_n hx hb dJx4a65c_add_9ea2d_12 rfl (lv_at hl 0 rfl) ?_
  refine va_get (D := D) (ci := 5) (v := .ref a) hx hb hts uJli hown hK hI.1 0 rfl rfl 1 (by decide) (hts _ w1190) (fun _ h9 => h9) rfl dJx4a65c_add_9ea2d_13 ?_
  refine lv_aload_n hx hb dJx4a65c_add_9ea2d_16 rfl (lv_at hl 0 rfl) ?_
  refine va_get (D := D) (ci := 5) (v := .int (nI n)) hx hb hts uJli hown hK hI.1 0 rfl rfl 2 (by decide) (hts _ w1193) (fun _ h9 => h9) rfl dJx4a65c_add_9ea2d_17 ?_
  refine j_callV (rest := []) ([] : va_W) hC hI (J_add3s l D cid J (md := md + 1) hy hn hc) (fun y hy => ⟨jB1 hC hI.2.2 hy, fun h9 => (hC.2.2.2 y hy).2 (jA_in (X := []) hAn hI y h9)⟩) Z_Jx4a65c_add_72be8 ZV_Jx4a65c_add_72be8 w1229 (va_recv hK hI.1 (ci := 5) rfl (q0 := 0) rfl) ⟨rfl, rfl⟩ ⟨Nat.le_of_ble_eq_true rfl, Nat.le_of_ble_eq_true rfl⟩ rfl hl.1 rfl (Nat.le_of_ble_eq_true rfl) dJx4a65c_add_9ea2d_20 ⟨Nat.le_of_ble_eq_true rfl, Nat.le_of_ble_eq_true rfl⟩ (fun rv u H1 locs1 hp hI hk1 => ?_)
  obtain ⟨rfl⟩ := hp
  replace hI : jI D s A [(q, .inr (5, [.int (md + 1), .ref a, .int (nI (n + 1))])), (a, .inl (cid 4, cap, .inr (.inr (.inr (.inr (va_up f n (some y)))))))] H1 locs1 := hI
  skip
  refine lv_iconst (v := 1) hx hb dJx4a65c_add_9ea2d_23 (by decide) ?_
  exact kk _ () _ _ _ _ _ _ _ rfl rfl hI ⟨Nat.le_of_ble_eq_true rfl, Nat.le_of_ble_eq_true rfl⟩ (Or.inl ⟨_, _, rfl, rfl, (by first | rfl | exact gb_nar _), dJx4a65c_add_9ea2d_24⟩)
set_option maxRecDepth 100000 in
set_option maxHeartbeats 4000000 in
theorem J_addE (l : Launch) (D : va_G) (cid : Nat → ClassId) (J : jA) {q y : Nat} {md : Int32} {bx : List Nat} (hy : y ∈ bx) : jM l D cid J yJx4a65c_add_9ea2d (.code yJx4a65c_add_9ea2d cJx4a65c_add_9ea2d 2 (some .boolean)) (gRX 6 240 1 40) [.ref q, .ref y] [(q, .inr (5, [.int md, .ref J.2.2.1, .int (nI 0)]))] bx 1 40 (α := Nat) (fun rv _ => rv = some (.int 1)) (fun r => [(q, .inr (5, [.int (md + 1), .ref r, .int (nI 1)])), (r, .inl (cid 4, 10, .inr (.inr (.inr (.inr (va_up (fun _ => none) 0 (some y)))))))]) := by
  refine jMet (by decide +kernel) (Nat.le_of_ble_eq_true rfl) ?_
  intro p e s m args below meth c H locs ls Q A hA hC hni hl hI kk
  replace hC : jC p s m args c cJx4a65c_add_9ea2d 2 "java/util/ArrayList" D cid J A bx := hC
  replace hl : lv_has ls 2 [(0, .ref q), (1, .ref y)] := hl
  replace hI : jI D s A [(q, .inr (5, [.int md, .ref J.2.2.1, .int (nI 0)]))] H locs := hI
  have hx := hC.1.1
  have hb := hC.1.2.1
  have hown := hC.1.2.2.2.1
  have hts := hC.1.2.2.2.2.1
  have hK := hC.1.2.2.2.2.2.1
  have hAn := hC.2.2.1
  have hJ := hC.2.1
  refine lv_aload_n hx hb dJx4a65c_add_9ea2d_0 rfl (lv_at hl 0 rfl) ?_
  refine lv_dup hx hb dJx4a65c_add_9ea2d_1 rfl ?_
  refine va_get (D := D) (ci := 5) (v := .int md) hx hb hts uJli hown hK hI.1 0 rfl rfl 0 (by decide) (hts _ w1197) (u_same (hts _ w1196)) rfl dJx4a65c_add_9ea2d_2 ?_
  refine lv_iconst (v := 1) hx hb dJx4a65c_add_9ea2d_5 (by decide) ?_
  refine lv_iadd hx hb dJx4a65c_add_9ea2d_6 ?_
  refine va_put hx hb hts uJli tyJx4a65c tyJx4a65c_ok nmJx4a65c hown hK hI.1 hI.2.1 hI.2.2 0 (by rfl) rfl 0 (by decide) (hts _ w1197) (u_same (hts _ w1196)) rfl (ty := .int) (by decide +kernel) rfl rfl (Nat.le_of_ble_eq_true rfl) dJx4a65c_add_9ea2d_7 (fun H locs hP hD hS => ?_)
  replace hI : jI D s A [(q, .inr (5, [.int (md + 1), .ref J.2.2.1, .int (nI 0)]))] H locs := ⟨hP, hD, hS⟩
  refine lv_aload_n hx hb dJx4a65c_add_9ea2d_10 rfl (lv_at hl 0 rfl) ?_
  refine lv_aload_n hx hb dJx4a65c_add_9ea2d_11 rfl (lv_at hl 1 rfl) ?_
  refine lv_aload_n hx hb dJx4a65c_add_9ea2d_12 rfl (lv_at hl 0 rfl) ?_
  refine va_get (D := D) (ci := 5) (v := .ref J.2.2.1) hx hb hts uJli hown hK hI.1 0 rfl rfl 1 (by decide) (hts _ w1190) (fun _ h9 => h9) rfl dJx4a65c_add_9ea2d_13 ?_
  refine lv_aload_n hx hb dJx4a65c_add_9ea2d_16 rfl (lv_at hl 0 rfl) ?_
  refine va_get (D := D) (ci := 5) (v := .int (nI 0)) hx hb hts uJli hown hK hI.1 0 rfl rfl 2 (by decide) (hts _ w1193) (fun _ h9 => h9) rfl dJx4a65c_add_9ea2d_17 ?_
  refine j_callV (rest := []) ([] : va_W) hC hI (J_add3e l D cid J (md := md + 1) hy) (fun y hy => ⟨jB1 hC hI.2.2 hy, fun h9 => (hC.2.2.2 y hy).2 (jA_in (X := []) hAn hI y h9)⟩) Z_Jx4a65c_add_72be8 ZV_Jx4a65c_add_72be8 w1229 (va_recv hK hI.1 (ci := 5) rfl (q0 := 0) rfl) ⟨rfl, rfl⟩ ⟨Nat.le_of_ble_eq_true rfl, Nat.le_of_ble_eq_true rfl⟩ rfl hl.1 rfl (Nat.le_of_ble_eq_true rfl) dJx4a65c_add_9ea2d_20 ⟨Nat.le_of_ble_eq_true rfl, Nat.le_of_ble_eq_true rfl⟩ (fun rv u H1 locs1 hp hI hk1 => ?_)
  obtain ⟨rfl⟩ := hp
  replace hI : jI D s A [(q, .inr (5, [.int (md + 1), .ref u, .int (nI 1)])), (u, .inl (cid 4, 10, .inr (.inr (.inr (.inr (va_up (fun _ => none) 0 (some y)))))))] H1 locs1 := hI
  skip
  refine lv_iconst (v := 1) hx hb dJx4a65c_add_9ea2d_23 (by decide) ?_
  exact kk _ u _ _ _ _ _ _ _ rfl rfl hI ⟨Nat.le_of_ble_eq_true rfl, Nat.le_of_ble_eq_true rfl⟩ (Or.inl ⟨_, _, rfl, rfl, (by first | rfl | exact gb_nar _), dJx4a65c_add_9ea2d_24⟩)
set_option maxRecDepth 100000 in
set_option maxHeartbeats 4000000 in
theorem J_addG (l : Launch) (D : va_G) (cid : Nat → ClassId) (J : jA) {q a y : Nat} {md : Int32} {f : Nat → Option Nat} {bx : List Nat} (hy : y ∈ bx) (hf : jEl f 10 bx) : jM l D cid J yJx4a65c_add_9ea2d (.code yJx4a65c_add_9ea2d cJx4a65c_add_9ea2d 2 (some .boolean)) (gRX 6 240 1 40) [.ref q, .ref y] [(q, .inr (5, [.int md, .ref a, .int (nI 10)])), (a, .inl (cid 4, 10, .inr (.inr (.inr (.inr f)))))] bx 1 40 (α := Nat) (fun rv _ => rv = some (.int 1)) (fun r => [(q, .inr (5, [.int (md + 1), .ref r, .int (nI 11)])), (r, .inl (cid 4, 15, .inr (.inr (.inr (.inr (va_up (va_cpy f (fun _ => none) 0 0 10) 10 (some y)))))))]) := by
  refine jMet (by decide +kernel) (Nat.le_of_ble_eq_true rfl) ?_
  intro p e s m args below meth c H locs ls Q A hA hC hni hl hI kk
  replace hC : jC p s m args c cJx4a65c_add_9ea2d 2 "java/util/ArrayList" D cid J A bx := hC
  replace hl : lv_has ls 2 [(0, .ref q), (1, .ref y)] := hl
  replace hI : jI D s A [(q, .inr (5, [.int md, .ref a, .int (nI 10)])), (a, .inl (cid 4, 10, .inr (.inr (.inr (.inr f)))))] H locs := hI
  have hx := hC.1.1
  have hb := hC.1.2.1
  have hown := hC.1.2.2.2.1
  have hts := hC.1.2.2.2.2.1
  have hK := hC.1.2.2.2.2.2.1
  have hAn := hC.2.2.1
  have hJ := hC.2.1
  refine lv_aload_n hx hb dJx4a65c_add_9ea2d_0 rfl (lv_at hl 0 rfl) ?_
  refine lv_dup hx hb dJx4a65c_add_9ea2d_1 rfl ?_
  refine va_get (D := D) (ci := 5) (v := .int md) hx hb hts uJli hown hK hI.1 0 rfl rfl 0 (by decide) (hts _ w1197) (u_same (hts _ w1196)) rfl dJx4a65c_add_9ea2d_2 ?_
  refine lv_iconst (v := 1) hx hb dJx4a65c_add_9ea2d_5 (by decide) ?_
  refine lv_iadd hx hb dJx4a65c_add_9ea2d_6 ?_
  refine va_put hx hb hts uJli tyJx4a65c tyJx4a65c_ok nmJx4a65c hown hK hI.1 hI.2.1 hI.2.2 0 (by rfl) rfl 0 (by decide) (hts _ w1197) (u_same (hts _ w1196)) rfl (ty := .int) (by decide +kernel) rfl rfl (Nat.le_of_ble_eq_true rfl) dJx4a65c_add_9ea2d_7 (fun H locs hP hD hS => ?_)
  replace hI : jI D s A [(q, .inr (5, [.int (md + 1), .ref a, .int (nI 10)])), (a, .inl (cid 4, 10, .inr (.inr (.inr (.inr f)))))] H locs := ⟨hP, hD, hS⟩
  refine lv_aload_n hx hb dJx4a65c_add_9ea2d_10 rfl (lv_at hl 0 rfl) ?_
  refine lv_aload_n hx hb dJx4a65c_add_9ea2d_11 rfl (lv_at hl 1 rfl) ?_
  refine lv_aload_n hx hb dJx4a65c_add_9ea2d_12 rfl (lv_at hl 0 rfl) ?_
  refine va_get (D := D) (ci := 5) (v := .ref a) hx hb hts uJli hown hK hI.1 0 rfl rfl 1 (by decide) (hts _ w1190) (fun _ h9 => h9) rfl dJx4a65c_add_9ea2d_13 ?_
  refine lv_aload_n hx hb dJx4a65c_add_9ea2d_16 rfl (lv_at hl 0 rfl) ?_
  refine va_get (D := D) (ci := 5) (v := .int (nI 10)) hx hb hts uJli hown hK hI.1 0 rfl rfl 2 (by decide) (hts _ w1193) (fun _ h9 => h9) rfl dJx4a65c_add_9ea2d_17 ?_
  refine j_callV (rest := []) ([] : va_W) hC hI (J_add3g l D cid J (md := md + 1) hy hf) (fun y hy => ⟨jB1 hC hI.2.2 hy, fun h9 => (hC.2.2.2 y hy).2 (jA_in (X := []) hAn hI y h9)⟩) Z_Jx4a65c_add_72be8 ZV_Jx4a65c_add_72be8 w1229 (va_recv hK hI.1 (ci := 5) rfl (q0 := 0) rfl) ⟨rfl, rfl⟩ ⟨Nat.le_of_ble_eq_true rfl, Nat.le_of_ble_eq_true rfl⟩ rfl hl.1 rfl (Nat.le_of_ble_eq_true rfl) dJx4a65c_add_9ea2d_20 ⟨Nat.le_of_ble_eq_true rfl, Nat.le_of_ble_eq_true rfl⟩ (fun rv u H1 locs1 hp hI hk1 => ?_)
  obtain ⟨rfl⟩ := hp
  replace hI : jI D s A [(q, .inr (5, [.int (md + 1), .ref u, .int (nI 11)])), (u, .inl (cid 4, 15, .inr (.inr (.inr (.inr (va_up (va_cpy f (fun _ => none) 0 0 10) 10 (some y)))))))] H1 locs1 := hI
  skip
  refine lv_iconst (v := 1) hx hb dJx4a65c_add_9ea2d_23 (by decide) ?_
  exact kk _ u _ _ _ _ _ _ _ rfl rfl hI ⟨Nat.le_of_ble_eq_true rfl, Nat.le_of_ble_eq_true rfl⟩ (Or.inl ⟨_, _, rfl, rfl, (by first | rfl | exact gb_nar _), dJx4a65c_add_9ea2d_24⟩)
theorem dJx35411_init_45d68_0 : decode cJx35411_init_45d68 0 = .ok (.aload_n 0, 1) := by decide +kernel
theorem dJx35411_init_45d68_1 : decode cJx35411_init_45d68 1 = .ok (.aload_n 1, 1) := by decide +kernel
theorem dJx35411_init_45d68_2 : decode cJx35411_init_45d68 2 = .ok (.putfield 1, 3) := by decide +kernel
theorem dJx35411_init_45d68_5 : decode cJx35411_init_45d68 5 = .ok (.aload_n 0, 1) := by decide +kernel
theorem dJx35411_init_45d68_6 : decode cJx35411_init_45d68 6 = .ok (.invokespecial 7, 3) := by decide +kernel
theorem dJx35411_init_45d68_9 : decode cJx35411_init_45d68 9 = .ok (.aload_n 0, 1) := by decide +kernel
theorem dJx35411_init_45d68_10 : decode cJx35411_init_45d68 10 = .ok (.iconst (-1), 1) := by decide +kernel
theorem dJx35411_init_45d68_11 : decode cJx35411_init_45d68 11 = .ok (.putfield 13, 3) := by decide +kernel
theorem dJx35411_init_45d68_14 : decode cJx35411_init_45d68 14 = .ok (.aload_n 0, 1) := by decide +kernel
theorem dJx35411_init_45d68_15 : decode cJx35411_init_45d68 15 = .ok (.aload_n 0, 1) := by decide +kernel
theorem dJx35411_init_45d68_16 : decode cJx35411_init_45d68 16 = .ok (.getfield 1, 3) := by decide +kernel
theorem dJx35411_init_45d68_19 : decode cJx35411_init_45d68 19 = .ok (.getfield 17, 3) := by decide +kernel
theorem dJx35411_init_45d68_22 : decode cJx35411_init_45d68 22 = .ok (.putfield 22, 3) := by decide +kernel
theorem dJx35411_init_45d68_25 : decode cJx35411_init_45d68 25 = .ok (.return_, 1) := by decide +kernel
set_option maxRecDepth 100000 in
set_option maxHeartbeats 4000000 in
theorem J_Itr (l : Launch) (D : va_G) (cid : Nat → ClassId) (J : jA) {i q : Nat} {md n : Int32} {r : Value} : jM l D cid J yJx35411_init_45d68 (.code yJx35411_init_45d68 cJx35411_init_45d68 2 none) (gRX 1 20 0 0) [.ref i, .ref q] [(q, .inr (5, [.int md, r, .int n])), (i, .inr (4, [.int 0, .int 0, .int 0, .null]))] [] 0 0 (α := Unit) (fun rv _ => rv = none) (fun _ => [(q, .inr (5, [.int md, r, .int n])), (i, .inr (4, [.int 0, .int (-1), .int md, .ref q]))]) := by
  refine jMet (by decide +kernel) (Nat.le_of_ble_eq_true rfl) ?_
  intro p e s m args below meth c H locs ls Q A hA hC hni hl hI kk
  replace hC : jC p s m args c cJx35411_init_45d68 2 "java/util/ArrayList$Itr" D cid J A [] := hC
  replace hl : lv_has ls 2 [(0, .ref i), (1, .ref q)] := hl
  replace hI : jI D s A [(q, .inr (5, [.int md, r, .int n])), (i, .inr (4, [.int 0, .int 0, .int 0, .null]))] H locs := hI
  have hx := hC.1.1
  have hb := hC.1.2.1
  have hown := hC.1.2.2.2.1
  have hts := hC.1.2.2.2.2.1
  have hK := hC.1.2.2.2.2.2.1
  have hAn := hC.2.2.1
  have hJ := hC.2.1
  refine lv_aload_n hx hb dJx35411_init_45d68_0 rfl (lv_at hl 0 rfl) ?_
  refine lv_aload_n hx hb dJx35411_init_45d68_1 rfl (lv_at hl 1 rfl) ?_
  refine va_putF hx hb hts uJit tyJx35411 tyJx35411_ok nmJx35411 hown hK hI.1 hI.2.1 hI.2.2 1 (by rfl) rfl 3 (by decide) (hts _ w1301) (fun _ h9 => h9) rfl hni rfl (ty := .object "java/util/ArrayList") (by decide +kernel) rfl rfl (Nat.le_of_ble_eq_true rfl) dJx35411_init_45d68_2 (fun H locs hP hD hS => ?_)
  replace hI : jI D s A [(q, .inr (5, [.int md, r, .int n])), (i, .inr (4, [.int 0, .int 0, .int 0, .ref q]))] H locs := ⟨hP, hD, hS⟩
  refine lv_aload_n hx hb dJx35411_init_45d68_5 rfl (lv_at hl 0 rfl) ?_
  refine j_obj hC hl.1 w1297 w40 w41 ⟨Nat.le_of_ble_eq_true rfl, Nat.le_of_ble_eq_true rfl⟩ dJx35411_init_45d68_6 ?_
  refine lv_aload_n hx hb dJx35411_init_45d68_9 rfl (lv_at hl 0 rfl) ?_
  refine lv_iconst (v := (-1)) hx hb dJx35411_init_45d68_10 (by decide) ?_
  refine va_put hx hb hts uJit tyJx35411 tyJx35411_ok nmJx35411 hown hK hI.1 hI.2.1 hI.2.2 1 (by rfl) rfl 1 (by decide) (hts _ w1299) (fun _ h9 => h9) rfl (ty := .int) (by decide +kernel) rfl rfl (Nat.le_of_ble_eq_true rfl) dJx35411_init_45d68_11 (fun H locs hP hD hS => ?_)
  replace hI : jI D s A [(q, .inr (5, [.int md, r, .int n])), (i, .inr (4, [.int 0, .int (-1), .int 0, .ref q]))] H locs := ⟨hP, hD, hS⟩
  refine lv_aload_n hx hb dJx35411_init_45d68_14 rfl (lv_at hl 0 rfl) ?_
  refine lv_aload_n hx hb dJx35411_init_45d68_15 rfl (lv_at hl 0 rfl) ?_
  refine va_get (D := D) (ci := 4) (v := .ref q) hx hb hts uJit hown hK hI.1 1 rfl rfl 3 (by decide) (hts _ w1301) (fun _ h9 => h9) rfl dJx35411_init_45d68_16 ?_
  refine va_get (D := D) (ci := 5) (v := .int md) hx hb hts uJli hown hK hI.1 0 rfl rfl 0 (by decide) (hts _ w1195) (u_same (hts _ w1196)) rfl dJx35411_init_45d68_19 ?_
  refine va_put hx hb hts uJit tyJx35411 tyJx35411_ok nmJx35411 hown hK hI.1 hI.2.1 hI.2.2 1 (by rfl) rfl 2 (by decide) (hts _ w1300) (fun _ h9 => h9) rfl (ty := .int) (by decide +kernel) rfl rfl (Nat.le_of_ble_eq_true rfl) dJx35411_init_45d68_22 (fun H locs hP hD hS => ?_)
  replace hI : jI D s A [(q, .inr (5, [.int md, r, .int n])), (i, .inr (4, [.int 0, .int (-1), .int md, .ref q]))] H locs := ⟨hP, hD, hS⟩
  exact kk _ () _ _ _ _ _ _ _ rfl rfl hI ⟨Nat.le_of_ble_eq_true rfl, Nat.le_of_ble_eq_true rfl⟩ (Or.inr (Or.inl ⟨rfl, rfl, dJx35411_init_45d68_25⟩))
theorem dJx4a65c_iterator_32c93_0 : decode cJx4a65c_iterator_32c93 0 = .ok (.new 267, 3) := by decide +kernel
theorem dJx4a65c_iterator_32c93_3 : decode cJx4a65c_iterator_32c93 3 = .ok (.dup, 1) := by decide +kernel
theorem dJx4a65c_iterator_32c93_4 : decode cJx4a65c_iterator_32c93 4 = .ok (.aload_n 0, 1) := by decide +kernel
theorem dJx4a65c_iterator_32c93_5 : decode cJx4a65c_iterator_32c93 5 = .ok (.invokespecial 269, 3) := by decide +kernel
theorem dJx4a65c_iterator_32c93_8 : decode cJx4a65c_iterator_32c93 8 = .ok (.areturn, 1) := by decide +kernel
set_option maxRecDepth 100000 in
set_option maxHeartbeats 4000000 in
theorem J_iterator (l : Launch) (D : va_G) (cid : Nat → ClassId) (J : jA) {q : Nat} {md n : Int32} {r : Value} : jM l D cid J yJx4a65c_iterator_32c93 (.code yJx4a65c_iterator_32c93 cJx4a65c_iterator_32c93 1 (some (.object "java/util/Iterator"))) (gRX 2 50 1 4) [.ref q] [(q, .inr (5, [.int md, r, .int n]))] [] 1 4 (α := Nat) (fun rv i => rv = some (.ref i)) (fun i => [(q, .inr (5, [.int md, r, .int n])), (i, .inr (4, [.int 0, .int (-1), .int md, .ref q]))]) := by
  refine jMet (by decide +kernel) (Nat.le_of_ble_eq_true rfl) ?_
  intro p e s m args below meth c H locs ls Q A hA hC hni hl hI kk
  replace hC : jC p s m args c cJx4a65c_iterator_32c93 1 "java/util/ArrayList" D cid J A [] := hC
  replace hl : lv_has ls 1 [(0, .ref q)] := hl
  replace hI : jI D s A [(q, .inr (5, [.int md, r, .int n]))] H locs := hI
  have hx := hC.1.1
  have hb := hC.1.2.1
  have hown := hC.1.2.2.2.1
  have hts := hC.1.2.2.2.2.1
  have hK := hC.1.2.2.2.2.2.1
  have hAn := hC.2.2.1
  have hJ := hC.2.1
  refine va_new (ci := 4) (fs := [.int 0, .int 0, .int 0, .null]) hx hb hts uJit tyJx35411 tyJx35411_ok hown (hts _ w1292) (hts _ w1293) (hts _ w27) hK hI.1 hI.2.1 hI.2.2 hAn rfl (fun j hj => by revert j; decide) (Nat.le_of_ble_eq_true rfl) (Nat.le_of_ble_eq_true rfl) dJx4a65c_iterator_32c93_0 (fun i H hP hD hS => ?_)
  replace hI : jI D s A [(q, .inr (5, [.int md, r, .int n])), (i, .inr (4, [.int 0, .int 0, .int 0, .null]))] H locs := ⟨hP, hD, hS⟩
  refine lv_dup hx hb dJx4a65c_iterator_32c93_3 rfl ?_
  refine lv_aload_n hx hb dJx4a65c_iterator_32c93_4 rfl (lv_at hl 0 rfl) ?_
  refine j_callI (rest := [.ref i]) ([] : va_W) hC hI (J_Itr l D cid J (md := md) (n := n) (r := r)) (fun _ h => absurd h List.not_mem_nil) Z_Jx35411_init_45d68 rfl ZI_Jx35411_init_45d68 w1294 ⟨rfl, rfl⟩ ⟨Nat.le_of_ble_eq_true rfl, Nat.le_of_ble_eq_true rfl⟩ rfl hl.1 rfl (Nat.le_of_ble_eq_true rfl) dJx4a65c_iterator_32c93_5 ⟨Nat.le_of_ble_eq_true rfl, Nat.le_of_ble_eq_true rfl⟩ (fun rv u H1 locs1 hp hI hk1 => ?_)
  obtain ⟨rfl⟩ := hp
  replace hI : jI D s A [(q, .inr (5, [.int md, r, .int n])), (i, .inr (4, [.int 0, .int (-1), .int md, .ref q]))] H1 locs1 := hI
  skip
  exact kk _ i _ _ _ _ _ _ _ rfl rfl hI ⟨Nat.le_of_ble_eq_true rfl, Nat.le_of_ble_eq_true rfl⟩ (Or.inr (Or.inr ⟨_, _, rfl, rfl, (by first | exact Or.inl ⟨_, rfl⟩ | exact Or.inr ⟨_, rfl⟩), dJx4a65c_iterator_32c93_8⟩))
theorem dJx35411_hasNext_aae02_0 : decode cJx35411_hasNext_aae02 0 = .ok (.aload_n 0, 1) := by decide +kernel
theorem dJx35411_hasNext_aae02_1 : decode cJx35411_hasNext_aae02 1 = .ok (.getfield 25, 3) := by decide +kernel
theorem dJx35411_hasNext_aae02_4 : decode cJx35411_hasNext_aae02 4 = .ok (.aload_n 0, 1) := by decide +kernel
theorem dJx35411_hasNext_aae02_5 : decode cJx35411_hasNext_aae02 5 = .ok (.getfield 1, 3) := by decide +kernel
theorem dJx35411_hasNext_aae02_8 : decode cJx35411_hasNext_aae02 8 = .ok (.getfield 28, 3) := by decide +kernel
theorem dJx35411_hasNext_aae02_11 : decode cJx35411_hasNext_aae02 11 = .ok (.if_icmp .eq 7, 3) := by decide +kernel
theorem dJx35411_hasNext_aae02_14 : decode cJx35411_hasNext_aae02 14 = .ok (.iconst 1, 1) := by decide +kernel
theorem dJx35411_hasNext_aae02_15 : decode cJx35411_hasNext_aae02 15 = .ok (.goto 4, 3) := by decide +kernel
theorem dJx35411_hasNext_aae02_18 : decode cJx35411_hasNext_aae02 18 = .ok (.iconst 0, 1) := by decide +kernel
theorem dJx35411_hasNext_aae02_19 : decode cJx35411_hasNext_aae02 19 = .ok (.ireturn, 1) := by decide +kernel
set_option maxRecDepth 100000 in
set_option maxHeartbeats 4000000 in
theorem J_hasNext1 (l : Launch) (D : va_G) (cid : Nat → ClassId) (J : jA) {i q : Nat} {cu la md n : Int32} {r : Value} (h : ¬ cu = n) : jM l D cid J yJx35411_hasNext_aae02 (.code yJx35411_hasNext_aae02 cJx35411_hasNext_aae02 1 (some .boolean)) (gRX 1 20 0 0) [.ref i] [(q, .inr (5, [.int md, r, .int n])), (i, .inr (4, [.int cu, .int la, .int md, .ref q]))] [] 0 0 (α := Unit) (fun rv _ => rv = some (.int 1)) (fun _ => [(q, .inr (5, [.int md, r, .int n])), (i, .inr (4, [.int cu, .int la, .int md, .ref q]))]) := by
  refine jMet (by decide +kernel) (Nat.le_of_ble_eq_true rfl) ?_
  intro p e s m args below meth c H locs ls Q A hA hC hni hl hI kk
  replace hC : jC p s m args c cJx35411_hasNext_aae02 1 "java/util/ArrayList$Itr" D cid J A [] := hC
  replace hl : lv_has ls 1 [(0, .ref i)] := hl
  replace hI : jI D s A [(q, .inr (5, [.int md, r, .int n])), (i, .inr (4, [.int cu, .int la, .int md, .ref q]))] H locs := hI
  have hx := hC.1.1
  have hb := hC.1.2.1
  have hown := hC.1.2.2.2.1
  have hts := hC.1.2.2.2.2.1
  have hK := hC.1.2.2.2.2.2.1
  have hAn := hC.2.2.1
  have hJ := hC.2.1
  refine lv_aload_n hx hb dJx35411_hasNext_aae02_0 rfl (lv_at hl 0 rfl) ?_
  refine va_get (D := D) (ci := 4) (v := .int cu) hx hb hts uJit hown hK hI.1 1 rfl rfl 0 (by decide) (hts _ w1298) (fun _ h9 => h9) rfl dJx35411_hasNext_aae02_1 ?_
  refine lv_aload_n hx hb dJx35411_hasNext_aae02_4 rfl (lv_at hl 0 rfl) ?_
  refine va_get (D := D) (ci := 4) (v := .ref q) hx hb hts uJit hown hK hI.1 1 rfl rfl 3 (by decide) (hts _ w1301) (fun _ h9 => h9) rfl dJx35411_hasNext_aae02_5 ?_
  refine va_getN (D := D) (ci := 5) (v := .int n) (host := "java/util/ArrayList") (ref := "java/util/ArrayList") hx hb hts uJli hown hK hI.1 0 rfl rfl 2 (by decide) (va_Nw.use rfl hJ.2.2.1.2.2.2.1) (fun _ h9 => h9) rfl dJx35411_hasNext_aae02_8 ?_
  refine lv_icmp_eq (tgt := 18) hx hb dJx35411_hasNext_aae02_11 rfl (fun h8 => absurd h8 h) (fun _ => ?_)
  refine lv_iconst (v := 1) hx hb dJx35411_hasNext_aae02_14 (by decide) ?_
  refine lv_goto (tgt := 19) hx hb dJx35411_hasNext_aae02_15 rfl ?_
  exact kk _ () _ _ _ _ _ _ _ rfl rfl hI ⟨Nat.le_of_ble_eq_true rfl, Nat.le_of_ble_eq_true rfl⟩ (Or.inl ⟨_, _, rfl, rfl, (by first | rfl | exact gb_nar _), dJx35411_hasNext_aae02_19⟩)
set_option maxRecDepth 100000 in
set_option maxHeartbeats 4000000 in
theorem J_hasNext0 (l : Launch) (D : va_G) (cid : Nat → ClassId) (J : jA) {i q : Nat} {cu la md n : Int32} {r : Value} (h : cu = n) : jM l D cid J yJx35411_hasNext_aae02 (.code yJx35411_hasNext_aae02 cJx35411_hasNext_aae02 1 (some .boolean)) (gRX 1 20 0 0) [.ref i] [(q, .inr (5, [.int md, r, .int n])), (i, .inr (4, [.int cu, .int la, .int md, .ref q]))] [] 0 0 (α := Unit) (fun rv _ => rv = some (.int 0)) (fun _ => [(q, .inr (5, [.int md, r, .int n])), (i, .inr (4, [.int cu, .int la, .int md, .ref q]))]) := by
  refine jMet (by decide +kernel) (Nat.le_of_ble_eq_true rfl) ?_
  intro p e s m args below meth c H locs ls Q A hA hC hni hl hI kk
  replace hC : jC p s m args c cJx35411_hasNext_aae02 1 "java/util/ArrayList$Itr" D cid J A [] := hC
  replace hl : lv_has ls 1 [(0, .ref i)] := hl
  replace hI : jI D s A [(q, .inr (5, [.int md, r, .int n])), (i, .inr (4, [.int cu, .int la, .int md, .ref q]))] H locs := hI
  have hx := hC.1.1
  have hb := hC.1.2.1
  have hown := hC.1.2.2.2.1
  have hts := hC.1.2.2.2.2.1
  have hK := hC.1.2.2.2.2.2.1
  have hAn := hC.2.2.1
  have hJ := hC.2.1
  refine lv_aload_n hx hb dJx35411_hasNext_aae02_0 rfl (lv_at hl 0 rfl) ?_
  refine va_get (D := D) (ci := 4) (v := .int cu) hx hb hts uJit hown hK hI.1 1 rfl rfl 0 (by decide) (hts _ w1298) (fun _ h9 => h9) rfl dJx35411_hasNext_aae02_1 ?_
  refine lv_aload_n hx hb dJx35411_hasNext_aae02_4 rfl (lv_at hl 0 rfl) ?_
  refine va_get (D := D) (ci := 4) (v := .ref q) hx hb hts uJit hown hK hI.1 1 rfl rfl 3 (by decide) (hts _ w1301) (fun _ h9 => h9) rfl dJx35411_hasNext_aae02_5 ?_
  refine va_getN (D := D) (ci := 5) (v := .int n) (host := "java/util/ArrayList") (ref := "java/util/ArrayList") hx hb hts uJli hown hK hI.1 0 rfl rfl 2 (by decide) (va_Nw.use rfl hJ.2.2.1.2.2.2.1) (fun _ h9 => h9) rfl dJx35411_hasNext_aae02_8 ?_
  refine lv_icmp_eq (tgt := 18) hx hb dJx35411_hasNext_aae02_11 rfl (fun _ => ?_) (fun h8 => absurd h h8)
  refine lv_iconst (v := 0) hx hb dJx35411_hasNext_aae02_18 (by decide) ?_
  exact kk _ () _ _ _ _ _ _ _ rfl rfl hI ⟨Nat.le_of_ble_eq_true rfl, Nat.le_of_ble_eq_true rfl⟩ (Or.inl ⟨_, _, rfl, rfl, (by first | rfl | exact gb_nar _), dJx35411_hasNext_aae02_19⟩)
theorem dJx35411_checkForComodification_da8c8_0 : decode cJx35411_checkForComodification_da8c8 0 = .ok (.aload_n 0, 1) := by decide +kernel
theorem dJx35411_checkForComodification_da8c8_1 : decode cJx35411_checkForComodification_da8c8 1 = .ok (.getfield 1, 3) := by decide +kernel
theorem dJx35411_checkForComodification_da8c8_4 : decode cJx35411_checkForComodification_da8c8 4 = .ok (.getfield 17, 3) := by decide +kernel
theorem dJx35411_checkForComodification_da8c8_7 : decode cJx35411_checkForComodification_da8c8 7 = .ok (.aload_n 0, 1) := by decide +kernel
theorem dJx35411_checkForComodification_da8c8_8 : decode cJx35411_checkForComodification_da8c8 8 = .ok (.getfield 22, 3) := by decide +kernel
theorem dJx35411_checkForComodification_da8c8_11 : decode cJx35411_checkForComodification_da8c8 11 = .ok (.if_icmp .eq 11, 3) := by decide +kernel
theorem dJx35411_checkForComodification_da8c8_14 : decode cJx35411_checkForComodification_da8c8 14 = .ok (.new 41, 3) := by decide +kernel
theorem dJx35411_checkForComodification_da8c8_17 : decode cJx35411_checkForComodification_da8c8 17 = .ok (.dup, 1) := by decide +kernel
theorem dJx35411_checkForComodification_da8c8_18 : decode cJx35411_checkForComodification_da8c8 18 = .ok (.invokespecial 43, 3) := by decide +kernel
theorem dJx35411_checkForComodification_da8c8_21 : decode cJx35411_checkForComodification_da8c8 21 = .ok (.athrow, 1) := by decide +kernel
theorem dJx35411_checkForComodification_da8c8_22 : decode cJx35411_checkForComodification_da8c8 22 = .ok (.return_, 1) := by decide +kernel
set_option maxRecDepth 100000 in
set_option maxHeartbeats 4000000 in
theorem J_check (l : Launch) (D : va_G) (cid : Nat → ClassId) (J : jA) {i q : Nat} {cu la md n : Int32} {r : Value} : jM l D cid J yJx35411_checkForComodification_da8c8 (.code yJx35411_checkForComodification_da8c8 cJx35411_checkForComodification_da8c8 1 none) (gRX 1 20 0 0) [.ref i] [(q, .inr (5, [.int md, r, .int n])), (i, .inr (4, [.int cu, .int la, .int md, .ref q]))] [] 0 0 (α := Unit) (fun rv _ => rv = none) (fun _ => [(q, .inr (5, [.int md, r, .int n])), (i, .inr (4, [.int cu, .int la, .int md, .ref q]))]) := by
  refine jMet (by decide +kernel) (Nat.le_of_ble_eq_true rfl) ?_
  intro p e s m args below meth c H locs ls Q A hA hC hni hl hI kk
  replace hC : jC p s m args c cJx35411_checkForComodification_da8c8 1 "java/util/ArrayList$Itr" D cid J A [] := hC
  replace hl : lv_has ls 1 [(0, .ref i)] := hl
  replace hI : jI D s A [(q, .inr (5, [.int md, r, .int n])), (i, .inr (4, [.int cu, .int la, .int md, .ref q]))] H locs := hI
  have hx := hC.1.1
  have hb := hC.1.2.1
  have hown := hC.1.2.2.2.1
  have hts := hC.1.2.2.2.2.1
  have hK := hC.1.2.2.2.2.2.1
  have hAn := hC.2.2.1
  have hJ := hC.2.1
  refine lv_aload_n hx hb dJx35411_checkForComodification_da8c8_0 rfl (lv_at hl 0 rfl) ?_
  refine va_get (D := D) (ci := 4) (v := .ref q) hx hb hts uJit hown hK hI.1 1 rfl rfl 3 (by decide) (hts _ w1301) (fun _ h9 => h9) rfl dJx35411_checkForComodification_da8c8_1 ?_
  refine va_get (D := D) (ci := 5) (v := .int md) hx hb hts uJli hown hK hI.1 0 rfl rfl 0 (by decide) (hts _ w1195) (u_same (hts _ w1196)) rfl dJx35411_checkForComodification_da8c8_4 ?_
  refine lv_aload_n hx hb dJx35411_checkForComodification_da8c8_7 rfl (lv_at hl 0 rfl) ?_
  refine va_get (D := D) (ci := 4) (v := .int md) hx hb hts uJit hown hK hI.1 1 rfl rfl 2 (by decide) (hts _ w1300) (fun _ h9 => h9) rfl dJx35411_checkForComodification_da8c8_8 ?_
  refine lv_icmp_eq (tgt := 22) hx hb dJx35411_checkForComodification_da8c8_11 rfl (fun _ => ?_) (fun h => absurd rfl h)
  exact kk _ () _ _ _ _ _ _ _ rfl rfl hI ⟨Nat.le_of_ble_eq_true rfl, Nat.le_of_ble_eq_true rfl⟩ (Or.inr (Or.inl ⟨rfl, rfl, dJx35411_checkForComodification_da8c8_22⟩))
theorem dJx35411_next_0502b_0 : decode cJx35411_next_0502b 0 = .ok (.aload_n 0, 1) := by decide +kernel
theorem dJx35411_next_0502b_1 : decode cJx35411_next_0502b 1 = .ok (.invokevirtual 31, 3) := by decide +kernel
theorem dJx35411_next_0502b_4 : decode cJx35411_next_0502b 4 = .ok (.aload_n 0, 1) := by decide +kernel
theorem dJx35411_next_0502b_5 : decode cJx35411_next_0502b 5 = .ok (.getfield 25, 3) := by decide +kernel
theorem dJx35411_next_0502b_8 : decode cJx35411_next_0502b 8 = .ok (.istore_n 1, 1) := by decide +kernel
theorem dJx35411_next_0502b_9 : decode cJx35411_next_0502b 9 = .ok (.iload_n 1, 1) := by decide +kernel
theorem dJx35411_next_0502b_10 : decode cJx35411_next_0502b 10 = .ok (.aload_n 0, 1) := by decide +kernel
theorem dJx35411_next_0502b_11 : decode cJx35411_next_0502b 11 = .ok (.getfield 1, 3) := by decide +kernel
theorem dJx35411_next_0502b_14 : decode cJx35411_next_0502b 14 = .ok (.getfield 28, 3) := by decide +kernel
theorem dJx35411_next_0502b_17 : decode cJx35411_next_0502b 17 = .ok (.if_icmp .lt 11, 3) := by decide +kernel
theorem dJx35411_next_0502b_20 : decode cJx35411_next_0502b 20 = .ok (.new 34, 3) := by decide +kernel
theorem dJx35411_next_0502b_23 : decode cJx35411_next_0502b 23 = .ok (.dup, 1) := by decide +kernel
theorem dJx35411_next_0502b_24 : decode cJx35411_next_0502b 24 = .ok (.invokespecial 36, 3) := by decide +kernel
theorem dJx35411_next_0502b_27 : decode cJx35411_next_0502b 27 = .ok (.athrow, 1) := by decide +kernel
theorem dJx35411_next_0502b_28 : decode cJx35411_next_0502b 28 = .ok (.aload_n 0, 1) := by decide +kernel
theorem dJx35411_next_0502b_29 : decode cJx35411_next_0502b 29 = .ok (.getfield 1, 3) := by decide +kernel
theorem dJx35411_next_0502b_32 : decode cJx35411_next_0502b 32 = .ok (.getfield 37, 3) := by decide +kernel
theorem dJx35411_next_0502b_35 : decode cJx35411_next_0502b 35 = .ok (.astore_n 2, 1) := by decide +kernel
theorem dJx35411_next_0502b_36 : decode cJx35411_next_0502b 36 = .ok (.iload_n 1, 1) := by decide +kernel
theorem dJx35411_next_0502b_37 : decode cJx35411_next_0502b 37 = .ok (.aload_n 2, 1) := by decide +kernel
theorem dJx35411_next_0502b_38 : decode cJx35411_next_0502b 38 = .ok (.arraylength, 1) := by decide +kernel
theorem dJx35411_next_0502b_39 : decode cJx35411_next_0502b 39 = .ok (.if_icmp .lt 11, 3) := by decide +kernel
theorem dJx35411_next_0502b_42 : decode cJx35411_next_0502b 42 = .ok (.new 41, 3) := by decide +kernel
theorem dJx35411_next_0502b_45 : decode cJx35411_next_0502b 45 = .ok (.dup, 1) := by decide +kernel
theorem dJx35411_next_0502b_46 : decode cJx35411_next_0502b 46 = .ok (.invokespecial 43, 3) := by decide +kernel
theorem dJx35411_next_0502b_49 : decode cJx35411_next_0502b 49 = .ok (.athrow, 1) := by decide +kernel
theorem dJx35411_next_0502b_50 : decode cJx35411_next_0502b 50 = .ok (.aload_n 0, 1) := by decide +kernel
theorem dJx35411_next_0502b_51 : decode cJx35411_next_0502b 51 = .ok (.iload_n 1, 1) := by decide +kernel
theorem dJx35411_next_0502b_52 : decode cJx35411_next_0502b 52 = .ok (.iconst 1, 1) := by decide +kernel
theorem dJx35411_next_0502b_53 : decode cJx35411_next_0502b 53 = .ok (.iadd, 1) := by decide +kernel
theorem dJx35411_next_0502b_54 : decode cJx35411_next_0502b 54 = .ok (.putfield 25, 3) := by decide +kernel
theorem dJx35411_next_0502b_57 : decode cJx35411_next_0502b 57 = .ok (.aload_n 2, 1) := by decide +kernel
theorem dJx35411_next_0502b_58 : decode cJx35411_next_0502b 58 = .ok (.aload_n 0, 1) := by decide +kernel
theorem dJx35411_next_0502b_59 : decode cJx35411_next_0502b 59 = .ok (.iload_n 1, 1) := by decide +kernel
theorem dJx35411_next_0502b_60 : decode cJx35411_next_0502b 60 = .ok (.dup_x1, 1) := by decide +kernel
theorem dJx35411_next_0502b_61 : decode cJx35411_next_0502b 61 = .ok (.putfield 13, 3) := by decide +kernel
theorem dJx35411_next_0502b_64 : decode cJx35411_next_0502b 64 = .ok (.aaload, 1) := by decide +kernel
theorem dJx35411_next_0502b_65 : decode cJx35411_next_0502b 65 = .ok (.areturn, 1) := by decide +kernel
set_option maxRecDepth 100000 in
set_option maxHeartbeats 4000000 in
theorem J_next (l : Launch) (D : va_G) (cid : Nat → ClassId) (J : jA) {i q a y k n cap : Nat} {la md : Int32} {f : Nat → Option Nat} (hk : k < n) (hn : n ≤ cap) (hc : cap ≤ 40) (hf : f k = some y) : jM l D cid J yJx35411_next_0502b (.code yJx35411_next_0502b cJx35411_next_0502b 3 (some (.object "java/lang/Object"))) (gRX 2 60 0 0) [.ref i] [(q, .inr (5, [.int md, .ref a, .int (nI n)])), (a, .inl (cid 4, cap, .inr (.inr (.inr (.inr f))))), (i, .inr (4, [.int (nI k), .int la, .int md, .ref q]))] [] 0 0 (α := Unit) (fun rv _ => rv = some (.ref y)) (fun _ => [(q, .inr (5, [.int md, .ref a, .int (nI n)])), (a, .inl (cid 4, cap, .inr (.inr (.inr (.inr f))))), (i, .inr (4, [.int (nI (k + 1)), .int (nI k), .int md, .ref q]))]) := by
  refine jMet (by decide +kernel) (Nat.le_of_ble_eq_true rfl) ?_
  intro p e s m args below meth c H locs ls Q A hA hC hni hl hI kk
  replace hC : jC p s m args c cJx35411_next_0502b 3 "java/util/ArrayList$Itr" D cid J A [] := hC
  replace hl : lv_has ls 3 [(0, .ref i)] := hl
  replace hI : jI D s A [(q, .inr (5, [.int md, .ref a, .int (nI n)])), (a, .inl (cid 4, cap, .inr (.inr (.inr (.inr f))))), (i, .inr (4, [.int (nI k), .int la, .int md, .ref q]))] H locs := hI
  have hx := hC.1.1
  have hb := hC.1.2.1
  have hown := hC.1.2.2.2.1
  have hts := hC.1.2.2.2.2.1
  have hK := hC.1.2.2.2.2.2.1
  have hAn := hC.2.2.1
  have hJ := hC.2.1
  refine lv_aload_n hx hb dJx35411_next_0502b_0 rfl (lv_at hl 0 rfl) ?_
  replace hI : jI D s A [(a, .inl (cid 4, cap, .inr (.inr (.inr (.inr f))))), (q, .inr (5, [.int md, .ref a, .int (nI n)])), (i, .inr (4, [.int (nI k), .int la, .int md, .ref q]))] H locs := j_sub hI [1, 0, 2] rfl rfl
  refine j_callV (rest := []) [(a, .inl (cid 4, cap, .inr (.inr (.inr (.inr f)))))] hC hI (J_check l D cid J (cu := nI k) (la := la) (md := md) (n := nI n) (r := .ref a)) (fun _ h => absurd h List.not_mem_nil) Z_Jx35411_checkForComodification_da8c8 ZV_Jx35411_checkForComodification_da8c8 w1330 (va_recv hK hI.1 (ci := 4) rfl (q0 := 2) rfl) ⟨rfl, rfl⟩ ⟨Nat.le_of_ble_eq_true rfl, Nat.le_of_ble_eq_true rfl⟩ rfl hl.1 rfl (Nat.le_of_ble_eq_true rfl) dJx35411_next_0502b_1 ⟨Nat.le_of_ble_eq_true rfl, Nat.le_of_ble_eq_true rfl⟩ (fun rv u H1 locs1 hp hI hk1 => ?_)
  obtain ⟨rfl⟩ := hp
  replace hI : jI D s A [(a, .inl (cid 4, cap, .inr (.inr (.inr (.inr f))))), (q, .inr (5, [.int md, .ref a, .int (nI n)])), (i, .inr (4, [.int (nI k), .int la, .int md, .ref q]))] H1 locs1 := hI
  skip
  refine lv_aload_n hx hb dJx35411_next_0502b_4 rfl (lv_at hl 0 rfl) ?_
  refine va_get (D := D) (ci := 4) (v := .int (nI k)) hx hb hts uJit hown hK hI.1 2 rfl rfl 0 (by decide) (hts _ w1298) (fun _ h9 => h9) rfl dJx35411_next_0502b_5 ?_
  refine lv_istore_n (lv' := [(1, .int (nI k)), (0, .ref i)]) hx hb dJx35411_next_0502b_8 rfl hl (by decide) rfl (fun ls hl => ?_)
  refine lv_iload_n hx hb dJx35411_next_0502b_9 rfl (lv_at hl 0 rfl) ?_
  refine lv_aload_n hx hb dJx35411_next_0502b_10 rfl (lv_at hl 1 rfl) ?_
  refine va_get (D := D) (ci := 4) (v := .ref q) hx hb hts uJit hown hK hI.1 2 rfl rfl 3 (by decide) (hts _ w1301) (fun _ h9 => h9) rfl dJx35411_next_0502b_11 ?_
  refine va_getN (D := D) (ci := 5) (v := .int (nI n)) (host := "java/util/ArrayList") (ref := "java/util/ArrayList") hx hb hts uJli hown hK hI.1 1 rfl rfl 2 (by decide) (va_Nw.use rfl hJ.2.2.1.2.2.2.1) (fun _ h9 => h9) rfl dJx35411_next_0502b_14 ?_
  refine lv_icmp_lt (tgt := 28) hx hb dJx35411_next_0502b_17 rfl (fun _ => ?_) (fun h => absurd (nI_lt hk (by omega)) h)
  refine lv_aload_n hx hb dJx35411_next_0502b_28 rfl (lv_at hl 1 rfl) ?_
  refine va_get (D := D) (ci := 4) (v := .ref q) hx hb hts uJit hown hK hI.1 2 rfl rfl 3 (by decide) (hts _ w1301) (fun _ h9 => h9) rfl dJx35411_next_0502b_29 ?_
  refine va_get (D := D) (ci := 5) (v := .ref a) hx hb hts uJli hown hK hI.1 1 rfl rfl 1 (by decide) (hts _ w1191) (fun _ h9 => h9) rfl dJx35411_next_0502b_32 ?_
  refine lv_astore_n (lv' := [(2, .ref a), (1, .int (nI k)), (0, .ref i)]) hx hb dJx35411_next_0502b_35 rfl hl (by decide) rfl (fun ls hl => ?_)
  refine lv_iload_n hx hb dJx35411_next_0502b_36 rfl (lv_at hl 1 rfl) ?_
  refine lv_aload_n hx hb dJx35411_next_0502b_37 rfl (lv_at hl 0 rfl) ?_
  refine va_alen hx hb hK hI.1 0 4 rfl rfl (v := nI cap) rfl dJx35411_next_0502b_38 ?_
  refine lv_icmp_lt (tgt := 50) hx hb dJx35411_next_0502b_39 rfl (fun _ => ?_) (fun h => absurd (nI_lt (by omega) (by omega)) h)
  refine lv_aload_n hx hb dJx35411_next_0502b_50 rfl (lv_at hl 2 rfl) ?_
  refine lv_iload_n hx hb dJx35411_next_0502b_51 rfl (lv_at hl 1 rfl) ?_
  refine lv_iconst (v := 1) hx hb dJx35411_next_0502b_52 (by decide) ?_
  refine lv_iadd hx hb dJx35411_next_0502b_53 ?_
  refine g_top (v := nI (k + 1)) ((nI_add k 1).symm) ?_
  refine va_put hx hb hts uJit tyJx35411 tyJx35411_ok nmJx35411 hown hK hI.1 hI.2.1 hI.2.2 2 (by rfl) rfl 0 (by decide) (hts _ w1298) (fun _ h9 => h9) rfl (ty := .int) (by decide +kernel) rfl rfl (Nat.le_of_ble_eq_true rfl) dJx35411_next_0502b_54 (fun H locs hP hD hS => ?_)
  replace hI : jI D s A [(a, .inl (cid 4, cap, .inr (.inr (.inr (.inr f))))), (q, .inr (5, [.int md, .ref a, .int (nI n)])), (i, .inr (4, [.int (nI (k + 1)), .int la, .int md, .ref q]))] H locs := ⟨hP, hD, hS⟩
  refine lv_aload_n hx hb dJx35411_next_0502b_57 rfl (lv_at hl 0 rfl) ?_
  refine lv_aload_n hx hb dJx35411_next_0502b_58 rfl (lv_at hl 2 rfl) ?_
  refine lv_iload_n hx hb dJx35411_next_0502b_59 rfl (lv_at hl 1 rfl) ?_
  refine lv_dup_x1 hx hb dJx35411_next_0502b_60 rfl rfl ?_
  refine va_put hx hb hts uJit tyJx35411 tyJx35411_ok nmJx35411 hown hK hI.1 hI.2.1 hI.2.2 2 (by rfl) rfl 1 (by decide) (hts _ w1299) (fun _ h9 => h9) rfl (ty := .int) (by decide +kernel) rfl rfl (Nat.le_of_ble_eq_true rfl) dJx35411_next_0502b_61 (fun H locs hP hD hS => ?_)
  replace hI : jI D s A [(a, .inl (cid 4, cap, .inr (.inr (.inr (.inr f))))), (q, .inr (5, [.int md, .ref a, .int (nI n)])), (i, .inr (4, [.int (nI (k + 1)), .int (nI k), .int md, .ref q]))] H locs := ⟨hP, hD, hS⟩
  refine va_aldq hx hb hK hI.1 0 4 rfl rfl (vp_in_nI (show k < cap by omega) (by omega)) dJx35411_next_0502b_64 ?_
  rw [nI_clamp (by omega), hf]
  replace hI : jI D s A [(q, .inr (5, [.int md, .ref a, .int (nI n)])), (a, .inl (cid 4, cap, .inr (.inr (.inr (.inr f))))), (i, .inr (4, [.int (nI (k + 1)), .int (nI k), .int md, .ref q]))] H locs := j_sub hI [1, 0, 2] rfl rfl
  exact kk _ () _ _ _ _ _ _ _ rfl rfl hI ⟨Nat.le_of_ble_eq_true rfl, Nat.le_of_ble_eq_true rfl⟩ (Or.inr (Or.inr ⟨_, _, rfl, rfl, (by first | exact Or.inl ⟨_, rfl⟩ | exact Or.inr ⟨_, rfl⟩), dJx35411_next_0502b_65⟩))
theorem dJ6_intValue_8abf5_0 : decode cJ6_intValue_8abf5 0 = .ok (.aload_n 0, 1) := by decide +kernel
theorem dJ6_intValue_8abf5_1 : decode cJ6_intValue_8abf5 1 = .ok (.getfield 205, 3) := by decide +kernel
theorem dJ6_intValue_8abf5_4 : decode cJ6_intValue_8abf5 4 = .ok (.ireturn, 1) := by decide +kernel
set_option maxRecDepth 100000 in
set_option maxHeartbeats 4000000 in
theorem J_intValue (l : Launch) (D : va_G) (cid : Nat → ClassId) (J : jA) {b : Nat} {v : Int32} : jM l D cid J yJ6_intValue_8abf5 (.code yJ6_intValue_8abf5 cJ6_intValue_8abf5 1 (some .int)) (gRX 0 0 0 0) [.ref b] [(b, .inr (2, [.int v]))] [] 0 0 (α := Unit) (fun rv _ => rv = some (.int v)) (fun _ => [(b, .inr (2, [.int v]))]) := by
  refine jMet (by decide +kernel) (Nat.le_of_ble_eq_true rfl) ?_
  intro p e s m args below meth c H locs ls Q A hA hC hni hl hI kk
  replace hC : jC p s m args c cJ6_intValue_8abf5 1 "java/lang/Integer" D cid J A [] := hC
  replace hl : lv_has ls 1 [(0, .ref b)] := hl
  replace hI : jI D s A [(b, .inr (2, [.int v]))] H locs := hI
  have hx := hC.1.1
  have hb := hC.1.2.1
  have hown := hC.1.2.2.2.1
  have hts := hC.1.2.2.2.2.1
  have hK := hC.1.2.2.2.2.2.1
  have hAn := hC.2.2.1
  have hJ := hC.2.1
  refine lv_aload_n hx hb dJ6_intValue_8abf5_0 rfl (lv_at hl 0 rfl) ?_
  refine va_get (D := D) (ci := 2) (v := .int v) hx hb hts uJ6' hown hK hI.1 0 rfl rfl 0 (by decide) (hts _ w1221) (fun _ h9 => h9) rfl dJ6_intValue_8abf5_1 ?_
  exact kk _ () _ _ _ _ _ _ _ rfl rfl hI ⟨Nat.le_of_ble_eq_true rfl, Nat.le_of_ble_eq_true rfl⟩ (Or.inl ⟨_, _, rfl, rfl, (by first | rfl | exact gb_nar _), dJ6_intValue_8abf5_4⟩)
set_option maxRecDepth 100000 in
set_option maxHeartbeats 4000000 in
theorem J_intValueC (l : Launch) (D : va_G) (cid : Nat → ClassId) (J : jA) {k : Nat} (hk : k < 256) : jM l D cid J yJ6_intValue_8abf5 (.code yJ6_intValue_8abf5 cJ6_intValue_8abf5 1 (some .int)) (gRX 0 0 0 0) [.ref (J.1 k)] ([] : va_W) [] 0 0 (α := Unit) (fun rv _ => rv = some (.int (vb_c k))) (fun _ => []) := by
  refine jMet (by decide +kernel) (Nat.le_of_ble_eq_true rfl) ?_
  intro p e s m args below meth c H locs ls Q A hA hC hni hl hI kk
  replace hC : jC p s m args c cJ6_intValue_8abf5 1 "java/lang/Integer" D cid J A [] := hC
  replace hl : lv_has ls 1 [(0, .ref (J.1 k))] := hl
  replace hI : jI D s A ([] : va_W) H locs := hI
  have hx := hC.1.1
  have hb := hC.1.2.1
  have hown := hC.1.2.2.2.1
  have hts := hC.1.2.2.2.2.1
  have hK := hC.1.2.2.2.2.2.1
  have hAn := hC.2.2.1
  have hJ := hC.2.1
  refine lv_aload_n hx hb dJ6_intValue_8abf5_0 rfl (lv_at hl 0 rfl) ?_
  refine va_getX (i := k) (v := fun k => .int (vb_c k)) hx hb hJ.1.2.2.2.2 hk hI.2.2 hown (hts _ w1221) (fun _ h9 => h9) dJ6_intValue_8abf5_1 ?_
  exact kk _ () _ _ _ _ _ _ _ rfl rfl hI ⟨Nat.le_of_ble_eq_true rfl, Nat.le_of_ble_eq_true rfl⟩ (Or.inl ⟨_, _, rfl, rfl, (by first | rfl | exact gb_nar _), dJ6_intValue_8abf5_4⟩)
