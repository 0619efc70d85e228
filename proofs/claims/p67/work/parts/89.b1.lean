/-! StringBuilder: a text grows; laid by wip/p67/gen/jdk67d.py. -/
theorem w1436 : Cond.selects RJ4 yJ5_isLatin1_aae02 yJ5_isLatin1_aae02 ∈ gU := gT 1436 (by decide +kernel) rfl
theorem Z_J5_init_d00df : gY yJ5_init_d00df cJ5_init_d00df 2 none 1 := ⟨w1379, w31, ⟨by decide, by decide⟩, by decide +kernel⟩
theorem ZI_J5_init_d00df : Cond.instanceMethod yJ5_init_d00df ∈ gU := w1378
theorem Z_J4_init_da8c8 : gY yJ4_init_da8c8 cJ4_init_da8c8 1 none 0 := ⟨w1376, w32, ⟨by decide, by decide⟩, by decide +kernel⟩
theorem ZI_J4_init_da8c8 : Cond.instanceMethod yJ4_init_da8c8 ∈ gU := w1375
theorem Z_J5_isLatin1_aae02 : gY yJ5_isLatin1_aae02 cJ5_isLatin1_aae02 1 (some .boolean) 0 := ⟨w1437, w31, ⟨by decide, by decide⟩, by decide +kernel⟩
theorem ZI_J5_isLatin1_aae02 : Cond.instanceMethod yJ5_isLatin1_aae02 ∈ gU := w1434
theorem Z_J5_newCapacity_0f7a4 : gY yJ5_newCapacity_0f7a4 cJ5_newCapacity_0f7a4 6 (some .int) 1 := ⟨w1420, w31, ⟨by decide, by decide⟩, by decide +kernel⟩
theorem ZI_J5_newCapacity_0f7a4 : Cond.instanceMethod yJ5_newCapacity_0f7a4 ∈ gU := w1419
theorem Z_J7_copyOf_9075b : gY yJ7_copyOf_9075b cJ7_copyOf_9075b 3 (some (.array .byte)) 2 := ⟨w1425, w26, ⟨by decide, by decide⟩, by decide +kernel⟩
theorem ZS_J7_copyOf_9075b : Cond.static yJ7_copyOf_9075b ∈ gU := w1424
theorem Z_J5_ensureCapacityInternal_d00df : gY yJ5_ensureCapacityInternal_d00df cJ5_ensureCapacityInternal_d00df 3 none 1 := ⟨w1416, w31, ⟨by decide, by decide⟩, by decide +kernel⟩
theorem ZI_J5_ensureCapacityInternal_d00df : Cond.instanceMethod yJ5_ensureCapacityInternal_d00df ∈ gU := w1415
theorem dJ5_init_d00df_0 : decode cJ5_init_d00df 0 = .ok (.aload_n 0, 1) := by decide +kernel
theorem dJ5_init_d00df_1 : decode cJ5_init_d00df 1 = .ok (.invokespecial 3, 3) := by decide +kernel
theorem dJ5_init_d00df_4 : decode cJ5_init_d00df 4 = .ok (.getstatic 18, 3) := by decide +kernel
theorem dJ5_init_d00df_7 : decode cJ5_init_d00df 7 = .ok (.ifCond .eq 18, 3) := by decide +kernel
theorem dJ5_init_d00df_10 : decode cJ5_init_d00df 10 = .ok (.aload_n 0, 1) := by decide +kernel
theorem dJ5_init_d00df_11 : decode cJ5_init_d00df 11 = .ok (.iload_n 1, 1) := by decide +kernel
theorem dJ5_init_d00df_12 : decode cJ5_init_d00df 12 = .ok (.newarray .byte, 2) := by decide +kernel
theorem dJ5_init_d00df_14 : decode cJ5_init_d00df 14 = .ok (.putfield 15, 3) := by decide +kernel
theorem dJ5_init_d00df_17 : decode cJ5_init_d00df 17 = .ok (.aload_n 0, 1) := by decide +kernel
theorem dJ5_init_d00df_18 : decode cJ5_init_d00df 18 = .ok (.iconst 0, 1) := by decide +kernel
theorem dJ5_init_d00df_19 : decode cJ5_init_d00df 19 = .ok (.putfield 22, 3) := by decide +kernel
theorem dJ5_init_d00df_22 : decode cJ5_init_d00df 22 = .ok (.goto 16, 3) := by decide +kernel
theorem dJ5_init_d00df_25 : decode cJ5_init_d00df 25 = .ok (.aload_n 0, 1) := by decide +kernel
theorem dJ5_init_d00df_26 : decode cJ5_init_d00df 26 = .ok (.iload_n 1, 1) := by decide +kernel
theorem dJ5_init_d00df_27 : decode cJ5_init_d00df 27 = .ok (.invokestatic 26, 3) := by decide +kernel
theorem dJ5_init_d00df_30 : decode cJ5_init_d00df 30 = .ok (.putfield 15, 3) := by decide +kernel
theorem dJ5_init_d00df_33 : decode cJ5_init_d00df 33 = .ok (.aload_n 0, 1) := by decide +kernel
theorem dJ5_init_d00df_34 : decode cJ5_init_d00df 34 = .ok (.iconst 1, 1) := by decide +kernel
theorem dJ5_init_d00df_35 : decode cJ5_init_d00df 35 = .ok (.putfield 22, 3) := by decide +kernel
theorem dJ5_init_d00df_38 : decode cJ5_init_d00df 38 = .ok (.return_, 1) := by decide +kernel
set_option maxRecDepth 100000 in
set_option maxHeartbeats 4000000 in
theorem J_asb (l : Launch) (D : va_G) (cid : Nat → ClassId) (J : jA) {q : Nat} : jM l D cid J yJ5_init_d00df (.code yJ5_init_d00df cJ5_init_d00df 2 none) (gRX 1 20 1 16) [.ref q, .int 16] [(q, .inr (1, [.null, .int 0, .int 0, .int 0]))] [] 1 16 (α := Nat) (fun rv _ => rv = none) (fun v => [(q, .inr (1, [.ref v, .int 0, .int 0, .int (nI 0)])), (v, .inl (cid 3, 16, .inl (fun _ => 0)))]) := by
  refine jMet (by decide +kernel) (Nat.le_of_ble_eq_true rfl) ?_
  intro p e s m args below meth c H locs ls Q A hA hC hni hl hI kk
  replace hC : jC p s m args c cJ5_init_d00df 2 "java/lang/AbstractStringBuilder" D cid J A [] := hC
  replace hl : lv_has ls 2 [(0, .ref q), (1, .int 16)] := hl
  replace hI : jI D s A [(q, .inr (1, [.null, .int 0, .int 0, .int 0]))] H locs := hI
  have hx := hC.1.1
  have hb := hC.1.2.1
  have hown := hC.1.2.2.2.1
  have hts := hC.1.2.2.2.2.1
  have hK := hC.1.2.2.2.2.2.1
  have hAn := hC.2.2.1
  have hJ := hC.2.1
  refine lv_aload_n hx hb dJ5_init_d00df_0 rfl (lv_at hl 0 rfl) ?_
  refine j_obj hC hl.1 w1380 w40 w41 ⟨Nat.le_of_ble_eq_true rfl, Nat.le_of_ble_eq_true rfl⟩ dJ5_init_d00df_1 ?_
  refine va_gets hx hb hJ.2.2.2.2.1 hI.2.2 hown (hts _ w1381) (fun _ h9 => h9) dJ5_init_d00df_4 ?_
  refine lv_if_eq (tgt := 25) hx hb dJ5_init_d00df_7 rfl (fun h => absurd h (by decide)) (fun _ => ?_)
  refine lv_aload_n hx hb dJ5_init_d00df_10 rfl (lv_at hl 0 rfl) ?_
  refine lv_iload_n hx hb dJ5_init_d00df_11 rfl (lv_at hl 1 rfl) ?_
  refine va_newa (atype := .byte) (ty := .byte) hx hb (hts _ w328) rfl hK hI.1 hI.2.1 hI.2.2 hAn (N' := 16) (a0 := (16, .inl (fun _ => 0))) (fun _ => rfl) (by decide) rfl (by decide) (Nat.le_of_ble_eq_true rfl) (Nat.le_of_ble_eq_true rfl) dJ5_init_d00df_12 (fun v cA H hK1 hP hD hS => ?_)
  have ec := iid_byte hC.1.2.2.2.2.2 cA (hK1.2 5 _ rfl).2
  subst ec
  replace hI : jI D s A [(q, .inr (1, [.null, .int 0, .int 0, .int 0])), (v, .inl (cid 3, 16, .inl (fun _ => 0)))] H locs := ⟨hP, hD, hS⟩
  refine va_put hx hb hts uJ4' tyJ4 tyJ4_ok nmJ4 hown hK hI.1 hI.2.1 hI.2.2 0 (by rfl) rfl 0 (by decide) (hts _ w1389) (fun _ h9 => h9) rfl (ty := .array .byte) (by decide +kernel) rfl rfl (Nat.le_of_ble_eq_true rfl) dJ5_init_d00df_14 (fun H locs hP hD hS => ?_)
  replace hI : jI D s A [(q, .inr (1, [.ref v, .int 0, .int 0, .int 0])), (v, .inl (cid 3, 16, .inl (fun _ => 0)))] H locs := ⟨hP, hD, hS⟩
  refine lv_aload_n hx hb dJ5_init_d00df_17 rfl (lv_at hl 0 rfl) ?_
  refine lv_iconst (v := 0) hx hb dJ5_init_d00df_18 (by decide) ?_
  refine va_put hx hb hts uJ4' tyJ4 tyJ4_ok nmJ4 hown hK hI.1 hI.2.1 hI.2.2 0 (by rfl) rfl 1 (by decide) (hts _ w1390) (fun _ h9 => h9) rfl (ty := .byte) (by decide +kernel) (by first | rfl | exact gb_nar _) (by first | rfl | exact gb_fit _) (Nat.le_of_ble_eq_true rfl) dJ5_init_d00df_19 (fun H locs hP hD hS => ?_)
  replace hI : jI D s A [(q, .inr (1, [.ref v, .int 0, .int 0, .int 0])), (v, .inl (cid 3, 16, .inl (fun _ => 0)))] H locs := ⟨hP, hD, hS⟩
  refine lv_goto (tgt := 38) hx hb dJ5_init_d00df_22 rfl ?_
  replace hI : jI D s A [(q, .inr (1, [.ref v, .int 0, .int 0, .int (nI 0)])), (v, .inl (cid 3, 16, .inl (fun _ => 0)))] H locs := hI
  exact kk _ v _ _ _ _ _ _ _ rfl rfl hI ⟨Nat.le_of_ble_eq_true rfl, Nat.le_of_ble_eq_true rfl⟩ (Or.inr (Or.inl ⟨rfl, rfl, dJ5_init_d00df_38⟩))
theorem dJ4_init_da8c8_0 : decode cJ4_init_da8c8 0 = .ok (.aload_n 0, 1) := by decide +kernel
theorem dJ4_init_da8c8_1 : decode cJ4_init_da8c8 1 = .ok (.bipush 16, 2) := by decide +kernel
theorem dJ4_init_da8c8_3 : decode cJ4_init_da8c8 3 = .ok (.invokespecial 1, 3) := by decide +kernel
theorem dJ4_init_da8c8_6 : decode cJ4_init_da8c8 6 = .ok (.return_, 1) := by decide +kernel
set_option maxRecDepth 100000 in
set_option maxHeartbeats 4000000 in
theorem J_sbNew (l : Launch) (D : va_G) (cid : Nat → ClassId) (J : jA) {q : Nat} : jM l D cid J yJ4_init_da8c8 (.code yJ4_init_da8c8 cJ4_init_da8c8 1 none) (gRX 2 50 1 16) [.ref q] [(q, .inr (1, [.null, .int 0, .int 0, .int 0]))] [] 1 16 (α := Nat) (fun rv _ => rv = none) (fun v => [(q, .inr (1, [.ref v, .int 0, .int 0, .int (nI 0)])), (v, .inl (cid 3, 16, .inl (fun _ => 0)))]) := by
  refine jMet (by decide +kernel) (Nat.le_of_ble_eq_true rfl) ?_
  intro p e s m args below meth c H locs ls Q A hA hC hni hl hI kk
  replace hC : jC p s m args c cJ4_init_da8c8 1 "java/lang/StringBuilder" D cid J A [] := hC
  replace hl : lv_has ls 1 [(0, .ref q)] := hl
  replace hI : jI D s A [(q, .inr (1, [.null, .int 0, .int 0, .int 0]))] H locs := hI
  have hx := hC.1.1
  have hb := hC.1.2.1
  have hown := hC.1.2.2.2.1
  have hts := hC.1.2.2.2.2.1
  have hK := hC.1.2.2.2.2.2.1
  have hAn := hC.2.2.1
  have hJ := hC.2.1
  refine lv_aload_n hx hb dJ4_init_da8c8_0 rfl (lv_at hl 0 rfl) ?_
  refine lv_bipush (v := 16) hx hb dJ4_init_da8c8_1 (by decide) ?_
  refine j_callI (rest := []) ([] : va_W) hC hI (J_asb l D cid J) (fun _ h => absurd h List.not_mem_nil) Z_J5_init_d00df rfl ZI_J5_init_d00df w1377 ⟨rfl, rfl⟩ ⟨Nat.le_of_ble_eq_true rfl, Nat.le_of_ble_eq_true rfl⟩ rfl hl.1 rfl (Nat.le_of_ble_eq_true rfl) dJ4_init_da8c8_3 ⟨Nat.le_of_ble_eq_true rfl, Nat.le_of_ble_eq_true rfl⟩ (fun rv u H1 locs1 hp hI hk1 => ?_)
  obtain ⟨rfl⟩ := hp
  replace hI : jI D s A [(q, .inr (1, [.ref u, .int 0, .int 0, .int (nI 0)])), (u, .inl (cid 3, 16, .inl (fun _ => 0)))] H1 locs1 := hI
  skip
  exact kk _ u _ _ _ _ _ _ _ rfl rfl hI ⟨Nat.le_of_ble_eq_true rfl, Nat.le_of_ble_eq_true rfl⟩ (Or.inr (Or.inl ⟨rfl, rfl, dJ4_init_da8c8_6⟩))
theorem dJ5_isLatin1_aae02_0 : decode cJ5_isLatin1_aae02 0 = .ok (.getstatic 18, 3) := by decide +kernel
theorem dJ5_isLatin1_aae02_3 : decode cJ5_isLatin1_aae02 3 = .ok (.ifCond .eq 14, 3) := by decide +kernel
theorem dJ5_isLatin1_aae02_6 : decode cJ5_isLatin1_aae02 6 = .ok (.aload_n 0, 1) := by decide +kernel
theorem dJ5_isLatin1_aae02_7 : decode cJ5_isLatin1_aae02 7 = .ok (.getfield 22, 3) := by decide +kernel
theorem dJ5_isLatin1_aae02_10 : decode cJ5_isLatin1_aae02 10 = .ok (.ifCond .ne 7, 3) := by decide +kernel
theorem dJ5_isLatin1_aae02_13 : decode cJ5_isLatin1_aae02 13 = .ok (.iconst 1, 1) := by decide +kernel
theorem dJ5_isLatin1_aae02_14 : decode cJ5_isLatin1_aae02 14 = .ok (.goto 4, 3) := by decide +kernel
theorem dJ5_isLatin1_aae02_17 : decode cJ5_isLatin1_aae02 17 = .ok (.iconst 0, 1) := by decide +kernel
theorem dJ5_isLatin1_aae02_18 : decode cJ5_isLatin1_aae02 18 = .ok (.ireturn, 1) := by decide +kernel
set_option maxRecDepth 100000 in
set_option maxHeartbeats 4000000 in
theorem J_sbLatin (l : Launch) (D : va_G) (cid : Nat → ClassId) (J : jA) {q v : Nat} {n : Int32} : jM l D cid J yJ5_isLatin1_aae02 (.code yJ5_isLatin1_aae02 cJ5_isLatin1_aae02 1 (some .boolean)) (gRX 0 0 0 0) [.ref q] [(q, .inr (1, [.ref v, .int 0, .int 0, .int n]))] [] 0 0 (α := Unit) (fun rv _ => rv = some (.int 1)) (fun _ => [(q, .inr (1, [.ref v, .int 0, .int 0, .int n]))]) := by
  refine jMet (by decide +kernel) (Nat.le_of_ble_eq_true rfl) ?_
  intro p e s m args below meth c H locs ls Q A hA hC hni hl hI kk
  replace hC : jC p s m args c cJ5_isLatin1_aae02 1 "java/lang/AbstractStringBuilder" D cid J A [] := hC
  replace hl : lv_has ls 1 [(0, .ref q)] := hl
  replace hI : jI D s A [(q, .inr (1, [.ref v, .int 0, .int 0, .int n]))] H locs := hI
  have hx := hC.1.1
  have hb := hC.1.2.1
  have hown := hC.1.2.2.2.1
  have hts := hC.1.2.2.2.2.1
  have hK := hC.1.2.2.2.2.2.1
  have hAn := hC.2.2.1
  have hJ := hC.2.1
  refine va_gets hx hb hJ.2.2.2.2.1 hI.2.2 hown (hts _ w1381) (fun _ h9 => h9) dJ5_isLatin1_aae02_0 ?_
  refine lv_if_eq (tgt := 17) hx hb dJ5_isLatin1_aae02_3 rfl (fun h => absurd h (by decide)) (fun _ => ?_)
  refine lv_aload_n hx hb dJ5_isLatin1_aae02_6 rfl (lv_at hl 0 rfl) ?_
  refine va_get (D := D) (ci := 1) (v := .int 0) hx hb hts uJ4' hown hK hI.1 0 rfl rfl 1 (by decide) (hts _ w1390) (fun _ h9 => h9) rfl dJ5_isLatin1_aae02_7 ?_
  refine lv_if_ne (tgt := 17) hx hb dJ5_isLatin1_aae02_10 rfl (fun h => absurd rfl h) (fun _ => ?_)
  refine lv_iconst (v := 1) hx hb dJ5_isLatin1_aae02_13 (by decide) ?_
  refine lv_goto (tgt := 18) hx hb dJ5_isLatin1_aae02_14 rfl ?_
  exact kk _ () _ _ _ _ _ _ _ rfl rfl hI ⟨Nat.le_of_ble_eq_true rfl, Nat.le_of_ble_eq_true rfl⟩ (Or.inl ⟨_, _, rfl, rfl, (by first | rfl | exact gb_nar _), dJ5_isLatin1_aae02_18⟩)
theorem dJ5_newCapacity_0f7a4_0 : decode cJ5_newCapacity_0f7a4 0 = .ok (.aload_n 0, 1) := by decide +kernel
theorem dJ5_newCapacity_0f7a4_1 : decode cJ5_newCapacity_0f7a4 1 = .ok (.getfield 15, 3) := by decide +kernel
theorem dJ5_newCapacity_0f7a4_4 : decode cJ5_newCapacity_0f7a4 4 = .ok (.arraylength, 1) := by decide +kernel
theorem dJ5_newCapacity_0f7a4_5 : decode cJ5_newCapacity_0f7a4 5 = .ok (.istore_n 2, 1) := by decide +kernel
theorem dJ5_newCapacity_0f7a4_6 : decode cJ5_newCapacity_0f7a4 6 = .ok (.iload_n 1, 1) := by decide +kernel
theorem dJ5_newCapacity_0f7a4_7 : decode cJ5_newCapacity_0f7a4 7 = .ok (.aload_n 0, 1) := by decide +kernel
theorem dJ5_newCapacity_0f7a4_8 : decode cJ5_newCapacity_0f7a4 8 = .ok (.getfield 22, 3) := by decide +kernel
theorem dJ5_newCapacity_0f7a4_11 : decode cJ5_newCapacity_0f7a4 11 = .ok (.ishl, 1) := by decide +kernel
theorem dJ5_newCapacity_0f7a4_12 : decode cJ5_newCapacity_0f7a4 12 = .ok (.istore_n 3, 1) := by decide +kernel
theorem dJ5_newCapacity_0f7a4_13 : decode cJ5_newCapacity_0f7a4 13 = .ok (.iload_n 3, 1) := by decide +kernel
theorem dJ5_newCapacity_0f7a4_14 : decode cJ5_newCapacity_0f7a4 14 = .ok (.iload_n 2, 1) := by decide +kernel
theorem dJ5_newCapacity_0f7a4_15 : decode cJ5_newCapacity_0f7a4 15 = .ok (.isub, 1) := by decide +kernel
theorem dJ5_newCapacity_0f7a4_16 : decode cJ5_newCapacity_0f7a4 16 = .ok (.istore 4, 2) := by decide +kernel
theorem dJ5_newCapacity_0f7a4_18 : decode cJ5_newCapacity_0f7a4 18 = .ok (.iload_n 2, 1) := by decide +kernel
theorem dJ5_newCapacity_0f7a4_19 : decode cJ5_newCapacity_0f7a4 19 = .ok (.iload 4, 2) := by decide +kernel
theorem dJ5_newCapacity_0f7a4_21 : decode cJ5_newCapacity_0f7a4 21 = .ok (.iload_n 2, 1) := by decide +kernel
theorem dJ5_newCapacity_0f7a4_22 : decode cJ5_newCapacity_0f7a4 22 = .ok (.iconst 2, 1) := by decide +kernel
theorem dJ5_newCapacity_0f7a4_23 : decode cJ5_newCapacity_0f7a4 23 = .ok (.aload_n 0, 1) := by decide +kernel
theorem dJ5_newCapacity_0f7a4_24 : decode cJ5_newCapacity_0f7a4 24 = .ok (.getfield 22, 3) := by decide +kernel
theorem dJ5_newCapacity_0f7a4_27 : decode cJ5_newCapacity_0f7a4 27 = .ok (.ishl, 1) := by decide +kernel
theorem dJ5_newCapacity_0f7a4_28 : decode cJ5_newCapacity_0f7a4 28 = .ok (.iadd, 1) := by decide +kernel
theorem dJ5_newCapacity_0f7a4_29 : decode cJ5_newCapacity_0f7a4 29 = .ok (.invokestatic 114, 3) := by decide +kernel
theorem dJ5_newCapacity_0f7a4_32 : decode cJ5_newCapacity_0f7a4 32 = .ok (.istore 5, 2) := by decide +kernel
theorem dJ5_newCapacity_0f7a4_34 : decode cJ5_newCapacity_0f7a4 34 = .ok (.iload 5, 2) := by decide +kernel
theorem dJ5_newCapacity_0f7a4_36 : decode cJ5_newCapacity_0f7a4 36 = .ok (.ldc 39, 2) := by decide +kernel
theorem dJ5_newCapacity_0f7a4_38 : decode cJ5_newCapacity_0f7a4 38 = .ok (.if_icmp .ne 13, 3) := by decide +kernel
theorem dJ5_newCapacity_0f7a4_41 : decode cJ5_newCapacity_0f7a4 41 = .ok (.new 120, 3) := by decide +kernel
theorem dJ5_newCapacity_0f7a4_44 : decode cJ5_newCapacity_0f7a4 44 = .ok (.dup, 1) := by decide +kernel
theorem dJ5_newCapacity_0f7a4_45 : decode cJ5_newCapacity_0f7a4 45 = .ok (.ldc 122, 2) := by decide +kernel
theorem dJ5_newCapacity_0f7a4_47 : decode cJ5_newCapacity_0f7a4 47 = .ok (.invokespecial 124, 3) := by decide +kernel
theorem dJ5_newCapacity_0f7a4_50 : decode cJ5_newCapacity_0f7a4 50 = .ok (.athrow, 1) := by decide +kernel
theorem dJ5_newCapacity_0f7a4_51 : decode cJ5_newCapacity_0f7a4 51 = .ok (.iload 5, 2) := by decide +kernel
theorem dJ5_newCapacity_0f7a4_53 : decode cJ5_newCapacity_0f7a4 53 = .ok (.aload_n 0, 1) := by decide +kernel
theorem dJ5_newCapacity_0f7a4_54 : decode cJ5_newCapacity_0f7a4 54 = .ok (.getfield 22, 3) := by decide +kernel
theorem dJ5_newCapacity_0f7a4_57 : decode cJ5_newCapacity_0f7a4 57 = .ok (.ishr, 1) := by decide +kernel
theorem dJ5_newCapacity_0f7a4_58 : decode cJ5_newCapacity_0f7a4 58 = .ok (.ireturn, 1) := by decide +kernel
set_option maxRecDepth 100000 in
set_option maxHeartbeats 4000000 in
theorem J_newCap (l : Launch) (D : va_G) (cid : Nat → ClassId) (J : jA) {q v : Nat} {n : Int32} {cap need : Nat} {a : Nat → Int32} (h1 : cap < need) (h2 : need ≤ 2 * cap + 2) (h3 : cap ≤ 100) : jM l D cid J yJ5_newCapacity_0f7a4 (.code yJ5_newCapacity_0f7a4 cJ5_newCapacity_0f7a4 6 (some .int)) (gRX 3 90 0 0) [.ref q, .int (nI need)] [(q, .inr (1, [.ref v, .int 0, .int 0, .int n])), (v, .inl (cid 3, cap, .inl a))] [] 0 0 (α := Unit) (fun rv _ => rv = some (.int (nI (2 * cap + 2)))) (fun _ => [(q, .inr (1, [.ref v, .int 0, .int 0, .int n])), (v, .inl (cid 3, cap, .inl a))]) := by
  refine jMet (by decide +kernel) (Nat.le_of_ble_eq_true rfl) ?_
  intro p e s m args below meth c H locs ls Q A hA hC hni hl hI kk
  replace hC : jC p s m args c cJ5_newCapacity_0f7a4 6 "java/lang/AbstractStringBuilder" D cid J A [] := hC
  replace hl : lv_has ls 6 [(0, .ref q), (1, .int (nI need))] := hl
  replace hI : jI D s A [(q, .inr (1, [.ref v, .int 0, .int 0, .int n])), (v, .inl (cid 3, cap, .inl a))] H locs := hI
  have hx := hC.1.1
  have hb := hC.1.2.1
  have hown := hC.1.2.2.2.1
  have hts := hC.1.2.2.2.2.1
  have hK := hC.1.2.2.2.2.2.1
  have hAn := hC.2.2.1
  have hJ := hC.2.1
  refine lv_aload_n hx hb dJ5_newCapacity_0f7a4_0 rfl (lv_at hl 0 rfl) ?_
  refine va_get (D := D) (ci := 1) (v := .ref v) hx hb hts uJ4' hown hK hI.1 0 rfl rfl 0 (by decide) (hts _ w1389) (fun _ h9 => h9) rfl dJ5_newCapacity_0f7a4_1 ?_
  refine va_alen hx hb hK hI.1 1 3 rfl rfl (v := nI cap) rfl dJ5_newCapacity_0f7a4_4 ?_
  refine lv_istore_n (lv' := [(2, .int (nI cap)), (0, .ref q), (1, .int (nI need))]) hx hb dJ5_newCapacity_0f7a4_5 rfl hl (by decide) rfl (fun ls hl => ?_)
  refine lv_iload_n hx hb dJ5_newCapacity_0f7a4_6 rfl (lv_at hl 2 rfl) ?_
  refine lv_aload_n hx hb dJ5_newCapacity_0f7a4_7 rfl (lv_at hl 1 rfl) ?_
  refine va_get (D := D) (ci := 1) (v := .int 0) hx hb hts uJ4' hown hK hI.1 0 rfl rfl 1 (by decide) (hts _ w1390) (fun _ h9 => h9) rfl dJ5_newCapacity_0f7a4_8 ?_
  refine lv_ishl hx hb dJ5_newCapacity_0f7a4_11 ?_
  refine g_top (v := nI need) ((shl0 _).symm) ?_
  refine lv_istore_n (lv' := [(3, .int (nI need)), (2, .int (nI cap)), (0, .ref q), (1, .int (nI need))]) hx hb dJ5_newCapacity_0f7a4_12 rfl hl (by decide) rfl (fun ls hl => ?_)
  refine lv_iload_n hx hb dJ5_newCapacity_0f7a4_13 rfl (lv_at hl 0 rfl) ?_
  refine lv_iload_n hx hb dJ5_newCapacity_0f7a4_14 rfl (lv_at hl 1 rfl) ?_
  refine lv_isub hx hb dJ5_newCapacity_0f7a4_15 ?_
  refine g_top (v := nI (need - cap)) ((pk_sub (by omega)).symm) ?_
  refine lv_istore (lv' := [(4, .int (nI (need - cap))), (3, .int (nI need)), (2, .int (nI cap)), (0, .ref q), (1, .int (nI need))]) hx hb dJ5_newCapacity_0f7a4_16 hl (by decide) rfl (fun ls hl => ?_)
  refine lv_iload_n hx hb dJ5_newCapacity_0f7a4_18 rfl (lv_at hl 2 rfl) ?_
  refine lv_iload hx hb dJ5_newCapacity_0f7a4_19 (lv_at hl 0 rfl) ?_
  refine lv_iload_n hx hb dJ5_newCapacity_0f7a4_21 rfl (lv_at hl 2 rfl) ?_
  refine lv_iconst (v := 2) hx hb dJ5_newCapacity_0f7a4_22 (by decide) ?_
  refine lv_aload_n hx hb dJ5_newCapacity_0f7a4_23 rfl (lv_at hl 3 rfl) ?_
  refine va_get (D := D) (ci := 1) (v := .int 0) hx hb hts uJ4' hown hK hI.1 0 rfl rfl 1 (by decide) (hts _ w1390) (fun _ h9 => h9) rfl dJ5_newCapacity_0f7a4_24 ?_
  refine lv_ishl hx hb dJ5_newCapacity_0f7a4_27 ?_
  refine g_top (v := nI 2) (by decide) ?_
  refine lv_iadd hx hb dJ5_newCapacity_0f7a4_28 ?_
  refine g_top (v := nI (cap + 2)) ((nI_add cap 2).symm) ?_
  refine j_callS (rest := []) [(q, .inr (1, [.ref v, .int 0, .int 0, .int n])), (v, .inl (cid 3, cap, .inl a))] hC hI (J_newLength l D cid J (a := cap) (b := cap + 2) (c0 := need - cap) (by omega) (by omega) (by omega)) (fun _ h => absurd h List.not_mem_nil) Z_J8_newLength_cabcc ZS_J8_newLength_cabcc w1421 ⟨rfl, rfl⟩ ⟨Nat.le_of_ble_eq_true rfl, Nat.le_of_ble_eq_true rfl⟩ rfl hl.1 rfl (Nat.le_of_ble_eq_true rfl) dJ5_newCapacity_0f7a4_29 ⟨Nat.le_of_ble_eq_true rfl, Nat.le_of_ble_eq_true rfl⟩ (fun rv u H1 locs1 hp hI hk1 => ?_)
  obtain ⟨rfl⟩ := hp
  replace hI : jI D s A [(q, .inr (1, [.ref v, .int 0, .int 0, .int n])), (v, .inl (cid 3, cap, .inl a))] H1 locs1 := hI
  skip
  refine lv_istore (lv' := [(5, .int (nI (cap + (cap + 2)))), (4, .int (nI (need - cap))), (3, .int (nI need)), (2, .int (nI cap)), (0, .ref q), (1, .int (nI need))]) hx hb dJ5_newCapacity_0f7a4_32 hl (by decide) rfl (fun ls hl => ?_)
  refine lv_iload hx hb dJ5_newCapacity_0f7a4_34 (lv_at hl 0 rfl) ?_
  refine lv_ldc hx hb hown (hts _ w1422) dJ5_newCapacity_0f7a4_36 ?_
  refine lv_icmp_ne (tgt := 51) hx hb dJ5_newCapacity_0f7a4_38 rfl (fun _ => ?_) (fun h => absurd h (fun h9 => by have := (nI_eq (a := cap + (cap + 2)) (b := 2147483647) (by omega) (by omega)).mp h9; omega))
  refine lv_iload hx hb dJ5_newCapacity_0f7a4_51 (lv_at hl 0 rfl) ?_
  refine lv_aload_n hx hb dJ5_newCapacity_0f7a4_53 rfl (lv_at hl 4 rfl) ?_
  refine va_get (D := D) (ci := 1) (v := .int 0) hx hb hts uJ4' hown hK hI.1 0 rfl rfl 1 (by decide) (hts _ w1390) (fun _ h9 => h9) rfl dJ5_newCapacity_0f7a4_54 ?_
  refine lv_ishr hx hb dJ5_newCapacity_0f7a4_57 ?_
  refine g_top (v := nI (2 * cap + 2)) (by rw [shr0]; congr 1; omega) ?_
  exact kk _ () _ _ _ _ _ _ _ rfl rfl hI ⟨Nat.le_of_ble_eq_true rfl, Nat.le_of_ble_eq_true rfl⟩ (Or.inl ⟨_, _, rfl, rfl, (by first | rfl | exact gb_nar _), dJ5_newCapacity_0f7a4_58⟩)
theorem dJ7_copyOf_9075b_0 : decode cJ7_copyOf_9075b 0 = .ok (.iload_n 1, 1) := by decide +kernel
theorem dJ7_copyOf_9075b_1 : decode cJ7_copyOf_9075b 1 = .ok (.aload_n 0, 1) := by decide +kernel
theorem dJ7_copyOf_9075b_2 : decode cJ7_copyOf_9075b 2 = .ok (.arraylength, 1) := by decide +kernel
theorem dJ7_copyOf_9075b_3 : decode cJ7_copyOf_9075b 3 = .ok (.if_icmp .ne 11, 3) := by decide +kernel
theorem dJ7_copyOf_9075b_6 : decode cJ7_copyOf_9075b 6 = .ok (.aload_n 0, 1) := by decide +kernel
theorem dJ7_copyOf_9075b_7 : decode cJ7_copyOf_9075b 7 = .ok (.invokevirtual 310, 3) := by decide +kernel
theorem dJ7_copyOf_9075b_10 : decode cJ7_copyOf_9075b 10 = .ok (.checkcast 311, 3) := by decide +kernel
theorem dJ7_copyOf_9075b_13 : decode cJ7_copyOf_9075b 13 = .ok (.areturn, 1) := by decide +kernel
theorem dJ7_copyOf_9075b_14 : decode cJ7_copyOf_9075b 14 = .ok (.iload_n 1, 1) := by decide +kernel
theorem dJ7_copyOf_9075b_15 : decode cJ7_copyOf_9075b 15 = .ok (.newarray .byte, 2) := by decide +kernel
theorem dJ7_copyOf_9075b_17 : decode cJ7_copyOf_9075b 17 = .ok (.astore_n 2, 1) := by decide +kernel
theorem dJ7_copyOf_9075b_18 : decode cJ7_copyOf_9075b 18 = .ok (.aload_n 0, 1) := by decide +kernel
theorem dJ7_copyOf_9075b_19 : decode cJ7_copyOf_9075b 19 = .ok (.iconst 0, 1) := by decide +kernel
theorem dJ7_copyOf_9075b_20 : decode cJ7_copyOf_9075b 20 = .ok (.aload_n 2, 1) := by decide +kernel
theorem dJ7_copyOf_9075b_21 : decode cJ7_copyOf_9075b 21 = .ok (.iconst 0, 1) := by decide +kernel
theorem dJ7_copyOf_9075b_22 : decode cJ7_copyOf_9075b 22 = .ok (.aload_n 0, 1) := by decide +kernel
theorem dJ7_copyOf_9075b_23 : decode cJ7_copyOf_9075b 23 = .ok (.arraylength, 1) := by decide +kernel
theorem dJ7_copyOf_9075b_24 : decode cJ7_copyOf_9075b 24 = .ok (.iload_n 1, 1) := by decide +kernel
theorem dJ7_copyOf_9075b_25 : decode cJ7_copyOf_9075b 25 = .ok (.invokestatic 304, 3) := by decide +kernel
theorem dJ7_copyOf_9075b_28 : decode cJ7_copyOf_9075b 28 = .ok (.invokestatic 150, 3) := by decide +kernel
theorem dJ7_copyOf_9075b_31 : decode cJ7_copyOf_9075b 31 = .ok (.aload_n 2, 1) := by decide +kernel
theorem dJ7_copyOf_9075b_32 : decode cJ7_copyOf_9075b 32 = .ok (.areturn, 1) := by decide +kernel
set_option maxRecDepth 100000 in
set_option maxHeartbeats 4000000 in
theorem J_copyOfB (l : Launch) (D : va_G) (cid : Nat → ClassId) (J : jA) {v cap k : Nat} {a : Nat → Int32} {T : List Int32} (h1 : cap < k) (h2 : k ≤ 300) (hT : sbH T cap a) : jM l D cid J yJ7_copyOf_9075b (.code yJ7_copyOf_9075b cJ7_copyOf_9075b 3 (some (.array .byte))) (gRX 1 80 1 300) [.ref v, .int (nI k)] [(v, .inl (cid 3, cap, .inl a))] [] 1 300 (α := Nat) (fun rv u => rv = some (.ref u)) (fun u => [(v, .inl (cid 3, cap, .inl a)), (u, .inl (cid 3, k, .inl (va_cpy a (fun _ => 0) 0 0 cap)))]) := by
  refine jMet (by decide +kernel) (Nat.le_of_ble_eq_true rfl) ?_
  intro p e s m args below meth c H locs ls Q A hA hC hni hl hI kk
  replace hC : jC p s m args c cJ7_copyOf_9075b 3 "java/util/Arrays" D cid J A [] := hC
  replace hl : lv_has ls 3 [(0, .ref v), (1, .int (nI k))] := hl
  replace hI : jI D s A [(v, .inl (cid 3, cap, .inl a))] H locs := hI
  have hx := hC.1.1
  have hb := hC.1.2.1
  have hown := hC.1.2.2.2.1
  have hts := hC.1.2.2.2.2.1
  have hK := hC.1.2.2.2.2.2.1
  have hAn := hC.2.2.1
  have hJ := hC.2.1
  refine lv_iload_n hx hb dJ7_copyOf_9075b_0 rfl (lv_at hl 1 rfl) ?_
  refine lv_aload_n hx hb dJ7_copyOf_9075b_1 rfl (lv_at hl 0 rfl) ?_
  refine va_alen hx hb hK hI.1 0 3 rfl rfl (v := nI cap) rfl dJ7_copyOf_9075b_2 ?_
  refine lv_icmp_ne (tgt := 14) hx hb dJ7_copyOf_9075b_3 rfl (fun _ => ?_) (fun h => absurd h (fun h9 => by have := (nI_eq (by omega) (by omega)).mp h9; omega))
  refine lv_iload_n hx hb dJ7_copyOf_9075b_14 rfl (lv_at hl 1 rfl) ?_
  refine va_newa (atype := .byte) (ty := .byte) hx hb (hts _ w328) rfl hK hI.1 hI.2.1 hI.2.2 hAn (N' := k) (a0 := (k, .inl (fun _ => 0))) (fun _ => rfl) (nI_pos (by omega)) (nI_clamp (by omega)) (by show k * 1 ≤ _; omega) (Nat.le_of_ble_eq_true rfl) (show 0 + k ≤ 300 by omega) dJ7_copyOf_9075b_15 (fun u cA H hK1 hP hD hS => ?_)
  have ec := iid_byte hC.1.2.2.2.2.2 cA (hK1.2 5 _ rfl).2
  subst ec
  replace hI : jI D s A [(v, .inl (cid 3, cap, .inl a)), (u, .inl (cid 3, k, .inl (fun _ => 0)))] H locs := ⟨hP, hD, hS⟩
  refine lv_astore_n (lv' := [(2, .ref u), (0, .ref v), (1, .int (nI k))]) hx hb dJ7_copyOf_9075b_17 rfl hl (by decide) rfl (fun ls hl => ?_)
  refine lv_aload_n hx hb dJ7_copyOf_9075b_18 rfl (lv_at hl 1 rfl) ?_
  refine lv_iconst (v := 0) hx hb dJ7_copyOf_9075b_19 (by decide) ?_
  refine lv_aload_n hx hb dJ7_copyOf_9075b_20 rfl (lv_at hl 0 rfl) ?_
  refine lv_iconst (v := 0) hx hb dJ7_copyOf_9075b_21 (by decide) ?_
  refine lv_aload_n hx hb dJ7_copyOf_9075b_22 rfl (lv_at hl 1 rfl) ?_
  refine va_alen hx hb hK hI.1 0 3 rfl rfl (v := nI cap) rfl dJ7_copyOf_9075b_23 ?_
  refine lv_iload_n hx hb dJ7_copyOf_9075b_24 rfl (lv_at hl 2 rfl) ?_
  refine va_mmin hx hb (hC.1.2.2.1.trans hl.1.symm) hown (hts _ w1282) (hts _ w1283) (hts _ w18) (hts _ w1284) (Nat.le_of_ble_eq_true rfl) (Nat.le_of_ble_eq_true rfl) (Nat.le_of_ble_eq_true rfl) (show 0 + k ≤ 300 by omega) dJ7_copyOf_9075b_25 ?_
  refine g_top (v := nI cap) (by first | (rw [if_neg (nI_nlt (Nat.le_of_lt h1) (by omega))]; done) | (rw [if_pos (nI_le (Nat.le_of_lt h1) (by omega))]; done) | (by_cases q : nI k < nI cap; · exact absurd q (nI_nlt (Nat.le_of_lt h1) (by omega)); · rw [if_neg q])) ?_
  refine va_copyi hx hb (hC.1.2.2.1.trans hl.1.symm) hown (hts _ w1285) (hts _ w395) (hts _ w394) (hts _ w17) hK hI.1 hI.2.1 hI.2.2 0 1 3 3 rfl rfl rfl rfl rfl (by decide) (by decide) (nI_pos (by omega)) (show (0 : Int32).toNatClampNeg + (nI cap).toNatClampNeg ≤ cap by rw [nI_clamp (by omega)]; exact Nat.le_of_eq (Nat.zero_add cap)) (show (0 : Int32).toNatClampNeg + (nI cap).toNatClampNeg ≤ k by rw [nI_clamp (by omega), show (0 : Int32).toNatClampNeg = 0 by decide]; omega) (fun i hi => hT.fit _) (Nat.le_of_ble_eq_true rfl) (Nat.le_of_ble_eq_true rfl) dJ7_copyOf_9075b_28 (fun H locs hP hD hS => ?_)
  rw [nI_clamp (show cap < 2 ^ 31 by omega), show (0 : Int32).toNatClampNeg = 0 by decide] at hP hD
  replace hI : jI D s A [(v, .inl (cid 3, cap, .inl a)), (u, .inl (cid 3, k, .inl (va_cpy a (fun _ => 0) 0 0 cap)))] H locs := ⟨hP, hD, hS⟩
  refine lv_aload_n hx hb dJ7_copyOf_9075b_31 rfl (lv_at hl 0 rfl) ?_
  refine W.widen (show _ ≤ 1 by omega) (show _ ≤ 300 by omega) ?_
  exact kk _ u _ _ _ _ _ _ _ rfl rfl hI ⟨Nat.le_of_ble_eq_true rfl, Nat.le_of_ble_eq_true rfl⟩ (Or.inr (Or.inr ⟨_, _, rfl, rfl, (by first | exact Or.inl ⟨_, rfl⟩ | exact Or.inr ⟨_, rfl⟩), dJ7_copyOf_9075b_32⟩))
theorem dJ5_ensureCapacityInternal_d00df_0 : decode cJ5_ensureCapacityInternal_d00df 0 = .ok (.aload_n 0, 1) := by decide +kernel
theorem dJ5_ensureCapacityInternal_d00df_1 : decode cJ5_ensureCapacityInternal_d00df 1 = .ok (.getfield 15, 3) := by decide +kernel
theorem dJ5_ensureCapacityInternal_d00df_4 : decode cJ5_ensureCapacityInternal_d00df 4 = .ok (.arraylength, 1) := by decide +kernel
theorem dJ5_ensureCapacityInternal_d00df_5 : decode cJ5_ensureCapacityInternal_d00df 5 = .ok (.aload_n 0, 1) := by decide +kernel
theorem dJ5_ensureCapacityInternal_d00df_6 : decode cJ5_ensureCapacityInternal_d00df 6 = .ok (.getfield 22, 3) := by decide +kernel
theorem dJ5_ensureCapacityInternal_d00df_9 : decode cJ5_ensureCapacityInternal_d00df 9 = .ok (.ishr, 1) := by decide +kernel
theorem dJ5_ensureCapacityInternal_d00df_10 : decode cJ5_ensureCapacityInternal_d00df 10 = .ok (.istore_n 2, 1) := by decide +kernel
theorem dJ5_ensureCapacityInternal_d00df_11 : decode cJ5_ensureCapacityInternal_d00df 11 = .ok (.iload_n 1, 1) := by decide +kernel
theorem dJ5_ensureCapacityInternal_d00df_12 : decode cJ5_ensureCapacityInternal_d00df 12 = .ok (.iload_n 2, 1) := by decide +kernel
theorem dJ5_ensureCapacityInternal_d00df_13 : decode cJ5_ensureCapacityInternal_d00df 13 = .ok (.isub, 1) := by decide +kernel
theorem dJ5_ensureCapacityInternal_d00df_14 : decode cJ5_ensureCapacityInternal_d00df 14 = .ok (.ifCond .le 24, 3) := by decide +kernel
theorem dJ5_ensureCapacityInternal_d00df_17 : decode cJ5_ensureCapacityInternal_d00df 17 = .ok (.aload_n 0, 1) := by decide +kernel
theorem dJ5_ensureCapacityInternal_d00df_18 : decode cJ5_ensureCapacityInternal_d00df 18 = .ok (.aload_n 0, 1) := by decide +kernel
theorem dJ5_ensureCapacityInternal_d00df_19 : decode cJ5_ensureCapacityInternal_d00df 19 = .ok (.getfield 15, 3) := by decide +kernel
theorem dJ5_ensureCapacityInternal_d00df_22 : decode cJ5_ensureCapacityInternal_d00df 22 = .ok (.aload_n 0, 1) := by decide +kernel
theorem dJ5_ensureCapacityInternal_d00df_23 : decode cJ5_ensureCapacityInternal_d00df 23 = .ok (.iload_n 1, 1) := by decide +kernel
theorem dJ5_ensureCapacityInternal_d00df_24 : decode cJ5_ensureCapacityInternal_d00df 24 = .ok (.invokevirtual 104, 3) := by decide +kernel
theorem dJ5_ensureCapacityInternal_d00df_27 : decode cJ5_ensureCapacityInternal_d00df 27 = .ok (.aload_n 0, 1) := by decide +kernel
theorem dJ5_ensureCapacityInternal_d00df_28 : decode cJ5_ensureCapacityInternal_d00df 28 = .ok (.getfield 22, 3) := by decide +kernel
theorem dJ5_ensureCapacityInternal_d00df_31 : decode cJ5_ensureCapacityInternal_d00df 31 = .ok (.ishl, 1) := by decide +kernel
theorem dJ5_ensureCapacityInternal_d00df_32 : decode cJ5_ensureCapacityInternal_d00df 32 = .ok (.invokestatic 108, 3) := by decide +kernel
theorem dJ5_ensureCapacityInternal_d00df_35 : decode cJ5_ensureCapacityInternal_d00df 35 = .ok (.putfield 15, 3) := by decide +kernel
theorem dJ5_ensureCapacityInternal_d00df_38 : decode cJ5_ensureCapacityInternal_d00df 38 = .ok (.return_, 1) := by decide +kernel
set_option maxRecDepth 100000 in
set_option maxHeartbeats 4000000 in
theorem J_ensure (l : Launch) (D : va_G) (cid : Nat → ClassId) (J : jA) {q v : Nat} {n : Int32} {cap need : Nat} {a : Nat → Int32} {T : List Int32} (h2 : need ≤ 2 * cap + 2) (h3 : cap ≤ 100) (hT : sbH T cap a) : jM l D cid J yJ5_ensureCapacityInternal_d00df (.code yJ5_ensureCapacityInternal_d00df cJ5_ensureCapacityInternal_d00df 3 none) (gRX 5 140 1 300) [.ref q, .int (nI need)] [(q, .inr (1, [.ref v, .int 0, .int 0, .int n])), (v, .inl (cid 3, cap, .inl a))] [] 1 300 (α := Nat × (Nat → Int32)) (fun rv u => rv = none ∧ sbH T (sbC need cap) u.2) (fun u => [(q, .inr (1, [.ref u.1, .int 0, .int 0, .int n])), (u.1, .inl (cid 3, (sbC need cap), .inl u.2))]) := by
  refine jMet (by decide +kernel) (Nat.le_of_ble_eq_true rfl) ?_
  intro p e s m args below meth c H locs ls Q A hA hC hni hl hI kk
  replace hC : jC p s m args c cJ5_ensureCapacityInternal_d00df 3 "java/lang/AbstractStringBuilder" D cid J A [] := hC
  replace hl : lv_has ls 3 [(0, .ref q), (1, .int (nI need))] := hl
  replace hI : jI D s A [(q, .inr (1, [.ref v, .int 0, .int 0, .int n])), (v, .inl (cid 3, cap, .inl a))] H locs := hI
  have hx := hC.1.1
  have hb := hC.1.2.1
  have hown := hC.1.2.2.2.1
  have hts := hC.1.2.2.2.2.1
  have hK := hC.1.2.2.2.2.2.1
  have hAn := hC.2.2.1
  have hJ := hC.2.1
  refine lv_aload_n hx hb dJ5_ensureCapacityInternal_d00df_0 rfl (lv_at hl 0 rfl) ?_
  refine va_get (D := D) (ci := 1) (v := .ref v) hx hb hts uJ4' hown hK hI.1 0 rfl rfl 0 (by decide) (hts _ w1389) (fun _ h9 => h9) rfl dJ5_ensureCapacityInternal_d00df_1 ?_
  refine va_alen hx hb hK hI.1 1 3 rfl rfl (v := nI cap) rfl dJ5_ensureCapacityInternal_d00df_4 ?_
  refine lv_aload_n hx hb dJ5_ensureCapacityInternal_d00df_5 rfl (lv_at hl 0 rfl) ?_
  refine va_get (D := D) (ci := 1) (v := .int 0) hx hb hts uJ4' hown hK hI.1 0 rfl rfl 1 (by decide) (hts _ w1390) (fun _ h9 => h9) rfl dJ5_ensureCapacityInternal_d00df_6 ?_
  refine lv_ishr hx hb dJ5_ensureCapacityInternal_d00df_9 ?_
  refine g_top (v := nI cap) ((shr0 _).symm) ?_
  refine lv_istore_n (lv' := [(2, .int (nI cap)), (0, .ref q), (1, .int (nI need))]) hx hb dJ5_ensureCapacityInternal_d00df_10 rfl hl (by decide) rfl (fun ls hl => ?_)
  refine lv_iload_n hx hb dJ5_ensureCapacityInternal_d00df_11 rfl (lv_at hl 2 rfl) ?_
  refine lv_iload_n hx hb dJ5_ensureCapacityInternal_d00df_12 rfl (lv_at hl 0 rfl) ?_
  refine lv_isub hx hb dJ5_ensureCapacityInternal_d00df_13 ?_
  have hsub : (nI need - nI cap).toInt = (need : Int) - cap := pk_sub_toInt (by omega) (by omega)
  by_cases hle : need ≤ cap
  · refine lv_if_le (tgt := 38) hx hb dJ5_ensureCapacityInternal_d00df_14 rfl (fun _ => ?_) (fun h => absurd (by rw [Int32.le_iff_toInt_le, hsub, Int32.toInt_zero]; omega) h)
    have e0 : sbC need cap = cap := if_pos hle
    replace hI : jI D s A [(q, .inr (1, [.ref v, .int 0, .int 0, .int n])), (v, .inl (cid 3, (sbC need cap), .inl a))] H locs := by rw [e0]; exact hI
    exact kk _ (v, a) _ _ _ _ _ _ _ ⟨rfl, by rw [e0]; exact hT⟩ rfl hI ⟨Nat.le_of_ble_eq_true rfl, Nat.le_of_ble_eq_true rfl⟩ (Or.inr (Or.inl ⟨rfl, rfl, dJ5_ensureCapacityInternal_d00df_38⟩))
  · refine lv_if_le (tgt := 38) hx hb dJ5_ensureCapacityInternal_d00df_14 rfl (fun h => absurd h (fun h9 => by rw [Int32.le_iff_toInt_le, hsub, Int32.toInt_zero] at h9; omega)) (fun _ => ?_)
    have e0 : sbC need cap = 2 * cap + 2 := if_neg hle
    refine lv_aload_n hx hb dJ5_ensureCapacityInternal_d00df_17 rfl (lv_at hl 1 rfl) ?_
    refine lv_aload_n hx hb dJ5_ensureCapacityInternal_d00df_18 rfl (lv_at hl 1 rfl) ?_
    refine va_get (D := D) (ci := 1) (v := .ref v) hx hb hts uJ4' hown hK hI.1 0 rfl rfl 0 (by decide) (hts _ w1389) (fun _ h9 => h9) rfl dJ5_ensureCapacityInternal_d00df_19 ?_
    refine lv_aload_n hx hb dJ5_ensureCapacityInternal_d00df_22 rfl (lv_at hl 1 rfl) ?_
    refine lv_iload_n hx hb dJ5_ensureCapacityInternal_d00df_23 rfl (lv_at hl 2 rfl) ?_
    refine j_callVC (rest := [.ref v, .ref q]) ([] : va_W) "java/lang/StringBuilder" hC hI (J_newCap l D cid J (v := v) (n := n) (a := a) (by omega) h2 h3) (fun _ h => absurd h List.not_mem_nil) Z_J5_newCapacity_0f7a4 ZI_J5_newCapacity_0f7a4 (sb_sel rfl (hts _ w1436) (va_Nw.use rfl (hJ.2.2.1.2.2.2.2 _ (by decide +kernel))) (hts _ ZI_J5_newCapacity_0f7a4)) w1417 (va_recv hK hI.1 (ci := 1) rfl (q0 := 0) rfl) ⟨rfl, rfl⟩ ⟨Nat.le_of_ble_eq_true rfl, Nat.le_of_ble_eq_true rfl⟩ rfl hl.1 rfl (Nat.le_of_ble_eq_true rfl) dJ5_ensureCapacityInternal_d00df_24 ⟨Nat.le_of_ble_eq_true rfl, Nat.le_of_ble_eq_true rfl⟩ (fun rv u H1 locs1 hp hI hk1 => ?_)
    obtain rfl := hp
    replace hI : jI D s A [(q, .inr (1, [.ref v, .int 0, .int 0, .int n])), (v, .inl (cid 3, cap, .inl a))] H1 locs1 := hI
    refine lv_aload_n hx hb dJ5_ensureCapacityInternal_d00df_27 rfl (lv_at hl 1 rfl) ?_
    refine va_get (D := D) (ci := 1) (v := .int 0) hx hb hts uJ4' hown hK hI.1 0 rfl rfl 1 (by decide) (hts _ w1390) (fun _ h9 => h9) rfl dJ5_ensureCapacityInternal_d00df_28 ?_
    refine lv_ishl hx hb dJ5_ensureCapacityInternal_d00df_31 ?_
    refine g_top (v := nI (2 * cap + 2)) ((shl0 _).symm) ?_
    refine j_callS (rest := [.ref q]) [(q, .inr (1, [.ref v, .int 0, .int 0, .int n]))] hC hI (J_copyOfB l D cid J (k := 2 * cap + 2) (by omega) (by omega) hT) (fun _ h => absurd h List.not_mem_nil) Z_J7_copyOf_9075b ZS_J7_copyOf_9075b w1423 ⟨rfl, rfl⟩ ⟨Nat.le_of_ble_eq_true rfl, Nat.le_of_ble_eq_true rfl⟩ rfl hl.1 rfl (Nat.le_of_ble_eq_true rfl) dJ5_ensureCapacityInternal_d00df_32 ⟨Nat.le_of_ble_eq_true rfl, Nat.le_of_ble_eq_true rfl⟩ (fun rv u H1 locs1 hp hI hk1 => ?_)
    obtain ⟨rfl⟩ := hp
    replace hI : jI D s A [(q, .inr (1, [.ref v, .int 0, .int 0, .int n])), (v, .inl (cid 3, cap, .inl a)), (u, .inl (cid 3, (2 * cap + 2), .inl (va_cpy a (fun _ => 0) 0 0 cap)))] H1 locs1 := hI
    skip
    refine va_put hx hb hts uJ4' tyJ4 tyJ4_ok nmJ4 hown hK hI.1 hI.2.1 hI.2.2 0 (by rfl) rfl 0 (by decide) (hts _ w1389) (fun _ h9 => h9) rfl (ty := .array .byte) (by decide +kernel) rfl rfl (Nat.le_of_ble_eq_true rfl) dJ5_ensureCapacityInternal_d00df_35 (fun H locs hP hD hS => ?_)
    replace hI : jI D s A [(q, .inr (1, [.ref u, .int 0, .int 0, .int n])), (v, .inl (cid 3, cap, .inl a)), (u, .inl (cid 3, (2 * cap + 2), .inl (va_cpy a (fun _ => 0) 0 0 cap)))] H locs := ⟨hP, hD, hS⟩
    replace hI : jI D s A [(q, .inr (1, [.ref u, .int 0, .int 0, .int n])), (u, .inl (cid 3, (2 * cap + 2), .inl (va_cpy a (fun _ => 0) 0 0 cap)))] H locs := j_sub hI [0, 2] rfl rfl
    replace hI : jI D s A [(q, .inr (1, [.ref u, .int 0, .int 0, .int n])), (u, .inl (cid 3, (sbC need cap), .inl (va_cpy a (fun _ => 0) 0 0 cap)))] H locs := by rw [e0]; exact hI
    exact kk _ (u, va_cpy a (fun _ => 0) 0 0 cap) _ _ _ _ _ _ _ ⟨rfl, by rw [e0]; exact hT.grow (by omega)⟩ rfl hI ⟨Nat.le_of_ble_eq_true rfl, Nat.le_of_ble_eq_true rfl⟩ (Or.inr (Or.inl ⟨rfl, rfl, dJ5_ensureCapacityInternal_d00df_38⟩))
