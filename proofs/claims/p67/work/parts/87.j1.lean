/-! ArrayList, its iterator, Integer: contracts; laid by wip/p67/gen/jdk67.py. -/
theorem Z_Jxd2413_init_da8c8 : gY yJxd2413_init_da8c8 cJxd2413_init_da8c8 1 none 0 := ⟨w1219, w22, ⟨by decide, by decide⟩, by decide +kernel⟩
theorem ZI_Jxd2413_init_da8c8 : Cond.instanceMethod yJxd2413_init_da8c8 ∈ gU := w1218
theorem Z_Jxa1e45_init_da8c8 : gY yJxa1e45_init_da8c8 cJxa1e45_init_da8c8 1 none 0 := ⟨w1186, w19, ⟨by decide, by decide⟩, by decide +kernel⟩
theorem ZI_Jxa1e45_init_da8c8 : Cond.instanceMethod yJxa1e45_init_da8c8 ∈ gU := w1185
theorem Z_Jxc12de_init_da8c8 : gY yJxc12de_init_da8c8 cJxc12de_init_da8c8 1 none 0 := ⟨w1183, w20, ⟨by decide, by decide⟩, by decide +kernel⟩
theorem ZI_Jxc12de_init_da8c8 : Cond.instanceMethod yJxc12de_init_da8c8 ∈ gU := w1182
theorem Z_Jx4a65c_init_da8c8 : gY yJx4a65c_init_da8c8 cJx4a65c_init_da8c8 1 none 0 := ⟨w1180, w21, ⟨by decide, by decide⟩, by decide +kernel⟩
theorem ZI_Jx4a65c_init_da8c8 : Cond.instanceMethod yJx4a65c_init_da8c8 ∈ gU := w1179
theorem Z_J6_init_d00df : gY yJ6_init_d00df cJ6_init_d00df 2 none 1 := ⟨w1216, w23, ⟨by decide, by decide⟩, by decide +kernel⟩
theorem ZI_J6_init_d00df : Cond.instanceMethod yJ6_init_d00df ∈ gU := w1215
theorem Z_J6_valueOf_2dffe : gY yJ6_valueOf_2dffe cJ6_valueOf_2dffe 1 (some (.object "java/lang/Integer")) 1 := ⟨w1207, w23, ⟨by decide, by decide⟩, by decide +kernel⟩
theorem ZS_J6_valueOf_2dffe : Cond.static yJ6_valueOf_2dffe ∈ gU := w1206
theorem dJxd2413_init_da8c8_0 : decode cJxd2413_init_da8c8 0 = .ok (.aload_n 0, 1) := by decide +kernel
theorem dJxd2413_init_da8c8_1 : decode cJxd2413_init_da8c8 1 = .ok (.invokespecial 1, 3) := by decide +kernel
theorem dJxd2413_init_da8c8_4 : decode cJxd2413_init_da8c8 4 = .ok (.return_, 1) := by decide +kernel
set_option maxRecDepth 100000 in
set_option maxHeartbeats 4000000 in
theorem J_Number (l : Launch) (D : va_G) (cid : Nat → ClassId) (J : jA) {a : Nat} : jM l D cid J yJxd2413_init_da8c8 (.code yJxd2413_init_da8c8 cJxd2413_init_da8c8 1 none) (gRX 1 12 0 0) [.ref a] ([] : va_W) [] 0 0 (α := Unit) (fun rv _ => rv = none) (fun _ => []) := by
  refine jMet (by decide +kernel) (Nat.le_of_ble_eq_true rfl) ?_
  intro p e s m args below meth c H locs ls Q A hA hC hni hl hI kk
  replace hC : jC p s m args c cJxd2413_init_da8c8 1 "java/lang/Number" D cid J A [] := hC
  replace hl : lv_has ls 1 [(0, .ref a)] := hl
  replace hI : jI D s A ([] : va_W) H locs := hI
  have hx := hC.1.1
  have hb := hC.1.2.1
  have hown := hC.1.2.2.2.1
  have hts := hC.1.2.2.2.2.1
  have hK := hC.1.2.2.2.2.2.1
  have hAn := hC.2.2.1
  have hJ := hC.2.1
  refine lv_aload_n hx hb dJxd2413_init_da8c8_0 rfl (lv_at hl 0 rfl) ?_
  refine j_obj hC hl.1 w1220 w40 w41 ⟨Nat.le_of_ble_eq_true rfl, Nat.le_of_ble_eq_true rfl⟩ dJxd2413_init_da8c8_1 ?_
  exact kk _ () _ _ _ _ _ _ _ rfl rfl hI ⟨Nat.le_of_ble_eq_true rfl, Nat.le_of_ble_eq_true rfl⟩ (Or.inr (Or.inl ⟨rfl, rfl, dJxd2413_init_da8c8_4⟩))
theorem dJxa1e45_init_da8c8_0 : decode cJxa1e45_init_da8c8 0 = .ok (.aload_n 0, 1) := by decide +kernel
theorem dJxa1e45_init_da8c8_1 : decode cJxa1e45_init_da8c8 1 = .ok (.invokespecial 1, 3) := by decide +kernel
theorem dJxa1e45_init_da8c8_4 : decode cJxa1e45_init_da8c8 4 = .ok (.return_, 1) := by decide +kernel
set_option maxRecDepth 100000 in
set_option maxHeartbeats 4000000 in
theorem J_ACol (l : Launch) (D : va_G) (cid : Nat → ClassId) (J : jA) {a : Nat} : jM l D cid J yJxa1e45_init_da8c8 (.code yJxa1e45_init_da8c8 cJxa1e45_init_da8c8 1 none) (gRX 1 12 0 0) [.ref a] ([] : va_W) [] 0 0 (α := Unit) (fun rv _ => rv = none) (fun _ => []) := by
  refine jMet (by decide +kernel) (Nat.le_of_ble_eq_true rfl) ?_
  intro p e s m args below meth c H locs ls Q A hA hC hni hl hI kk
  replace hC : jC p s m args c cJxa1e45_init_da8c8 1 "java/util/AbstractCollection" D cid J A [] := hC
  replace hl : lv_has ls 1 [(0, .ref a)] := hl
  replace hI : jI D s A ([] : va_W) H locs := hI
  have hx := hC.1.1
  have hb := hC.1.2.1
  have hown := hC.1.2.2.2.1
  have hts := hC.1.2.2.2.2.1
  have hK := hC.1.2.2.2.2.2.1
  have hAn := hC.2.2.1
  have hJ := hC.2.1
  refine lv_aload_n hx hb dJxa1e45_init_da8c8_0 rfl (lv_at hl 0 rfl) ?_
  refine j_obj hC hl.1 w1187 w40 w41 ⟨Nat.le_of_ble_eq_true rfl, Nat.le_of_ble_eq_true rfl⟩ dJxa1e45_init_da8c8_1 ?_
  exact kk _ () _ _ _ _ _ _ _ rfl rfl hI ⟨Nat.le_of_ble_eq_true rfl, Nat.le_of_ble_eq_true rfl⟩ (Or.inr (Or.inl ⟨rfl, rfl, dJxa1e45_init_da8c8_4⟩))
theorem dJxc12de_init_da8c8_0 : decode cJxc12de_init_da8c8 0 = .ok (.aload_n 0, 1) := by decide +kernel
theorem dJxc12de_init_da8c8_1 : decode cJxc12de_init_da8c8 1 = .ok (.invokespecial 1, 3) := by decide +kernel
theorem dJxc12de_init_da8c8_4 : decode cJxc12de_init_da8c8 4 = .ok (.aload_n 0, 1) := by decide +kernel
theorem dJxc12de_init_da8c8_5 : decode cJxc12de_init_da8c8 5 = .ok (.iconst 0, 1) := by decide +kernel
theorem dJxc12de_init_da8c8_6 : decode cJxc12de_init_da8c8 6 = .ok (.putfield 7, 3) := by decide +kernel
theorem dJxc12de_init_da8c8_9 : decode cJxc12de_init_da8c8 9 = .ok (.return_, 1) := by decide +kernel
set_option maxRecDepth 100000 in
set_option maxHeartbeats 4000000 in
theorem J_AList (l : Launch) (D : va_G) (cid : Nat → ClassId) (J : jA) {a : Nat} : jM l D cid J yJxc12de_init_da8c8 (.code yJxc12de_init_da8c8 cJxc12de_init_da8c8 1 none) (gRX 2 40 0 0) [.ref a] [(a, .inr (5, [.int 0, .null, .int 0]))] [] 0 0 (α := Unit) (fun rv _ => rv = none) (fun _ => [(a, .inr (5, [.int 0, .null, .int 0]))]) := by
  refine jMet (by decide +kernel) (Nat.le_of_ble_eq_true rfl) ?_
  intro p e s m args below meth c H locs ls Q A hA hC hni hl hI kk
  replace hC : jC p s m args c cJxc12de_init_da8c8 1 "java/util/AbstractList" D cid J A [] := hC
  replace hl : lv_has ls 1 [(0, .ref a)] := hl
  replace hI : jI D s A [(a, .inr (5, [.int 0, .null, .int 0]))] H locs := hI
  have hx := hC.1.1
  have hb := hC.1.2.1
  have hown := hC.1.2.2.2.1
  have hts := hC.1.2.2.2.2.1
  have hK := hC.1.2.2.2.2.2.1
  have hAn := hC.2.2.1
  have hJ := hC.2.1
  refine lv_aload_n hx hb dJxc12de_init_da8c8_0 rfl (lv_at hl 0 rfl) ?_
  refine j_callI (rest := []) [(a, .inr (5, [.int 0, .null, .int 0]))] hC hI (J_ACol l D cid J) (fun _ h => absurd h List.not_mem_nil) Z_Jxa1e45_init_da8c8 rfl ZI_Jxa1e45_init_da8c8 w1184 ⟨rfl, rfl⟩ ⟨Nat.le_of_ble_eq_true rfl, Nat.le_of_ble_eq_true rfl⟩ rfl hl.1 rfl (Nat.le_of_ble_eq_true rfl) dJxc12de_init_da8c8_1 ⟨Nat.le_of_ble_eq_true rfl, Nat.le_of_ble_eq_true rfl⟩ (fun rv u H1 locs1 hp hI hk1 => ?_)
  obtain ⟨rfl⟩ := hp
  replace hI : jI D s A [(a, .inr (5, [.int 0, .null, .int 0]))] H1 locs1 := hI
  skip
  refine lv_aload_n hx hb dJxc12de_init_da8c8_4 rfl (lv_at hl 0 rfl) ?_
  refine lv_iconst (v := 0) hx hb dJxc12de_init_da8c8_5 (by decide) ?_
  refine va_put hx hb hts uJli tyJx4a65c tyJx4a65c_ok nmJx4a65c hown hK hI.1 hI.2.1 hI.2.2 0 (by rfl) rfl 0 (by decide) (hts _ w1194) (fun _ h9 => h9) rfl (ty := .int) (by decide +kernel) rfl rfl (Nat.le_of_ble_eq_true rfl) dJxc12de_init_da8c8_6 (fun H locs hP hD hS => ?_)
  replace hI : jI D s A [(a, .inr (5, [.int 0, .null, .int 0]))] H locs := ⟨hP, hD, hS⟩
  exact kk _ () _ _ _ _ _ _ _ rfl rfl hI ⟨Nat.le_of_ble_eq_true rfl, Nat.le_of_ble_eq_true rfl⟩ (Or.inr (Or.inl ⟨rfl, rfl, dJxc12de_init_da8c8_9⟩))
theorem dJx4a65c_init_da8c8_0 : decode cJx4a65c_init_da8c8 0 = .ok (.aload_n 0, 1) := by decide +kernel
theorem dJx4a65c_init_da8c8_1 : decode cJx4a65c_init_da8c8 1 = .ok (.invokespecial 1, 3) := by decide +kernel
theorem dJx4a65c_init_da8c8_4 : decode cJx4a65c_init_da8c8 4 = .ok (.aload_n 0, 1) := by decide +kernel
theorem dJx4a65c_init_da8c8_5 : decode cJx4a65c_init_da8c8 5 = .ok (.getstatic 39, 3) := by decide +kernel
theorem dJx4a65c_init_da8c8_8 : decode cJx4a65c_init_da8c8 8 = .ok (.putfield 9, 3) := by decide +kernel
theorem dJx4a65c_init_da8c8_11 : decode cJx4a65c_init_da8c8 11 = .ok (.return_, 1) := by decide +kernel
set_option maxRecDepth 100000 in
set_option maxHeartbeats 4000000 in
theorem J_ArrayList (l : Launch) (D : va_G) (cid : Nat → ClassId) (J : jA) {a : Nat} : jM l D cid J yJx4a65c_init_da8c8 (.code yJx4a65c_init_da8c8 cJx4a65c_init_da8c8 1 none) (gRX 3 70 0 0) [.ref a] [(a, .inr (5, [.int 0, .null, .int 0]))] [] 0 0 (α := Unit) (fun rv _ => rv = none) (fun _ => [(a, .inr (5, [.int 0, .ref J.2.2.1, .int 0]))]) := by
  refine jMet (by decide +kernel) (Nat.le_of_ble_eq_true rfl) ?_
  intro p e s m args below meth c H locs ls Q A hA hC hni hl hI kk
  replace hC : jC p s m args c cJx4a65c_init_da8c8 1 "java/util/ArrayList" D cid J A [] := hC
  replace hl : lv_has ls 1 [(0, .ref a)] := hl
  replace hI : jI D s A [(a, .inr (5, [.int 0, .null, .int 0]))] H locs := hI
  have hx := hC.1.1
  have hb := hC.1.2.1
  have hown := hC.1.2.2.2.1
  have hts := hC.1.2.2.2.2.1
  have hK := hC.1.2.2.2.2.2.1
  have hAn := hC.2.2.1
  have hJ := hC.2.1
  refine lv_aload_n hx hb dJx4a65c_init_da8c8_0 rfl (lv_at hl 0 rfl) ?_
  refine j_callI (rest := []) ([] : va_W) hC hI (J_AList l D cid J) (fun _ h => absurd h List.not_mem_nil) Z_Jxc12de_init_da8c8 rfl ZI_Jxc12de_init_da8c8 w1181 ⟨rfl, rfl⟩ ⟨Nat.le_of_ble_eq_true rfl, Nat.le_of_ble_eq_true rfl⟩ rfl hl.1 rfl (Nat.le_of_ble_eq_true rfl) dJx4a65c_init_da8c8_1 ⟨Nat.le_of_ble_eq_true rfl, Nat.le_of_ble_eq_true rfl⟩ (fun rv u H1 locs1 hp hI hk1 => ?_)
  obtain ⟨rfl⟩ := hp
  replace hI : jI D s A [(a, .inr (5, [.int 0, .null, .int 0]))] H1 locs1 := hI
  skip
  refine lv_aload_n hx hb dJx4a65c_init_da8c8_4 rfl (lv_at hl 0 rfl) ?_
  refine va_gets hx hb hJ.2.1.1 hI.2.2 hown (hts _ w1188) (fun _ h9 => h9) dJx4a65c_init_da8c8_5 ?_
  refine va_put hx hb hts uJli tyJx4a65c tyJx4a65c_ok nmJx4a65c hown hK hI.1 hI.2.1 hI.2.2 0 (by rfl) rfl 1 (by decide) (hts _ w1190) (fun _ h9 => h9) rfl (ty := .array (.object "java/lang/Object")) (by decide +kernel) rfl rfl (Nat.le_of_ble_eq_true rfl) dJx4a65c_init_da8c8_8 (fun H locs hP hD hS => ?_)
  replace hI : jI D s A [(a, .inr (5, [.int 0, .ref J.2.2.1, .int 0]))] H locs := ⟨hP, hD, hS⟩
  exact kk _ () _ _ _ _ _ _ _ rfl rfl hI ⟨Nat.le_of_ble_eq_true rfl, Nat.le_of_ble_eq_true rfl⟩ (Or.inr (Or.inl ⟨rfl, rfl, dJx4a65c_init_da8c8_11⟩))
theorem dJ6_init_d00df_0 : decode cJ6_init_d00df 0 = .ok (.aload_n 0, 1) := by decide +kernel
theorem dJ6_init_d00df_1 : decode cJ6_init_d00df 1 = .ok (.invokespecial 202, 3) := by decide +kernel
theorem dJ6_init_d00df_4 : decode cJ6_init_d00df 4 = .ok (.aload_n 0, 1) := by decide +kernel
theorem dJ6_init_d00df_5 : decode cJ6_init_d00df 5 = .ok (.iload_n 1, 1) := by decide +kernel
theorem dJ6_init_d00df_6 : decode cJ6_init_d00df 6 = .ok (.putfield 205, 3) := by decide +kernel
theorem dJ6_init_d00df_9 : decode cJ6_init_d00df 9 = .ok (.return_, 1) := by decide +kernel
set_option maxRecDepth 100000 in
set_option maxHeartbeats 4000000 in
theorem J_Integer (l : Launch) (D : va_G) (cid : Nat → ClassId) (J : jA) {a : Nat} {v : Int32} : jM l D cid J yJ6_init_d00df (.code yJ6_init_d00df cJ6_init_d00df 2 none) (gRX 2 40 0 0) [.ref a, .int v] [(a, .inr (2, [.int 0]))] [] 0 0 (α := Unit) (fun rv _ => rv = none) (fun _ => [(a, .inr (2, [.int v]))]) := by
  refine jMet (by decide +kernel) (Nat.le_of_ble_eq_true rfl) ?_
  intro p e s m args below meth c H locs ls Q A hA hC hni hl hI kk
  replace hC : jC p s m args c cJ6_init_d00df 2 "java/lang/Integer" D cid J A [] := hC
  replace hl : lv_has ls 2 [(0, .ref a), (1, .int v)] := hl
  replace hI : jI D s A [(a, .inr (2, [.int 0]))] H locs := hI
  have hx := hC.1.1
  have hb := hC.1.2.1
  have hown := hC.1.2.2.2.1
  have hts := hC.1.2.2.2.2.1
  have hK := hC.1.2.2.2.2.2.1
  have hAn := hC.2.2.1
  have hJ := hC.2.1
  refine lv_aload_n hx hb dJ6_init_d00df_0 rfl (lv_at hl 0 rfl) ?_
  refine j_callI (rest := []) [(a, .inr (2, [.int 0]))] hC hI (J_Number l D cid J) (fun _ h => absurd h List.not_mem_nil) Z_Jxd2413_init_da8c8 rfl ZI_Jxd2413_init_da8c8 w1217 ⟨rfl, rfl⟩ ⟨Nat.le_of_ble_eq_true rfl, Nat.le_of_ble_eq_true rfl⟩ rfl hl.1 rfl (Nat.le_of_ble_eq_true rfl) dJ6_init_d00df_1 ⟨Nat.le_of_ble_eq_true rfl, Nat.le_of_ble_eq_true rfl⟩ (fun rv u H1 locs1 hp hI hk1 => ?_)
  obtain ⟨rfl⟩ := hp
  replace hI : jI D s A [(a, .inr (2, [.int 0]))] H1 locs1 := hI
  skip
  refine lv_aload_n hx hb dJ6_init_d00df_4 rfl (lv_at hl 0 rfl) ?_
  refine lv_iload_n hx hb dJ6_init_d00df_5 rfl (lv_at hl 1 rfl) ?_
  refine va_putF hx hb hts uJ6' tyJ6 tyJ6_ok nmJ6 hown hK hI.1 hI.2.1 hI.2.2 0 (by rfl) rfl 0 (by decide) (hts _ w1221) (fun _ h9 => h9) rfl hni rfl (ty := .int) (by decide +kernel) rfl rfl (Nat.le_of_ble_eq_true rfl) dJ6_init_d00df_6 (fun H locs hP hD hS => ?_)
  replace hI : jI D s A [(a, .inr (2, [.int v]))] H locs := ⟨hP, hD, hS⟩
  exact kk _ () _ _ _ _ _ _ _ rfl rfl hI ⟨Nat.le_of_ble_eq_true rfl, Nat.le_of_ble_eq_true rfl⟩ (Or.inr (Or.inl ⟨rfl, rfl, dJ6_init_d00df_9⟩))
theorem vb_in {v : Int32} (h1 : ¬ v < -128) (h2 : ¬ (127 : Int32) < v) : ∃ k : Nat, k < 256 ∧ v = vb_c k ∧ v + 128 = nI k := by
  have a1 : (-128 : Int) ≤ v.toInt := Int32.le_iff_toInt_le.mp (Int32.not_lt.mp h1)
  have a2 : v.toInt ≤ 127 := Int32.le_iff_toInt_le.mp (Int32.not_lt.mp h2)
  obtain ⟨k, hk⟩ : ∃ k : Nat, (k : Int) = v.toInt + 128 := ⟨(v.toInt + 128).toNat, by omega⟩
  have e : v = vb_c k := by
    apply Int32.toInt_inj.mp
    have := pk_sub_toInt (a := k) (b := 128) (by omega) (by omega)
    show v.toInt = (nI k - nI 128).toInt
    rw [this]
    omega
  refine ⟨k, by omega, e, ?_⟩
  rw [e]
  show Int32.ofNat k - 128 + 128 = nI k
  rw [Int32.sub_add_cancel]
  rfl
/-- what valueOf answers: a box of the cache, or one that is made -/
def jVal (J : jA) (v : Int32) (b : Nat) (X : va_W) : Prop := (X = [] ∧ ∃ k, k < 256 ∧ b = J.1 k ∧ v = vb_c k) ∨ X = [(b, .inr (2, [.int v]))]
theorem dJ6_valueOf_2dffe_0 : decode cJ6_valueOf_2dffe 0 = .ok (.iload_n 0, 1) := by decide +kernel
theorem dJ6_valueOf_2dffe_1 : decode cJ6_valueOf_2dffe 1 = .ok (.bipush (-128), 2) := by decide +kernel
theorem dJ6_valueOf_2dffe_3 : decode cJ6_valueOf_2dffe 3 = .ok (.if_icmp .lt 20, 3) := by decide +kernel
theorem dJ6_valueOf_2dffe_6 : decode cJ6_valueOf_2dffe 6 = .ok (.iload_n 0, 1) := by decide +kernel
theorem dJ6_valueOf_2dffe_7 : decode cJ6_valueOf_2dffe 7 = .ok (.getstatic 191, 3) := by decide +kernel
theorem dJ6_valueOf_2dffe_10 : decode cJ6_valueOf_2dffe 10 = .ok (.if_icmp .gt 13, 3) := by decide +kernel
theorem dJ6_valueOf_2dffe_13 : decode cJ6_valueOf_2dffe 13 = .ok (.getstatic 195, 3) := by decide +kernel
theorem dJ6_valueOf_2dffe_16 : decode cJ6_valueOf_2dffe 16 = .ok (.iload_n 0, 1) := by decide +kernel
theorem dJ6_valueOf_2dffe_17 : decode cJ6_valueOf_2dffe 17 = .ok (.sipush 128, 3) := by decide +kernel
theorem dJ6_valueOf_2dffe_20 : decode cJ6_valueOf_2dffe 20 = .ok (.iadd, 1) := by decide +kernel
theorem dJ6_valueOf_2dffe_21 : decode cJ6_valueOf_2dffe 21 = .ok (.aaload, 1) := by decide +kernel
theorem dJ6_valueOf_2dffe_22 : decode cJ6_valueOf_2dffe 22 = .ok (.areturn, 1) := by decide +kernel
theorem dJ6_valueOf_2dffe_23 : decode cJ6_valueOf_2dffe 23 = .ok (.new 1, 3) := by decide +kernel
theorem dJ6_valueOf_2dffe_26 : decode cJ6_valueOf_2dffe 26 = .ok (.dup, 1) := by decide +kernel
theorem dJ6_valueOf_2dffe_27 : decode cJ6_valueOf_2dffe 27 = .ok (.iload_n 0, 1) := by decide +kernel
theorem dJ6_valueOf_2dffe_28 : decode cJ6_valueOf_2dffe 28 = .ok (.invokespecial 199, 3) := by decide +kernel
theorem dJ6_valueOf_2dffe_31 : decode cJ6_valueOf_2dffe 31 = .ok (.areturn, 1) := by decide +kernel
set_option maxRecDepth 100000 in
set_option maxHeartbeats 4000000 in
theorem J_valueOf (l : Launch) (D : va_G) (cid : Nat → ClassId) (J : jA) {v : Int32} : jM l D cid J yJ6_valueOf_2dffe (.code yJ6_valueOf_2dffe cJ6_valueOf_2dffe 1 (some (.object "java/lang/Integer"))) (gRX 3 70 1 1) [.int v] ([] : va_W) [] 1 1 (α := va_W × Nat) (fun rv u => rv = some (.ref u.2) ∧ jVal J v u.2 u.1) (fun u => u.1) := by
  refine jMet (by decide +kernel) (Nat.le_of_ble_eq_true rfl) ?_
  intro p e s m args below meth c H locs ls Q A hA hC hni hl hI kk
  replace hC : jC p s m args c cJ6_valueOf_2dffe 1 "java/lang/Integer" D cid J A [] := hC
  replace hl : lv_has ls 1 [(0, .int v)] := hl
  replace hI : jI D s A ([] : va_W) H locs := hI
  have hx := hC.1.1
  have hb := hC.1.2.1
  have hown := hC.1.2.2.2.1
  have hts := hC.1.2.2.2.2.1
  have hK := hC.1.2.2.2.2.2.1
  have hAn := hC.2.2.1
  have hJ := hC.2.1
  by_cases hv : v < -128 ∨ (127 : Int32) < v
  · refine lv_iload_n hx hb dJ6_valueOf_2dffe_0 rfl (lv_at hl 0 rfl) ?_
    refine lv_bipush (v := (-128)) hx hb dJ6_valueOf_2dffe_1 (by decide) ?_
    by_cases h1 : v < -128
    · refine lv_icmp_lt (tgt := 23) hx hb dJ6_valueOf_2dffe_3 rfl (fun _ => ?_) (fun h => absurd h1 h)
      refine va_new (ci := 2) (fs := [.int 0]) hx hb hts uJ6' tyJ6 tyJ6_ok hown (hts _ w1212) (hts _ w1213) (hts _ w23) hK hI.1 hI.2.1 hI.2.2 hAn rfl (fun j hj => by revert j; decide) (Nat.le_of_ble_eq_true rfl) (Nat.le_of_ble_eq_true rfl) dJ6_valueOf_2dffe_23 (fun q H hP hD hS => ?_)
      replace hI : jI D s A [(q, .inr (2, [.int 0]))] H locs := ⟨hP, hD, hS⟩
      refine lv_dup hx hb dJ6_valueOf_2dffe_26 rfl ?_
      refine lv_iload_n hx hb dJ6_valueOf_2dffe_27 rfl (lv_at hl 0 rfl) ?_
      refine j_callI (rest := [.ref q]) ([] : va_W) hC hI (J_Integer l D cid J (v := v)) (fun _ h => absurd h List.not_mem_nil) Z_J6_init_d00df rfl ZI_J6_init_d00df w1214 ⟨rfl, rfl⟩ ⟨Nat.le_of_ble_eq_true rfl, Nat.le_of_ble_eq_true rfl⟩ rfl hl.1 rfl (Nat.le_of_ble_eq_true rfl) dJ6_valueOf_2dffe_28 ⟨Nat.le_of_ble_eq_true rfl, Nat.le_of_ble_eq_true rfl⟩ (fun rv u H1 locs1 hp hI hk1 => ?_)
      obtain ⟨rfl⟩ := hp
      replace hI : jI D s A [(q, .inr (2, [.int v]))] H1 locs1 := hI
      skip
      exact kk _ ([(q, .inr (2, [.int v]))], q) _ _ _ _ _ _ _ ⟨rfl, Or.inr rfl⟩ rfl hI ⟨Nat.le_of_ble_eq_true rfl, Nat.le_of_ble_eq_true rfl⟩ (Or.inr (Or.inr ⟨_, _, rfl, rfl, (by first | exact Or.inl ⟨_, rfl⟩ | exact Or.inr ⟨_, rfl⟩), dJ6_valueOf_2dffe_31⟩))
    · refine lv_icmp_lt (tgt := 23) hx hb dJ6_valueOf_2dffe_3 rfl (fun h => absurd h h1) (fun _ => ?_)
      refine lv_iload_n hx hb dJ6_valueOf_2dffe_6 rfl (lv_at hl 0 rfl) ?_
      refine va_gets hx hb hJ.1.1 hI.2.2 hown (hts _ w1208) (fun _ h9 => h9) dJ6_valueOf_2dffe_7 ?_
      refine lv_icmp_gt (tgt := 23) hx hb dJ6_valueOf_2dffe_10 rfl (fun _ => ?_) (fun h => absurd (hv.resolve_left h1) h)
      refine va_new (ci := 2) (fs := [.int 0]) hx hb hts uJ6' tyJ6 tyJ6_ok hown (hts _ w1212) (hts _ w1213) (hts _ w23) hK hI.1 hI.2.1 hI.2.2 hAn rfl (fun j hj => by revert j; decide) (Nat.le_of_ble_eq_true rfl) (Nat.le_of_ble_eq_true rfl) dJ6_valueOf_2dffe_23 (fun q H hP hD hS => ?_)
      replace hI : jI D s A [(q, .inr (2, [.int 0]))] H locs := ⟨hP, hD, hS⟩
      refine lv_dup hx hb dJ6_valueOf_2dffe_26 rfl ?_
      refine lv_iload_n hx hb dJ6_valueOf_2dffe_27 rfl (lv_at hl 0 rfl) ?_
      refine j_callI (rest := [.ref q]) ([] : va_W) hC hI (J_Integer l D cid J (v := v)) (fun _ h => absurd h List.not_mem_nil) Z_J6_init_d00df rfl ZI_J6_init_d00df w1214 ⟨rfl, rfl⟩ ⟨Nat.le_of_ble_eq_true rfl, Nat.le_of_ble_eq_true rfl⟩ rfl hl.1 rfl (Nat.le_of_ble_eq_true rfl) dJ6_valueOf_2dffe_28 ⟨Nat.le_of_ble_eq_true rfl, Nat.le_of_ble_eq_true rfl⟩ (fun rv u H1 locs1 hp hI hk1 => ?_)
      obtain ⟨rfl⟩ := hp
      replace hI : jI D s A [(q, .inr (2, [.int v]))] H1 locs1 := hI
      skip
      exact kk _ ([(q, .inr (2, [.int v]))], q) _ _ _ _ _ _ _ ⟨rfl, Or.inr rfl⟩ rfl hI ⟨Nat.le_of_ble_eq_true rfl, Nat.le_of_ble_eq_true rfl⟩ (Or.inr (Or.inr ⟨_, _, rfl, rfl, (by first | exact Or.inl ⟨_, rfl⟩ | exact Or.inr ⟨_, rfl⟩), dJ6_valueOf_2dffe_31⟩))
  · have h1 : ¬ v < -128 := fun h => hv (Or.inl h)
    have h2 : ¬ (127 : Int32) < v := fun h => hv (Or.inr h)
    obtain ⟨k, hk, e1, e2⟩ := vb_in h1 h2
    refine lv_iload_n hx hb dJ6_valueOf_2dffe_0 rfl (lv_at hl 0 rfl) ?_
    refine lv_bipush (v := (-128)) hx hb dJ6_valueOf_2dffe_1 (by decide) ?_
    refine lv_icmp_lt (tgt := 23) hx hb dJ6_valueOf_2dffe_3 rfl (fun h => absurd h h1) (fun _ => ?_)
    refine lv_iload_n hx hb dJ6_valueOf_2dffe_6 rfl (lv_at hl 0 rfl) ?_
    refine va_gets hx hb hJ.1.1 hI.2.2 hown (hts _ w1208) (fun _ h9 => h9) dJ6_valueOf_2dffe_7 ?_
    refine lv_icmp_gt (tgt := 23) hx hb dJ6_valueOf_2dffe_10 rfl (fun h => absurd h h2) (fun _ => ?_)
    refine va_gets hx hb hJ.1.2.1 hI.2.2 hown (hts _ w1210) (fun _ h9 => h9) dJ6_valueOf_2dffe_13 ?_
    refine lv_iload_n hx hb dJ6_valueOf_2dffe_16 rfl (lv_at hl 0 rfl) ?_
    refine lv_sipush (v := 128) hx hb dJ6_valueOf_2dffe_17 (by decide) ?_
    refine lv_iadd hx hb dJ6_valueOf_2dffe_20 ?_
    refine g_top (v := nI k) (e2.symm) ?_
    refine vb_tq hx hb (C := "java/lang/Integer") hJ.1.2.2.1 hI.2.2 (vp_in_nI hk (by decide)) (v := .ref (J.1 k)) (by rw [nI_clamp (by omega)]) dJ6_valueOf_2dffe_21 ?_
    exact kk _ ([], J.1 k) _ _ _ _ _ _ _ ⟨rfl, Or.inl ⟨rfl, k, hk, rfl, e1⟩⟩ rfl hI ⟨Nat.le_of_ble_eq_true rfl, Nat.le_of_ble_eq_true rfl⟩ (Or.inr (Or.inr ⟨_, _, rfl, rfl, (by first | exact Or.inl ⟨_, rfl⟩ | exact Or.inr ⟨_, rfl⟩), dJ6_valueOf_2dffe_22⟩))
