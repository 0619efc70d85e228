/-! The straight constructors; laid by wip/whole/gen/ctor.py. -/
/-- the cells of one state (Z7) and of its cargo (Z0), all numbers zero -/
def Z0 (cid : Nat → ClassId) (a : Nat → Nat) : va_W := (List.range 7).map (fun k => (a k, gst (cid 0) (fun i => a (i - 1)) (fun _ => 0) 0 (k + 1)))
def Z7 (cid : Nat → ClassId) (a : Nat → Nat) : va_W := (List.range 12).map (fun k => (a k, gst (cid 0) a (fun _ => 0) 0 k))
def ZI (cid : Nat → ClassId) (a : Nat → Nat) : va_W := [(a 0, .inr (4, [.ref (a 1), .int 0, .int 0])), (a 1, .inl (cid 1, 60, .inl (fun _ => 0)))]
def ZL (cid : Nat → ClassId) (a : Nat → Nat) : va_W := [(a 0, .inr (5, [.ref (a 1), .int 0])), (a 1, .inl (cid 1, 100, .inl (fun _ => 0)))]
theorem dX0_init_0 : decode cX0_init 0 = .ok (.aload_n 0, 1) := by decide +kernel
theorem dX0_init_1 : decode cX0_init 1 = .ok (.invokespecial 3, 3) := by decide +kernel
theorem dX0_init_4 : decode cX0_init 4 = .ok (.aload_n 0, 1) := by decide +kernel
theorem dX0_init_5 : decode cX0_init 5 = .ok (.bipush 75, 2) := by decide +kernel
theorem dX0_init_7 : decode cX0_init 7 = .ok (.newarray .int, 2) := by decide +kernel
theorem dX0_init_9 : decode cX0_init 9 = .ok (.putfield 9, 3) := by decide +kernel
theorem dX0_init_12 : decode cX0_init 12 = .ok (.aload_n 0, 1) := by decide +kernel
theorem dX0_init_13 : decode cX0_init 13 = .ok (.bipush 75, 2) := by decide +kernel
theorem dX0_init_15 : decode cX0_init 15 = .ok (.newarray .int, 2) := by decide +kernel
theorem dX0_init_17 : decode cX0_init 17 = .ok (.putfield 15, 3) := by decide +kernel
theorem dX0_init_20 : decode cX0_init 20 = .ok (.aload_n 0, 1) := by decide +kernel
theorem dX0_init_21 : decode cX0_init 21 = .ok (.bipush 75, 2) := by decide +kernel
theorem dX0_init_23 : decode cX0_init 23 = .ok (.newarray .int, 2) := by decide +kernel
theorem dX0_init_25 : decode cX0_init 25 = .ok (.putfield 18, 3) := by decide +kernel
theorem dX0_init_28 : decode cX0_init 28 = .ok (.aload_n 0, 1) := by decide +kernel
theorem dX0_init_29 : decode cX0_init 29 = .ok (.bipush 75, 2) := by decide +kernel
theorem dX0_init_31 : decode cX0_init 31 = .ok (.newarray .int, 2) := by decide +kernel
theorem dX0_init_33 : decode cX0_init 33 = .ok (.putfield 21, 3) := by decide +kernel
theorem dX0_init_36 : decode cX0_init 36 = .ok (.aload_n 0, 1) := by decide +kernel
theorem dX0_init_37 : decode cX0_init 37 = .ok (.bipush 75, 2) := by decide +kernel
theorem dX0_init_39 : decode cX0_init 39 = .ok (.newarray .int, 2) := by decide +kernel
theorem dX0_init_41 : decode cX0_init 41 = .ok (.putfield 24, 3) := by decide +kernel
theorem dX0_init_44 : decode cX0_init 44 = .ok (.aload_n 0, 1) := by decide +kernel
theorem dX0_init_45 : decode cX0_init 45 = .ok (.iconst 5, 1) := by decide +kernel
theorem dX0_init_46 : decode cX0_init 46 = .ok (.newarray .int, 2) := by decide +kernel
theorem dX0_init_48 : decode cX0_init 48 = .ok (.putfield 27, 3) := by decide +kernel
theorem dX0_init_51 : decode cX0_init 51 = .ok (.aload_n 0, 1) := by decide +kernel
theorem dX0_init_52 : decode cX0_init 52 = .ok (.iconst 0, 1) := by decide +kernel
theorem dX0_init_53 : decode cX0_init 53 = .ok (.putfield 30, 3) := by decide +kernel
theorem dX0_init_56 : decode cX0_init 56 = .ok (.return_, 1) := by decide +kernel
set_option maxRecDepth 100000 in
set_option maxHeartbeats 4000000 in
theorem I_X0 (l : Launch) (D : va_G) (cid : Nat → ClassId) : iM l D cid yX0_init (.code yX0_init cX0_init 1 none) (gRX 1 12 6 380) 2 [.null, .null, .null, .null, .null, .null, .int 0] 6 380 (α := Nat → Nat) (fun h a => a 0 = h) (Z0 cid) := by
  refine iMet (by decide +kernel) rfl (Nat.le_of_ble_eq_true rfl) ?_
  intro p e s m args below meth c H locs ls Q h hC hni hl hI kv
  replace hC : iC p s m args c cX0_init 1 RX0 D cid := hC
  have hx := hC.1
  have hb := hC.2.1
  refine i_obj hC hl w43 w30 w31 ⟨Nat.le_of_ble_eq_true rfl, Nat.le_of_ble_eq_true rfl⟩ dX0_init_0 dX0_init_1 ?_
  refine lv_aload_n hx hb dX0_init_4 rfl (lv_at hl 0 rfl) ?_
  refine lv_bipush (v := 75) hx hb dX0_init_5 (by decide) ?_
  refine i_newa (atype := .int) (ty := .int) hC hI 0 w66 rfl (iid_int hC.2.2.2.2.2) (N' := 75) (a0 := (75, .inl (fun _ => 0))) (fun _ => rfl) (by decide) rfl (by decide) ⟨Nat.le_of_ble_eq_true rfl, Nat.le_of_ble_eq_true rfl⟩ dX0_init_7 (fun q1 H hI => ?_)
  refine i_put hC hI hni uX0 tyX0 tyX0_ok nmX0 rfl 0 (by decide) w44 rfl rfl (ty := .array .int) (by decide +kernel) rfl rfl (Nat.le_of_ble_eq_true rfl) dX0_init_9 (fun H locs hI => ?_)
  replace hI : iI D s h 2 [.ref q1, .null, .null, .null, .null, .null, .int 0] ([] ++ [(q1, .inl (cid 0, 75, .inl (fun _ => 0)))]) H locs := hI
  refine lv_aload_n hx hb dX0_init_12 rfl (lv_at hl 0 rfl) ?_
  refine lv_bipush (v := 75) hx hb dX0_init_13 (by decide) ?_
  refine i_newa (atype := .int) (ty := .int) hC hI 0 w66 rfl (iid_int hC.2.2.2.2.2) (N' := 75) (a0 := (75, .inl (fun _ => 0))) (fun _ => rfl) (by decide) rfl (by decide) ⟨Nat.le_of_ble_eq_true rfl, Nat.le_of_ble_eq_true rfl⟩ dX0_init_15 (fun q2 H hI => ?_)
  refine i_put hC hI hni uX0 tyX0 tyX0_ok nmX0 rfl 1 (by decide) w45 rfl rfl (ty := .array .int) (by decide +kernel) rfl rfl (Nat.le_of_ble_eq_true rfl) dX0_init_17 (fun H locs hI => ?_)
  replace hI : iI D s h 2 [.ref q1, .ref q2, .null, .null, .null, .null, .int 0] (([] ++ [(q1, .inl (cid 0, 75, .inl (fun _ => 0)))]) ++ [(q2, .inl (cid 0, 75, .inl (fun _ => 0)))]) H locs := hI
  refine lv_aload_n hx hb dX0_init_20 rfl (lv_at hl 0 rfl) ?_
  refine lv_bipush (v := 75) hx hb dX0_init_21 (by decide) ?_
  refine i_newa (atype := .int) (ty := .int) hC hI 0 w66 rfl (iid_int hC.2.2.2.2.2) (N' := 75) (a0 := (75, .inl (fun _ => 0))) (fun _ => rfl) (by decide) rfl (by decide) ⟨Nat.le_of_ble_eq_true rfl, Nat.le_of_ble_eq_true rfl⟩ dX0_init_23 (fun q3 H hI => ?_)
  refine i_put hC hI hni uX0 tyX0 tyX0_ok nmX0 rfl 2 (by decide) w46 rfl rfl (ty := .array .int) (by decide +kernel) rfl rfl (Nat.le_of_ble_eq_true rfl) dX0_init_25 (fun H locs hI => ?_)
  replace hI : iI D s h 2 [.ref q1, .ref q2, .ref q3, .null, .null, .null, .int 0] ((([] ++ [(q1, .inl (cid 0, 75, .inl (fun _ => 0)))]) ++ [(q2, .inl (cid 0, 75, .inl (fun _ => 0)))]) ++ [(q3, .inl (cid 0, 75, .inl (fun _ => 0)))]) H locs := hI
  refine lv_aload_n hx hb dX0_init_28 rfl (lv_at hl 0 rfl) ?_
  refine lv_bipush (v := 75) hx hb dX0_init_29 (by decide) ?_
  refine i_newa (atype := .int) (ty := .int) hC hI 0 w66 rfl (iid_int hC.2.2.2.2.2) (N' := 75) (a0 := (75, .inl (fun _ => 0))) (fun _ => rfl) (by decide) rfl (by decide) ⟨Nat.le_of_ble_eq_true rfl, Nat.le_of_ble_eq_true rfl⟩ dX0_init_31 (fun q4 H hI => ?_)
  refine i_put hC hI hni uX0 tyX0 tyX0_ok nmX0 rfl 3 (by decide) w47 rfl rfl (ty := .array .int) (by decide +kernel) rfl rfl (Nat.le_of_ble_eq_true rfl) dX0_init_33 (fun H locs hI => ?_)
  replace hI : iI D s h 2 [.ref q1, .ref q2, .ref q3, .ref q4, .null, .null, .int 0] (((([] ++ [(q1, .inl (cid 0, 75, .inl (fun _ => 0)))]) ++ [(q2, .inl (cid 0, 75, .inl (fun _ => 0)))]) ++ [(q3, .inl (cid 0, 75, .inl (fun _ => 0)))]) ++ [(q4, .inl (cid 0, 75, .inl (fun _ => 0)))]) H locs := hI
  refine lv_aload_n hx hb dX0_init_36 rfl (lv_at hl 0 rfl) ?_
  refine lv_bipush (v := 75) hx hb dX0_init_37 (by decide) ?_
  refine i_newa (atype := .int) (ty := .int) hC hI 0 w66 rfl (iid_int hC.2.2.2.2.2) (N' := 75) (a0 := (75, .inl (fun _ => 0))) (fun _ => rfl) (by decide) rfl (by decide) ⟨Nat.le_of_ble_eq_true rfl, Nat.le_of_ble_eq_true rfl⟩ dX0_init_39 (fun q5 H hI => ?_)
  refine i_put hC hI hni uX0 tyX0 tyX0_ok nmX0 rfl 4 (by decide) w48 rfl rfl (ty := .array .int) (by decide +kernel) rfl rfl (Nat.le_of_ble_eq_true rfl) dX0_init_41 (fun H locs hI => ?_)
  replace hI : iI D s h 2 [.ref q1, .ref q2, .ref q3, .ref q4, .ref q5, .null, .int 0] ((((([] ++ [(q1, .inl (cid 0, 75, .inl (fun _ => 0)))]) ++ [(q2, .inl (cid 0, 75, .inl (fun _ => 0)))]) ++ [(q3, .inl (cid 0, 75, .inl (fun _ => 0)))]) ++ [(q4, .inl (cid 0, 75, .inl (fun _ => 0)))]) ++ [(q5, .inl (cid 0, 75, .inl (fun _ => 0)))]) H locs := hI
  refine lv_aload_n hx hb dX0_init_44 rfl (lv_at hl 0 rfl) ?_
  refine lv_iconst (v := 5) hx hb dX0_init_45 (by decide) ?_
  refine i_newa (atype := .int) (ty := .int) hC hI 0 w66 rfl (iid_int hC.2.2.2.2.2) (N' := 5) (a0 := (5, .inl (fun _ => 0))) (fun _ => rfl) (by decide) rfl (by decide) ⟨Nat.le_of_ble_eq_true rfl, Nat.le_of_ble_eq_true rfl⟩ dX0_init_46 (fun q6 H hI => ?_)
  refine i_put hC hI hni uX0 tyX0 tyX0_ok nmX0 rfl 5 (by decide) w49 rfl rfl (ty := .array .int) (by decide +kernel) rfl rfl (Nat.le_of_ble_eq_true rfl) dX0_init_48 (fun H locs hI => ?_)
  replace hI : iI D s h 2 [.ref q1, .ref q2, .ref q3, .ref q4, .ref q5, .ref q6, .int 0] (((((([] ++ [(q1, .inl (cid 0, 75, .inl (fun _ => 0)))]) ++ [(q2, .inl (cid 0, 75, .inl (fun _ => 0)))]) ++ [(q3, .inl (cid 0, 75, .inl (fun _ => 0)))]) ++ [(q4, .inl (cid 0, 75, .inl (fun _ => 0)))]) ++ [(q5, .inl (cid 0, 75, .inl (fun _ => 0)))]) ++ [(q6, .inl (cid 0, 5, .inl (fun _ => 0)))]) H locs := hI
  refine lv_aload_n hx hb dX0_init_51 rfl (lv_at hl 0 rfl) ?_
  refine lv_iconst (v := 0) hx hb dX0_init_52 (by decide) ?_
  refine i_put hC hI hni uX0 tyX0 tyX0_ok nmX0 rfl 6 (by decide) w50 rfl rfl (ty := .int) (by decide +kernel) rfl rfl (Nat.le_of_ble_eq_true rfl) dX0_init_53 (fun H locs hI => ?_)
  replace hI : iI D s h 2 [.ref q1, .ref q2, .ref q3, .ref q4, .ref q5, .ref q6, .int 0] (((((([] ++ [(q1, .inl (cid 0, 75, .inl (fun _ => 0)))]) ++ [(q2, .inl (cid 0, 75, .inl (fun _ => 0)))]) ++ [(q3, .inl (cid 0, 75, .inl (fun _ => 0)))]) ++ [(q4, .inl (cid 0, 75, .inl (fun _ => 0)))]) ++ [(q5, .inl (cid 0, 75, .inl (fun _ => 0)))]) ++ [(q6, .inl (cid 0, 5, .inl (fun _ => 0)))]) H locs := hI
  exact kv (fun k => ([h, q1, q2, q3, q4, q5, q6] : List Nat).getD k 0) _ _ _ _ _ _ _ _ rfl rfl hI ⟨Nat.le_of_ble_eq_true rfl, Nat.le_of_ble_eq_true rfl⟩ dX0_init_56
theorem dX5_init_0 : decode cX5_init 0 = .ok (.aload_n 0, 1) := by decide +kernel
theorem dX5_init_1 : decode cX5_init 1 = .ok (.invokespecial 3, 3) := by decide +kernel
theorem dX5_init_4 : decode cX5_init 4 = .ok (.aload_n 0, 1) := by decide +kernel
theorem dX5_init_5 : decode cX5_init 5 = .ok (.new 9, 3) := by decide +kernel
theorem dX5_init_8 : decode cX5_init 8 = .ok (.dup, 1) := by decide +kernel
theorem dX5_init_9 : decode cX5_init 9 = .ok (.invokespecial 11, 3) := by decide +kernel
theorem dX5_init_12 : decode cX5_init 12 = .ok (.putfield 12, 3) := by decide +kernel
theorem dX5_init_15 : decode cX5_init 15 = .ok (.aload_n 0, 1) := by decide +kernel
theorem dX5_init_16 : decode cX5_init 16 = .ok (.iconst 3, 1) := by decide +kernel
theorem dX5_init_17 : decode cX5_init 17 = .ok (.newarray .int, 2) := by decide +kernel
theorem dX5_init_19 : decode cX5_init 19 = .ok (.putfield 18, 3) := by decide +kernel
theorem dX5_init_22 : decode cX5_init 22 = .ok (.aload_n 0, 1) := by decide +kernel
theorem dX5_init_23 : decode cX5_init 23 = .ok (.iconst 3, 1) := by decide +kernel
theorem dX5_init_24 : decode cX5_init 24 = .ok (.newarray .int, 2) := by decide +kernel
theorem dX5_init_26 : decode cX5_init 26 = .ok (.putfield 22, 3) := by decide +kernel
theorem dX5_init_29 : decode cX5_init 29 = .ok (.aload_n 0, 1) := by decide +kernel
theorem dX5_init_30 : decode cX5_init 30 = .ok (.iconst 3, 1) := by decide +kernel
theorem dX5_init_31 : decode cX5_init 31 = .ok (.newarray .int, 2) := by decide +kernel
theorem dX5_init_33 : decode cX5_init 33 = .ok (.putfield 25, 3) := by decide +kernel
theorem dX5_init_36 : decode cX5_init 36 = .ok (.aload_n 0, 1) := by decide +kernel
theorem dX5_init_37 : decode cX5_init 37 = .ok (.iconst 3, 1) := by decide +kernel
theorem dX5_init_38 : decode cX5_init 38 = .ok (.newarray .int, 2) := by decide +kernel
theorem dX5_init_40 : decode cX5_init 40 = .ok (.putfield 28, 3) := by decide +kernel
theorem dX5_init_43 : decode cX5_init 43 = .ok (.aload_n 0, 1) := by decide +kernel
theorem dX5_init_44 : decode cX5_init 44 = .ok (.iconst 0, 1) := by decide +kernel
theorem dX5_init_45 : decode cX5_init 45 = .ok (.putfield 31, 3) := by decide +kernel
theorem dX5_init_48 : decode cX5_init 48 = .ok (.aload_n 0, 1) := by decide +kernel
theorem dX5_init_49 : decode cX5_init 49 = .ok (.iconst 0, 1) := by decide +kernel
theorem dX5_init_50 : decode cX5_init 50 = .ok (.putfield 35, 3) := by decide +kernel
theorem dX5_init_53 : decode cX5_init 53 = .ok (.aload_n 0, 1) := by decide +kernel
theorem dX5_init_54 : decode cX5_init 54 = .ok (.iconst 0, 1) := by decide +kernel
theorem dX5_init_55 : decode cX5_init 55 = .ok (.putfield 38, 3) := by decide +kernel
theorem dX5_init_58 : decode cX5_init 58 = .ok (.aload_n 0, 1) := by decide +kernel
theorem dX5_init_59 : decode cX5_init 59 = .ok (.iconst 0, 1) := by decide +kernel
theorem dX5_init_60 : decode cX5_init 60 = .ok (.putfield 41, 3) := by decide +kernel
theorem dX5_init_63 : decode cX5_init 63 = .ok (.aload_n 0, 1) := by decide +kernel
theorem dX5_init_64 : decode cX5_init 64 = .ok (.iconst 0, 1) := by decide +kernel
theorem dX5_init_65 : decode cX5_init 65 = .ok (.putfield 44, 3) := by decide +kernel
theorem dX5_init_68 : decode cX5_init 68 = .ok (.aload_n 0, 1) := by decide +kernel
theorem dX5_init_69 : decode cX5_init 69 = .ok (.iconst 0, 1) := by decide +kernel
theorem dX5_init_70 : decode cX5_init 70 = .ok (.putfield 47, 3) := by decide +kernel
theorem dX5_init_73 : decode cX5_init 73 = .ok (.return_, 1) := by decide +kernel
set_option maxRecDepth 100000 in
set_option maxHeartbeats 4000000 in
theorem I_X5 (l : Launch) (D : va_G) (cid : Nat → ClassId) : iM l D cid yX5_init (.code yX5_init cX5_init 1 none) (gRX 2 32 11 399) 7 [.null, .null, .null, .null, .null, .int 0, .int 0, .int 0, .int 0, .int 0, .int 0] 11 399 (α := Nat → Nat) (fun h a => a 0 = h) (Z7 cid) := by
  refine iMet (by decide +kernel) rfl (Nat.le_of_ble_eq_true rfl) ?_
  intro p e s m args below meth c H locs ls Q h hC hni hl hI kv
  replace hC : iC p s m args c cX5_init 1 RX5 D cid := hC
  have hx := hC.1
  have hb := hC.2.1
  refine i_obj hC hl w37 w30 w31 ⟨Nat.le_of_ble_eq_true rfl, Nat.le_of_ble_eq_true rfl⟩ dX5_init_0 dX5_init_1 ?_
  refine lv_aload_n hx hb dX5_init_4 rfl (lv_at hl 0 rfl) ?_
  refine i_new hC hI (I_X0 l D cid) rfl uX0 tyX0 tyX0_ok w38 w39 w3 (fun j hj => by revert j; decide) ⟨w42, w3, ⟨by decide, by decide⟩, by decide +kernel⟩ w41 rfl (Or.inl (by decide +kernel)) ⟨rfl, rfl⟩ ⟨Nat.le_of_ble_eq_true rfl, Nat.le_of_ble_eq_true rfl⟩ hl.1 (Nat.le_of_ble_eq_true rfl) ⟨Nat.le_of_ble_eq_true rfl, Nat.le_of_ble_eq_true rfl⟩ dX5_init_5 dX5_init_8 dX5_init_9 (fun q1 u1 H locs hp1 hI => ?_)
  replace hp1 : (u1 0) = q1 := hp1
  subst hp1
  refine i_put hC hI hni uX5 tyX5 tyX5_ok nmX5 rfl 0 (by decide) w67 rfl rfl (ty := .object "ContainerTerminal$Cargo") (by decide +kernel) rfl rfl (Nat.le_of_ble_eq_true rfl) dX5_init_12 (fun H locs hI => ?_)
  replace hI : iI D s h 7 [.ref (u1 0), .null, .null, .null, .null, .int 0, .int 0, .int 0, .int 0, .int 0, .int 0] ([] ++ Z0 cid u1) H locs := hI
  refine lv_aload_n hx hb dX5_init_15 rfl (lv_at hl 0 rfl) ?_
  refine lv_iconst (v := 3) hx hb dX5_init_16 (by decide) ?_
  refine i_newa (atype := .int) (ty := .int) hC hI 0 w66 rfl (iid_int hC.2.2.2.2.2) (N' := 3) (a0 := (3, .inl (fun _ => 0))) (fun _ => rfl) (by decide) rfl (by decide) ⟨Nat.le_of_ble_eq_true rfl, Nat.le_of_ble_eq_true rfl⟩ dX5_init_17 (fun q2 H hI => ?_)
  refine i_put hC hI hni uX5 tyX5 tyX5_ok nmX5 rfl 1 (by decide) w70 rfl rfl (ty := .array .int) (by decide +kernel) rfl rfl (Nat.le_of_ble_eq_true rfl) dX5_init_19 (fun H locs hI => ?_)
  replace hI : iI D s h 7 [.ref (u1 0), .ref q2, .null, .null, .null, .int 0, .int 0, .int 0, .int 0, .int 0, .int 0] (([] ++ Z0 cid u1) ++ [(q2, .inl (cid 0, 3, .inl (fun _ => 0)))]) H locs := hI
  refine lv_aload_n hx hb dX5_init_22 rfl (lv_at hl 0 rfl) ?_
  refine lv_iconst (v := 3) hx hb dX5_init_23 (by decide) ?_
  refine i_newa (atype := .int) (ty := .int) hC hI 0 w66 rfl (iid_int hC.2.2.2.2.2) (N' := 3) (a0 := (3, .inl (fun _ => 0))) (fun _ => rfl) (by decide) rfl (by decide) ⟨Nat.le_of_ble_eq_true rfl, Nat.le_of_ble_eq_true rfl⟩ dX5_init_24 (fun q3 H hI => ?_)
  refine i_put hC hI hni uX5 tyX5 tyX5_ok nmX5 rfl 2 (by decide) w73 rfl rfl (ty := .array .int) (by decide +kernel) rfl rfl (Nat.le_of_ble_eq_true rfl) dX5_init_26 (fun H locs hI => ?_)
  replace hI : iI D s h 7 [.ref (u1 0), .ref q2, .ref q3, .null, .null, .int 0, .int 0, .int 0, .int 0, .int 0, .int 0] ((([] ++ Z0 cid u1) ++ [(q2, .inl (cid 0, 3, .inl (fun _ => 0)))]) ++ [(q3, .inl (cid 0, 3, .inl (fun _ => 0)))]) H locs := hI
  refine lv_aload_n hx hb dX5_init_29 rfl (lv_at hl 0 rfl) ?_
  refine lv_iconst (v := 3) hx hb dX5_init_30 (by decide) ?_
  refine i_newa (atype := .int) (ty := .int) hC hI 0 w66 rfl (iid_int hC.2.2.2.2.2) (N' := 3) (a0 := (3, .inl (fun _ => 0))) (fun _ => rfl) (by decide) rfl (by decide) ⟨Nat.le_of_ble_eq_true rfl, Nat.le_of_ble_eq_true rfl⟩ dX5_init_31 (fun q4 H hI => ?_)
  refine i_put hC hI hni uX5 tyX5 tyX5_ok nmX5 rfl 3 (by decide) w76 rfl rfl (ty := .array .int) (by decide +kernel) rfl rfl (Nat.le_of_ble_eq_true rfl) dX5_init_33 (fun H locs hI => ?_)
  replace hI : iI D s h 7 [.ref (u1 0), .ref q2, .ref q3, .ref q4, .null, .int 0, .int 0, .int 0, .int 0, .int 0, .int 0] (((([] ++ Z0 cid u1) ++ [(q2, .inl (cid 0, 3, .inl (fun _ => 0)))]) ++ [(q3, .inl (cid 0, 3, .inl (fun _ => 0)))]) ++ [(q4, .inl (cid 0, 3, .inl (fun _ => 0)))]) H locs := hI
  refine lv_aload_n hx hb dX5_init_36 rfl (lv_at hl 0 rfl) ?_
  refine lv_iconst (v := 3) hx hb dX5_init_37 (by decide) ?_
  refine i_newa (atype := .int) (ty := .int) hC hI 0 w66 rfl (iid_int hC.2.2.2.2.2) (N' := 3) (a0 := (3, .inl (fun _ => 0))) (fun _ => rfl) (by decide) rfl (by decide) ⟨Nat.le_of_ble_eq_true rfl, Nat.le_of_ble_eq_true rfl⟩ dX5_init_38 (fun q5 H hI => ?_)
  refine i_put hC hI hni uX5 tyX5 tyX5_ok nmX5 rfl 4 (by decide) w79 rfl rfl (ty := .array .int) (by decide +kernel) rfl rfl (Nat.le_of_ble_eq_true rfl) dX5_init_40 (fun H locs hI => ?_)
  replace hI : iI D s h 7 [.ref (u1 0), .ref q2, .ref q3, .ref q4, .ref q5, .int 0, .int 0, .int 0, .int 0, .int 0, .int 0] ((((([] ++ Z0 cid u1) ++ [(q2, .inl (cid 0, 3, .inl (fun _ => 0)))]) ++ [(q3, .inl (cid 0, 3, .inl (fun _ => 0)))]) ++ [(q4, .inl (cid 0, 3, .inl (fun _ => 0)))]) ++ [(q5, .inl (cid 0, 3, .inl (fun _ => 0)))]) H locs := hI
  refine lv_aload_n hx hb dX5_init_43 rfl (lv_at hl 0 rfl) ?_
  refine lv_iconst (v := 0) hx hb dX5_init_44 (by decide) ?_
  refine i_put hC hI hni uX5 tyX5 tyX5_ok nmX5 rfl 5 (by decide) w82 rfl rfl (ty := .int) (by decide +kernel) rfl rfl (Nat.le_of_ble_eq_true rfl) dX5_init_45 (fun H locs hI => ?_)
  replace hI : iI D s h 7 [.ref (u1 0), .ref q2, .ref q3, .ref q4, .ref q5, .int 0, .int 0, .int 0, .int 0, .int 0, .int 0] ((((([] ++ Z0 cid u1) ++ [(q2, .inl (cid 0, 3, .inl (fun _ => 0)))]) ++ [(q3, .inl (cid 0, 3, .inl (fun _ => 0)))]) ++ [(q4, .inl (cid 0, 3, .inl (fun _ => 0)))]) ++ [(q5, .inl (cid 0, 3, .inl (fun _ => 0)))]) H locs := hI
  refine lv_aload_n hx hb dX5_init_48 rfl (lv_at hl 0 rfl) ?_
  refine lv_iconst (v := 0) hx hb dX5_init_49 (by decide) ?_
  refine i_put hC hI hni uX5 tyX5 tyX5_ok nmX5 rfl 6 (by decide) w84 rfl rfl (ty := .int) (by decide +kernel) rfl rfl (Nat.le_of_ble_eq_true rfl) dX5_init_50 (fun H locs hI => ?_)
  replace hI : iI D s h 7 [.ref (u1 0), .ref q2, .ref q3, .ref q4, .ref q5, .int 0, .int 0, .int 0, .int 0, .int 0, .int 0] ((((([] ++ Z0 cid u1) ++ [(q2, .inl (cid 0, 3, .inl (fun _ => 0)))]) ++ [(q3, .inl (cid 0, 3, .inl (fun _ => 0)))]) ++ [(q4, .inl (cid 0, 3, .inl (fun _ => 0)))]) ++ [(q5, .inl (cid 0, 3, .inl (fun _ => 0)))]) H locs := hI
  refine lv_aload_n hx hb dX5_init_53 rfl (lv_at hl 0 rfl) ?_
  refine lv_iconst (v := 0) hx hb dX5_init_54 (by decide) ?_
  refine i_put hC hI hni uX5 tyX5 tyX5_ok nmX5 rfl 7 (by decide) w86 rfl rfl (ty := .int) (by decide +kernel) rfl rfl (Nat.le_of_ble_eq_true rfl) dX5_init_55 (fun H locs hI => ?_)
  replace hI : iI D s h 7 [.ref (u1 0), .ref q2, .ref q3, .ref q4, .ref q5, .int 0, .int 0, .int 0, .int 0, .int 0, .int 0] ((((([] ++ Z0 cid u1) ++ [(q2, .inl (cid 0, 3, .inl (fun _ => 0)))]) ++ [(q3, .inl (cid 0, 3, .inl (fun _ => 0)))]) ++ [(q4, .inl (cid 0, 3, .inl (fun _ => 0)))]) ++ [(q5, .inl (cid 0, 3, .inl (fun _ => 0)))]) H locs := hI
  refine lv_aload_n hx hb dX5_init_58 rfl (lv_at hl 0 rfl) ?_
  refine lv_iconst (v := 0) hx hb dX5_init_59 (by decide) ?_
  refine i_put hC hI hni uX5 tyX5 tyX5_ok nmX5 rfl 8 (by decide) w88 rfl rfl (ty := .int) (by decide +kernel) rfl rfl (Nat.le_of_ble_eq_true rfl) dX5_init_60 (fun H locs hI => ?_)
  replace hI : iI D s h 7 [.ref (u1 0), .ref q2, .ref q3, .ref q4, .ref q5, .int 0, .int 0, .int 0, .int 0, .int 0, .int 0] ((((([] ++ Z0 cid u1) ++ [(q2, .inl (cid 0, 3, .inl (fun _ => 0)))]) ++ [(q3, .inl (cid 0, 3, .inl (fun _ => 0)))]) ++ [(q4, .inl (cid 0, 3, .inl (fun _ => 0)))]) ++ [(q5, .inl (cid 0, 3, .inl (fun _ => 0)))]) H locs := hI
  refine lv_aload_n hx hb dX5_init_63 rfl (lv_at hl 0 rfl) ?_
  refine lv_iconst (v := 0) hx hb dX5_init_64 (by decide) ?_
  refine i_put hC hI hni uX5 tyX5 tyX5_ok nmX5 rfl 9 (by decide) w90 rfl rfl (ty := .int) (by decide +kernel) rfl rfl (Nat.le_of_ble_eq_true rfl) dX5_init_65 (fun H locs hI => ?_)
  replace hI : iI D s h 7 [.ref (u1 0), .ref q2, .ref q3, .ref q4, .ref q5, .int 0, .int 0, .int 0, .int 0, .int 0, .int 0] ((((([] ++ Z0 cid u1) ++ [(q2, .inl (cid 0, 3, .inl (fun _ => 0)))]) ++ [(q3, .inl (cid 0, 3, .inl (fun _ => 0)))]) ++ [(q4, .inl (cid 0, 3, .inl (fun _ => 0)))]) ++ [(q5, .inl (cid 0, 3, .inl (fun _ => 0)))]) H locs := hI
  refine lv_aload_n hx hb dX5_init_68 rfl (lv_at hl 0 rfl) ?_
  refine lv_iconst (v := 0) hx hb dX5_init_69 (by decide) ?_
  refine i_put hC hI hni uX5 tyX5 tyX5_ok nmX5 rfl 10 (by decide) w92 rfl rfl (ty := .int) (by decide +kernel) rfl rfl (Nat.le_of_ble_eq_true rfl) dX5_init_70 (fun H locs hI => ?_)
  replace hI : iI D s h 7 [.ref (u1 0), .ref q2, .ref q3, .ref q4, .ref q5, .int 0, .int 0, .int 0, .int 0, .int 0, .int 0] ((((([] ++ Z0 cid u1) ++ [(q2, .inl (cid 0, 3, .inl (fun _ => 0)))]) ++ [(q3, .inl (cid 0, 3, .inl (fun _ => 0)))]) ++ [(q4, .inl (cid 0, 3, .inl (fun _ => 0)))]) ++ [(q5, .inl (cid 0, 3, .inl (fun _ => 0)))]) H locs := hI
  exact kv (fun k => ([h, u1 0, u1 1, u1 2, u1 3, u1 4, u1 5, u1 6, q2, q3, q4, q5] : List Nat).getD k 0) _ _ _ _ _ _ _ _ rfl rfl hI ⟨Nat.le_of_ble_eq_true rfl, Nat.le_of_ble_eq_true rfl⟩ dX5_init_73
def ZP (cid : Nat → ClassId) (a : Nat → Nat) : va_W := [(a 0, .inr (6, [.ref (a 1), .ref (a 2), .int 0])), (a 1, .inl (cid 0, 8, .inl (fun _ => 0))), (a 2, .inl (cid 0, 32, .inl (fun _ => 0)))]
theorem dX4_init_0 : decode cX4_init 0 = .ok (.aload_n 0, 1) := by decide +kernel
theorem dX4_init_1 : decode cX4_init 1 = .ok (.invokespecial 3, 3) := by decide +kernel
theorem dX4_init_4 : decode cX4_init 4 = .ok (.aload_n 0, 1) := by decide +kernel
theorem dX4_init_5 : decode cX4_init 5 = .ok (.bipush 8, 2) := by decide +kernel
theorem dX4_init_7 : decode cX4_init 7 = .ok (.newarray .int, 2) := by decide +kernel
theorem dX4_init_9 : decode cX4_init 9 = .ok (.putfield 9, 3) := by decide +kernel
theorem dX4_init_12 : decode cX4_init 12 = .ok (.aload_n 0, 1) := by decide +kernel
theorem dX4_init_13 : decode cX4_init 13 = .ok (.bipush 32, 2) := by decide +kernel
theorem dX4_init_15 : decode cX4_init 15 = .ok (.newarray .int, 2) := by decide +kernel
theorem dX4_init_17 : decode cX4_init 17 = .ok (.putfield 15, 3) := by decide +kernel
theorem dX4_init_20 : decode cX4_init 20 = .ok (.aload_n 0, 1) := by decide +kernel
theorem dX4_init_21 : decode cX4_init 21 = .ok (.iconst 0, 1) := by decide +kernel
theorem dX4_init_22 : decode cX4_init 22 = .ok (.putfield 18, 3) := by decide +kernel
theorem dX4_init_25 : decode cX4_init 25 = .ok (.return_, 1) := by decide +kernel
set_option maxRecDepth 100000 in
set_option maxHeartbeats 4000000 in
theorem I_X4 (l : Launch) (D : va_G) (cid : Nat → ClassId) : iM l D cid yX4_init (.code yX4_init cX4_init 1 none) (gRX 1 12 2 40) 6 [.null, .null, .int 0] 2 40 (α := Nat → Nat) (fun h a => a 0 = h) (ZP cid) := by
  refine iMet (by decide +kernel) rfl (Nat.le_of_ble_eq_true rfl) ?_
  intro p e s m args below meth c H locs ls Q h hC hni hl hI kv
  replace hC : iC p s m args c cX4_init 1 RX4 D cid := hC
  have hx := hC.1
  have hb := hC.2.1
  refine i_obj hC hl w142 w30 w31 ⟨Nat.le_of_ble_eq_true rfl, Nat.le_of_ble_eq_true rfl⟩ dX4_init_0 dX4_init_1 ?_
  refine lv_aload_n hx hb dX4_init_4 rfl (lv_at hl 0 rfl) ?_
  refine lv_bipush (v := 8) hx hb dX4_init_5 (by decide) ?_
  refine i_newa (atype := .int) (ty := .int) hC hI 0 w66 rfl (iid_int hC.2.2.2.2.2) (N' := 8) (a0 := (8, .inl (fun _ => 0))) (fun _ => rfl) (by decide) rfl (by decide) ⟨Nat.le_of_ble_eq_true rfl, Nat.le_of_ble_eq_true rfl⟩ dX4_init_7 (fun q1 H hI => ?_)
  refine i_put hC hI hni uX4 tyX4 tyX4_ok nmX4 rfl 0 (by decide) w143 rfl rfl (ty := .array .int) (by decide +kernel) rfl rfl (Nat.le_of_ble_eq_true rfl) dX4_init_9 (fun H locs hI => ?_)
  replace hI : iI D s h 6 [.ref q1, .null, .int 0] ([] ++ [(q1, .inl (cid 0, 8, .inl (fun _ => 0)))]) H locs := hI
  refine lv_aload_n hx hb dX4_init_12 rfl (lv_at hl 0 rfl) ?_
  refine lv_bipush (v := 32) hx hb dX4_init_13 (by decide) ?_
  refine i_newa (atype := .int) (ty := .int) hC hI 0 w66 rfl (iid_int hC.2.2.2.2.2) (N' := 32) (a0 := (32, .inl (fun _ => 0))) (fun _ => rfl) (by decide) rfl (by decide) ⟨Nat.le_of_ble_eq_true rfl, Nat.le_of_ble_eq_true rfl⟩ dX4_init_15 (fun q2 H hI => ?_)
  refine i_put hC hI hni uX4 tyX4 tyX4_ok nmX4 rfl 1 (by decide) w144 rfl rfl (ty := .array .int) (by decide +kernel) rfl rfl (Nat.le_of_ble_eq_true rfl) dX4_init_17 (fun H locs hI => ?_)
  replace hI : iI D s h 6 [.ref q1, .ref q2, .int 0] (([] ++ [(q1, .inl (cid 0, 8, .inl (fun _ => 0)))]) ++ [(q2, .inl (cid 0, 32, .inl (fun _ => 0)))]) H locs := hI
  refine lv_aload_n hx hb dX4_init_20 rfl (lv_at hl 0 rfl) ?_
  refine lv_iconst (v := 0) hx hb dX4_init_21 (by decide) ?_
  refine i_put hC hI hni uX4 tyX4 tyX4_ok nmX4 rfl 2 (by decide) w145 rfl rfl (ty := .int) (by decide +kernel) rfl rfl (Nat.le_of_ble_eq_true rfl) dX4_init_22 (fun H locs hI => ?_)
  replace hI : iI D s h 6 [.ref q1, .ref q2, .int 0] (([] ++ [(q1, .inl (cid 0, 8, .inl (fun _ => 0)))]) ++ [(q2, .inl (cid 0, 32, .inl (fun _ => 0)))]) H locs := hI
  exact kv (fun k => ([h, q1, q2] : List Nat).getD k 0) _ _ _ _ _ _ _ _ rfl rfl hI ⟨Nat.le_of_ble_eq_true rfl, Nat.le_of_ble_eq_true rfl⟩ dX4_init_25
theorem dX2_init_0 : decode cX2_init 0 = .ok (.aload_n 0, 1) := by decide +kernel
theorem dX2_init_1 : decode cX2_init 1 = .ok (.invokespecial 3, 3) := by decide +kernel
theorem dX2_init_4 : decode cX2_init 4 = .ok (.aload_n 0, 1) := by decide +kernel
theorem dX2_init_5 : decode cX2_init 5 = .ok (.bipush 60, 2) := by decide +kernel
theorem dX2_init_7 : decode cX2_init 7 = .ok (.newarray .char, 2) := by decide +kernel
theorem dX2_init_9 : decode cX2_init 9 = .ok (.putfield 9, 3) := by decide +kernel
theorem dX2_init_12 : decode cX2_init 12 = .ok (.aload_n 0, 1) := by decide +kernel
theorem dX2_init_13 : decode cX2_init 13 = .ok (.iconst 0, 1) := by decide +kernel
theorem dX2_init_14 : decode cX2_init 14 = .ok (.putfield 15, 3) := by decide +kernel
theorem dX2_init_17 : decode cX2_init 17 = .ok (.aload_n 0, 1) := by decide +kernel
theorem dX2_init_18 : decode cX2_init 18 = .ok (.iconst 0, 1) := by decide +kernel
theorem dX2_init_19 : decode cX2_init 19 = .ok (.putfield 19, 3) := by decide +kernel
theorem dX2_init_22 : decode cX2_init 22 = .ok (.return_, 1) := by decide +kernel
set_option maxRecDepth 100000 in
set_option maxHeartbeats 4000000 in
theorem I_X2 (l : Launch) (D : va_G) (cid : Nat → ClassId) : iM l D cid yX2_init (.code yX2_init cX2_init 1 none) (gRX 1 12 1 60) 4 [.null, .int 0, .int 0] 1 60 (α := Nat → Nat) (fun h a => a 0 = h) (ZI cid) := by
  refine iMet (by decide +kernel) rfl (Nat.le_of_ble_eq_true rfl) ?_
  intro p e s m args below meth c H locs ls Q h hC hni hl hI kv
  replace hC : iC p s m args c cX2_init 1 RX2 D cid := hC
  have hx := hC.1
  have hb := hC.2.1
  refine i_obj hC hl w160 w30 w31 ⟨Nat.le_of_ble_eq_true rfl, Nat.le_of_ble_eq_true rfl⟩ dX2_init_0 dX2_init_1 ?_
  refine lv_aload_n hx hb dX2_init_4 rfl (lv_at hl 0 rfl) ?_
  refine lv_bipush (v := 60) hx hb dX2_init_5 (by decide) ?_
  refine i_newa (atype := .char) (ty := .char) hC hI 1 w173 rfl (iid_char hC.2.2.2.2.2) (N' := 60) (a0 := (60, .inl (fun _ => 0))) (fun _ => rfl) (by decide) rfl (by decide) ⟨Nat.le_of_ble_eq_true rfl, Nat.le_of_ble_eq_true rfl⟩ dX2_init_7 (fun q1 H hI => ?_)
  refine i_put hC hI hni uX2 tyX2 tyX2_ok nmX2 rfl 0 (by decide) w161 rfl rfl (ty := .array .char) (by decide +kernel) rfl rfl (Nat.le_of_ble_eq_true rfl) dX2_init_9 (fun H locs hI => ?_)
  replace hI : iI D s h 4 [.ref q1, .int 0, .int 0] ([] ++ [(q1, .inl (cid 1, 60, .inl (fun _ => 0)))]) H locs := hI
  refine lv_aload_n hx hb dX2_init_12 rfl (lv_at hl 0 rfl) ?_
  refine lv_iconst (v := 0) hx hb dX2_init_13 (by decide) ?_
  refine i_put hC hI hni uX2 tyX2 tyX2_ok nmX2 rfl 1 (by decide) w162 rfl rfl (ty := .int) (by decide +kernel) rfl rfl (Nat.le_of_ble_eq_true rfl) dX2_init_14 (fun H locs hI => ?_)
  replace hI : iI D s h 4 [.ref q1, .int 0, .int 0] ([] ++ [(q1, .inl (cid 1, 60, .inl (fun _ => 0)))]) H locs := hI
  refine lv_aload_n hx hb dX2_init_17 rfl (lv_at hl 0 rfl) ?_
  refine lv_iconst (v := 0) hx hb dX2_init_18 (by decide) ?_
  refine i_put hC hI hni uX2 tyX2 tyX2_ok nmX2 rfl 2 (by decide) w164 rfl rfl (ty := .int) (by decide +kernel) rfl rfl (Nat.le_of_ble_eq_true rfl) dX2_init_19 (fun H locs hI => ?_)
  replace hI : iI D s h 4 [.ref q1, .int 0, .int 0] ([] ++ [(q1, .inl (cid 1, 60, .inl (fun _ => 0)))]) H locs := hI
  exact kv (fun k => ([h, q1] : List Nat).getD k 0) _ _ _ _ _ _ _ _ rfl rfl hI ⟨Nat.le_of_ble_eq_true rfl, Nat.le_of_ble_eq_true rfl⟩ dX2_init_22
theorem dX3_init_0 : decode cX3_init 0 = .ok (.aload_n 0, 1) := by decide +kernel
theorem dX3_init_1 : decode cX3_init 1 = .ok (.invokespecial 3, 3) := by decide +kernel
theorem dX3_init_4 : decode cX3_init 4 = .ok (.aload_n 0, 1) := by decide +kernel
theorem dX3_init_5 : decode cX3_init 5 = .ok (.bipush 100, 2) := by decide +kernel
theorem dX3_init_7 : decode cX3_init 7 = .ok (.newarray .char, 2) := by decide +kernel
theorem dX3_init_9 : decode cX3_init 9 = .ok (.putfield 9, 3) := by decide +kernel
theorem dX3_init_12 : decode cX3_init 12 = .ok (.aload_n 0, 1) := by decide +kernel
theorem dX3_init_13 : decode cX3_init 13 = .ok (.iconst 0, 1) := by decide +kernel
theorem dX3_init_14 : decode cX3_init 14 = .ok (.putfield 15, 3) := by decide +kernel
theorem dX3_init_17 : decode cX3_init 17 = .ok (.return_, 1) := by decide +kernel
set_option maxRecDepth 100000 in
set_option maxHeartbeats 4000000 in
theorem I_X3 (l : Launch) (D : va_G) (cid : Nat → ClassId) : iM l D cid yX3_init (.code yX3_init cX3_init 1 none) (gRX 1 12 1 100) 5 [.null, .int 0] 1 100 (α := Nat → Nat) (fun h a => a 0 = h) (ZL cid) := by
  refine iMet (by decide +kernel) rfl (Nat.le_of_ble_eq_true rfl) ?_
  intro p e s m args below meth c H locs ls Q h hC hni hl hI kv
  replace hC : iC p s m args c cX3_init 1 RX3 D cid := hC
  have hx := hC.1
  have hb := hC.2.1
  refine i_obj hC hl w179 w30 w31 ⟨Nat.le_of_ble_eq_true rfl, Nat.le_of_ble_eq_true rfl⟩ dX3_init_0 dX3_init_1 ?_
  refine lv_aload_n hx hb dX3_init_4 rfl (lv_at hl 0 rfl) ?_
  refine lv_bipush (v := 100) hx hb dX3_init_5 (by decide) ?_
  refine i_newa (atype := .char) (ty := .char) hC hI 1 w173 rfl (iid_char hC.2.2.2.2.2) (N' := 100) (a0 := (100, .inl (fun _ => 0))) (fun _ => rfl) (by decide) rfl (by decide) ⟨Nat.le_of_ble_eq_true rfl, Nat.le_of_ble_eq_true rfl⟩ dX3_init_7 (fun q1 H hI => ?_)
  refine i_put hC hI hni uX3 tyX3 tyX3_ok nmX3 rfl 0 (by decide) w180 rfl rfl (ty := .array .char) (by decide +kernel) rfl rfl (Nat.le_of_ble_eq_true rfl) dX3_init_9 (fun H locs hI => ?_)
  replace hI : iI D s h 5 [.ref q1, .int 0] ([] ++ [(q1, .inl (cid 1, 100, .inl (fun _ => 0)))]) H locs := hI
  refine lv_aload_n hx hb dX3_init_12 rfl (lv_at hl 0 rfl) ?_
  refine lv_iconst (v := 0) hx hb dX3_init_13 (by decide) ?_
  refine i_put hC hI hni uX3 tyX3 tyX3_ok nmX3 rfl 1 (by decide) w182 rfl rfl (ty := .int) (by decide +kernel) rfl rfl (Nat.le_of_ble_eq_true rfl) dX3_init_14 (fun H locs hI => ?_)
  replace hI : iI D s h 5 [.ref q1, .int 0] ([] ++ [(q1, .inl (cid 1, 100, .inl (fun _ => 0)))]) H locs := hI
  exact kv (fun k => ([h, q1] : List Nat).getD k 0) _ _ _ _ _ _ _ _ rfl rfl hI ⟨Nat.le_of_ble_eq_true rfl, Nat.le_of_ble_eq_true rfl⟩ dX3_init_17
def ZM (cid : Nat → ClassId) (a : Nat → Nat) : va_W := [(a 0, .inr (9, [.ref (a 1), .ref (a 2), .ref (a 3), .ref (a 4), .int 0, .ref (a 5), .int 0, .ref (a 6), .int 0, .int (-1), .int (-1), .ref (a 7), .int 0, .int 0, .int 0, .int 0, .ref (a 8)])), (a 1, .inl (cid 0, 259, .inl (fun _ => 0))), (a 2, .inl (cid 0, 259, .inl (fun _ => 0))), (a 3, .inl (cid 0, 259, .inl (fun _ => 0))), (a 4, .inl (cid 0, 2072, .inl (fun _ => 0))), (a 5, .inl (cid 0, 259, .inl (fun _ => 0))), (a 6, .inl (cid 1, 60, .inl (fun _ => 0))), (a 7, .inl (cid 1, 100, .inl (fun _ => 0))), (a 8, .inl (cid 0, 300, .inl (fun _ => 0)))]
theorem dX7_init_0 : decode cX7_init 0 = .ok (.aload_n 0, 1) := by decide +kernel
theorem dX7_init_1 : decode cX7_init 1 = .ok (.invokespecial 1, 3) := by decide +kernel
theorem dX7_init_4 : decode cX7_init 4 = .ok (.aload_n 0, 1) := by decide +kernel
theorem dX7_init_5 : decode cX7_init 5 = .ok (.sipush 259, 3) := by decide +kernel
theorem dX7_init_8 : decode cX7_init 8 = .ok (.newarray .int, 2) := by decide +kernel
theorem dX7_init_10 : decode cX7_init 10 = .ok (.putfield 7, 3) := by decide +kernel
theorem dX7_init_13 : decode cX7_init 13 = .ok (.aload_n 0, 1) := by decide +kernel
theorem dX7_init_14 : decode cX7_init 14 = .ok (.sipush 259, 3) := by decide +kernel
theorem dX7_init_17 : decode cX7_init 17 = .ok (.newarray .int, 2) := by decide +kernel
theorem dX7_init_19 : decode cX7_init 19 = .ok (.putfield 13, 3) := by decide +kernel
theorem dX7_init_22 : decode cX7_init 22 = .ok (.aload_n 0, 1) := by decide +kernel
theorem dX7_init_23 : decode cX7_init 23 = .ok (.sipush 259, 3) := by decide +kernel
theorem dX7_init_26 : decode cX7_init 26 = .ok (.newarray .int, 2) := by decide +kernel
theorem dX7_init_28 : decode cX7_init 28 = .ok (.putfield 16, 3) := by decide +kernel
theorem dX7_init_31 : decode cX7_init 31 = .ok (.aload_n 0, 1) := by decide +kernel
theorem dX7_init_32 : decode cX7_init 32 = .ok (.sipush 2072, 3) := by decide +kernel
theorem dX7_init_35 : decode cX7_init 35 = .ok (.newarray .int, 2) := by decide +kernel
theorem dX7_init_37 : decode cX7_init 37 = .ok (.putfield 19, 3) := by decide +kernel
theorem dX7_init_40 : decode cX7_init 40 = .ok (.aload_n 0, 1) := by decide +kernel
theorem dX7_init_41 : decode cX7_init 41 = .ok (.sipush 259, 3) := by decide +kernel
theorem dX7_init_44 : decode cX7_init 44 = .ok (.newarray .int, 2) := by decide +kernel
theorem dX7_init_46 : decode cX7_init 46 = .ok (.putfield 22, 3) := by decide +kernel
theorem dX7_init_49 : decode cX7_init 49 = .ok (.aload_n 0, 1) := by decide +kernel
theorem dX7_init_50 : decode cX7_init 50 = .ok (.bipush 60, 2) := by decide +kernel
theorem dX7_init_52 : decode cX7_init 52 = .ok (.newarray .char, 2) := by decide +kernel
theorem dX7_init_54 : decode cX7_init 54 = .ok (.putfield 25, 3) := by decide +kernel
theorem dX7_init_57 : decode cX7_init 57 = .ok (.aload_n 0, 1) := by decide +kernel
theorem dX7_init_58 : decode cX7_init 58 = .ok (.iconst (-1), 1) := by decide +kernel
theorem dX7_init_59 : decode cX7_init 59 = .ok (.putfield 29, 3) := by decide +kernel
theorem dX7_init_62 : decode cX7_init 62 = .ok (.aload_n 0, 1) := by decide +kernel
theorem dX7_init_63 : decode cX7_init 63 = .ok (.iconst (-1), 1) := by decide +kernel
theorem dX7_init_64 : decode cX7_init 64 = .ok (.putfield 33, 3) := by decide +kernel
theorem dX7_init_67 : decode cX7_init 67 = .ok (.aload_n 0, 1) := by decide +kernel
theorem dX7_init_68 : decode cX7_init 68 = .ok (.bipush 100, 2) := by decide +kernel
theorem dX7_init_70 : decode cX7_init 70 = .ok (.newarray .char, 2) := by decide +kernel
theorem dX7_init_72 : decode cX7_init 72 = .ok (.putfield 36, 3) := by decide +kernel
theorem dX7_init_75 : decode cX7_init 75 = .ok (.aload_n 0, 1) := by decide +kernel
theorem dX7_init_76 : decode cX7_init 76 = .ok (.sipush 300, 3) := by decide +kernel
theorem dX7_init_79 : decode cX7_init 79 = .ok (.newarray .int, 2) := by decide +kernel
theorem dX7_init_81 : decode cX7_init 81 = .ok (.putfield 39, 3) := by decide +kernel
theorem dX7_init_84 : decode cX7_init 84 = .ok (.return_, 1) := by decide +kernel
set_option maxRecDepth 100000 in
set_option maxHeartbeats 4000000 in
theorem I_X7 (l : Launch) (D : va_G) (cid : Nat → ClassId) : iM l D cid yX7_init (.code yX7_init cX7_init 1 none) (gRX 1 12 8 3568) 9 [.null, .null, .null, .null, .int 0, .null, .int 0, .null, .int 0, .int 0, .int 0, .null, .int 0, .int 0, .int 0, .int 0, .null] 8 3568 (α := Nat → Nat) (fun h a => a 0 = h) (ZM cid) := by
  refine iMet (by decide +kernel) rfl (Nat.le_of_ble_eq_true rfl) ?_
  intro p e s m args below meth c H locs ls Q h hC hni hl hI kv
  replace hC : iC p s m args c cX7_init 1 RX7 D cid := hC
  have hx := hC.1
  have hb := hC.2.1
  refine i_obj hC hl w1323 w30 w31 ⟨Nat.le_of_ble_eq_true rfl, Nat.le_of_ble_eq_true rfl⟩ dX7_init_0 dX7_init_1 ?_
  refine lv_aload_n hx hb dX7_init_4 rfl (lv_at hl 0 rfl) ?_
  refine lv_sipush (v := 259) hx hb dX7_init_5 (by decide) ?_
  refine i_newa (atype := .int) (ty := .int) hC hI 0 w66 rfl (iid_int hC.2.2.2.2.2) (N' := 259) (a0 := (259, .inl (fun _ => 0))) (fun _ => rfl) (by decide) rfl (by decide) ⟨Nat.le_of_ble_eq_true rfl, Nat.le_of_ble_eq_true rfl⟩ dX7_init_8 (fun q1 H hI => ?_)
  refine i_put hC hI hni uX7 tyX7 tyX7_ok nmX7 rfl 0 (by decide) w1324 rfl rfl (ty := .array .int) (by decide +kernel) rfl rfl (Nat.le_of_ble_eq_true rfl) dX7_init_10 (fun H locs hI => ?_)
  replace hI : iI D s h 9 [.ref q1, .null, .null, .null, .int 0, .null, .int 0, .null, .int 0, .int 0, .int 0, .null, .int 0, .int 0, .int 0, .int 0, .null] ([] ++ [(q1, .inl (cid 0, 259, .inl (fun _ => 0)))]) H locs := hI
  refine lv_aload_n hx hb dX7_init_13 rfl (lv_at hl 0 rfl) ?_
  refine lv_sipush (v := 259) hx hb dX7_init_14 (by decide) ?_
  refine i_newa (atype := .int) (ty := .int) hC hI 0 w66 rfl (iid_int hC.2.2.2.2.2) (N' := 259) (a0 := (259, .inl (fun _ => 0))) (fun _ => rfl) (by decide) rfl (by decide) ⟨Nat.le_of_ble_eq_true rfl, Nat.le_of_ble_eq_true rfl⟩ dX7_init_17 (fun q2 H hI => ?_)
  refine i_put hC hI hni uX7 tyX7 tyX7_ok nmX7 rfl 1 (by decide) w1325 rfl rfl (ty := .array .int) (by decide +kernel) rfl rfl (Nat.le_of_ble_eq_true rfl) dX7_init_19 (fun H locs hI => ?_)
  replace hI : iI D s h 9 [.ref q1, .ref q2, .null, .null, .int 0, .null, .int 0, .null, .int 0, .int 0, .int 0, .null, .int 0, .int 0, .int 0, .int 0, .null] (([] ++ [(q1, .inl (cid 0, 259, .inl (fun _ => 0)))]) ++ [(q2, .inl (cid 0, 259, .inl (fun _ => 0)))]) H locs := hI
  refine lv_aload_n hx hb dX7_init_22 rfl (lv_at hl 0 rfl) ?_
  refine lv_sipush (v := 259) hx hb dX7_init_23 (by decide) ?_
  refine i_newa (atype := .int) (ty := .int) hC hI 0 w66 rfl (iid_int hC.2.2.2.2.2) (N' := 259) (a0 := (259, .inl (fun _ => 0))) (fun _ => rfl) (by decide) rfl (by decide) ⟨Nat.le_of_ble_eq_true rfl, Nat.le_of_ble_eq_true rfl⟩ dX7_init_26 (fun q3 H hI => ?_)
  refine i_put hC hI hni uX7 tyX7 tyX7_ok nmX7 rfl 2 (by decide) w1326 rfl rfl (ty := .array .int) (by decide +kernel) rfl rfl (Nat.le_of_ble_eq_true rfl) dX7_init_28 (fun H locs hI => ?_)
  replace hI : iI D s h 9 [.ref q1, .ref q2, .ref q3, .null, .int 0, .null, .int 0, .null, .int 0, .int 0, .int 0, .null, .int 0, .int 0, .int 0, .int 0, .null] ((([] ++ [(q1, .inl (cid 0, 259, .inl (fun _ => 0)))]) ++ [(q2, .inl (cid 0, 259, .inl (fun _ => 0)))]) ++ [(q3, .inl (cid 0, 259, .inl (fun _ => 0)))]) H locs := hI
  refine lv_aload_n hx hb dX7_init_31 rfl (lv_at hl 0 rfl) ?_
  refine lv_sipush (v := 2072) hx hb dX7_init_32 (by decide) ?_
  refine i_newa (atype := .int) (ty := .int) hC hI 0 w66 rfl (iid_int hC.2.2.2.2.2) (N' := 2072) (a0 := (2072, .inl (fun _ => 0))) (fun _ => rfl) (by decide) rfl (by decide) ⟨Nat.le_of_ble_eq_true rfl, Nat.le_of_ble_eq_true rfl⟩ dX7_init_35 (fun q4 H hI => ?_)
  refine i_put hC hI hni uX7 tyX7 tyX7_ok nmX7 rfl 3 (by decide) w1327 rfl rfl (ty := .array .int) (by decide +kernel) rfl rfl (Nat.le_of_ble_eq_true rfl) dX7_init_37 (fun H locs hI => ?_)
  replace hI : iI D s h 9 [.ref q1, .ref q2, .ref q3, .ref q4, .int 0, .null, .int 0, .null, .int 0, .int 0, .int 0, .null, .int 0, .int 0, .int 0, .int 0, .null] (((([] ++ [(q1, .inl (cid 0, 259, .inl (fun _ => 0)))]) ++ [(q2, .inl (cid 0, 259, .inl (fun _ => 0)))]) ++ [(q3, .inl (cid 0, 259, .inl (fun _ => 0)))]) ++ [(q4, .inl (cid 0, 2072, .inl (fun _ => 0)))]) H locs := hI
  refine lv_aload_n hx hb dX7_init_40 rfl (lv_at hl 0 rfl) ?_
  refine lv_sipush (v := 259) hx hb dX7_init_41 (by decide) ?_
  refine i_newa (atype := .int) (ty := .int) hC hI 0 w66 rfl (iid_int hC.2.2.2.2.2) (N' := 259) (a0 := (259, .inl (fun _ => 0))) (fun _ => rfl) (by decide) rfl (by decide) ⟨Nat.le_of_ble_eq_true rfl, Nat.le_of_ble_eq_true rfl⟩ dX7_init_44 (fun q5 H hI => ?_)
  refine i_put hC hI hni uX7 tyX7 tyX7_ok nmX7 rfl 5 (by decide) w1329 rfl rfl (ty := .array .int) (by decide +kernel) rfl rfl (Nat.le_of_ble_eq_true rfl) dX7_init_46 (fun H locs hI => ?_)
  replace hI : iI D s h 9 [.ref q1, .ref q2, .ref q3, .ref q4, .int 0, .ref q5, .int 0, .null, .int 0, .int 0, .int 0, .null, .int 0, .int 0, .int 0, .int 0, .null] ((((([] ++ [(q1, .inl (cid 0, 259, .inl (fun _ => 0)))]) ++ [(q2, .inl (cid 0, 259, .inl (fun _ => 0)))]) ++ [(q3, .inl (cid 0, 259, .inl (fun _ => 0)))]) ++ [(q4, .inl (cid 0, 2072, .inl (fun _ => 0)))]) ++ [(q5, .inl (cid 0, 259, .inl (fun _ => 0)))]) H locs := hI
  refine lv_aload_n hx hb dX7_init_49 rfl (lv_at hl 0 rfl) ?_
  refine lv_bipush (v := 60) hx hb dX7_init_50 (by decide) ?_
  refine i_newa (atype := .char) (ty := .char) hC hI 1 w173 rfl (iid_char hC.2.2.2.2.2) (N' := 60) (a0 := (60, .inl (fun _ => 0))) (fun _ => rfl) (by decide) rfl (by decide) ⟨Nat.le_of_ble_eq_true rfl, Nat.le_of_ble_eq_true rfl⟩ dX7_init_52 (fun q6 H hI => ?_)
  refine i_put hC hI hni uX7 tyX7 tyX7_ok nmX7 rfl 7 (by decide) w1331 rfl rfl (ty := .array .char) (by decide +kernel) rfl rfl (Nat.le_of_ble_eq_true rfl) dX7_init_54 (fun H locs hI => ?_)
  replace hI : iI D s h 9 [.ref q1, .ref q2, .ref q3, .ref q4, .int 0, .ref q5, .int 0, .ref q6, .int 0, .int 0, .int 0, .null, .int 0, .int 0, .int 0, .int 0, .null] (((((([] ++ [(q1, .inl (cid 0, 259, .inl (fun _ => 0)))]) ++ [(q2, .inl (cid 0, 259, .inl (fun _ => 0)))]) ++ [(q3, .inl (cid 0, 259, .inl (fun _ => 0)))]) ++ [(q4, .inl (cid 0, 2072, .inl (fun _ => 0)))]) ++ [(q5, .inl (cid 0, 259, .inl (fun _ => 0)))]) ++ [(q6, .inl (cid 1, 60, .inl (fun _ => 0)))]) H locs := hI
  refine lv_aload_n hx hb dX7_init_57 rfl (lv_at hl 0 rfl) ?_
  refine lv_iconst (v := (-1)) hx hb dX7_init_58 (by decide) ?_
  refine i_put hC hI hni uX7 tyX7 tyX7_ok nmX7 rfl 9 (by decide) w1333 rfl rfl (ty := .int) (by decide +kernel) rfl rfl (Nat.le_of_ble_eq_true rfl) dX7_init_59 (fun H locs hI => ?_)
  replace hI : iI D s h 9 [.ref q1, .ref q2, .ref q3, .ref q4, .int 0, .ref q5, .int 0, .ref q6, .int 0, .int (-1), .int 0, .null, .int 0, .int 0, .int 0, .int 0, .null] (((((([] ++ [(q1, .inl (cid 0, 259, .inl (fun _ => 0)))]) ++ [(q2, .inl (cid 0, 259, .inl (fun _ => 0)))]) ++ [(q3, .inl (cid 0, 259, .inl (fun _ => 0)))]) ++ [(q4, .inl (cid 0, 2072, .inl (fun _ => 0)))]) ++ [(q5, .inl (cid 0, 259, .inl (fun _ => 0)))]) ++ [(q6, .inl (cid 1, 60, .inl (fun _ => 0)))]) H locs := hI
  refine lv_aload_n hx hb dX7_init_62 rfl (lv_at hl 0 rfl) ?_
  refine lv_iconst (v := (-1)) hx hb dX7_init_63 (by decide) ?_
  refine i_put hC hI hni uX7 tyX7 tyX7_ok nmX7 rfl 10 (by decide) w1334 rfl rfl (ty := .int) (by decide +kernel) rfl rfl (Nat.le_of_ble_eq_true rfl) dX7_init_64 (fun H locs hI => ?_)
  replace hI : iI D s h 9 [.ref q1, .ref q2, .ref q3, .ref q4, .int 0, .ref q5, .int 0, .ref q6, .int 0, .int (-1), .int (-1), .null, .int 0, .int 0, .int 0, .int 0, .null] (((((([] ++ [(q1, .inl (cid 0, 259, .inl (fun _ => 0)))]) ++ [(q2, .inl (cid 0, 259, .inl (fun _ => 0)))]) ++ [(q3, .inl (cid 0, 259, .inl (fun _ => 0)))]) ++ [(q4, .inl (cid 0, 2072, .inl (fun _ => 0)))]) ++ [(q5, .inl (cid 0, 259, .inl (fun _ => 0)))]) ++ [(q6, .inl (cid 1, 60, .inl (fun _ => 0)))]) H locs := hI
  refine lv_aload_n hx hb dX7_init_67 rfl (lv_at hl 0 rfl) ?_
  refine lv_bipush (v := 100) hx hb dX7_init_68 (by decide) ?_
  refine i_newa (atype := .char) (ty := .char) hC hI 1 w173 rfl (iid_char hC.2.2.2.2.2) (N' := 100) (a0 := (100, .inl (fun _ => 0))) (fun _ => rfl) (by decide) rfl (by decide) ⟨Nat.le_of_ble_eq_true rfl, Nat.le_of_ble_eq_true rfl⟩ dX7_init_70 (fun q7 H hI => ?_)
  refine i_put hC hI hni uX7 tyX7 tyX7_ok nmX7 rfl 11 (by decide) w1335 rfl rfl (ty := .array .char) (by decide +kernel) rfl rfl (Nat.le_of_ble_eq_true rfl) dX7_init_72 (fun H locs hI => ?_)
  replace hI : iI D s h 9 [.ref q1, .ref q2, .ref q3, .ref q4, .int 0, .ref q5, .int 0, .ref q6, .int 0, .int (-1), .int (-1), .ref q7, .int 0, .int 0, .int 0, .int 0, .null] ((((((([] ++ [(q1, .inl (cid 0, 259, .inl (fun _ => 0)))]) ++ [(q2, .inl (cid 0, 259, .inl (fun _ => 0)))]) ++ [(q3, .inl (cid 0, 259, .inl (fun _ => 0)))]) ++ [(q4, .inl (cid 0, 2072, .inl (fun _ => 0)))]) ++ [(q5, .inl (cid 0, 259, .inl (fun _ => 0)))]) ++ [(q6, .inl (cid 1, 60, .inl (fun _ => 0)))]) ++ [(q7, .inl (cid 1, 100, .inl (fun _ => 0)))]) H locs := hI
  refine lv_aload_n hx hb dX7_init_75 rfl (lv_at hl 0 rfl) ?_
  refine lv_sipush (v := 300) hx hb dX7_init_76 (by decide) ?_
  refine i_newa (atype := .int) (ty := .int) hC hI 0 w66 rfl (iid_int hC.2.2.2.2.2) (N' := 300) (a0 := (300, .inl (fun _ => 0))) (fun _ => rfl) (by decide) rfl (by decide) ⟨Nat.le_of_ble_eq_true rfl, Nat.le_of_ble_eq_true rfl⟩ dX7_init_79 (fun q8 H hI => ?_)
  refine i_put hC hI hni uX7 tyX7 tyX7_ok nmX7 rfl 16 (by decide) w1340 rfl rfl (ty := .array .int) (by decide +kernel) rfl rfl (Nat.le_of_ble_eq_true rfl) dX7_init_81 (fun H locs hI => ?_)
  replace hI : iI D s h 9 [.ref q1, .ref q2, .ref q3, .ref q4, .int 0, .ref q5, .int 0, .ref q6, .int 0, .int (-1), .int (-1), .ref q7, .int 0, .int 0, .int 0, .int 0, .ref q8] (((((((([] ++ [(q1, .inl (cid 0, 259, .inl (fun _ => 0)))]) ++ [(q2, .inl (cid 0, 259, .inl (fun _ => 0)))]) ++ [(q3, .inl (cid 0, 259, .inl (fun _ => 0)))]) ++ [(q4, .inl (cid 0, 2072, .inl (fun _ => 0)))]) ++ [(q5, .inl (cid 0, 259, .inl (fun _ => 0)))]) ++ [(q6, .inl (cid 1, 60, .inl (fun _ => 0)))]) ++ [(q7, .inl (cid 1, 100, .inl (fun _ => 0)))]) ++ [(q8, .inl (cid 0, 300, .inl (fun _ => 0)))]) H locs := hI
  exact kv (fun k => ([h, q1, q2, q3, q4, q5, q6, q7, q8] : List Nat).getD k 0) _ _ _ _ _ _ _ _ rfl rfl hI ⟨Nat.le_of_ble_eq_true rfl, Nat.le_of_ble_eq_true rfl⟩ dX7_init_84
