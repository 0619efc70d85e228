/-! The straight constructors; laid by wip/p67/gen/ctor.py. -/
/-- the cells of one state (Z7) and of its cargo (Z0), all numbers zero -/
def Z0 (cid : Nat → ClassId) (a : Nat → Nat) : va_W := (List.range 7).map (fun k => (a k, gst (cid 0) (fun i => a (i - 1)) (fun _ => 0) 0 (k + 1)))
def Z7 (cid : Nat → ClassId) (a : Nat → Nat) : va_W := (List.range 12).map (fun k => (a k, gst (cid 0) a (fun _ => 0) 0 k))
def ZI (cid : Nat → ClassId) (a : Nat → Nat) : va_W := [(a 0, .inr (8, [.ref (a 1), .int 0, .int 0])), (a 1, .inl (cid 1, 60, .inl (fun _ => 0)))]
def ZL (cid : Nat → ClassId) (a : Nat → Nat) : va_W := [(a 0, .inr (9, [.ref (a 1), .int 0])), (a 1, .inl (cid 1, 100, .inl (fun _ => 0)))]
theorem dX0_init_0 : decode cX0_init 0 = .ok (.aload_n 0, 1) := by decide +kernel
theorem dX0_init_1 : decode cX0_init 1 = .ok (.invokespecial 3, 3) := by decide +kernel
theorem dX0_init_4 : decode cX0_init 4 = .ok (.aload_n 0, 1) := by decide +kernel
theorem dX0_init_5 : decode cX0_init 5 = .ok (.bipush 75, 2) := by decide +kernel
theorem dX0_init_7 : decode cX0_init 7 = .ok (.newarray .int, 2) := by decide +kernel
theorem dX0_init_9 : decode cX0_init 9 = .ok (.putfield 9, 3) := by decide +kernel
theorem dX0_init_12 : decode cX0_init 12 = .ok (.aload_n 0, 1) := by decide +kernel
theorem dX0_init_13 : decode cX0_init 13 = .ok (.bipush 75, 2) := by decide +kernel
theorem dX0_init_15 : decode cX0_init 15 = .ok (.newarray .int, 2) := by decide +kernel
theorem dX0_init_17 : decode cX0_init 17 = .ok (.putfield 15, 3) := by decide +kernel
theorem dX0_init_20 : decode cX0_init 20 = .ok (.aload_n 0, 1) := by decide +kernel
theorem dX0_init_21 : decode cX0_init 21 = .ok (.bipush 75, 2) := by decide +kernel
theorem dX0_init_23 : decode cX0_init 23 = .ok (.newarray .int, 2) := by decide +kernel
theorem dX0_init_25 : decode cX0_init 25 = .ok (.putfield 18, 3) := by decide +kernel
theorem dX0_init_28 : decode cX0_init 28 = .ok (.aload_n 0, 1) := by decide +kernel
theorem dX0_init_29 : decode cX0_init 29 = .ok (.bipush 75, 2) := by decide +kernel
theorem dX0_init_31 : decode cX0_init 31 = .ok (.newarray .int, 2) := by decide +kernel
theorem dX0_init_33 : decode cX0_init 33 = .ok (.putfield 21, 3) := by decide +kernel
theorem dX0_init_36 : decode cX0_init 36 = .ok (.aload_n 0, 1) := by decide +kernel
theorem dX0_init_37 : decode cX0_init 37 = .ok (.bipush 75, 2) := by decide +kernel
theorem dX0_init_39 : decode cX0_init 39 = .ok (.newarray .int, 2) := by decide +kernel
theorem dX0_init_41 : decode cX0_init 41 = .ok (.putfield 24, 3) := by decide +kernel
theorem dX0_init_44 : decode cX0_init 44 = .ok (.aload_n 0, 1) := by decide +kernel
theorem dX0_init_45 : decode cX0_init 45 = .ok (.iconst 5, 1) := by decide +kernel
theorem dX0_init_46 : decode cX0_init 46 = .ok (.newarray .int, 2) := by decide +kernel
theorem dX0_init_48 : decode cX0_init 48 = .ok (.putfield 27, 3) := by decide +kernel
theorem dX0_init_51 : decode cX0_init 51 = .ok (.aload_n 0, 1) := by decide +kernel
theorem dX0_init_52 : decode cX0_init 52 = .ok (.iconst 0, 1) := by decide +kernel
theorem dX0_init_53 : decode cX0_init 53 = .ok (.putfield 30, 3) := by decide +kernel
theorem dX0_init_56 : decode cX0_init 56 = .ok (.return_, 1) := by decide +kernel
set_option maxRecDepth 100000 in
set_option maxHeartbeats 4000000 in
theorem I_X0 (l : Launch) (D : va_G) (cid : Nat → ClassId) : iM l D cid yX0_init (.code yX0_init cX0_init 1 none) (gRX 1 12 6 380) 6 [.null, .null, .null, .null, .null, .null, .int 0] 6 380 (α := Nat → Nat) (fun h a => a 0 = h) (Z0 cid) := by
  refine iMet (by decide +kernel) rfl (Nat.le_of_ble_eq_true rfl) ?_
  intro p e s m args below meth c H locs ls Q h hC hni hl hI kv
  replace hC : iC p s m args c cX0_init 1 RX0 D cid := hC
  have hx := hC.1
  have hb := hC.2.1
  refine i_obj hC hl w53 w40 w41 ⟨Nat.le_of_ble_eq_true rfl, Nat.le_of_ble_eq_true rfl⟩ dX0_init_0 dX0_init_1 ?_
  refine lv_aload_n hx hb dX0_init_4 rfl (lv_at hl 0 rfl) ?_
  refine lv_bipush (v := 75) hx hb dX0_init_5 (by decide) ?_
  refine i_newa (atype := .int) (ty := .int) hC hI 0 w76 rfl (iid_int hC.2.2.2.2.2) (N' := 75) (a0 := (75, .inl (fun _ => 0))) (fun _ => rfl) (by decide) rfl (by decide) ⟨Nat.le_of_ble_eq_true rfl, Nat.le_of_ble_eq_true rfl⟩ dX0_init_7 (fun q1 H hI => ?_)
  refine i_put hC hI hni uX0 tyX0 tyX0_ok nmX0 rfl 0 (by decide) w54 rfl rfl (ty := .array .int) (by decide +kernel) rfl rfl (Nat.le_of_ble_eq_true rfl) dX0_init_9 (fun H locs hI => ?_)
  replace hI : iI D s h 6 [.ref q1, .null, .null, .null, .null, .null, .int 0] ([] ++ [(q1, .inl (cid 0, 75, .inl (fun _ => 0)))]) H locs := hI
  refine lv_aload_n hx hb dX0_init_12 rfl (lv_at hl 0 rfl) ?_
  refine lv_bipush (v := 75) hx hb dX0_init_13 (by decide) ?_
  refine i_newa (atype := .int) (ty := .int) hC hI 0 w76 rfl (iid_int hC.2.2.2.2.2) (N' := 75) (a0 := (75, .inl (fun _ => 0))) (fun _ => rfl) (by decide) rfl (by decide) ⟨Nat.le_of_ble_eq_true rfl, Nat.le_of_ble_eq_true rfl⟩ dX0_init_15 (fun q2 H hI => ?_)
  refine i_put hC hI hni uX0 tyX0 tyX0_ok nmX0 rfl 1 (by decide) w55 rfl rfl (ty := .array .int) (by decide +kernel) rfl rfl (Nat.le_of_ble_eq_true rfl) dX0_init_17 (fun H locs hI => ?_)
  replace hI : iI D s h 6 [.ref q1, .ref q2, .null, .null, .null, .null, .int 0] (([] ++ [(q1, .inl (cid 0, 75, .inl (fun _ => 0)))]) ++ [(q2, .inl (cid 0, 75, .inl (fun _ => 0)))]) H locs := hI
  refine lv_aload_n hx hb dX0_init_20 rfl (lv_at hl 0 rfl) ?_
  refine lv_bipush (v := 75) hx hb dX0_init_21 (by decide) ?_
  refine i_newa (atype := .int) (ty := .int) hC hI 0 w76 rfl (iid_int hC.2.2.2.2.2) (N' := 75) (a0 := (75, .inl (fun _ => 0))) (fun _ => rfl) (by decide) rfl (by decide) ⟨Nat.le_of_ble_eq_true rfl, Nat.le_of_ble_eq_true rfl⟩ dX0_init_23 (fun q3 H hI => ?_)
  refine i_put hC hI hni uX0 tyX0 tyX0_ok nmX0 rfl 2 (by decide) w56 rfl rfl (ty := .array .int) (by decide +kernel) rfl rfl (Nat.le_of_ble_eq_true rfl) dX0_init_25 (fun H locs hI => ?_)
  replace hI : iI D s h 6 [.ref q1, .ref q2, .ref q3, .null, .null, .null, .int 0] ((([] ++ [(q1, .inl (cid 0, 75, .inl (fun _ => 0)))]) ++ [(q2, .inl (cid 0, 75, .inl (fun _ => 0)))]) ++ [(q3, .inl (cid 0, 75, .inl (fun _ => 0)))]) H locs := hI
  refine lv_aload_n hx hb dX0_init_28 rfl (lv_at hl 0 rfl) ?_
  refine lv_bipush (v := 75) hx hb dX0_init_29 (by decide) ?_
  refine i_newa (atype := .int) (ty := .int) hC hI 0 w76 rfl (iid_int hC.2.2.2.2.2) (N' := 75) (a0 := (75, .inl (fun _ => 0))) (fun _ => rfl) (by decide) rfl (by decide) ⟨Nat.le_of_ble_eq_true rfl, Nat.le_of_ble_eq_true rfl⟩ dX0_init_31 (fun q4 H hI => ?_)
  refine i_put hC hI hni uX0 tyX0 tyX0_ok nmX0 rfl 3 (by decide) w57 rfl rfl (ty := .array .int) (by decide +kernel) rfl rfl (Nat.le_of_ble_eq_true rfl) dX0_init_33 (fun H locs hI => ?_)
  replace hI : iI D s h 6 [.ref q1, .ref q2, .ref q3, .ref q4, .null, .null, .int 0] (((([] ++ [(q1, .inl (cid 0, 75, .inl (fun _ => 0)))]) ++ [(q2, .inl (cid 0, 75, .inl (fun _ => 0)))]) ++ [(q3, .inl (cid 0, 75, .inl (fun _ => 0)))]) ++ [(q4, .inl (cid 0, 75, .inl (fun _ => 0)))]) H locs := hI
  refine lv_aload_n hx hb dX0_init_36 rfl (lv_at hl 0 rfl) ?_
  refine lv_bipush (v := 75) hx hb dX0_init_37 (by decide) ?_
  refine i_newa (atype := .int) (ty := .int) hC hI 0 w76 rfl (iid_int hC.2.2.2.2.2) (N' := 75) (a0 := (75, .inl (fun _ => 0))) (fun _ => rfl) (by decide) rfl (by decide) ⟨Nat.le_of_ble_eq_true rfl, Nat.le_of_ble_eq_true rfl⟩ dX0_init_39 (fun q5 H hI => ?_)
  refine i_put hC hI hni uX0 tyX0 tyX0_ok nmX0 rfl 4 (by decide) w58 rfl rfl (ty := .array .int) (by decide +kernel) rfl rfl (Nat.le_of_ble_eq_true rfl) dX0_init_41 (fun H locs hI => ?_)
  replace hI : iI D s h 6 [.ref q1, .ref q2, .ref q3, .ref q4, .ref q5, .null, .int 0] ((((([] ++ [(q1, .inl (cid 0, 75, .inl (fun _ => 0)))]) ++ [(q2, .inl (cid 0, 75, .inl (fun _ => 0)))]) ++ [(q3, .inl (cid 0, 75, .inl (fun _ => 0)))]) ++ [(q4, .inl (cid 0, 75, .inl (fun _ => 0)))]) ++ [(q5, .inl (cid 0, 75, .inl (fun _ => 0)))]) H locs := hI
  refine lv_aload_n hx hb dX0_init_44 rfl (lv_at hl 0 rfl) ?_
  refine lv_iconst (v := 5) hx hb dX0_init_45 (by decide) ?_
  refine i_newa (atype := .int) (ty := .int) hC hI 0 w76 rfl (iid_int hC.2.2.2.2.2) (N' := 5) (a0 := (5, .inl (fun _ => 0))) (fun _ => rfl) (by decide) rfl (by decide) ⟨Nat.le_of_ble_eq_true rfl, Nat.le_of_ble_eq_true rfl⟩ dX0_init_46 (fun q6 H hI => ?_)
  refine i_put hC hI hni uX0 tyX0 tyX0_ok nmX0 rfl 5 (by decide) w59 rfl rfl (ty := .array .int) (by decide +kernel) rfl rfl (Nat.le_of_ble_eq_true rfl) dX0_init_48 (fun H locs hI => ?_)
  replace hI : iI D s h 6 [.ref q1, .ref q2, .ref q3, .ref q4, .ref q5, .ref q6, .int 0] (((((([] ++ [(q1, .inl (cid 0, 75, .inl (fun _ => 0)))]) ++ [(q2, .inl (cid 0, 75, .inl (fun _ => 0)))]) ++ [(q3, .inl (cid 0, 75, .inl (fun _ => 0)))]) ++ [(q4, .inl (cid 0, 75, .inl (fun _ => 0)))]) ++ [(q5, .inl (cid 0, 75, .inl (fun _ => 0)))]) ++ [(q6, .inl (cid 0, 5, .inl (fun _ => 0)))]) H locs := hI
  refine lv_aload_n hx hb dX0_init_51 rfl (lv_at hl 0 rfl) ?_
  refine lv_iconst (v := 0) hx hb dX0_init_52 (by decide) ?_
  refine i_put hC hI hni uX0 tyX0 tyX0_ok nmX0 rfl 6 (by decide) w60 rfl rfl (ty := .int) (by decide +kernel) rfl rfl (Nat.le_of_ble_eq_true rfl) dX0_init_53 (fun H locs hI => ?_)
  replace hI : iI D s h 6 [.ref q1, .ref q2, .ref q3, .ref q4, .ref q5, .ref q6, .int 0] (((((([] ++ [(q1, .inl (cid 0, 75, .inl (fun _ => 0)))]) ++ [(q2, .inl (cid 0, 75, .inl (fun _ => 0)))]) ++ [(q3, .inl (cid 0, 75, .inl (fun _ => 0)))]) ++ [(q4, .inl (cid 0, 75, .inl (fun _ => 0)))]) ++ [(q5, .inl (cid 0, 75, .inl (fun _ => 0)))]) ++ [(q6, .inl (cid 0, 5, .inl (fun _ => 0)))]) H locs := hI
  exact kv (fun k => ([h, q1, q2, q3, q4, q5, q6] : List Nat).getD k 0) _ _ _ _ _ _ _ _ rfl rfl hI ⟨Nat.le_of_ble_eq_true rfl, Nat.le_of_ble_eq_true rfl⟩ dX0_init_56
theorem dX5_init_0 : decode cX5_init 0 = .ok (.aload_n 0, 1) := by decide +kernel
theorem dX5_init_1 : decode cX5_init 1 = .ok (.invokespecial 3, 3) := by decide +kernel
theorem dX5_init_4 : decode cX5_init 4 = .ok (.aload_n 0, 1) := by decide +kernel
theorem dX5_init_5 : decode cX5_init 5 = .ok (.new 9, 3) := by decide +kernel
theorem dX5_init_8 : decode cX5_init 8 = .ok (.dup, 1) := by decide +kernel
theorem dX5_init_9 : decode cX5_init 9 = .ok (.invokespecial 11, 3) := by decide +kernel
theorem dX5_init_12 : decode cX5_init 12 = .ok (.putfield 12, 3) := by decide +kernel
theorem dX5_init_15 : decode cX5_init 15 = .ok (.aload_n 0, 1) := by decide +kernel
theorem dX5_init_16 : decode cX5_init 16 = .ok (.iconst 3, 1) := by decide +kernel
theorem dX5_init_17 : decode cX5_init 17 = .ok (.newarray .int, 2) := by decide +kernel
theorem dX5_init_19 : decode cX5_init 19 = .ok (.putfield 18, 3) := by decide +kernel
theorem dX5_init_22 : decode cX5_init 22 = .ok (.aload_n 0, 1) := by decide +kernel
theorem dX5_init_23 : decode cX5_init 23 = .ok (.iconst 3, 1) := by decide +kernel
theorem dX5_init_24 : decode cX5_init 24 = .ok (.newarray .int, 2) := by decide +kernel
theorem dX5_init_26 : decode cX5_init 26 = .ok (.putfield 22, 3) := by decide +kernel
theorem dX5_init_29 : decode cX5_init 29 = .ok (.aload_n 0, 1) := by decide +kernel
theorem dX5_init_30 : decode cX5_init 30 = .ok (.iconst 3, 1) := by decide +kernel
theorem dX5_init_31 : decode cX5_init 31 = .ok (.newarray .int, 2) := by decide +kernel
theorem dX5_init_33 : decode cX5_init 33 = .ok (.putfield 25, 3) := by decide +kernel
theorem dX5_init_36 : decode cX5_init 36 = .ok (.aload_n 0, 1) := by decide +kernel
theorem dX5_init_37 : decode cX5_init 37 = .ok (.iconst 3, 1) := by decide +kernel
theorem dX5_init_38 : decode cX5_init 38 = .ok (.newarray .int, 2) := by decide +kernel
theorem dX5_init_40 : decode cX5_init 40 = .ok (.putfield 28, 3) := by decide +kernel
theorem dX5_init_43 : decode cX5_init 43 = .ok (.aload_n 0, 1) := by decide +kernel
theorem dX5_init_44 : decode cX5_init 44 = .ok (.iconst 0, 1) := by decide +kernel
theorem dX5_init_45 : decode cX5_init 45 = .ok (.putfield 31, 3) := by decide +kernel
theorem dX5_init_48 : decode cX5_init 48 = .ok (.aload_n 0, 1) := by decide +kernel
theorem dX5_init_49 : decode cX5_init 49 = .ok (.iconst 0, 1) := by decide +kernel
theorem dX5_init_50 : decode cX5_init 50 = .ok (.putfield 35, 3) := by decide +kernel
theorem dX5_init_53 : decode cX5_init 53 = .ok (.aload_n 0, 1) := by decide +kernel
theorem dX5_init_54 : decode cX5_init 54 = .ok (.iconst 0, 1) := by decide +kernel
theorem dX5_init_55 : decode cX5_init 55 = .ok (.putfield 38, 3) := by decide +kernel
theorem dX5_init_58 : decode cX5_init 58 = .ok (.aload_n 0, 1) := by decide +kernel
theorem dX5_init_59 : decode cX5_init 59 = .ok (.iconst 0, 1) := by decide +kernel
theorem dX5_init_60 : decode cX5_init 60 = .ok (.putfield 41, 3) := by decide +kernel
theorem dX5_init_63 : decode cX5_init 63 = .ok (.aload_n 0, 1) := by decide +kernel
theorem dX5_init_64 : decode cX5_init 64 = .ok (.iconst 0, 1) := by decide +kernel
theorem dX5_init_65 : decode cX5_init 65 = .ok (.putfield 44, 3) := by decide +kernel
theorem dX5_init_68 : decode cX5_init 68 = .ok (.aload_n 0, 1) := by decide +kernel
theorem dX5_init_69 : decode cX5_init 69 = .ok (.iconst 0, 1) := by decide +kernel
theorem dX5_init_70 : decode cX5_init 70 = .ok (.putfield 47, 3) := by decide +kernel
theorem dX5_init_73 : decode cX5_init 73 = .ok (.return_, 1) := by decide +kernel
set_option maxRecDepth 100000 in
set_option maxHeartbeats 4000000 in
theorem I_X5 (l : Launch) (D : va_G) (cid : Nat → ClassId) : iM l D cid yX5_init (.code yX5_init cX5_init 1 none) (gRX 2 32 11 399) 11 [.null, .null, .null, .null, .null, .int 0, .int 0, .int 0, .int 0, .int 0, .int 0] 11 399 (α := Nat → Nat) (fun h a => a 0 = h) (Z7 cid) := by
  refine iMet (by decide +kernel) rfl (Nat.le_of_ble_eq_true rfl) ?_
  intro p e s m args below meth c H locs ls Q h hC hni hl hI kv
  replace hC : iC p s m args c cX5_init 1 RX5 D cid := hC
  have hx := hC.1
  have hb := hC.2.1
  refine i_obj hC hl w47 w40 w41 ⟨Nat.le_of_ble_eq_true rfl, Nat.le_of_ble_eq_true rfl⟩ dX5_init_0 dX5_init_1 ?_
  refine lv_aload_n hx hb dX5_init_4 rfl (lv_at hl 0 rfl) ?_
  refine i_new hC hI (I_X0 l D cid) rfl uX0 tyX0 tyX0_ok w48 w49 w3 (fun j hj => by revert j; decide) ⟨w52, w3, ⟨by decide, by decide⟩, by decide +kernel⟩ w51 rfl (Or.inl (by decide +kernel)) ⟨rfl, rfl⟩ ⟨Nat.le_of_ble_eq_true rfl, Nat.le_of_ble_eq_true rfl⟩ hl.1 (Nat.le_of_ble_eq_true rfl) ⟨Nat.le_of_ble_eq_true rfl, Nat.le_of_ble_eq_true rfl⟩ dX5_init_5 dX5_init_8 dX5_init_9 (fun q1 u1 H locs hp1 hI => ?_)
  replace hp1 : (u1 0) = q1 := hp1
  subst hp1
  refine i_put hC hI hni uX5 tyX5 tyX5_ok nmX5 rfl 0 (by decide) w77 rfl rfl (ty := .object "ContainerTerminal$Cargo") (by decide +kernel) rfl rfl (Nat.le_of_ble_eq_true rfl) dX5_init_12 (fun H locs hI => ?_)
  replace hI : iI D s h 11 [.ref (u1 0), .null, .null, .null, .null, .int 0, .int 0, .int 0, .int 0, .int 0, .int 0] ([] ++ Z0 cid u1) H locs := hI
  refine lv_aload_n hx hb dX5_init_15 rfl (lv_at hl 0 rfl) ?_
  refine lv_iconst (v := 3) hx hb dX5_init_16 (by decide) ?_
  refine i_newa (atype := .int) (ty := .int) hC hI 0 w76 rfl (iid_int hC.2.2.2.2.2) (N' := 3) (a0 := (3, .inl (fun _ => 0))) (fun _ => rfl) (by decide) rfl (by decide) ⟨Nat.le_of_ble_eq_true rfl, Nat.le_of_ble_eq_true rfl⟩ dX5_init_17 (fun q2 H hI => ?_)
  refine i_put hC hI hni uX5 tyX5 tyX5_ok nmX5 rfl 1 (by decide) w80 rfl rfl (ty := .array .int) (by decide +kernel) rfl rfl (Nat.le_of_ble_eq_true rfl) dX5_init_19 (fun H locs hI => ?_)
  replace hI : iI D s h 11 [.ref (u1 0), .ref q2, .null, .null, .null, .int 0, .int 0, .int 0, .int 0, .int 0, .int 0] (([] ++ Z0 cid u1) ++ [(q2, .inl (cid 0, 3, .inl (fun _ => 0)))]) H locs := hI
  refine lv_aload_n hx hb dX5_init_22 rfl (lv_at hl 0 rfl) ?_
  refine lv_iconst (v := 3) hx hb dX5_init_23 (by decide) ?_
  refine i_newa (atype := .int) (ty := .int) hC hI 0 w76 rfl (iid_int hC.2.2.2.2.2) (N' := 3) (a0 := (3, .inl (fun _ => 0))) (fun _ => rfl) (by decide) rfl (by decide) ⟨Nat.le_of_ble_eq_true rfl, Nat.le_of_ble_eq_true rfl⟩ dX5_init_24 (fun q3 H hI => ?_)
  refine i_put hC hI hni uX5 tyX5 tyX5_ok nmX5 rfl 2 (by decide) w83 rfl rfl (ty := .array .int) (by decide +kernel) rfl rfl (Nat.le_of_ble_eq_true rfl) dX5_init_26 (fun H locs hI => ?_)
  replace hI : iI D s h 11 [.ref (u1 0), .ref q2, .ref q3, .null, .null, .int 0, .int 0, .int 0, .int 0, .int 0, .int 0] ((([] ++ Z0 cid u1) ++ [(q2, .inl (cid 0, 3, .inl (fun _ => 0)))]) ++ [(q3, .inl (cid 0, 3, .inl (fun _ => 0)))]) H locs := hI
  refine lv_aload_n hx hb dX5_init_29 rfl (lv_at hl 0 rfl) ?_
  refine lv_iconst (v := 3) hx hb dX5_init_30 (by decide) ?_
  refine i_newa (atype := .int) (ty := .int) hC hI 0 w76 rfl (iid_int hC.2.2.2.2.2) (N' := 3) (a0 := (3, .inl (fun _ => 0))) (fun _ => rfl) (by decide) rfl (by decide) ⟨Nat.le_of_ble_eq_true rfl, Nat.le_of_ble_eq_true rfl⟩ dX5_init_31 (fun q4 H hI => ?_)
  refine i_put hC hI hni uX5 tyX5 tyX5_ok nmX5 rfl 3 (by decide) w86 rfl rfl (ty := .array .int) (by decide +kernel) rfl rfl (Nat.le_of_ble_eq_true rfl) dX5_init_33 (fun H locs hI => ?_)
  replace hI : iI D s h 11 [.ref (u1 0), .ref q2, .ref q3, .ref q4, .null, .int 0, .int 0, .int 0, .int 0, .int 0, .int 0] (((([] ++ Z0 cid u1) ++ [(q2, .inl (cid 0, 3, .inl (fun _ => 0)))]) ++ [(q3, .inl (cid 0, 3, .inl (fun _ => 0)))]) ++ [(q4, .inl (cid 0, 3, .inl (fun _ => 0)))]) H locs := hI
  refine lv_aload_n hx hb dX5_init_36 rfl (lv_at hl 0 rfl) ?_
  refine lv_iconst (v := 3) hx hb dX5_init_37 (by decide) ?_
  refine i_newa (atype := .int) (ty := .int) hC hI 0 w76 rfl (iid_int hC.2.2.2.2.2) (N' := 3) (a0 := (3, .inl (fun _ => 0))) (fun _ => rfl) (by decide) rfl (by decide) ⟨Nat.le_of_ble_eq_true rfl, Nat.le_of_ble_eq_true rfl⟩ dX5_init_38 (fun q5 H hI => ?_)
  refine i_put hC hI hni uX5 tyX5 tyX5_ok nmX5 rfl 4 (by decide) w89 rfl rfl (ty := .array .int) (by decide +kernel) rfl rfl (Nat.le_of_ble_eq_true rfl) dX5_init_40 (fun H locs hI => ?_)
  replace hI : iI D s h 11 [.ref (u1 0), .ref q2, .ref q3, .ref q4, .ref q5, .int 0, .int 0, .int 0, .int 0, .int 0, .int 0] ((((([] ++ Z0 cid u1) ++ [(q2, .inl (cid 0, 3, .inl (fun _ => 0)))]) ++ [(q3, .inl (cid 0, 3, .inl (fun _ => 0)))]) ++ [(q4, .inl (cid 0, 3, .inl (fun _ => 0)))]) ++ [(q5, .inl (cid 0, 3, .inl (fun _ => 0)))]) H locs := hI
  refine lv_aload_n hx hb dX5_init_43 rfl (lv_at hl 0 rfl) ?_
  refine lv_iconst (v := 0) hx hb dX5_init_44 (by decide) ?_
  refine i_put hC hI hni uX5 tyX5 tyX5_ok nmX5 rfl 5 (by decide) w92 rfl rfl (ty := .int) (by decide +kernel) rfl rfl (Nat.le_of_ble_eq_true rfl) dX5_init_45 (fun H locs hI => ?_)
  replace hI : iI D s h 11 [.ref (u1 0), .ref q2, .ref q3, .ref q4, .ref q5, .int 0, .int 0, .int 0, .int 0, .int 0, .int 0] ((((([] ++ Z0 cid u1) ++ [(q2, .inl (cid 0, 3, .inl (fun _ => 0)))]) ++ [(q3, .inl (cid 0, 3, .inl (fun _ => 0)))]) ++ [(q4, .inl (cid 0, 3, .inl (fun _ => 0)))]) ++ [(q5, .inl (cid 0, 3, .inl (fun _ => 0)))]) H locs := hI
  refine lv_aload_n hx hb dX5_init_48 rfl (lv_at hl 0 rfl) ?_
  refine lv_iconst (v := 0) hx hb dX5_init_49 (by decide) ?_
  refine i_put hC hI hni uX5 tyX5 tyX5_ok nmX5 rfl 6 (by decide) w94 rfl rfl (ty := .int) (by decide +kernel) rfl rfl (Nat.le_of_ble_eq_true rfl) dX5_init_50 (fun H locs hI => ?_)
  replace hI : iI D s h 11 [.ref (u1 0), .ref q2, .ref q3, .ref q4, .ref q5, .int 0, .int 0, .int 0, .int 0, .int 0, .int 0] ((((([] ++ Z0 cid u1) ++ [(q2, .inl (cid 0, 3, .inl (fun _ => 0)))]) ++ [(q3, .inl (cid 0, 3, .inl (fun _ => 0)))]) ++ [(q4, .inl (cid 0, 3, .inl (fun _ => 0)))]) ++ [(q5, .inl (cid 0, 3, .inl (fun _ => 0)))]) H locs := hI
  refine lv_aload_n hx hb dX5_init_53 rfl (lv_at hl 0 rfl) ?_
  refine lv_iconst (v := 0) hx hb dX5_init_54 (by decide) ?_
  refine i_put hC hI hni uX5 tyX5 tyX5_ok nmX5 rfl 7 (by decide) w96 rfl rfl (ty := .int) (by decide +kernel) rfl rfl (Nat.le_of_ble_eq_true rfl) dX5_init_55 (fun H locs hI => ?_)
  replace hI : iI D s h 11 [.ref (u1 0), .ref q2, .ref q3, .ref q4, .ref q5, .int 0, .int 0, .int 0, .int 0, .int 0, .int 0] ((((([] ++ Z0 cid u1) ++ [(q2, .inl (cid 0, 3, .inl (fun _ => 0)))]) ++ [(q3, .inl (cid 0, 3, .inl (fun _ => 0)))]) ++ [(q4, .inl (cid 0, 3, .inl (fun _ => 0)))]) ++ [(q5, .inl (cid 0, 3, .inl (fun _ => 0)))]) H locs := hI
  refine lv_aload_n hx hb dX5_init_58 rfl (lv_at hl 0 rfl) ?_
  refine lv_iconst (v := 0) hx hb dX5_init_59 (by decide) ?_
  refine i_put hC hI hni uX5 tyX5 tyX5_ok nmX5 rfl 8 (by decide) w98 rfl rfl (ty := .int) (by decide +kernel) rfl rfl (Nat.le_of_ble_eq_true rfl) dX5_init_60 (fun H locs hI => ?_)
  replace hI : iI D s h 11 [.ref (u1 0), .ref q2, .ref q3, .ref q4, .ref q5, .int 0, .int 0, .int 0, .int 0, .int 0, .int 0] ((((([] ++ Z0 cid u1) ++ [(q2, .inl (cid 0, 3, .inl (fun _ => 0)))]) ++ [(q3, .inl (cid 0, 3, .inl (fun _ => 0)))]) ++ [(q4, .inl (cid 0, 3, .inl (fun _ => 0)))]) ++ [(q5, .inl (cid 0, 3, .inl (fun _ => 0)))]) H locs := hI
  refine lv_aload_n hx hb dX5_init_63 rfl (lv_at hl 0 rfl) ?_
  refine lv_iconst (v := 0) hx hb dX5_init_64 (by decide) ?_
  refine i_put hC hI hni uX5 tyX5 tyX5_ok nmX5 rfl 9 (by decide) w100 rfl rfl (ty := .int) (by decide +kernel) rfl rfl (Nat.le_of_ble_eq_true rfl) dX5_init_65 (fun H locs hI => ?_)
  replace hI : iI D s h 11 [.ref (u1 0), .ref q2, .ref q3, .ref q4, .ref q5, .int 0, .int 0, .int 0, .int 0, .int 0, .int 0] ((((([] ++ Z0 cid u1) ++ [(q2, .inl (cid 0, 3, .inl (fun _ => 0)))]) ++ [(q3, .inl (cid 0, 3, .inl (fun _ => 0)))]) ++ [(q4, .inl (cid 0, 3, .inl (fun _ => 0)))]) ++ [(q5, .inl (cid 0, 3, .inl (fun _ => 0)))]) H locs := hI
  refine lv_aload_n hx hb dX5_init_68 rfl (lv_at hl 0 rfl) ?_
  refine lv_iconst (v := 0) hx hb dX5_init_69 (by decide) ?_
  refine i_put hC hI hni uX5 tyX5 tyX5_ok nmX5 rfl 10 (by decide) w102 rfl rfl (ty := .int) (by decide +kernel) rfl rfl (Nat.le_of_ble_eq_true rfl) dX5_init_70 (fun H locs hI => ?_)
  replace hI : iI D s h 11 [.ref (u1 0), .ref q2, .ref q3, .ref q4, .ref q5, .int 0, .int 0, .int 0, .int 0, .int 0, .int 0] ((((([] ++ Z0 cid u1) ++ [(q2, .inl (cid 0, 3, .inl (fun _ => 0)))]) ++ [(q3, .inl (cid 0, 3, .inl (fun _ => 0)))]) ++ [(q4, .inl (cid 0, 3, .inl (fun _ => 0)))]) ++ [(q5, .inl (cid 0, 3, .inl (fun _ => 0)))]) H locs := hI
  exact kv (fun k => ([h, u1 0, u1 1, u1 2, u1 3, u1 4, u1 5, u1 6, q2, q3, q4, q5] : List Nat).getD k 0) _ _ _ _ _ _ _ _ rfl rfl hI ⟨Nat.le_of_ble_eq_true rfl, Nat.le_of_ble_eq_true rfl⟩ dX5_init_73
def ZP (cid : Nat → ClassId) (a : Nat → Nat) : va_W := [(a 0, .inr (10, [.ref (a 1), .ref (a 2), .int 0])), (a 1, .inl (cid 0, 8, .inl (fun _ => 0))), (a 2, .inl (cid 0, 32, .inl (fun _ => 0)))]
theorem dX4_init_0 : decode cX4_init 0 = .ok (.aload_n 0, 1) := by decide +kernel
theorem dX4_init_1 : decode cX4_init 1 = .ok (.invokespecial 3, 3) := by decide +kernel
theorem dX4_init_4 : decode cX4_init 4 = .ok (.aload_n 0, 1) := by decide +kernel
theorem dX4_init_5 : decode cX4_init 5 = .ok (.bipush 8, 2) := by decide +kernel
theorem dX4_init_7 : decode cX4_init 7 = .ok (.newarray .int, 2) := by decide +kernel
theorem dX4_init_9 : decode cX4_init 9 = .ok (.putfield 9, 3) := by decide +kernel
theorem dX4_init_12 : decode cX4_init 12 = .ok (.aload_n 0, 1) := by decide +kernel
theorem dX4_init_13 : decode cX4_init 13 = .ok (.bipush 32, 2) := by decide +kernel
theorem dX4_init_15 : decode cX4_init 15 = .ok (.newarray .int, 2) := by decide +kernel
theorem dX4_init_17 : decode cX4_init 17 = .ok (.putfield 15, 3) := by decide +kernel
theorem dX4_init_20 : decode cX4_init 20 = .ok (.aload_n 0, 1) := by decide +kernel
theorem dX4_init_21 : decode cX4_init 21 = .ok (.iconst 0, 1) := by decide +kernel
theorem dX4_init_22 : decode cX4_init 22 = .ok (.putfield 18, 3) := by decide +kernel
theorem dX4_init_25 : decode cX4_init 25 = .ok (.return_, 1) := by decide +kernel
set_option maxRecDepth 100000 in
set_option maxHeartbeats 4000000 in
theorem I_X4 (l : Launch) (D : va_G) (cid : Nat → ClassId) : iM l D cid yX4_init (.code yX4_init cX4_init 1 none) (gRX 1 12 2 40) 10 [.null, .null, .int 0] 2 40 (α := Nat → Nat) (fun h a => a 0 = h) (ZP cid) := by
  refine iMet (by decide +kernel) rfl (Nat.le_of_ble_eq_true rfl) ?_
  intro p e s m args below meth c H locs ls Q h hC hni hl hI kv
  replace hC : iC p s m args c cX4_init 1 RX4 D cid := hC
  have hx := hC.1
  have hb := hC.2.1
  refine i_obj hC hl w152 w40 w41 ⟨Nat.le_of_ble_eq_true rfl, Nat.le_of_ble_eq_true rfl⟩ dX4_init_0 dX4_init_1 ?_
  refine lv_aload_n hx hb dX4_init_4 rfl (lv_at hl 0 rfl) ?_
  refine lv_bipush (v := 8) hx hb dX4_init_5 (by decide) ?_
  refine i_newa (atype := .int) (ty := .int) hC hI 0 w76 rfl (iid_int hC.2.2.2.2.2) (N' := 8) (a0 := (8, .inl (fun _ => 0))) (fun _ => rfl) (by decide) rfl (by decide) ⟨Nat.le_of_ble_eq_true rfl, Nat.le_of_ble_eq_true rfl⟩ dX4_init_7 (fun q1 H hI => ?_)
  refine i_put hC hI hni uX4 tyX4 tyX4_ok nmX4 rfl 0 (by decide) w153 rfl rfl (ty := .array .int) (by decide +kernel) rfl rfl (Nat.le_of_ble_eq_true rfl) dX4_init_9 (fun H locs hI => ?_)
  replace hI : iI D s h 10 [.ref q1, .null, .int 0] ([] ++ [(q1, .inl (cid 0, 8, .inl (fun _ => 0)))]) H locs := hI
  refine lv_aload_n hx hb dX4_init_12 rfl (lv_at hl 0 rfl) ?_
  refine lv_bipush (v := 32) hx hb dX4_init_13 (by decide) ?_
  refine i_newa (atype := .int) (ty := .int) hC hI 0 w76 rfl (iid_int hC.2.2.2.2.2) (N' := 32) (a0 := (32, .inl (fun _ => 0))) (fun _ => rfl) (by decide) rfl (by decide) ⟨Nat.le_of_ble_eq_true rfl, Nat.le_of_ble_eq_true rfl⟩ dX4_init_15 (fun q2 H hI => ?_)
  refine i_put hC hI hni uX4 tyX4 tyX4_ok nmX4 rfl 1 (by decide) w154 rfl rfl (ty := .array .int) (by decide +kernel) rfl rfl (Nat.le_of_ble_eq_true rfl) dX4_init_17 (fun H locs hI => ?_)
  replace hI : iI D s h 10 [.ref q1, .ref q2, .int 0] (([] ++ [(q1, .inl (cid 0, 8, .inl (fun _ => 0)))]) ++ [(q2, .inl (cid 0, 32, .inl (fun _ => 0)))]) H locs := hI
  refine lv_aload_n hx hb dX4_init_20 rfl (lv_at hl 0 rfl) ?_
  refine lv_iconst (v := 0) hx hb dX4_init_21 (by decide) ?_
  refine i_put hC hI hni uX4 tyX4 tyX4_ok nmX4 rfl 2 (by decide) w155 rfl rfl (ty := .int) (by decide +kernel) rfl rfl (Nat.le_of_ble_eq_true rfl) dX4_init_22 (fun H locs hI => ?_)
  replace hI : iI D s h 10 [.ref q1, .ref q2, .int 0] (([] ++ [(q1, .inl (cid 0, 8, .inl (fun _ => 0)))]) ++ [(q2, .inl (cid 0, 32, .inl (fun _ => 0)))]) H locs := hI
  exact kv (fun k => ([h, q1, q2] : List Nat).getD k 0) _ _ _ _ _ _ _ _ rfl rfl hI ⟨Nat.le_of_ble_eq_true rfl, Nat.le_of_ble_eq_true rfl⟩ dX4_init_25
theorem dX2_init_0 : decode cX2_init 0 = .ok (.aload_n 0, 1) := by decide +kernel
theorem dX2_init_1 : decode cX2_init 1 = .ok (.invokespecial 3, 3) := by decide +kernel
theorem dX2_init_4 : decode cX2_init 4 = .ok (.aload_n 0, 1) := by decide +kernel
theorem dX2_init_5 : decode cX2_init 5 = .ok (.bipush 60, 2) := by decide +kernel
theorem dX2_init_7 : decode cX2_init 7 = .ok (.newarray .char, 2) := by decide +kernel
theorem dX2_init_9 : decode cX2_init 9 = .ok (.putfield 9, 3) := by decide +kernel
theorem dX2_init_12 : decode cX2_init 12 = .ok (.aload_n 0, 1) := by decide +kernel
theorem dX2_init_13 : decode cX2_init 13 = .ok (.iconst 0, 1) := by decide +kernel
theorem dX2_init_14 : decode cX2_init 14 = .ok (.putfield 15, 3) := by decide +kernel
theorem dX2_init_17 : decode cX2_init 17 = .ok (.aload_n 0, 1) := by decide +kernel
theorem dX2_init_18 : decode cX2_init 18 = .ok (.iconst 0, 1) := by decide +kernel
theorem dX2_init_19 : decode cX2_init 19 = .ok (.putfield 19, 3) := by decide +kernel
theorem dX2_init_22 : decode cX2_init 22 = .ok (.return_, 1) := by decide +kernel
set_option maxRecDepth 100000 in
set_option maxHeartbeats 4000000 in
theorem I_X2 (l : Launch) (D : va_G) (cid : Nat → ClassId) : iM l D cid yX2_init (.code yX2_init cX2_init 1 none) (gRX 1 12 1 60) 8 [.null, .int 0, .int 0] 1 60 (α := Nat → Nat) (fun h a => a 0 = h) (ZI cid) := by
  refine iMet (by decide +kernel) rfl (Nat.le_of_ble_eq_true rfl) ?_
  intro p e s m args below meth c H locs ls Q h hC hni hl hI kv
  replace hC : iC p s m args c cX2_init 1 RX2 D cid := hC
  have hx := hC.1
  have hb := hC.2.1
  refine i_obj hC hl w170 w40 w41 ⟨Nat.le_of_ble_eq_true rfl, Nat.le_of_ble_eq_true rfl⟩ dX2_init_0 dX2_init_1 ?_
  refine lv_aload_n hx hb dX2_init_4 rfl (lv_at hl 0 rfl) ?_
  refine lv_bipush (v := 60) hx hb dX2_init_5 (by decide) ?_
  refine i_newa (atype := .char) (ty := .char) hC hI 1 w183 rfl (iid_char hC.2.2.2.2.2) (N' := 60) (a0 := (60, .inl (fun _ => 0))) (fun _ => rfl) (by decide) rfl (by decide) ⟨Nat.le_of_ble_eq_true rfl, Nat.le_of_ble_eq_true rfl⟩ dX2_init_7 (fun q1 H hI => ?_)
  refine i_put hC hI hni uX2 tyX2 tyX2_ok nmX2 rfl 0 (by decide) w171 rfl rfl (ty := .array .char) (by decide +kernel) rfl rfl (Nat.le_of_ble_eq_true rfl) dX2_init_9 (fun H locs hI => ?_)
  replace hI : iI D s h 8 [.ref q1, .int 0, .int 0] ([] ++ [(q1, .inl (cid 1, 60, .inl (fun _ => 0)))]) H locs := hI
  refine lv_aload_n hx hb dX2_init_12 rfl (lv_at hl 0 rfl) ?_
  refine lv_iconst (v := 0) hx hb dX2_init_13 (by decide) ?_
  refine i_put hC hI hni uX2 tyX2 tyX2_ok nmX2 rfl 1 (by decide) w172 rfl rfl (ty := .int) (by decide +kernel) rfl rfl (Nat.le_of_ble_eq_true rfl) dX2_init_14 (fun H locs hI => ?_)
  replace hI : iI D s h 8 [.ref q1, .int 0, .int 0] ([] ++ [(q1, .inl (cid 1, 60, .inl (fun _ => 0)))]) H locs := hI
  refine lv_aload_n hx hb dX2_init_17 rfl (lv_at hl 0 rfl) ?_
  refine lv_iconst (v := 0) hx hb dX2_init_18 (by decide) ?_
  refine i_put hC hI hni uX2 tyX2 tyX2_ok nmX2 rfl 2 (by decide) w174 rfl rfl (ty := .int) (by decide +kernel) rfl rfl (Nat.le_of_ble_eq_true rfl) dX2_init_19 (fun H locs hI => ?_)
  replace hI : iI D s h 8 [.ref q1, .int 0, .int 0] ([] ++ [(q1, .inl (cid 1, 60, .inl (fun _ => 0)))]) H locs := hI
  exact kv (fun k => ([h, q1] : List Nat).getD k 0) _ _ _ _ _ _ _ _ rfl rfl hI ⟨Nat.le_of_ble_eq_true rfl, Nat.le_of_ble_eq_true rfl⟩ dX2_init_22
theorem dX3_init_0 : decode cX3_init 0 = .ok (.aload_n 0, 1) := by decide +kernel
theorem dX3_init_1 : decode cX3_init 1 = .ok (.invokespecial 3, 3) := by decide +kernel
theorem dX3_init_4 : decode cX3_init 4 = .ok (.aload_n 0, 1) := by decide +kernel
theorem dX3_init_5 : decode cX3_init 5 = .ok (.bipush 100, 2) := by decide +kernel
theorem dX3_init_7 : decode cX3_init 7 = .ok (.newarray .char, 2) := by decide +kernel
theorem dX3_init_9 : decode cX3_init 9 = .ok (.putfield 9, 3) := by decide +kernel
theorem dX3_init_12 : decode cX3_init 12 = .ok (.aload_n 0, 1) := by decide +kernel
theorem dX3_init_13 : decode cX3_init 13 = .ok (.iconst 0, 1) := by decide +kernel
theorem dX3_init_14 : decode cX3_init 14 = .ok (.putfield 15, 3) := by decide +kernel
theorem dX3_init_17 : decode cX3_init 17 = .ok (.return_, 1) := by decide +kernel
set_option maxRecDepth 100000 in
set_option maxHeartbeats 4000000 in
theorem I_X3 (l : Launch) (D : va_G) (cid : Nat → ClassId) : iM l D cid yX3_init (.code yX3_init cX3_init 1 none) (gRX 1 12 1 100) 9 [.null, .int 0] 1 100 (α := Nat → Nat) (fun h a => a 0 = h) (ZL cid) := by
  refine iMet (by decide +kernel) rfl (Nat.le_of_ble_eq_true rfl) ?_
  intro p e s m args below meth c H locs ls Q h hC hni hl hI kv
  replace hC : iC p s m args c cX3_init 1 RX3 D cid := hC
  have hx := hC.1
  have hb := hC.2.1
  refine i_obj hC hl w189 w40 w41 ⟨Nat.le_of_ble_eq_true rfl, Nat.le_of_ble_eq_true rfl⟩ dX3_init_0 dX3_init_1 ?_
  refine lv_aload_n hx hb dX3_init_4 rfl (lv_at hl 0 rfl) ?_
  refine lv_bipush (v := 100) hx hb dX3_init_5 (by decide) ?_
  refine i_newa (atype := .char) (ty := .char) hC hI 1 w183 rfl (iid_char hC.2.2.2.2.2) (N' := 100) (a0 := (100, .inl (fun _ => 0))) (fun _ => rfl) (by decide) rfl (by decide) ⟨Nat.le_of_ble_eq_true rfl, Nat.le_of_ble_eq_true rfl⟩ dX3_init_7 (fun q1 H hI => ?_)
  refine i_put hC hI hni uX3 tyX3 tyX3_ok nmX3 rfl 0 (by decide) w190 rfl rfl (ty := .array .char) (by decide +kernel) rfl rfl (Nat.le_of_ble_eq_true rfl) dX3_init_9 (fun H locs hI => ?_)
  replace hI : iI D s h 9 [.ref q1, .int 0] ([] ++ [(q1, .inl (cid 1, 100, .inl (fun _ => 0)))]) H locs := hI
  refine lv_aload_n hx hb dX3_init_12 rfl (lv_at hl 0 rfl) ?_
  refine lv_iconst (v := 0) hx hb dX3_init_13 (by decide) ?_
  refine i_put hC hI hni uX3 tyX3 tyX3_ok nmX3 rfl 1 (by decide) w192 rfl rfl (ty := .int) (by decide +kernel) rfl rfl (Nat.le_of_ble_eq_true rfl) dX3_init_14 (fun H locs hI => ?_)
  replace hI : iI D s h 9 [.ref q1, .int 0] ([] ++ [(q1, .inl (cid 1, 100, .inl (fun _ => 0)))]) H locs := hI
  exact kv (fun k => ([h, q1] : List Nat).getD k 0) _ _ _ _ _ _ _ _ rfl rfl hI ⟨Nat.le_of_ble_eq_true rfl, Nat.le_of_ble_eq_true rfl⟩ dX3_init_17
