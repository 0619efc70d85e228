/-! The class's own constructor; laid by wip/p67/gen/ctor.py. -/
def ZT (cid : Nat → ClassId) (u : (Nat → Nat) × (Nat → Nat) × (Nat → Nat) × (Nat × Nat × (Nat → Nat → Nat)) × (Nat → Nat) × (Nat → Nat) × (Nat → Nat) × Nat) : va_W := match u with
  | (u1, u2, u3, u4, u5, u6, u7, h) => (h, .inr (12, [.ref (u1 0), .ref (u2 0), .ref (u3 0), .int 0, .ref u4.1, .ref (u5 0), .ref (u6 0), .ref (u7 0), .int (-1), .int (-1)])) :: ((((((([] ++ Z7 cid u1) ++ Z7 cid u2) ++ Z7 cid u3) ++ ZH cid u4) ++ ZP cid u5) ++ ZI cid u6) ++ ZL cid u7)
theorem dX6_init_0 : decode cX6_init 0 = .ok (.aload_n 0, 1) := by decide +kernel
theorem dX6_init_1 : decode cX6_init 1 = .ok (.invokespecial 1, 3) := by decide +kernel
theorem dX6_init_4 : decode cX6_init 4 = .ok (.aload_n 0, 1) := by decide +kernel
theorem dX6_init_5 : decode cX6_init 5 = .ok (.new 7, 3) := by decide +kernel
theorem dX6_init_8 : decode cX6_init 8 = .ok (.dup, 1) := by decide +kernel
theorem dX6_init_9 : decode cX6_init 9 = .ok (.invokespecial 9, 3) := by decide +kernel
theorem dX6_init_12 : decode cX6_init 12 = .ok (.putfield 10, 3) := by decide +kernel
theorem dX6_init_15 : decode cX6_init 15 = .ok (.aload_n 0, 1) := by decide +kernel
theorem dX6_init_16 : decode cX6_init 16 = .ok (.new 7, 3) := by decide +kernel
theorem dX6_init_19 : decode cX6_init 19 = .ok (.dup, 1) := by decide +kernel
theorem dX6_init_20 : decode cX6_init 20 = .ok (.invokespecial 9, 3) := by decide +kernel
theorem dX6_init_23 : decode cX6_init 23 = .ok (.putfield 16, 3) := by decide +kernel
theorem dX6_init_26 : decode cX6_init 26 = .ok (.aload_n 0, 1) := by decide +kernel
theorem dX6_init_27 : decode cX6_init 27 = .ok (.new 7, 3) := by decide +kernel
theorem dX6_init_30 : decode cX6_init 30 = .ok (.dup, 1) := by decide +kernel
theorem dX6_init_31 : decode cX6_init 31 = .ok (.invokespecial 9, 3) := by decide +kernel
theorem dX6_init_34 : decode cX6_init 34 = .ok (.putfield 19, 3) := by decide +kernel
theorem dX6_init_37 : decode cX6_init 37 = .ok (.aload_n 0, 1) := by decide +kernel
theorem dX6_init_38 : decode cX6_init 38 = .ok (.iconst 0, 1) := by decide +kernel
theorem dX6_init_39 : decode cX6_init 39 = .ok (.putfield 22, 3) := by decide +kernel
theorem dX6_init_42 : decode cX6_init 42 = .ok (.aload_n 0, 1) := by decide +kernel
theorem dX6_init_43 : decode cX6_init 43 = .ok (.new 26, 3) := by decide +kernel
theorem dX6_init_46 : decode cX6_init 46 = .ok (.dup, 1) := by decide +kernel
theorem dX6_init_47 : decode cX6_init 47 = .ok (.invokespecial 28, 3) := by decide +kernel
theorem dX6_init_50 : decode cX6_init 50 = .ok (.putfield 29, 3) := by decide +kernel
theorem dX6_init_53 : decode cX6_init 53 = .ok (.aload_n 0, 1) := by decide +kernel
theorem dX6_init_54 : decode cX6_init 54 = .ok (.new 33, 3) := by decide +kernel
theorem dX6_init_57 : decode cX6_init 57 = .ok (.dup, 1) := by decide +kernel
theorem dX6_init_58 : decode cX6_init 58 = .ok (.invokespecial 35, 3) := by decide +kernel
theorem dX6_init_61 : decode cX6_init 61 = .ok (.putfield 36, 3) := by decide +kernel
theorem dX6_init_64 : decode cX6_init 64 = .ok (.aload_n 0, 1) := by decide +kernel
theorem dX6_init_65 : decode cX6_init 65 = .ok (.new 40, 3) := by decide +kernel
theorem dX6_init_68 : decode cX6_init 68 = .ok (.dup, 1) := by decide +kernel
theorem dX6_init_69 : decode cX6_init 69 = .ok (.invokespecial 42, 3) := by decide +kernel
theorem dX6_init_72 : decode cX6_init 72 = .ok (.putfield 43, 3) := by decide +kernel
theorem dX6_init_75 : decode cX6_init 75 = .ok (.aload_n 0, 1) := by decide +kernel
theorem dX6_init_76 : decode cX6_init 76 = .ok (.new 47, 3) := by decide +kernel
theorem dX6_init_79 : decode cX6_init 79 = .ok (.dup, 1) := by decide +kernel
theorem dX6_init_80 : decode cX6_init 80 = .ok (.invokespecial 49, 3) := by decide +kernel
theorem dX6_init_83 : decode cX6_init 83 = .ok (.putfield 50, 3) := by decide +kernel
theorem dX6_init_86 : decode cX6_init 86 = .ok (.aload_n 0, 1) := by decide +kernel
theorem dX6_init_87 : decode cX6_init 87 = .ok (.iconst (-1), 1) := by decide +kernel
theorem dX6_init_88 : decode cX6_init 88 = .ok (.putfield 54, 3) := by decide +kernel
theorem dX6_init_91 : decode cX6_init 91 = .ok (.aload_n 0, 1) := by decide +kernel
theorem dX6_init_92 : decode cX6_init 92 = .ok (.iconst (-1), 1) := by decide +kernel
theorem dX6_init_93 : decode cX6_init 93 = .ok (.putfield 58, 3) := by decide +kernel
theorem dX6_init_96 : decode cX6_init 96 = .ok (.return_, 1) := by decide +kernel
set_option maxRecDepth 100000 in
set_option maxHeartbeats 4000000 in
theorem I_X6 (l : Launch) (D : va_G) (cid : Nat → ClassId) : iM l D cid yX6_init (.code yX6_init cX6_init 1 none) (gRX 4 73 141 4729) 12 [.null, .null, .null, .int 0, .null, .null, .null, .null, .int 0, .int 0] 141 4729 (α := (Nat → Nat) × (Nat → Nat) × (Nat → Nat) × (Nat × Nat × (Nat → Nat → Nat)) × (Nat → Nat) × (Nat → Nat) × (Nat → Nat) × Nat) (fun h u => u.2.2.2.2.2.2.2 = h) (ZT cid) := by
  refine iMet (by decide +kernel) rfl (Nat.le_of_ble_eq_true rfl) ?_
  intro p e s m args below meth c H locs ls Q h hC hni hl hI kv
  replace hC : iC p s m args c cX6_init 1 RX6 D cid := hC
  have hx := hC.1
  have hb := hC.2.1
  refine i_obj hC hl w39 w40 w41 ⟨Nat.le_of_ble_eq_true rfl, Nat.le_of_ble_eq_true rfl⟩ dX6_init_0 dX6_init_1 ?_
  refine lv_aload_n hx hb dX6_init_4 rfl (lv_at hl 0 rfl) ?_
  refine i_new hC hI (I_X5 l D cid) rfl uX5 tyX5 tyX5_ok w42 w43 w2 (fun j hj => by revert j; decide) ⟨w46, w2, ⟨by decide, by decide⟩, by decide +kernel⟩ w45 rfl (Or.inl (by decide +kernel)) ⟨rfl, rfl⟩ ⟨Nat.le_of_ble_eq_true rfl, Nat.le_of_ble_eq_true rfl⟩ hl.1 (Nat.le_of_ble_eq_true rfl) ⟨Nat.le_of_ble_eq_true rfl, Nat.le_of_ble_eq_true rfl⟩ dX6_init_5 dX6_init_8 dX6_init_9 (fun q1 u1 H locs hp1 hI => ?_)
  replace hp1 : (u1 0) = q1 := hp1
  subst hp1
  refine i_put hC hI hni uX6 tyX6 tyX6_ok nmX6 rfl 0 (by decide) w199 rfl rfl (ty := .object "ContainerTerminal$State") (by decide +kernel) rfl rfl (Nat.le_of_ble_eq_true rfl) dX6_init_12 (fun H locs hI => ?_)
  replace hI : iI D s h 12 [.ref (u1 0), .null, .null, .int 0, .null, .null, .null, .null, .int 0, .int 0] ([] ++ Z7 cid u1) H locs := hI
  refine lv_aload_n hx hb dX6_init_15 rfl (lv_at hl 0 rfl) ?_
  refine i_new hC hI (I_X5 l D cid) rfl uX5 tyX5 tyX5_ok w42 w43 w2 (fun j hj => by revert j; decide) ⟨w46, w2, ⟨by decide, by decide⟩, by decide +kernel⟩ w45 rfl (Or.inl (by decide +kernel)) ⟨rfl, rfl⟩ ⟨Nat.le_of_ble_eq_true rfl, Nat.le_of_ble_eq_true rfl⟩ hl.1 (Nat.le_of_ble_eq_true rfl) ⟨Nat.le_of_ble_eq_true rfl, Nat.le_of_ble_eq_true rfl⟩ dX6_init_16 dX6_init_19 dX6_init_20 (fun q2 u2 H locs hp2 hI => ?_)
  replace hp2 : (u2 0) = q2 := hp2
  subst hp2
  refine i_put hC hI hni uX6 tyX6 tyX6_ok nmX6 rfl 1 (by decide) w200 rfl rfl (ty := .object "ContainerTerminal$State") (by decide +kernel) rfl rfl (Nat.le_of_ble_eq_true rfl) dX6_init_23 (fun H locs hI => ?_)
  replace hI : iI D s h 12 [.ref (u1 0), .ref (u2 0), .null, .int 0, .null, .null, .null, .null, .int 0, .int 0] (([] ++ Z7 cid u1) ++ Z7 cid u2) H locs := hI
  refine lv_aload_n hx hb dX6_init_26 rfl (lv_at hl 0 rfl) ?_
  refine i_new hC hI (I_X5 l D cid) rfl uX5 tyX5 tyX5_ok w42 w43 w2 (fun j hj => by revert j; decide) ⟨w46, w2, ⟨by decide, by decide⟩, by decide +kernel⟩ w45 rfl (Or.inl (by decide +kernel)) ⟨rfl, rfl⟩ ⟨Nat.le_of_ble_eq_true rfl, Nat.le_of_ble_eq_true rfl⟩ hl.1 (Nat.le_of_ble_eq_true rfl) ⟨Nat.le_of_ble_eq_true rfl, Nat.le_of_ble_eq_true rfl⟩ dX6_init_27 dX6_init_30 dX6_init_31 (fun q3 u3 H locs hp3 hI => ?_)
  replace hp3 : (u3 0) = q3 := hp3
  subst hp3
  refine i_put hC hI hni uX6 tyX6 tyX6_ok nmX6 rfl 2 (by decide) w201 rfl rfl (ty := .object "ContainerTerminal$State") (by decide +kernel) rfl rfl (Nat.le_of_ble_eq_true rfl) dX6_init_34 (fun H locs hI => ?_)
  replace hI : iI D s h 12 [.ref (u1 0), .ref (u2 0), .ref (u3 0), .int 0, .null, .null, .null, .null, .int 0, .int 0] ((([] ++ Z7 cid u1) ++ Z7 cid u2) ++ Z7 cid u3) H locs := hI
  refine lv_aload_n hx hb dX6_init_37 rfl (lv_at hl 0 rfl) ?_
  refine lv_iconst (v := 0) hx hb dX6_init_38 (by decide) ?_
  refine i_put hC hI hni uX6 tyX6 tyX6_ok nmX6 rfl 3 (by decide) w202 rfl rfl (ty := .boolean) (by decide +kernel) rfl rfl (Nat.le_of_ble_eq_true rfl) dX6_init_39 (fun H locs hI => ?_)
  replace hI : iI D s h 12 [.ref (u1 0), .ref (u2 0), .ref (u3 0), .int 0, .null, .null, .null, .null, .int 0, .int 0] ((([] ++ Z7 cid u1) ++ Z7 cid u2) ++ Z7 cid u3) H locs := hI
  refine lv_aload_n hx hb dX6_init_42 rfl (lv_at hl 0 rfl) ?_
  refine i_new hC hI (I_X1 l D cid) rfl uX1 tyX1 tyX1_ok w127 w128 w4 (fun j hj => by revert j; decide) ⟨w131, w4, ⟨by decide, by decide⟩, by decide +kernel⟩ w130 rfl (Or.inr w129) ⟨rfl, rfl⟩ ⟨Nat.le_of_ble_eq_true rfl, Nat.le_of_ble_eq_true rfl⟩ hl.1 (Nat.le_of_ble_eq_true rfl) ⟨Nat.le_of_ble_eq_true rfl, Nat.le_of_ble_eq_true rfl⟩ dX6_init_43 dX6_init_46 dX6_init_47 (fun q4 u4 H locs hp4 hI => ?_)
  replace hp4 : u4.1 = q4 := hp4
  subst hp4
  refine i_put hC hI hni uX6 tyX6 tyX6_ok nmX6 rfl 4 (by decide) w203 rfl rfl (ty := .object "ContainerTerminal$History") (by decide +kernel) rfl rfl (Nat.le_of_ble_eq_true rfl) dX6_init_50 (fun H locs hI => ?_)
  replace hI : iI D s h 12 [.ref (u1 0), .ref (u2 0), .ref (u3 0), .int 0, .ref u4.1, .null, .null, .null, .int 0, .int 0] (((([] ++ Z7 cid u1) ++ Z7 cid u2) ++ Z7 cid u3) ++ ZH cid u4) H locs := hI
  refine lv_aload_n hx hb dX6_init_53 rfl (lv_at hl 0 rfl) ?_
  refine i_new hC hI (I_X4 l D cid) rfl uX4 tyX4 tyX4_ok w147 w148 w5 (fun j hj => by revert j; decide) ⟨w151, w5, ⟨by decide, by decide⟩, by decide +kernel⟩ w150 rfl (Or.inl (by decide +kernel)) ⟨rfl, rfl⟩ ⟨Nat.le_of_ble_eq_true rfl, Nat.le_of_ble_eq_true rfl⟩ hl.1 (Nat.le_of_ble_eq_true rfl) ⟨Nat.le_of_ble_eq_true rfl, Nat.le_of_ble_eq_true rfl⟩ dX6_init_54 dX6_init_57 dX6_init_58 (fun q5 u5 H locs hp5 hI => ?_)
  replace hp5 : (u5 0) = q5 := hp5
  subst hp5
  refine i_put hC hI hni uX6 tyX6 tyX6_ok nmX6 rfl 5 (by decide) w204 rfl rfl (ty := .object "ContainerTerminal$Program") (by decide +kernel) rfl rfl (Nat.le_of_ble_eq_true rfl) dX6_init_61 (fun H locs hI => ?_)
  replace hI : iI D s h 12 [.ref (u1 0), .ref (u2 0), .ref (u3 0), .int 0, .ref u4.1, .ref (u5 0), .null, .null, .int 0, .int 0] ((((([] ++ Z7 cid u1) ++ Z7 cid u2) ++ Z7 cid u3) ++ ZH cid u4) ++ ZP cid u5) H locs := hI
  refine lv_aload_n hx hb dX6_init_64 rfl (lv_at hl 0 rfl) ?_
  refine i_new hC hI (I_X2 l D cid) rfl uX2 tyX2 tyX2_ok w165 w166 w6 (fun j hj => by revert j; decide) ⟨w169, w6, ⟨by decide, by decide⟩, by decide +kernel⟩ w168 rfl (Or.inl (by decide +kernel)) ⟨rfl, rfl⟩ ⟨Nat.le_of_ble_eq_true rfl, Nat.le_of_ble_eq_true rfl⟩ hl.1 (Nat.le_of_ble_eq_true rfl) ⟨Nat.le_of_ble_eq_true rfl, Nat.le_of_ble_eq_true rfl⟩ dX6_init_65 dX6_init_68 dX6_init_69 (fun q6 u6 H locs hp6 hI => ?_)
  replace hp6 : (u6 0) = q6 := hp6
  subst hp6
  refine i_put hC hI hni uX6 tyX6 tyX6_ok nmX6 rfl 6 (by decide) w205 rfl rfl (ty := .object "ContainerTerminal$Input") (by decide +kernel) rfl rfl (Nat.le_of_ble_eq_true rfl) dX6_init_72 (fun H locs hI => ?_)
  replace hI : iI D s h 12 [.ref (u1 0), .ref (u2 0), .ref (u3 0), .int 0, .ref u4.1, .ref (u5 0), .ref (u6 0), .null, .int 0, .int 0] (((((([] ++ Z7 cid u1) ++ Z7 cid u2) ++ Z7 cid u3) ++ ZH cid u4) ++ ZP cid u5) ++ ZI cid u6) H locs := hI
  refine lv_aload_n hx hb dX6_init_75 rfl (lv_at hl 0 rfl) ?_
  refine i_new hC hI (I_X3 l D cid) rfl uX3 tyX3 tyX3_ok w184 w185 w7 (fun j hj => by revert j; decide) ⟨w188, w7, ⟨by decide, by decide⟩, by decide +kernel⟩ w187 rfl (Or.inl (by decide +kernel)) ⟨rfl, rfl⟩ ⟨Nat.le_of_ble_eq_true rfl, Nat.le_of_ble_eq_true rfl⟩ hl.1 (Nat.le_of_ble_eq_true rfl) ⟨Nat.le_of_ble_eq_true rfl, Nat.le_of_ble_eq_true rfl⟩ dX6_init_76 dX6_init_79 dX6_init_80 (fun q7 u7 H locs hp7 hI => ?_)
  replace hp7 : (u7 0) = q7 := hp7
  subst hp7
  refine i_put hC hI hni uX6 tyX6 tyX6_ok nmX6 rfl 7 (by decide) w206 rfl rfl (ty := .object "ContainerTerminal$Line") (by decide +kernel) rfl rfl (Nat.le_of_ble_eq_true rfl) dX6_init_83 (fun H locs hI => ?_)
  replace hI : iI D s h 12 [.ref (u1 0), .ref (u2 0), .ref (u3 0), .int 0, .ref u4.1, .ref (u5 0), .ref (u6 0), .ref (u7 0), .int 0, .int 0] ((((((([] ++ Z7 cid u1) ++ Z7 cid u2) ++ Z7 cid u3) ++ ZH cid u4) ++ ZP cid u5) ++ ZI cid u6) ++ ZL cid u7) H locs := hI
  refine lv_aload_n hx hb dX6_init_86 rfl (lv_at hl 0 rfl) ?_
  refine lv_iconst (v := (-1)) hx hb dX6_init_87 (by decide) ?_
  refine i_put hC hI hni uX6 tyX6 tyX6_ok nmX6 rfl 8 (by decide) w207 rfl rfl (ty := .int) (by decide +kernel) rfl rfl (Nat.le_of_ble_eq_true rfl) dX6_init_88 (fun H locs hI => ?_)
  replace hI : iI D s h 12 [.ref (u1 0), .ref (u2 0), .ref (u3 0), .int 0, .ref u4.1, .ref (u5 0), .ref (u6 0), .ref (u7 0), .int (-1), .int 0] ((((((([] ++ Z7 cid u1) ++ Z7 cid u2) ++ Z7 cid u3) ++ ZH cid u4) ++ ZP cid u5) ++ ZI cid u6) ++ ZL cid u7) H locs := hI
  refine lv_aload_n hx hb dX6_init_91 rfl (lv_at hl 0 rfl) ?_
  refine lv_iconst (v := (-1)) hx hb dX6_init_92 (by decide) ?_
  refine i_put hC hI hni uX6 tyX6 tyX6_ok nmX6 rfl 9 (by decide) w208 rfl rfl (ty := .int) (by decide +kernel) rfl rfl (Nat.le_of_ble_eq_true rfl) dX6_init_93 (fun H locs hI => ?_)
  replace hI : iI D s h 12 [.ref (u1 0), .ref (u2 0), .ref (u3 0), .int 0, .ref u4.1, .ref (u5 0), .ref (u6 0), .ref (u7 0), .int (-1), .int (-1)] ((((((([] ++ Z7 cid u1) ++ Z7 cid u2) ++ Z7 cid u3) ++ ZH cid u4) ++ ZP cid u5) ++ ZI cid u6) ++ ZL cid u7) H locs := hI
  exact kv (u1, u2, u3, u4, u5, u6, u7, h) _ _ _ _ _ _ _ _ rfl rfl hI ⟨Nat.le_of_ble_eq_true rfl, Nat.le_of_ble_eq_true rfl⟩ dX6_init_96
