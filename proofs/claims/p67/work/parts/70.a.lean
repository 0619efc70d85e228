theorem dX6_isBerth_0 : decode cX6_isBerth 0 = .ok (.iload_n 0, 1) := by decide +kernel
theorem dX6_isBerth_1 : decode cX6_isBerth 1 = .ok (.ifCond .lt 12, 3) := by decide +kernel
theorem dX6_isBerth_4 : decode cX6_isBerth 4 = .ok (.iload_n 0, 1) := by decide +kernel
theorem dX6_isBerth_5 : decode cX6_isBerth 5 = .ok (.iconst 3, 1) := by decide +kernel
theorem dX6_isBerth_6 : decode cX6_isBerth 6 = .ok (.if_icmp .ge 7, 3) := by decide +kernel
theorem dX6_isBerth_9 : decode cX6_isBerth 9 = .ok (.iconst 1, 1) := by decide +kernel
theorem dX6_isBerth_10 : decode cX6_isBerth 10 = .ok (.goto 4, 3) := by decide +kernel
theorem dX6_isBerth_13 : decode cX6_isBerth 13 = .ok (.iconst 0, 1) := by decide +kernel
theorem dX6_isBerth_14 : decode cX6_isBerth 14 = .ok (.ireturn, 1) := by decide +kernel
set_option maxRecDepth 100000 in
set_option maxHeartbeats 4000000 in
theorem C_X6_isBerth (l : Launch) (E : gE) (x : gX) {v0 : Int32} {M : gM} {r : Bool} (hf : f_X6_isBerth v0 M = some r) : gM0 l E yX6_isBerth (.code yX6_isBerth cX6_isBerth 1 (some .boolean)) (gR 0 0) M x [.int v0] (some (.int (gb r))) M := by
  refine gMet (by decide +kernel) (Nat.le_of_ble_eq_true rfl) ?_
  intro p e s m args below meth c H locs ls Q hC hl hI kr kv
  replace hC : gC p s m args c cX6_isBerth 1 RX6 E := hC
  replace hl : lv_has ls 1 [(0, .int v0)] := hl
  have hx := hC.1
  have hb := hC.2.1
  unfold f_X6_isBerth at hf
  refine lv_iload_n hx hb dX6_isBerth_0 rfl (lv_at hl 0 rfl) ?_
  refine lv_if_lt (tgt := 13) hx hb dX6_isBerth_1 rfl (fun h1 => ?_) (fun h1 => ?_)
  · replace hf := gif h1 hf
    refine lv_iconst (v := 0) hx hb dX6_isBerth_13 (by decide) ?_
    exact kr _ _ _ _ _ _ (grb0 hf) hI ⟨.boolean, rfl, rfl⟩ dX6_isBerth_14
  · replace hf := gifn h1 hf
    refine lv_iload_n hx hb dX6_isBerth_4 rfl (lv_at hl 0 rfl) ?_
    refine lv_iconst (v := 3) hx hb dX6_isBerth_5 (by decide) ?_
    refine lv_icmp_ge (tgt := 13) hx hb dX6_isBerth_6 rfl (fun h2 => ?_) (fun h2 => ?_)
    · replace hf := gif h2 hf
      refine lv_iconst (v := 0) hx hb dX6_isBerth_13 (by decide) ?_
      exact kr _ _ _ _ _ _ (grb0 hf) hI ⟨.boolean, rfl, rfl⟩ dX6_isBerth_14
    · replace hf := gifn h2 hf
      refine lv_iconst (v := 1) hx hb dX6_isBerth_9 (by decide) ?_
      refine lv_goto (tgt := 14) hx hb dX6_isBerth_10 rfl ?_
      exact kr _ _ _ _ _ _ (grb1 hf) hI ⟨.boolean, rfl, rfl⟩ dX6_isBerth_14
theorem dX5_hasShip_0 : decode cX5_hasShip 0 = .ok (.iload_n 1, 1) := by decide +kernel
theorem dX5_hasShip_1 : decode cX5_hasShip 1 = .ok (.invokestatic 60, 3) := by decide +kernel
theorem dX5_hasShip_4 : decode cX5_hasShip 4 = .ok (.ifCond .eq 16, 3) := by decide +kernel
theorem dX5_hasShip_7 : decode cX5_hasShip 7 = .ok (.aload_n 0, 1) := by decide +kernel
theorem dX5_hasShip_8 : decode cX5_hasShip 8 = .ok (.getfield 18, 3) := by decide +kernel
theorem dX5_hasShip_11 : decode cX5_hasShip 11 = .ok (.iload_n 1, 1) := by decide +kernel
theorem dX5_hasShip_12 : decode cX5_hasShip 12 = .ok (.iaload, 1) := by decide +kernel
theorem dX5_hasShip_13 : decode cX5_hasShip 13 = .ok (.ifCond .eq 7, 3) := by decide +kernel
theorem dX5_hasShip_16 : decode cX5_hasShip 16 = .ok (.iconst 1, 1) := by decide +kernel
theorem dX5_hasShip_17 : decode cX5_hasShip 17 = .ok (.goto 4, 3) := by decide +kernel
theorem dX5_hasShip_20 : decode cX5_hasShip 20 = .ok (.iconst 0, 1) := by decide +kernel
theorem dX5_hasShip_21 : decode cX5_hasShip 21 = .ok (.ireturn, 1) := by decide +kernel
set_option maxRecDepth 100000 in
set_option maxHeartbeats 4000000 in
theorem C_X5_hasShip (l : Launch) (E : gE) (x : gX) {o : Nat} (ho : gOk o) {v1 : Int32} {M : gM} {r : Bool} (hf : f_X5_hasShip o v1 M = some r) : gM0 l E yX5_hasShip (.code yX5_hasShip cX5_hasShip 2 (some .boolean)) (gR 1 20) M x [.ref (E.2.1 o), .int v1] (some (.int (gb r))) M := by
  refine gMet (by decide +kernel) (Nat.le_of_ble_eq_true rfl) ?_
  intro p e s m args below meth c H locs ls Q hC hl hI kr kv
  replace hC : gC p s m args c cX5_hasShip 2 RX5 E := hC
  replace hl : lv_has ls 2 [(0, .ref (E.2.1 o)), (1, .int v1)] := hl
  have hx := hC.1
  have hb := hC.2.1
  unfold f_X5_hasShip at hf
  refine lv_iload_n hx hb dX5_hasShip_0 rfl (lv_at hl 1 rfl) ?_
  obtain ⟨r1, hr2, hf⟩ := gbind hf
  have hr2 := C_X6_isBerth l E x  hr2
  refine g_callSNi (rest := []) hC hI hr2 Y_X6_isBerth S_X6_isBerth (List.mem_of_getElem? (i := 6) rfl) ⟨rfl, rfl⟩ ⟨Nat.le_of_ble_eq_true rfl, Nat.le_of_ble_eq_true rfl⟩ rfl hl.1 rfl (Nat.le_of_ble_eq_true rfl) dX5_hasShip_1 ⟨Nat.le_of_ble_eq_true rfl, Nat.le_of_ble_eq_true rfl⟩ (fun H locs hI => ?_)
  refine lv_if_eq (tgt := 20) hx hb dX5_hasShip_4 rfl (fun h3 => ?_) (fun h3 => ?_)
  · replace hf := gif h3 hf
    refine lv_iconst (v := 0) hx hb dX5_hasShip_20 (by decide) ?_
    exact kr _ _ _ _ _ _ (grb0 hf) hI ⟨.boolean, rfl, rfl⟩ dX5_hasShip_21
  · replace hf := gifn h3 hf
    refine lv_aload_n hx hb dX5_hasShip_7 rfl (lv_at hl 0 rfl) ?_
    refine gt_X5_X5_draughts hC hI ho dX5_hasShip_8 ?_
    refine lv_iload_n hx hb dX5_hasShip_11 rfl (lv_at hl 1 rfl) ?_
    obtain ⟨h4, hf⟩ := gifN hf
    refine g_iald hC hI (k := v1.toNatClampNeg) (gIA_8 ho) h4 rfl dX5_hasShip_12 ?_
    refine lv_if_eq (tgt := 20) hx hb dX5_hasShip_13 rfl (fun h5 => ?_) (fun h5 => ?_)
    · replace hf := gif h5 hf
      refine lv_iconst (v := 0) hx hb dX5_hasShip_20 (by decide) ?_
      exact kr _ _ _ _ _ _ (grb0 hf) hI ⟨.boolean, rfl, rfl⟩ dX5_hasShip_21
    · replace hf := gifn h5 hf
      refine lv_iconst (v := 1) hx hb dX5_hasShip_16 (by decide) ?_
      refine lv_goto (tgt := 21) hx hb dX5_hasShip_17 rfl ?_
      exact kr _ _ _ _ _ _ (grb1 hf) hI ⟨.boolean, rfl, rfl⟩ dX5_hasShip_21
theorem dX5_mooringFault_0 : decode cX5_mooringFault 0 = .ok (.iload_n 1, 1) := by decide +kernel
theorem dX5_mooringFault_1 : decode cX5_mooringFault 1 = .ok (.invokestatic 60, 3) := by decide +kernel
theorem dX5_mooringFault_4 : decode cX5_mooringFault 4 = .ok (.ifCond .ne 5, 3) := by decide +kernel
theorem dX5_mooringFault_7 : decode cX5_mooringFault 7 = .ok (.iconst 1, 1) := by decide +kernel
theorem dX5_mooringFault_8 : decode cX5_mooringFault 8 = .ok (.ireturn, 1) := by decide +kernel
theorem dX5_mooringFault_9 : decode cX5_mooringFault 9 = .ok (.iload_n 2, 1) := by decide +kernel
theorem dX5_mooringFault_10 : decode cX5_mooringFault 10 = .ok (.iconst 1, 1) := by decide +kernel
theorem dX5_mooringFault_11 : decode cX5_mooringFault 11 = .ok (.if_icmp .lt 29, 3) := by decide +kernel
theorem dX5_mooringFault_14 : decode cX5_mooringFault 14 = .ok (.iload_n 2, 1) := by decide +kernel
theorem dX5_mooringFault_15 : decode cX5_mooringFault 15 = .ok (.bipush 9, 2) := by decide +kernel
theorem dX5_mooringFault_17 : decode cX5_mooringFault 17 = .ok (.if_icmp .gt 23, 3) := by decide +kernel
theorem dX5_mooringFault_20 : decode cX5_mooringFault 20 = .ok (.iload_n 3, 1) := by decide +kernel
theorem dX5_mooringFault_21 : decode cX5_mooringFault 21 = .ok (.aload_n 0, 1) := by decide +kernel
theorem dX5_mooringFault_22 : decode cX5_mooringFault 22 = .ok (.getfield 31, 3) := by decide +kernel
theorem dX5_mooringFault_25 : decode cX5_mooringFault 25 = .ok (.if_icmp .lt 15, 3) := by decide +kernel
theorem dX5_mooringFault_28 : decode cX5_mooringFault 28 = .ok (.iload_n 3, 1) := by decide +kernel
theorem dX5_mooringFault_29 : decode cX5_mooringFault 29 = .ok (.aload_n 0, 1) := by decide +kernel
theorem dX5_mooringFault_30 : decode cX5_mooringFault 30 = .ok (.getfield 31, 3) := by decide +kernel
theorem dX5_mooringFault_33 : decode cX5_mooringFault 33 = .ok (.isub, 1) := by decide +kernel
theorem dX5_mooringFault_34 : decode cX5_mooringFault 34 = .ok (.sipush 999, 3) := by decide +kernel
theorem dX5_mooringFault_37 : decode cX5_mooringFault 37 = .ok (.if_icmp .le 5, 3) := by decide +kernel
theorem dX5_mooringFault_40 : decode cX5_mooringFault 40 = .ok (.iconst 2, 1) := by decide +kernel
theorem dX5_mooringFault_41 : decode cX5_mooringFault 41 = .ok (.ireturn, 1) := by decide +kernel
theorem dX5_mooringFault_42 : decode cX5_mooringFault 42 = .ok (.aload_n 0, 1) := by decide +kernel
theorem dX5_mooringFault_43 : decode cX5_mooringFault 43 = .ok (.iload_n 1, 1) := by decide +kernel
theorem dX5_mooringFault_44 : decode cX5_mooringFault 44 = .ok (.invokevirtual 64, 3) := by decide +kernel
theorem dX5_mooringFault_47 : decode cX5_mooringFault 47 = .ok (.ifCond .eq 7, 3) := by decide +kernel
theorem dX5_mooringFault_50 : decode cX5_mooringFault 50 = .ok (.iconst 3, 1) := by decide +kernel
theorem dX5_mooringFault_51 : decode cX5_mooringFault 51 = .ok (.goto 4, 3) := by decide +kernel
theorem dX5_mooringFault_54 : decode cX5_mooringFault 54 = .ok (.iconst 0, 1) := by decide +kernel
theorem dX5_mooringFault_55 : decode cX5_mooringFault 55 = .ok (.ireturn, 1) := by decide +kernel
set_option maxRecDepth 100000 in
set_option maxHeartbeats 4000000 in
theorem C_X5_mooringFault (l : Launch) (E : gE) (x : gX) {o : Nat} (ho : gOk o) {v1 v2 v3 : Int32} {M : gM} {r : Int32} (hf : f_X5_mooringFault o v1 v2 v3 M = some r) : gM0 l E yX5_mooringFault (.code yX5_mooringFault cX5_mooringFault 4 (some .int)) (gR 2 41) M x [.ref (E.2.1 o), .int v1, .int v2, .int v3] (some (.int r)) M := by
  refine gMet (by decide +kernel) (Nat.le_of_ble_eq_true rfl) ?_
  intro p e s m args below meth c H locs ls Q hC hl hI kr kv
  replace hC : gC p s m args c cX5_mooringFault 4 RX5 E := hC
  replace hl : lv_has ls 4 [(0, .ref (E.2.1 o)), (1, .int v1), (2, .int v2), (3, .int v3)] := hl
  have hx := hC.1
  have hb := hC.2.1
  unfold f_X5_mooringFault at hf
  refine lv_iload_n hx hb dX5_mooringFault_0 rfl (lv_at hl 1 rfl) ?_
  obtain ⟨r1, hr2, hf⟩ := gbind hf
  have hr2 := C_X6_isBerth l E x  hr2
  refine g_callSNi (rest := []) hC hI hr2 Y_X6_isBerth S_X6_isBerth (List.mem_of_getElem? (i := 6) rfl) ⟨rfl, rfl⟩ ⟨Nat.le_of_ble_eq_true rfl, Nat.le_of_ble_eq_true rfl⟩ rfl hl.1 rfl (Nat.le_of_ble_eq_true rfl) dX5_mooringFault_1 ⟨Nat.le_of_ble_eq_true rfl, Nat.le_of_ble_eq_true rfl⟩ (fun H locs hI => ?_)
  refine lv_if_ne (tgt := 9) hx hb dX5_mooringFault_4 rfl (fun h3 => ?_) (fun h3 => ?_)
  · replace hf := gifn h3 hf
    refine lv_iload_n hx hb dX5_mooringFault_9 rfl (lv_at hl 2 rfl) ?_
    refine lv_iconst (v := 1) hx hb dX5_mooringFault_10 (by decide) ?_
    refine lv_icmp_lt (tgt := 40) hx hb dX5_mooringFault_11 rfl (fun h4 => ?_) (fun h4 => ?_)
    · replace hf := gif h4 hf
      refine lv_iconst (v := 2) hx hb dX5_mooringFault_40 (by decide) ?_
      exact kr _ _ _ _ _ _ (gri hf) hI ⟨.int, rfl, rfl⟩ dX5_mooringFault_41
    · replace hf := gifn h4 hf
      refine lv_iload_n hx hb dX5_mooringFault_14 rfl (lv_at hl 2 rfl) ?_
      refine lv_bipush (v := 9) hx hb dX5_mooringFault_15 (by decide) ?_
      refine lv_icmp_gt (tgt := 40) hx hb dX5_mooringFault_17 rfl (fun h5 => ?_) (fun h5 => ?_)
      · replace hf := gif h5 hf
        refine lv_iconst (v := 2) hx hb dX5_mooringFault_40 (by decide) ?_
        exact kr _ _ _ _ _ _ (gri hf) hI ⟨.int, rfl, rfl⟩ dX5_mooringFault_41
      · replace hf := gifn h5 hf
        refine lv_iload_n hx hb dX5_mooringFault_20 rfl (lv_at hl 3 rfl) ?_
        refine lv_aload_n hx hb dX5_mooringFault_21 rfl (lv_at hl 0 rfl) ?_
        refine gt_X5_X5_hour hC hI ho dX5_mooringFault_22 ?_
        refine lv_icmp_lt (tgt := 40) hx hb dX5_mooringFault_25 rfl (fun h6 => ?_) (fun h6 => ?_)
        · replace hf := gif h6 hf
          refine lv_iconst (v := 2) hx hb dX5_mooringFault_40 (by decide) ?_
          exact kr _ _ _ _ _ _ (gri hf) hI ⟨.int, rfl, rfl⟩ dX5_mooringFault_41
        · replace hf := gifn h6 hf
          refine lv_iload_n hx hb dX5_mooringFault_28 rfl (lv_at hl 3 rfl) ?_
          refine lv_aload_n hx hb dX5_mooringFault_29 rfl (lv_at hl 0 rfl) ?_
          refine gt_X5_X5_hour hC hI ho dX5_mooringFault_30 ?_
          refine lv_isub hx hb dX5_mooringFault_33 ?_
          refine lv_sipush (v := 999) hx hb dX5_mooringFault_34 (by decide) ?_
          refine lv_icmp_le (tgt := 42) hx hb dX5_mooringFault_37 rfl (fun h7 => ?_) (fun h7 => ?_)
          · replace hf := gif h7 hf
            refine lv_aload_n hx hb dX5_mooringFault_42 rfl (lv_at hl 0 rfl) ?_
            refine lv_iload_n hx hb dX5_mooringFault_43 rfl (lv_at hl 1 rfl) ?_
            obtain ⟨r8, hr9, hf⟩ := gbind hf
            have hr9 := C_X5_hasShip l E x ho hr9
            refine g_callVi (rest := []) hC hI hr9 Y_X5_hasShip V_X5_hasShip w251 (rcv_X5 hC hI ho) ⟨rfl, rfl⟩ ⟨Nat.le_of_ble_eq_true rfl, Nat.le_of_ble_eq_true rfl⟩ rfl hl.1 rfl (Nat.le_of_ble_eq_true rfl) dX5_mooringFault_44 ⟨Nat.le_of_ble_eq_true rfl, Nat.le_of_ble_eq_true rfl⟩ (fun H locs hI => ?_)
            refine lv_if_eq (tgt := 54) hx hb dX5_mooringFault_47 rfl (fun h10 => ?_) (fun h10 => ?_)
            · replace hf := gif h10 hf
              refine lv_iconst (v := 0) hx hb dX5_mooringFault_54 (by decide) ?_
              exact kr _ _ _ _ _ _ (gri hf) hI ⟨.int, rfl, rfl⟩ dX5_mooringFault_55
            · replace hf := gifn h10 hf
              refine lv_iconst (v := 3) hx hb dX5_mooringFault_50 (by decide) ?_
              refine lv_goto (tgt := 55) hx hb dX5_mooringFault_51 rfl ?_
              exact kr _ _ _ _ _ _ (gri hf) hI ⟨.int, rfl, rfl⟩ dX5_mooringFault_55
          · replace hf := gifn h7 hf
            refine lv_iconst (v := 2) hx hb dX5_mooringFault_40 (by decide) ?_
            exact kr _ _ _ _ _ _ (gri hf) hI ⟨.int, rfl, rfl⟩ dX5_mooringFault_41
  · replace hf := gif h3 hf
    refine lv_iconst (v := 1) hx hb dX5_mooringFault_7 (by decide) ?_
    exact kr _ _ _ _ _ _ (gri hf) hI ⟨.int, rfl, rfl⟩ dX5_mooringFault_8
theorem dX6_raise_0 : decode cX6_raise 0 = .ok (.iload_n 0, 1) := by decide +kernel
theorem dX6_raise_1 : decode cX6_raise 1 = .ok (.tableswitch 75 1 4 #[31, 42, 53, 64], 31) := by decide +kernel
theorem dX6_raise_32 : decode cX6_raise 32 = .ok (.new 305, 3) := by decide +kernel
theorem dX6_raise_35 : decode cX6_raise 35 = .ok (.dup, 1) := by decide +kernel
theorem dX6_raise_36 : decode cX6_raise 36 = .ok (.ldc_w 355, 3) := by decide +kernel
theorem dX6_raise_39 : decode cX6_raise 39 = .ok (.invokespecial 309, 3) := by decide +kernel
theorem dX6_raise_42 : decode cX6_raise 42 = .ok (.athrow, 1) := by decide +kernel
theorem dX6_raise_43 : decode cX6_raise 43 = .ok (.new 314, 3) := by decide +kernel
theorem dX6_raise_46 : decode cX6_raise 46 = .ok (.dup, 1) := by decide +kernel
theorem dX6_raise_47 : decode cX6_raise 47 = .ok (.ldc_w 357, 3) := by decide +kernel
theorem dX6_raise_50 : decode cX6_raise 50 = .ok (.invokespecial 318, 3) := by decide +kernel
theorem dX6_raise_53 : decode cX6_raise 53 = .ok (.athrow, 1) := by decide +kernel
theorem dX6_raise_54 : decode cX6_raise 54 = .ok (.new 320, 3) := by decide +kernel
theorem dX6_raise_57 : decode cX6_raise 57 = .ok (.dup, 1) := by decide +kernel
theorem dX6_raise_58 : decode cX6_raise 58 = .ok (.ldc_w 359, 3) := by decide +kernel
theorem dX6_raise_61 : decode cX6_raise 61 = .ok (.invokespecial 324, 3) := by decide +kernel
theorem dX6_raise_64 : decode cX6_raise 64 = .ok (.athrow, 1) := by decide +kernel
theorem dX6_raise_65 : decode cX6_raise 65 = .ok (.new 165, 3) := by decide +kernel
theorem dX6_raise_68 : decode cX6_raise 68 = .ok (.dup, 1) := by decide +kernel
theorem dX6_raise_69 : decode cX6_raise 69 = .ok (.ldc_w 361, 3) := by decide +kernel
theorem dX6_raise_72 : decode cX6_raise 72 = .ok (.invokespecial 169, 3) := by decide +kernel
theorem dX6_raise_75 : decode cX6_raise 75 = .ok (.athrow, 1) := by decide +kernel
theorem dX6_raise_76 : decode cX6_raise 76 = .ok (.return_, 1) := by decide +kernel
set_option maxRecDepth 100000 in
set_option maxHeartbeats 4000000 in
theorem C_X6_raise (l : Launch) (hst : l.stackTraces = false) (E : gE) (x : gX) {v0 : Int32} {M : gM} {oc : String ⊕ Unit} {M' : gM} (hf : f_X6_raise v0 M = some (oc, M')) : gX0 l E yX6_raise (.code yX6_raise cX6_raise 1 none) (gRX 6 90 1 6) M x [.int v0] (gOv oc) M' 1 6 := by
  refine gMetX hst (by decide +kernel) (Nat.le_of_ble_eq_true rfl) ?_
  intro p e s m args below meth c H locs ls Q hC hl hI kr kv kx kt kd kf
  replace hC : gC p s m args c cX6_raise 1 RX6 E := hC
  replace hl : lv_has ls 1 [(0, .int v0)] := hl
  have hx := hC.1
  have hb := hC.2.1
  unfold f_X6_raise at hf
  refine lv_iload_n hx hb dX6_raise_0 rfl (lv_at hl 0 rfl) ?_
  by_cases h1 : v0 = 1
  · replace hf := gif h1 hf
    refine g_tabK (k := 1) (tgt := 32) hC dX6_raise_1 h1 (by decide) (by decide) rfl rfl ?_
    exact kt _ _ _ _ _ _ _ _ "java/lang/IndexOutOfBoundsException" "there is no such berth or stack" 305 355 309 (gtxv hf) hI hl.1 rfl gTh_305_309 (by decide +kernel) ⟨Nat.le_of_ble_eq_true rfl, Nat.le_of_ble_eq_true rfl⟩ ⟨Nat.le_of_ble_eq_true rfl, Nat.le_of_ble_eq_true rfl⟩ ⟨dX6_raise_32, dX6_raise_35, Or.inl ⟨dX6_raise_36, dX6_raise_39, dX6_raise_42⟩⟩
  · replace hf := gifn h1 hf
    by_cases h2 : v0 = 2
    · replace hf := gif h2 hf
      refine g_tabK (k := 2) (tgt := 43) hC dX6_raise_1 h2 (by decide) (by decide) rfl rfl ?_
      exact kt _ _ _ _ _ _ _ _ "java/lang/IllegalArgumentException" "an argument is out of range" 314 357 318 (gtxv hf) hI hl.1 rfl gTh_314_318 (by decide +kernel) ⟨Nat.le_of_ble_eq_true rfl, Nat.le_of_ble_eq_true rfl⟩ ⟨Nat.le_of_ble_eq_true rfl, Nat.le_of_ble_eq_true rfl⟩ ⟨dX6_raise_43, dX6_raise_46, Or.inl ⟨dX6_raise_47, dX6_raise_50, dX6_raise_53⟩⟩
    · replace hf := gifn h2 hf
      by_cases h3 : v0 = 3
      · replace hf := gif h3 hf
        refine g_tabK (k := 3) (tgt := 54) hC dX6_raise_1 h3 (by decide) (by decide) rfl rfl ?_
        exact kt _ _ _ _ _ _ _ _ "java/lang/IllegalStateException" "the terminal is not in the state for this" 320 359 324 (gtxv hf) hI hl.1 rfl gTh_320_324 (by decide +kernel) ⟨Nat.le_of_ble_eq_true rfl, Nat.le_of_ble_eq_true rfl⟩ ⟨Nat.le_of_ble_eq_true rfl, Nat.le_of_ble_eq_true rfl⟩ ⟨dX6_raise_54, dX6_raise_57, Or.inl ⟨dX6_raise_58, dX6_raise_61, dX6_raise_64⟩⟩
      · replace hf := gifn h3 hf
        by_cases h4 : v0 = 4
        · replace hf := gif h4 hf
          refine g_tabK (k := 4) (tgt := 65) hC dX6_raise_1 h4 (by decide) (by decide) rfl rfl ?_
          exact kt _ _ _ _ _ _ _ _ "java/util/NoSuchElementException" "there is no such ship or container" 165 361 169 (gtxv hf) hI hl.1 rfl gTh_165_169 (by decide +kernel) ⟨Nat.le_of_ble_eq_true rfl, Nat.le_of_ble_eq_true rfl⟩ ⟨Nat.le_of_ble_eq_true rfl, Nat.le_of_ble_eq_true rfl⟩ ⟨dX6_raise_65, dX6_raise_68, Or.inl ⟨dX6_raise_69, dX6_raise_72, dX6_raise_75⟩⟩
        · replace hf := gifn h4 hf
          refine g_tabD (tgt := 76) [1, 2, 3, 4] hC dX6_raise_1 (List.forall_mem_cons.mpr ⟨h1, List.forall_mem_cons.mpr ⟨h2, List.forall_mem_cons.mpr ⟨h3, List.forall_mem_cons.mpr ⟨h4, fun _ h => absurd h List.not_mem_nil⟩⟩⟩⟩) (by decide) rfl ?_
          exact kv _ _ _ _ _ _ _ (grev hf) hI rfl ⟨Nat.le_of_ble_eq_true rfl, Nat.le_of_ble_eq_true rfl⟩ dX6_raise_76
theorem dX0_copyFrom_0 : decode cX0_copyFrom 0 = .ok (.aload_n 1, 1) := by decide +kernel
theorem dX0_copyFrom_1 : decode cX0_copyFrom 1 = .ok (.getfield 9, 3) := by decide +kernel
theorem dX0_copyFrom_4 : decode cX0_copyFrom 4 = .ok (.iconst 0, 1) := by decide +kernel
theorem dX0_copyFrom_5 : decode cX0_copyFrom 5 = .ok (.aload_n 0, 1) := by decide +kernel
theorem dX0_copyFrom_6 : decode cX0_copyFrom 6 = .ok (.getfield 9, 3) := by decide +kernel
theorem dX0_copyFrom_9 : decode cX0_copyFrom 9 = .ok (.iconst 0, 1) := by decide +kernel
theorem dX0_copyFrom_10 : decode cX0_copyFrom 10 = .ok (.bipush 75, 2) := by decide +kernel
theorem dX0_copyFrom_12 : decode cX0_copyFrom 12 = .ok (.invokestatic 34, 3) := by decide +kernel
theorem dX0_copyFrom_15 : decode cX0_copyFrom 15 = .ok (.aload_n 1, 1) := by decide +kernel
theorem dX0_copyFrom_16 : decode cX0_copyFrom 16 = .ok (.getfield 15, 3) := by decide +kernel
theorem dX0_copyFrom_19 : decode cX0_copyFrom 19 = .ok (.iconst 0, 1) := by decide +kernel
theorem dX0_copyFrom_20 : decode cX0_copyFrom 20 = .ok (.aload_n 0, 1) := by decide +kernel
theorem dX0_copyFrom_21 : decode cX0_copyFrom 21 = .ok (.getfield 15, 3) := by decide +kernel
theorem dX0_copyFrom_24 : decode cX0_copyFrom 24 = .ok (.iconst 0, 1) := by decide +kernel
theorem dX0_copyFrom_25 : decode cX0_copyFrom 25 = .ok (.bipush 75, 2) := by decide +kernel
theorem dX0_copyFrom_27 : decode cX0_copyFrom 27 = .ok (.invokestatic 34, 3) := by decide +kernel
theorem dX0_copyFrom_30 : decode cX0_copyFrom 30 = .ok (.aload_n 1, 1) := by decide +kernel
theorem dX0_copyFrom_31 : decode cX0_copyFrom 31 = .ok (.getfield 18, 3) := by decide +kernel
theorem dX0_copyFrom_34 : decode cX0_copyFrom 34 = .ok (.iconst 0, 1) := by decide +kernel
theorem dX0_copyFrom_35 : decode cX0_copyFrom 35 = .ok (.aload_n 0, 1) := by decide +kernel
theorem dX0_copyFrom_36 : decode cX0_copyFrom 36 = .ok (.getfield 18, 3) := by decide +kernel
theorem dX0_copyFrom_39 : decode cX0_copyFrom 39 = .ok (.iconst 0, 1) := by decide +kernel
theorem dX0_copyFrom_40 : decode cX0_copyFrom 40 = .ok (.bipush 75, 2) := by decide +kernel
theorem dX0_copyFrom_42 : decode cX0_copyFrom 42 = .ok (.invokestatic 34, 3) := by decide +kernel
theorem dX0_copyFrom_45 : decode cX0_copyFrom 45 = .ok (.aload_n 1, 1) := by decide +kernel
theorem dX0_copyFrom_46 : decode cX0_copyFrom 46 = .ok (.getfield 21, 3) := by decide +kernel
theorem dX0_copyFrom_49 : decode cX0_copyFrom 49 = .ok (.iconst 0, 1) := by decide +kernel
theorem dX0_copyFrom_50 : decode cX0_copyFrom 50 = .ok (.aload_n 0, 1) := by decide +kernel
theorem dX0_copyFrom_51 : decode cX0_copyFrom 51 = .ok (.getfield 21, 3) := by decide +kernel
theorem dX0_copyFrom_54 : decode cX0_copyFrom 54 = .ok (.iconst 0, 1) := by decide +kernel
theorem dX0_copyFrom_55 : decode cX0_copyFrom 55 = .ok (.bipush 75, 2) := by decide +kernel
theorem dX0_copyFrom_57 : decode cX0_copyFrom 57 = .ok (.invokestatic 34, 3) := by decide +kernel
theorem dX0_copyFrom_60 : decode cX0_copyFrom 60 = .ok (.aload_n 1, 1) := by decide +kernel
theorem dX0_copyFrom_61 : decode cX0_copyFrom 61 = .ok (.getfield 24, 3) := by decide +kernel
theorem dX0_copyFrom_64 : decode cX0_copyFrom 64 = .ok (.iconst 0, 1) := by decide +kernel
theorem dX0_copyFrom_65 : decode cX0_copyFrom 65 = .ok (.aload_n 0, 1) := by decide +kernel
theorem dX0_copyFrom_66 : decode cX0_copyFrom 66 = .ok (.getfield 24, 3) := by decide +kernel
theorem dX0_copyFrom_69 : decode cX0_copyFrom 69 = .ok (.iconst 0, 1) := by decide +kernel
theorem dX0_copyFrom_70 : decode cX0_copyFrom 70 = .ok (.bipush 75, 2) := by decide +kernel
theorem dX0_copyFrom_72 : decode cX0_copyFrom 72 = .ok (.invokestatic 34, 3) := by decide +kernel
theorem dX0_copyFrom_75 : decode cX0_copyFrom 75 = .ok (.aload_n 0, 1) := by decide +kernel
theorem dX0_copyFrom_76 : decode cX0_copyFrom 76 = .ok (.aload_n 1, 1) := by decide +kernel
theorem dX0_copyFrom_77 : decode cX0_copyFrom 77 = .ok (.getfield 30, 3) := by decide +kernel
theorem dX0_copyFrom_80 : decode cX0_copyFrom 80 = .ok (.putfield 30, 3) := by decide +kernel
theorem dX0_copyFrom_83 : decode cX0_copyFrom 83 = .ok (.return_, 1) := by decide +kernel
set_option maxRecDepth 100000 in
set_option maxHeartbeats 4000000 in
theorem C_X0_copyFrom (l : Launch) (E : gE) (x : gX) {o : Nat} {o1 : Nat} (ho : gOk o) (ho1 : gOk o1) {M : gM} {M' : gM} (hf : f_X0_copyFrom o o1 M = some M') : gM0 l E yX0_copyFrom (.code yX0_copyFrom cX0_copyFrom 2 none) (gR 1 60) M x [.ref (E.2.1 (o + 1)), .ref (E.2.1 (o1 + 1))] none M' := by
  refine gMet (by decide +kernel) (Nat.le_of_ble_eq_true rfl) ?_
  intro p e s m args below meth c H locs ls Q hC hl hI kr kv
  replace hC : gC p s m args c cX0_copyFrom 2 RX0 E := hC
  replace hl : lv_has ls 2 [(0, .ref (E.2.1 (o + 1))), (1, .ref (E.2.1 (o1 + 1)))] := hl
  have hx := hC.1
  have hb := hC.2.1
  unfold f_X0_copyFrom at hf
  refine lv_aload_n hx hb dX0_copyFrom_0 rfl (lv_at hl 1 rfl) ?_
  refine gt_X0_X0_ids hC hI ho1 dX0_copyFrom_1 ?_
  refine lv_iconst (v := 0) hx hb dX0_copyFrom_4 (by decide) ?_
  refine lv_aload_n hx hb dX0_copyFrom_5 rfl (lv_at hl 0 rfl) ?_
  refine gt_X0_X0_ids hC hI ho dX0_copyFrom_6 ?_
  refine lv_iconst (v := 0) hx hb dX0_copyFrom_9 (by decide) ?_
  refine lv_bipush (v := 75) hx hb dX0_copyFrom_10 (by decide) ?_
  obtain ⟨M1, eM1, hf⟩ := glet hf
  refine g_copyi hC hI (gIA_2 ho1) (gIA_2 ho) hl.1 w393 w395 w394 w17 (by decide) (by decide) (by decide) (by decide) (by decide) (Nat.le_of_ble_eq_true rfl) (Nat.le_of_ble_eq_true rfl) dX0_copyFrom_12 (fun H locs hI => ?_)
  replace hI := g_mem eM1 hI
  refine lv_aload_n hx hb dX0_copyFrom_15 rfl (lv_at hl 1 rfl) ?_
  refine gt_X0_X0_weights hC hI ho1 dX0_copyFrom_16 ?_
  refine lv_iconst (v := 0) hx hb dX0_copyFrom_19 (by decide) ?_
  refine lv_aload_n hx hb dX0_copyFrom_20 rfl (lv_at hl 0 rfl) ?_
  refine gt_X0_X0_weights hC hI ho dX0_copyFrom_21 ?_
  refine lv_iconst (v := 0) hx hb dX0_copyFrom_24 (by decide) ?_
  refine lv_bipush (v := 75) hx hb dX0_copyFrom_25 (by decide) ?_
  obtain ⟨M2, eM2, hf⟩ := glet hf
  refine g_copyi hC hI (gIA_3 ho1) (gIA_3 ho) hl.1 w393 w395 w394 w17 (by decide) (by decide) (by decide) (by decide) (by decide) (Nat.le_of_ble_eq_true rfl) (Nat.le_of_ble_eq_true rfl) dX0_copyFrom_27 (fun H locs hI => ?_)
  replace hI := g_mem eM2 hI
  refine lv_aload_n hx hb dX0_copyFrom_30 rfl (lv_at hl 1 rfl) ?_
  refine gt_X0_X0_keys hC hI ho1 dX0_copyFrom_31 ?_
  refine lv_iconst (v := 0) hx hb dX0_copyFrom_34 (by decide) ?_
  refine lv_aload_n hx hb dX0_copyFrom_35 rfl (lv_at hl 0 rfl) ?_
  refine gt_X0_X0_keys hC hI ho dX0_copyFrom_36 ?_
  refine lv_iconst (v := 0) hx hb dX0_copyFrom_39 (by decide) ?_
  refine lv_bipush (v := 75) hx hb dX0_copyFrom_40 (by decide) ?_
  obtain ⟨M3, eM3, hf⟩ := glet hf
  refine g_copyi hC hI (gIA_4 ho1) (gIA_4 ho) hl.1 w393 w395 w394 w17 (by decide) (by decide) (by decide) (by decide) (by decide) (Nat.le_of_ble_eq_true rfl) (Nat.le_of_ble_eq_true rfl) dX0_copyFrom_42 (fun H locs hI => ?_)
  replace hI := g_mem eM3 hI
  refine lv_aload_n hx hb dX0_copyFrom_45 rfl (lv_at hl 1 rfl) ?_
  refine gt_X0_X0_piles hC hI ho1 dX0_copyFrom_46 ?_
  refine lv_iconst (v := 0) hx hb dX0_copyFrom_49 (by decide) ?_
  refine lv_aload_n hx hb dX0_copyFrom_50 rfl (lv_at hl 0 rfl) ?_
  refine gt_X0_X0_piles hC hI ho dX0_copyFrom_51 ?_
  refine lv_iconst (v := 0) hx hb dX0_copyFrom_54 (by decide) ?_
  refine lv_bipush (v := 75) hx hb dX0_copyFrom_55 (by decide) ?_
  obtain ⟨M4, eM4, hf⟩ := glet hf
  refine g_copyi hC hI (gIA_5 ho1) (gIA_5 ho) hl.1 w393 w395 w394 w17 (by decide) (by decide) (by decide) (by decide) (by decide) (Nat.le_of_ble_eq_true rfl) (Nat.le_of_ble_eq_true rfl) dX0_copyFrom_57 (fun H locs hI => ?_)
  replace hI := g_mem eM4 hI
  refine lv_aload_n hx hb dX0_copyFrom_60 rfl (lv_at hl 1 rfl) ?_
  refine gt_X0_X0_levels hC hI ho1 dX0_copyFrom_61 ?_
  refine lv_iconst (v := 0) hx hb dX0_copyFrom_64 (by decide) ?_
  refine lv_aload_n hx hb dX0_copyFrom_65 rfl (lv_at hl 0 rfl) ?_
  refine gt_X0_X0_levels hC hI ho dX0_copyFrom_66 ?_
  refine lv_iconst (v := 0) hx hb dX0_copyFrom_69 (by decide) ?_
  refine lv_bipush (v := 75) hx hb dX0_copyFrom_70 (by decide) ?_
  obtain ⟨M5, eM5, hf⟩ := glet hf
  refine g_copyi hC hI (gIA_6 ho1) (gIA_6 ho) hl.1 w393 w395 w394 w17 (by decide) (by decide) (by decide) (by decide) (by decide) (Nat.le_of_ble_eq_true rfl) (Nat.le_of_ble_eq_true rfl) dX0_copyFrom_72 (fun H locs hI => ?_)
  replace hI := g_mem eM5 hI
  refine lv_aload_n hx hb dX0_copyFrom_75 rfl (lv_at hl 0 rfl) ?_
  refine lv_aload_n hx hb dX0_copyFrom_76 rfl (lv_at hl 1 rfl) ?_
  refine gt_X0_X0_count hC hI ho1 dX0_copyFrom_77 ?_
  obtain ⟨M6, eM6, hf⟩ := glet hf
  refine pt_X0_X0_count hC hI ho dX0_copyFrom_80 (fun H locs hI => ?_)
  replace hI := g_mem eM6 hI
  exact kv _ _ _ _ _ (grv hf) hI rfl dX0_copyFrom_83
theorem dX5_copyFrom_0 : decode cX5_copyFrom 0 = .ok (.aload_n 0, 1) := by decide +kernel
theorem dX5_copyFrom_1 : decode cX5_copyFrom 1 = .ok (.getfield 12, 3) := by decide +kernel
theorem dX5_copyFrom_4 : decode cX5_copyFrom 4 = .ok (.aload_n 1, 1) := by decide +kernel
theorem dX5_copyFrom_5 : decode cX5_copyFrom 5 = .ok (.getfield 12, 3) := by decide +kernel
theorem dX5_copyFrom_8 : decode cX5_copyFrom 8 = .ok (.invokevirtual 50, 3) := by decide +kernel
theorem dX5_copyFrom_11 : decode cX5_copyFrom 11 = .ok (.aload_n 1, 1) := by decide +kernel
theorem dX5_copyFrom_12 : decode cX5_copyFrom 12 = .ok (.getfield 18, 3) := by decide +kernel
theorem dX5_copyFrom_15 : decode cX5_copyFrom 15 = .ok (.iconst 0, 1) := by decide +kernel
theorem dX5_copyFrom_16 : decode cX5_copyFrom 16 = .ok (.aload_n 0, 1) := by decide +kernel
theorem dX5_copyFrom_17 : decode cX5_copyFrom 17 = .ok (.getfield 18, 3) := by decide +kernel
theorem dX5_copyFrom_20 : decode cX5_copyFrom 20 = .ok (.iconst 0, 1) := by decide +kernel
theorem dX5_copyFrom_21 : decode cX5_copyFrom 21 = .ok (.iconst 3, 1) := by decide +kernel
theorem dX5_copyFrom_22 : decode cX5_copyFrom 22 = .ok (.invokestatic 54, 3) := by decide +kernel
theorem dX5_copyFrom_25 : decode cX5_copyFrom 25 = .ok (.aload_n 1, 1) := by decide +kernel
theorem dX5_copyFrom_26 : decode cX5_copyFrom 26 = .ok (.getfield 22, 3) := by decide +kernel
theorem dX5_copyFrom_29 : decode cX5_copyFrom 29 = .ok (.iconst 0, 1) := by decide +kernel
theorem dX5_copyFrom_30 : decode cX5_copyFrom 30 = .ok (.aload_n 0, 1) := by decide +kernel
theorem dX5_copyFrom_31 : decode cX5_copyFrom 31 = .ok (.getfield 22, 3) := by decide +kernel
theorem dX5_copyFrom_34 : decode cX5_copyFrom 34 = .ok (.iconst 0, 1) := by decide +kernel
theorem dX5_copyFrom_35 : decode cX5_copyFrom 35 = .ok (.iconst 3, 1) := by decide +kernel
theorem dX5_copyFrom_36 : decode cX5_copyFrom 36 = .ok (.invokestatic 54, 3) := by decide +kernel
theorem dX5_copyFrom_39 : decode cX5_copyFrom 39 = .ok (.aload_n 1, 1) := by decide +kernel
theorem dX5_copyFrom_40 : decode cX5_copyFrom 40 = .ok (.getfield 25, 3) := by decide +kernel
theorem dX5_copyFrom_43 : decode cX5_copyFrom 43 = .ok (.iconst 0, 1) := by decide +kernel
theorem dX5_copyFrom_44 : decode cX5_copyFrom 44 = .ok (.aload_n 0, 1) := by decide +kernel
theorem dX5_copyFrom_45 : decode cX5_copyFrom 45 = .ok (.getfield 25, 3) := by decide +kernel
theorem dX5_copyFrom_48 : decode cX5_copyFrom 48 = .ok (.iconst 0, 1) := by decide +kernel
theorem dX5_copyFrom_49 : decode cX5_copyFrom 49 = .ok (.iconst 3, 1) := by decide +kernel
theorem dX5_copyFrom_50 : decode cX5_copyFrom 50 = .ok (.invokestatic 54, 3) := by decide +kernel
theorem dX5_copyFrom_53 : decode cX5_copyFrom 53 = .ok (.aload_n 1, 1) := by decide +kernel
theorem dX5_copyFrom_54 : decode cX5_copyFrom 54 = .ok (.getfield 28, 3) := by decide +kernel
theorem dX5_copyFrom_57 : decode cX5_copyFrom 57 = .ok (.iconst 0, 1) := by decide +kernel
theorem dX5_copyFrom_58 : decode cX5_copyFrom 58 = .ok (.aload_n 0, 1) := by decide +kernel
theorem dX5_copyFrom_59 : decode cX5_copyFrom 59 = .ok (.getfield 28, 3) := by decide +kernel
theorem dX5_copyFrom_62 : decode cX5_copyFrom 62 = .ok (.iconst 0, 1) := by decide +kernel
theorem dX5_copyFrom_63 : decode cX5_copyFrom 63 = .ok (.iconst 3, 1) := by decide +kernel
theorem dX5_copyFrom_64 : decode cX5_copyFrom 64 = .ok (.invokestatic 54, 3) := by decide +kernel
theorem dX5_copyFrom_67 : decode cX5_copyFrom 67 = .ok (.aload_n 0, 1) := by decide +kernel
theorem dX5_copyFrom_68 : decode cX5_copyFrom 68 = .ok (.aload_n 1, 1) := by decide +kernel
theorem dX5_copyFrom_69 : decode cX5_copyFrom 69 = .ok (.getfield 31, 3) := by decide +kernel
theorem dX5_copyFrom_72 : decode cX5_copyFrom 72 = .ok (.putfield 31, 3) := by decide +kernel
theorem dX5_copyFrom_75 : decode cX5_copyFrom 75 = .ok (.aload_n 0, 1) := by decide +kernel
theorem dX5_copyFrom_76 : decode cX5_copyFrom 76 = .ok (.aload_n 1, 1) := by decide +kernel
theorem dX5_copyFrom_77 : decode cX5_copyFrom 77 = .ok (.getfield 35, 3) := by decide +kernel
theorem dX5_copyFrom_80 : decode cX5_copyFrom 80 = .ok (.putfield 35, 3) := by decide +kernel
theorem dX5_copyFrom_83 : decode cX5_copyFrom 83 = .ok (.aload_n 0, 1) := by decide +kernel
theorem dX5_copyFrom_84 : decode cX5_copyFrom 84 = .ok (.aload_n 1, 1) := by decide +kernel
theorem dX5_copyFrom_85 : decode cX5_copyFrom 85 = .ok (.getfield 38, 3) := by decide +kernel
theorem dX5_copyFrom_88 : decode cX5_copyFrom 88 = .ok (.putfield 38, 3) := by decide +kernel
theorem dX5_copyFrom_91 : decode cX5_copyFrom 91 = .ok (.aload_n 0, 1) := by decide +kernel
theorem dX5_copyFrom_92 : decode cX5_copyFrom 92 = .ok (.aload_n 1, 1) := by decide +kernel
theorem dX5_copyFrom_93 : decode cX5_copyFrom 93 = .ok (.getfield 41, 3) := by decide +kernel
theorem dX5_copyFrom_96 : decode cX5_copyFrom 96 = .ok (.putfield 41, 3) := by decide +kernel
theorem dX5_copyFrom_99 : decode cX5_copyFrom 99 = .ok (.aload_n 0, 1) := by decide +kernel
theorem dX5_copyFrom_100 : decode cX5_copyFrom 100 = .ok (.aload_n 1, 1) := by decide +kernel
theorem dX5_copyFrom_101 : decode cX5_copyFrom 101 = .ok (.getfield 44, 3) := by decide +kernel
theorem dX5_copyFrom_104 : decode cX5_copyFrom 104 = .ok (.putfield 44, 3) := by decide +kernel
theorem dX5_copyFrom_107 : decode cX5_copyFrom 107 = .ok (.aload_n 0, 1) := by decide +kernel
theorem dX5_copyFrom_108 : decode cX5_copyFrom 108 = .ok (.aload_n 1, 1) := by decide +kernel
theorem dX5_copyFrom_109 : decode cX5_copyFrom 109 = .ok (.getfield 47, 3) := by decide +kernel
theorem dX5_copyFrom_112 : decode cX5_copyFrom 112 = .ok (.putfield 47, 3) := by decide +kernel
theorem dX5_copyFrom_115 : decode cX5_copyFrom 115 = .ok (.return_, 1) := by decide +kernel
set_option maxRecDepth 100000 in
set_option maxHeartbeats 4000000 in
theorem C_X5_copyFrom (l : Launch) (E : gE) (x : gX) {o : Nat} {o1 : Nat} (ho : gOk o) (ho1 : gOk o1) {M : gM} {M' : gM} (hf : f_X5_copyFrom o o1 M = some M') : gM0 l E yX5_copyFrom (.code yX5_copyFrom cX5_copyFrom 2 none) (gR 2 81) M x [.ref (E.2.1 o), .ref (E.2.1 o1)] none M' := by
  refine gMet (by decide +kernel) (Nat.le_of_ble_eq_true rfl) ?_
  intro p e s m args below meth c H locs ls Q hC hl hI kr kv
  replace hC : gC p s m args c cX5_copyFrom 2 RX5 E := hC
  replace hl : lv_has ls 2 [(0, .ref (E.2.1 o)), (1, .ref (E.2.1 o1))] := hl
  have hx := hC.1
  have hb := hC.2.1
  unfold f_X5_copyFrom at hf
  refine lv_aload_n hx hb dX5_copyFrom_0 rfl (lv_at hl 0 rfl) ?_
  refine gt_X5_X5_cargo hC hI ho dX5_copyFrom_1 ?_
  refine lv_aload_n hx hb dX5_copyFrom_4 rfl (lv_at hl 1 rfl) ?_
  refine gt_X5_X5_cargo hC hI ho1 dX5_copyFrom_5 ?_
  obtain ⟨r1, hr2, hf⟩ := gbind hf
  have hr2 := C_X0_copyFrom l E x ho ho1 hr2
  refine g_callVv (rest := []) hC hI hr2 Y_X0_copyFrom V_X0_copyFrom w389 (rcv_X0 hC hI ho) ⟨rfl, rfl⟩ ⟨Nat.le_of_ble_eq_true rfl, Nat.le_of_ble_eq_true rfl⟩ rfl hl.1 rfl (Nat.le_of_ble_eq_true rfl) dX5_copyFrom_8 ⟨Nat.le_of_ble_eq_true rfl, Nat.le_of_ble_eq_true rfl⟩ (fun H locs hI => ?_)
  refine lv_aload_n hx hb dX5_copyFrom_11 rfl (lv_at hl 1 rfl) ?_
  refine gt_X5_X5_draughts hC hI ho1 dX5_copyFrom_12 ?_
  refine lv_iconst (v := 0) hx hb dX5_copyFrom_15 (by decide) ?_
  refine lv_aload_n hx hb dX5_copyFrom_16 rfl (lv_at hl 0 rfl) ?_
  refine gt_X5_X5_draughts hC hI ho dX5_copyFrom_17 ?_
  refine lv_iconst (v := 0) hx hb dX5_copyFrom_20 (by decide) ?_
  refine lv_iconst (v := 3) hx hb dX5_copyFrom_21 (by decide) ?_
  obtain ⟨M3, eM3, hf⟩ := glet hf
  refine g_copyi hC hI (gIA_8 ho1) (gIA_8 ho) hl.1 w396 w395 w394 w17 (by decide) (by decide) (by decide) (by decide) (by decide) (Nat.le_of_ble_eq_true rfl) (Nat.le_of_ble_eq_true rfl) dX5_copyFrom_22 (fun H locs hI => ?_)
  replace hI := g_mem eM3 hI
  refine lv_aload_n hx hb dX5_copyFrom_25 rfl (lv_at hl 1 rfl) ?_
  refine gt_X5_X5_dueHours hC hI ho1 dX5_copyFrom_26 ?_
  refine lv_iconst (v := 0) hx hb dX5_copyFrom_29 (by decide) ?_
  refine lv_aload_n hx hb dX5_copyFrom_30 rfl (lv_at hl 0 rfl) ?_
  refine gt_X5_X5_dueHours hC hI ho dX5_copyFrom_31 ?_
  refine lv_iconst (v := 0) hx hb dX5_copyFrom_34 (by decide) ?_
  refine lv_iconst (v := 3) hx hb dX5_copyFrom_35 (by decide) ?_
  obtain ⟨M4, eM4, hf⟩ := glet hf
  refine g_copyi hC hI (gIA_9 ho1) (gIA_9 ho) hl.1 w396 w395 w394 w17 (by decide) (by decide) (by decide) (by decide) (by decide) (Nat.le_of_ble_eq_true rfl) (Nat.le_of_ble_eq_true rfl) dX5_copyFrom_36 (fun H locs hI => ?_)
  replace hI := g_mem eM4 hI
  refine lv_aload_n hx hb dX5_copyFrom_39 rfl (lv_at hl 1 rfl) ?_
  refine gt_X5_X5_wrongs hC hI ho1 dX5_copyFrom_40 ?_
  refine lv_iconst (v := 0) hx hb dX5_copyFrom_43 (by decide) ?_
  refine lv_aload_n hx hb dX5_copyFrom_44 rfl (lv_at hl 0 rfl) ?_
  refine gt_X5_X5_wrongs hC hI ho dX5_copyFrom_45 ?_
  refine lv_iconst (v := 0) hx hb dX5_copyFrom_48 (by decide) ?_
  refine lv_iconst (v := 3) hx hb dX5_copyFrom_49 (by decide) ?_
  obtain ⟨M5, eM5, hf⟩ := glet hf
  refine g_copyi hC hI (gIA_10 ho1) (gIA_10 ho) hl.1 w396 w395 w394 w17 (by decide) (by decide) (by decide) (by decide) (by decide) (Nat.le_of_ble_eq_true rfl) (Nat.le_of_ble_eq_true rfl) dX5_copyFrom_50 (fun H locs hI => ?_)
  replace hI := g_mem eM5 hI
  refine lv_aload_n hx hb dX5_copyFrom_53 rfl (lv_at hl 1 rfl) ?_
  refine gt_X5_X5_locks hC hI ho1 dX5_copyFrom_54 ?_
  refine lv_iconst (v := 0) hx hb dX5_copyFrom_57 (by decide) ?_
  refine lv_aload_n hx hb dX5_copyFrom_58 rfl (lv_at hl 0 rfl) ?_
  refine gt_X5_X5_locks hC hI ho dX5_copyFrom_59 ?_
  refine lv_iconst (v := 0) hx hb dX5_copyFrom_62 (by decide) ?_
  refine lv_iconst (v := 3) hx hb dX5_copyFrom_63 (by decide) ?_
  obtain ⟨M6, eM6, hf⟩ := glet hf
  refine g_copyi hC hI (gIA_11 ho1) (gIA_11 ho) hl.1 w396 w395 w394 w17 (by decide) (by decide) (by decide) (by decide) (by decide) (Nat.le_of_ble_eq_true rfl) (Nat.le_of_ble_eq_true rfl) dX5_copyFrom_64 (fun H locs hI => ?_)
  replace hI := g_mem eM6 hI
  refine lv_aload_n hx hb dX5_copyFrom_67 rfl (lv_at hl 0 rfl) ?_
  refine lv_aload_n hx hb dX5_copyFrom_68 rfl (lv_at hl 1 rfl) ?_
  refine gt_X5_X5_hour hC hI ho1 dX5_copyFrom_69 ?_
  obtain ⟨M7, eM7, hf⟩ := glet hf
  refine pt_X5_X5_hour hC hI ho dX5_copyFrom_72 (fun H locs hI => ?_)
  replace hI := g_mem eM7 hI
  refine lv_aload_n hx hb dX5_copyFrom_75 rfl (lv_at hl 0 rfl) ?_
  refine lv_aload_n hx hb dX5_copyFrom_76 rfl (lv_at hl 1 rfl) ?_
  refine gt_X5_X5_fees hC hI ho1 dX5_copyFrom_77 ?_
  obtain ⟨M8, eM8, hf⟩ := glet hf
  refine pt_X5_X5_fees hC hI ho dX5_copyFrom_80 (fun H locs hI => ?_)
  replace hI := g_mem eM8 hI
  refine lv_aload_n hx hb dX5_copyFrom_83 rfl (lv_at hl 0 rfl) ?_
  refine lv_aload_n hx hb dX5_copyFrom_84 rfl (lv_at hl 1 rfl) ?_
  refine gt_X5_X5_nextId hC hI ho1 dX5_copyFrom_85 ?_
  obtain ⟨M9, eM9, hf⟩ := glet hf
  refine pt_X5_X5_nextId hC hI ho dX5_copyFrom_88 (fun H locs hI => ?_)
  replace hI := g_mem eM9 hI
  refine lv_aload_n hx hb dX5_copyFrom_91 rfl (lv_at hl 0 rfl) ?_
  refine lv_aload_n hx hb dX5_copyFrom_92 rfl (lv_at hl 1 rfl) ?_
  refine gt_X5_X5_cleared hC hI ho1 dX5_copyFrom_93 ?_
  obtain ⟨M10, eM10, hf⟩ := glet hf
  refine pt_X5_X5_cleared hC hI ho dX5_copyFrom_96 (fun H locs hI => ?_)
  replace hI := g_mem eM10 hI
  refine lv_aload_n hx hb dX5_copyFrom_99 rfl (lv_at hl 0 rfl) ?_
  refine lv_aload_n hx hb dX5_copyFrom_100 rfl (lv_at hl 1 rfl) ?_
  refine gt_X5_X5_delivered hC hI ho1 dX5_copyFrom_101 ?_
  obtain ⟨M11, eM11, hf⟩ := glet hf
  refine pt_X5_X5_delivered hC hI ho dX5_copyFrom_104 (fun H locs hI => ?_)
  replace hI := g_mem eM11 hI
  refine lv_aload_n hx hb dX5_copyFrom_107 rfl (lv_at hl 0 rfl) ?_
  refine lv_aload_n hx hb dX5_copyFrom_108 rfl (lv_at hl 1 rfl) ?_
  refine gt_X5_X5_wrong hC hI ho1 dX5_copyFrom_109 ?_
  obtain ⟨M12, eM12, hf⟩ := glet hf
  refine pt_X5_X5_wrong hC hI ho dX5_copyFrom_112 (fun H locs hI => ?_)
  replace hI := g_mem eM12 hI
  exact kv _ _ _ _ _ (grv hf) hI rfl dX5_copyFrom_115
theorem dX1_push_0 : decode cX1_push 0 = .ok (.aload_n 0, 1) := by decide +kernel
theorem dX1_push_1 : decode cX1_push 1 = .ok (.aload_n 0, 1) := by decide +kernel
theorem dX1_push_2 : decode cX1_push 2 = .ok (.getfield 17, 3) := by decide +kernel
theorem dX1_push_5 : decode cX1_push 5 = .ok (.invokevirtual 25, 3) := by decide +kernel
theorem dX1_push_8 : decode cX1_push 8 = .ok (.astore_n 2, 1) := by decide +kernel
theorem dX1_push_9 : decode cX1_push 9 = .ok (.aload_n 2, 1) := by decide +kernel
theorem dX1_push_10 : decode cX1_push 10 = .ok (.ifnonnull 4, 3) := by decide +kernel
theorem dX1_push_13 : decode cX1_push 13 = .ok (.return_, 1) := by decide +kernel
theorem dX1_push_14 : decode cX1_push 14 = .ok (.aload_n 2, 1) := by decide +kernel
theorem dX1_push_15 : decode cX1_push 15 = .ok (.aload_n 1, 1) := by decide +kernel
theorem dX1_push_16 : decode cX1_push 16 = .ok (.invokevirtual 29, 3) := by decide +kernel
theorem dX1_push_19 : decode cX1_push 19 = .ok (.aload_n 0, 1) := by decide +kernel
theorem dX1_push_20 : decode cX1_push 20 = .ok (.aload_n 0, 1) := by decide +kernel
theorem dX1_push_21 : decode cX1_push 21 = .ok (.getfield 17, 3) := by decide +kernel
theorem dX1_push_24 : decode cX1_push 24 = .ok (.iconst 1, 1) := by decide +kernel
theorem dX1_push_25 : decode cX1_push 25 = .ok (.iadd, 1) := by decide +kernel
theorem dX1_push_26 : decode cX1_push 26 = .ok (.bipush 8, 2) := by decide +kernel
theorem dX1_push_28 : decode cX1_push 28 = .ok (.irem, 1) := by decide +kernel
theorem dX1_push_29 : decode cX1_push 29 = .ok (.putfield 17, 3) := by decide +kernel
theorem dX1_push_32 : decode cX1_push 32 = .ok (.aload_n 0, 1) := by decide +kernel
theorem dX1_push_33 : decode cX1_push 33 = .ok (.getfield 21, 3) := by decide +kernel
theorem dX1_push_36 : decode cX1_push 36 = .ok (.bipush 8, 2) := by decide +kernel
theorem dX1_push_38 : decode cX1_push 38 = .ok (.if_icmp .ge 13, 3) := by decide +kernel
theorem dX1_push_41 : decode cX1_push 41 = .ok (.aload_n 0, 1) := by decide +kernel
theorem dX1_push_42 : decode cX1_push 42 = .ok (.dup, 1) := by decide +kernel
theorem dX1_push_43 : decode cX1_push 43 = .ok (.getfield 21, 3) := by decide +kernel
theorem dX1_push_46 : decode cX1_push 46 = .ok (.iconst 1, 1) := by decide +kernel
theorem dX1_push_47 : decode cX1_push 47 = .ok (.iadd, 1) := by decide +kernel
theorem dX1_push_48 : decode cX1_push 48 = .ok (.putfield 21, 3) := by decide +kernel
theorem dX1_push_51 : decode cX1_push 51 = .ok (.return_, 1) := by decide +kernel
set_option maxRecDepth 100000 in
set_option maxHeartbeats 4000000 in
theorem C_X1_push (l : Launch) (E : gE) (x : gX) {o1 : Nat} (ho1 : gOk o1) {M : gM} {M' : gM} (hf : f_X1_push o1 M = some M') : gM0 l E yX1_push (.code yX1_push cX1_push 3 none) (gR 3 102) M x [.ref (E.2.1 133), .ref (E.2.1 o1)] none M' := by
  refine gMet (by decide +kernel) (Nat.le_of_ble_eq_true rfl) ?_
  intro p e s m args below meth c H locs ls Q hC hl hI kr kv
  replace hC : gC p s m args c cX1_push 3 RX1 E := hC
  replace hl : lv_has ls 3 [(0, .ref (E.2.1 133)), (1, .ref (E.2.1 o1))] := hl
  have hx := hC.1
  have hb := hC.2.1
  unfold f_X1_push at hf
  refine lv_aload_n hx hb dX1_push_0 rfl (lv_at hl 0 rfl) ?_
  refine lv_aload_n hx hb dX1_push_1 rfl (lv_at hl 0 rfl) ?_
  refine gt_X1_X1_next hC hI dX1_push_2 ?_
  obtain ⟨h1, hf⟩ := gifN hf
  refine g_callVr (rest := []) hC hI (C_X1_stateAt l E x h1) Y_X1_stateAt V_X1_stateAt w381 (rcv_X1 hC hI) ⟨rfl, rfl⟩ ⟨Nat.le_of_ble_eq_true rfl, Nat.le_of_ble_eq_true rfl⟩ rfl hl.1 rfl (Nat.le_of_ble_eq_true rfl) dX1_push_5 ⟨Nat.le_of_ble_eq_true rfl, Nat.le_of_ble_eq_true rfl⟩ (fun H locs hI => ?_)
  refine lv_astore_n (lv' := [(2, .ref (E.2.1 (36 + 12 * (M 133 1).toNatClampNeg))), (0, .ref (E.2.1 133)), (1, .ref (E.2.1 o1))]) hx hb dX1_push_8 rfl hl (by decide) rfl (fun ls hl => ?_)
  refine lv_aload_n hx hb dX1_push_9 rfl (lv_at hl 0 rfl) ?_
  refine lv_ifnonnull (tgt := 14) hx hb dX1_push_10 rfl ?_
  refine lv_aload_n hx hb dX1_push_14 rfl (lv_at hl 0 rfl) ?_
  refine lv_aload_n hx hb dX1_push_15 rfl (lv_at hl 2 rfl) ?_
  obtain ⟨r2, hr3, hf⟩ := gbind hf
  have hr3 := C_X5_copyFrom l E x (gOk_h (gin_lt h1)) ho1 hr3
  refine g_callVv (rest := []) hC hI hr3 Y_X5_copyFrom V_X5_copyFrom w385 (rcv_X5 hC hI (gOk_h (gin_lt h1))) ⟨rfl, rfl⟩ ⟨Nat.le_of_ble_eq_true rfl, Nat.le_of_ble_eq_true rfl⟩ rfl hl.1 rfl (Nat.le_of_ble_eq_true rfl) dX1_push_16 ⟨Nat.le_of_ble_eq_true rfl, Nat.le_of_ble_eq_true rfl⟩ (fun H locs hI => ?_)
  refine lv_aload_n hx hb dX1_push_19 rfl (lv_at hl 1 rfl) ?_
  refine lv_aload_n hx hb dX1_push_20 rfl (lv_at hl 1 rfl) ?_
  refine gt_X1_X1_next hC hI dX1_push_21 ?_
  refine lv_iconst (v := 1) hx hb dX1_push_24 (by decide) ?_
  refine lv_iadd hx hb dX1_push_25 ?_
  refine lv_bipush (v := 8) hx hb dX1_push_26 (by decide) ?_
  refine lv_irem hx hb dX1_push_28 (by decide) ?_
  obtain ⟨M4, eM4, hf⟩ := glet hf
  refine pt_X1_X1_next hC hI dX1_push_29 (fun H locs hI => ?_)
  replace hI := g_mem eM4 hI
  refine lv_aload_n hx hb dX1_push_32 rfl (lv_at hl 1 rfl) ?_
  refine gt_X1_X1_count hC hI dX1_push_33 ?_
  refine lv_bipush (v := 8) hx hb dX1_push_36 (by decide) ?_
  refine lv_icmp_ge (tgt := 51) hx hb dX1_push_38 rfl (fun h5 => ?_) (fun h5 => ?_)
  · replace hf := gif h5 hf
    exact kv _ _ _ _ _ (grv hf) hI rfl dX1_push_51
  · replace hf := gifn h5 hf
    refine lv_aload_n hx hb dX1_push_41 rfl (lv_at hl 1 rfl) ?_
    refine lv_dup hx hb dX1_push_42 rfl ?_
    refine gt_X1_X1_count hC hI dX1_push_43 ?_
    refine lv_iconst (v := 1) hx hb dX1_push_46 (by decide) ?_
    refine lv_iadd hx hb dX1_push_47 ?_
    obtain ⟨M6, eM6, hf⟩ := glet hf
    refine pt_X1_X1_count hC hI dX1_push_48 (fun H locs hI => ?_)
    replace hI := g_mem eM6 hI
    exact kv _ _ _ _ _ (grv hf) hI rfl dX1_push_51
theorem dX5_putShip_0 : decode cX5_putShip 0 = .ok (.iload_n 1, 1) := by decide +kernel
theorem dX5_putShip_1 : decode cX5_putShip 1 = .ok (.invokestatic 60, 3) := by decide +kernel
theorem dX5_putShip_4 : decode cX5_putShip 4 = .ok (.ifCond .eq 17, 3) := by decide +kernel
theorem dX5_putShip_7 : decode cX5_putShip 7 = .ok (.aload_n 0, 1) := by decide +kernel
theorem dX5_putShip_8 : decode cX5_putShip 8 = .ok (.getfield 18, 3) := by decide +kernel
theorem dX5_putShip_11 : decode cX5_putShip 11 = .ok (.iload_n 1, 1) := by decide +kernel
theorem dX5_putShip_12 : decode cX5_putShip 12 = .ok (.iload_n 2, 1) := by decide +kernel
theorem dX5_putShip_13 : decode cX5_putShip 13 = .ok (.iastore, 1) := by decide +kernel
theorem dX5_putShip_14 : decode cX5_putShip 14 = .ok (.aload_n 0, 1) := by decide +kernel
theorem dX5_putShip_15 : decode cX5_putShip 15 = .ok (.getfield 22, 3) := by decide +kernel
theorem dX5_putShip_18 : decode cX5_putShip 18 = .ok (.iload_n 1, 1) := by decide +kernel
theorem dX5_putShip_19 : decode cX5_putShip 19 = .ok (.iload_n 3, 1) := by decide +kernel
theorem dX5_putShip_20 : decode cX5_putShip 20 = .ok (.iastore, 1) := by decide +kernel
theorem dX5_putShip_21 : decode cX5_putShip 21 = .ok (.return_, 1) := by decide +kernel
set_option maxRecDepth 100000 in
set_option maxHeartbeats 4000000 in
theorem C_X5_putShip (l : Launch) (E : gE) (x : gX) {o : Nat} (ho : gOk o) {v1 v2 v3 : Int32} {M : gM} {M' : gM} (hf : f_X5_putShip o v1 v2 v3 M = some M') : gM0 l E yX5_putShip (.code yX5_putShip cX5_putShip 4 none) (gR 1 20) M x [.ref (E.2.1 o), .int v1, .int v2, .int v3] none M' := by
  refine gMet (by decide +kernel) (Nat.le_of_ble_eq_true rfl) ?_
  intro p e s m args below meth c H locs ls Q hC hl hI kr kv
  replace hC : gC p s m args c cX5_putShip 4 RX5 E := hC
  replace hl : lv_has ls 4 [(0, .ref (E.2.1 o)), (1, .int v1), (2, .int v2), (3, .int v3)] := hl
  have hx := hC.1
  have hb := hC.2.1
  unfold f_X5_putShip at hf
  refine lv_iload_n hx hb dX5_putShip_0 rfl (lv_at hl 1 rfl) ?_
  obtain ⟨r1, hr2, hf⟩ := gbind hf
  have hr2 := C_X6_isBerth l E x  hr2
  refine g_callSNi (rest := []) hC hI hr2 Y_X6_isBerth S_X6_isBerth (List.mem_of_getElem? (i := 6) rfl) ⟨rfl, rfl⟩ ⟨Nat.le_of_ble_eq_true rfl, Nat.le_of_ble_eq_true rfl⟩ rfl hl.1 rfl (Nat.le_of_ble_eq_true rfl) dX5_putShip_1 ⟨Nat.le_of_ble_eq_true rfl, Nat.le_of_ble_eq_true rfl⟩ (fun H locs hI => ?_)
  refine lv_if_eq (tgt := 21) hx hb dX5_putShip_4 rfl (fun h3 => ?_) (fun h3 => ?_)
  · replace hf := gif h3 hf
    exact kv _ _ _ _ _ (grv hf) hI rfl dX5_putShip_21
  · replace hf := gifn h3 hf
    refine lv_aload_n hx hb dX5_putShip_7 rfl (lv_at hl 0 rfl) ?_
    refine gt_X5_X5_draughts hC hI ho dX5_putShip_8 ?_
    refine lv_iload_n hx hb dX5_putShip_11 rfl (lv_at hl 1 rfl) ?_
    refine lv_iload_n hx hb dX5_putShip_12 rfl (lv_at hl 2 rfl) ?_
    obtain ⟨h4, hf⟩ := gifN hf
    obtain ⟨M5, eM5, hf⟩ := glet hf
    refine g_iast hC hI (k := v1.toNatClampNeg) (gIA_8 ho) h4 rfl dX5_putShip_13 (fun H locs hI => ?_)
    replace hI := g_mem eM5 hI
    refine lv_aload_n hx hb dX5_putShip_14 rfl (lv_at hl 0 rfl) ?_
    refine gt_X5_X5_dueHours hC hI ho dX5_putShip_15 ?_
    refine lv_iload_n hx hb dX5_putShip_18 rfl (lv_at hl 1 rfl) ?_
    refine lv_iload_n hx hb dX5_putShip_19 rfl (lv_at hl 3 rfl) ?_
    obtain ⟨h6, hf⟩ := gifN hf
    obtain ⟨M7, eM7, hf⟩ := glet hf
    refine g_iast hC hI (k := v1.toNatClampNeg) (gIA_9 ho) h6 rfl dX5_putShip_20 (fun H locs hI => ?_)
    replace hI := g_mem eM7 hI
    exact kv _ _ _ _ _ (grv hf) hI rfl dX5_putShip_21
theorem dX5_ships_0 : decode cX5_ships 0 = .ok (.iconst 0, 1) := by decide +kernel
theorem dX5_ships_1 : decode cX5_ships 1 = .ok (.istore_n 1, 1) := by decide +kernel
theorem dX5_ships_2 : decode cX5_ships 2 = .ok (.iconst 0, 1) := by decide +kernel
theorem dX5_ships_3 : decode cX5_ships 3 = .ok (.istore_n 2, 1) := by decide +kernel
theorem dX5_ships_4 : decode cX5_ships 4 = .ok (.iload_n 2, 1) := by decide +kernel
theorem dX5_ships_5 : decode cX5_ships 5 = .ok (.iconst 3, 1) := by decide +kernel
theorem dX5_ships_6 : decode cX5_ships 6 = .ok (.if_icmp .ge 20, 3) := by decide +kernel
theorem dX5_ships_9 : decode cX5_ships 9 = .ok (.aload_n 0, 1) := by decide +kernel
theorem dX5_ships_10 : decode cX5_ships 10 = .ok (.iload_n 2, 1) := by decide +kernel
theorem dX5_ships_11 : decode cX5_ships 11 = .ok (.invokevirtual 64, 3) := by decide +kernel
theorem dX5_ships_14 : decode cX5_ships 14 = .ok (.ifCond .eq 6, 3) := by decide +kernel
theorem dX5_ships_17 : decode cX5_ships 17 = .ok (.iinc 1 1, 3) := by decide +kernel
theorem dX5_ships_20 : decode cX5_ships 20 = .ok (.iinc 2 1, 3) := by decide +kernel
theorem dX5_ships_23 : decode cX5_ships 23 = .ok (.goto (-19), 3) := by decide +kernel
theorem dX5_ships_26 : decode cX5_ships 26 = .ok (.iload_n 1, 1) := by decide +kernel
theorem dX5_ships_27 : decode cX5_ships 27 = .ok (.ireturn, 1) := by decide +kernel
set_option maxRecDepth 100000 in
set_option maxHeartbeats 4000000 in
theorem C_X5_ships (l : Launch) (E : gE) (x : gX) {o : Nat} (ho : gOk o) {M : gM} {r : Int32} (hf : f_X5_ships o M = some r) : gM0 l E yX5_ships (.code yX5_ships cX5_ships 3 (some .int)) (gR 2 41) M x [.ref (E.2.1 o)] (some (.int r)) M := by
  refine gMet (by decide +kernel) (Nat.le_of_ble_eq_true rfl) ?_
  intro p e s m args below meth c H locs ls Q hC hl hI kr kv
  replace hC : gC p s m args c cX5_ships 3 RX5 E := hC
  replace hl : lv_has ls 3 [(0, .ref (E.2.1 o))] := hl
  have hx := hC.1
  have hb := hC.2.1
  have L4 : ∀ (n : Nat) (v2 : Int32) (v1 : Int32), f_X5_ships_L4 o M n v2 v1 = some r → ∀ (H : Heap) (locs : List Loc) (ls : Array Slot), gI E s M x H locs → lv_has ls 3 [(2, .int v2), (1, .int v1), (0, .ref (E.2.1 o))] → W p l e (gR 2 41) s m args below meth c H locs 0 0 Q (F0 m 4 ls []) := by
    intro  n
    induction n with
    | zero => intro v2 v1 hf; rw [f_X5_ships_L4] at hf; cases hf
    | succ n ih =>
      intro v2 v1 hf H locs ls hI hl
      rw [f_X5_ships_L4] at hf
      refine lv_iload_n hx hb dX5_ships_4 rfl (lv_at hl 0 rfl) ?_
      refine lv_iconst (v := 3) hx hb dX5_ships_5 (by decide) ?_
      refine lv_icmp_ge (tgt := 26) hx hb dX5_ships_6 rfl (fun h1 => ?_) (fun h1 => ?_)
      · replace hf := gif h1 hf
        refine lv_iload_n hx hb dX5_ships_26 rfl (lv_at hl 1 rfl) ?_
        exact kr _ _ _ _ _ _ (gri hf) hI ⟨.int, rfl, rfl⟩ dX5_ships_27
      · replace hf := gifn h1 hf
        refine lv_aload_n hx hb dX5_ships_9 rfl (lv_at hl 2 rfl) ?_
        refine lv_iload_n hx hb dX5_ships_10 rfl (lv_at hl 0 rfl) ?_
        obtain ⟨r2, hr3, hf⟩ := gbind hf
        have hr3 := C_X5_hasShip l E x ho hr3
        refine g_callVi (rest := []) hC hI hr3 Y_X5_hasShip V_X5_hasShip w251 (rcv_X5 hC hI ho) ⟨rfl, rfl⟩ ⟨Nat.le_of_ble_eq_true rfl, Nat.le_of_ble_eq_true rfl⟩ rfl hl.1 rfl (Nat.le_of_ble_eq_true rfl) dX5_ships_11 ⟨Nat.le_of_ble_eq_true rfl, Nat.le_of_ble_eq_true rfl⟩ (fun H locs hI => ?_)
        refine lv_if_eq (tgt := 20) hx hb dX5_ships_14 rfl (fun h4 => ?_) (fun h4 => ?_)
        · replace hf := gif h4 hf
          refine lv_iinc (k := 0) (v := v2 + 1) (lv' := [(2, .int (v2 + 1)), (1, .int v1), (0, .ref (E.2.1 o))]) hx hb dX5_ships_20 hl rfl rfl (by decide) rfl (fun ls hl => ?_)
          refine lv_goto (tgt := 4) hx hb dX5_ships_23 rfl ?_
          exact ih (v2 + 1) v1 hf _ _ _ hI (lv_sub hl [0, 1, 2] rfl)
        · replace hf := gifn h4 hf
          refine lv_iinc (k := 1) (v := v1 + 1) (lv' := [(1, .int (v1 + 1)), (2, .int v2), (0, .ref (E.2.1 o))]) hx hb dX5_ships_17 hl rfl rfl (by decide) rfl (fun ls hl => ?_)
          refine lv_iinc (k := 1) (v := v2 + 1) (lv' := [(2, .int (v2 + 1)), (1, .int (v1 + 1)), (0, .ref (E.2.1 o))]) hx hb dX5_ships_20 hl rfl rfl (by decide) rfl (fun ls hl => ?_)
          refine lv_goto (tgt := 4) hx hb dX5_ships_23 rfl ?_
          exact ih (v2 + 1) (v1 + 1) hf _ _ _ hI (lv_sub hl [0, 1, 2] rfl)
  unfold f_X5_ships at hf
  refine lv_iconst (v := 0) hx hb dX5_ships_0 (by decide) ?_
  refine lv_istore_n (lv' := [(1, .int 0), (0, .ref (E.2.1 o))]) hx hb dX5_ships_1 rfl hl (by decide) rfl (fun ls hl => ?_)
  refine lv_iconst (v := 0) hx hb dX5_ships_2 (by decide) ?_
  refine lv_istore_n (lv' := [(2, .int 0), (1, .int 0), (0, .ref (E.2.1 o))]) hx hb dX5_ships_3 rfl hl (by decide) rfl (fun ls hl => ?_)
  exact L4 gF 0 0 hf _ _ _ hI (lv_sub hl [0, 1, 2] rfl)
theorem dX6_moor_0 : decode cX6_moor 0 = .ok (.aload_n 0, 1) := by decide +kernel
theorem dX6_moor_1 : decode cX6_moor 1 = .ok (.getfield 10, 3) := by decide +kernel
theorem dX6_moor_4 : decode cX6_moor 4 = .ok (.iload_n 1, 1) := by decide +kernel
theorem dX6_moor_5 : decode cX6_moor 5 = .ok (.iload_n 2, 1) := by decide +kernel
theorem dX6_moor_6 : decode cX6_moor 6 = .ok (.iload_n 3, 1) := by decide +kernel
theorem dX6_moor_7 : decode cX6_moor 7 = .ok (.invokevirtual 61, 3) := by decide +kernel
theorem dX6_moor_10 : decode cX6_moor 10 = .ok (.invokestatic 65, 3) := by decide +kernel
theorem dX6_moor_13 : decode cX6_moor 13 = .ok (.aload_n 0, 1) := by decide +kernel
theorem dX6_moor_14 : decode cX6_moor 14 = .ok (.getfield 29, 3) := by decide +kernel
theorem dX6_moor_17 : decode cX6_moor 17 = .ok (.aload_n 0, 1) := by decide +kernel
theorem dX6_moor_18 : decode cX6_moor 18 = .ok (.getfield 10, 3) := by decide +kernel
theorem dX6_moor_21 : decode cX6_moor 21 = .ok (.invokevirtual 69, 3) := by decide +kernel
theorem dX6_moor_24 : decode cX6_moor 24 = .ok (.aload_n 0, 1) := by decide +kernel
theorem dX6_moor_25 : decode cX6_moor 25 = .ok (.getfield 10, 3) := by decide +kernel
theorem dX6_moor_28 : decode cX6_moor 28 = .ok (.iload_n 1, 1) := by decide +kernel
theorem dX6_moor_29 : decode cX6_moor 29 = .ok (.iload_n 2, 1) := by decide +kernel
theorem dX6_moor_30 : decode cX6_moor 30 = .ok (.iload_n 3, 1) := by decide +kernel
theorem dX6_moor_31 : decode cX6_moor 31 = .ok (.invokevirtual 73, 3) := by decide +kernel
theorem dX6_moor_34 : decode cX6_moor 34 = .ok (.aload_n 0, 1) := by decide +kernel
theorem dX6_moor_35 : decode cX6_moor 35 = .ok (.getfield 10, 3) := by decide +kernel
theorem dX6_moor_38 : decode cX6_moor 38 = .ok (.invokevirtual 77, 3) := by decide +kernel
theorem dX6_moor_41 : decode cX6_moor 41 = .ok (.ireturn, 1) := by decide +kernel
set_option maxRecDepth 100000 in
set_option maxHeartbeats 4000000 in
theorem C_X6_moor (l : Launch) (hst : l.stackTraces = false) (E : gE) (x : gX) {v1 v2 v3 : Int32} {M : gM} {oc : String ⊕ Int32} {M' : gM} (hf : f_X6_moor v1 v2 v3 M = some (oc, M')) : gX0 l E yX6_moor (.code yX6_moor cX6_moor 4 (some .int)) (gRX 7 124 1 6) M x [.ref (E.2.1 132), .int v1, .int v2, .int v3] (gO oc) M' 1 6 := by
  refine gMetX hst (by decide +kernel) (Nat.le_of_ble_eq_true rfl) ?_
  intro p e s m args below meth c H locs ls Q hC hl hI kr kv kx kt kd kf
  replace hC : gC p s m args c cX6_moor 4 RX6 E := hC
  replace hl : lv_has ls 4 [(0, .ref (E.2.1 132)), (1, .int v1), (2, .int v2), (3, .int v3)] := hl
  have hx := hC.1
  have hb := hC.2.1
  unfold f_X6_moor at hf
  refine lv_aload_n hx hb dX6_moor_0 rfl (lv_at hl 0 rfl) ?_
  refine gt_X6_X6_now hC hI dX6_moor_1 ?_
  refine lv_iload_n hx hb dX6_moor_4 rfl (lv_at hl 1 rfl) ?_
  refine lv_iload_n hx hb dX6_moor_5 rfl (lv_at hl 2 rfl) ?_
  refine lv_iload_n hx hb dX6_moor_6 rfl (lv_at hl 3 rfl) ?_
  obtain ⟨r1, hr2, hf⟩ := gbind hf
  have hr2 := C_X5_mooringFault l E x gOk_0 hr2
  refine g_callVi (rest := []) hC hI hr2 Y_X5_mooringFault V_X5_mooringFault w1127 (rcv_X5 hC hI gOk_0) ⟨rfl, rfl⟩ ⟨Nat.le_of_ble_eq_true rfl, Nat.le_of_ble_eq_true rfl⟩ rfl hl.1 rfl (Nat.le_of_ble_eq_true rfl) dX6_moor_7 ⟨Nat.le_of_ble_eq_true rfl, Nat.le_of_ble_eq_true rfl⟩ (fun H locs hI => ?_)
  rcases gseq hf with ⟨er, Mr, hr4, hf⟩ | ⟨_, M5, hr4, hf⟩
  · replace hr4 := C_X6_raise l hst E x  hr4
    exact g_xSx (rest := []) hC hI hr4 Y_X6_raise S_X6_raise w255 ⟨rfl, rfl⟩ ⟨Nat.le_of_ble_eq_true rfl, Nat.le_of_ble_eq_true rfl⟩ rfl hl.1 rfl (Nat.le_of_ble_eq_true rfl) dX6_moor_10 ⟨Nat.le_of_ble_eq_true rfl, Nat.le_of_ble_eq_true rfl⟩ (fun ce q H locs hI h1 h2 h3 => kx _ _ _ _ _ _ _ _ _ _ _ (gtx hf) hI h1 h2 h3 ⟨Nat.le_of_ble_eq_true rfl, Nat.le_of_ble_eq_true rfl⟩)
  replace hr4 := C_X6_raise l hst E x  hr4
  refine g_xSv (rest := []) hC hI hr4 Y_X6_raise S_X6_raise w255 ⟨rfl, rfl⟩ ⟨Nat.le_of_ble_eq_true rfl, Nat.le_of_ble_eq_true rfl⟩ rfl hl.1 rfl (Nat.le_of_ble_eq_true rfl) dX6_moor_10 ⟨Nat.le_of_ble_eq_true rfl, Nat.le_of_ble_eq_true rfl⟩ (fun H locs hI => ?_)
  refine lv_aload_n hx hb dX6_moor_13 rfl (lv_at hl 0 rfl) ?_
  refine gt_X6_X6_history hC hI dX6_moor_14 ?_
  refine lv_aload_n hx hb dX6_moor_17 rfl (lv_at hl 0 rfl) ?_
  refine gt_X6_X6_now hC hI dX6_moor_18 ?_
  obtain ⟨r6, hr7, hf⟩ := gbind hf
  have hr7 := C_X1_push l E x gOk_0 hr7
  refine g_callVv (rest := []) hC hI hr7 Y_X1_push V_X1_push w377 (rcv_X1 hC hI) ⟨rfl, rfl⟩ ⟨Nat.le_of_ble_eq_true rfl, Nat.le_of_ble_eq_true rfl⟩ rfl hl.1 rfl (Nat.le_of_ble_eq_true rfl) dX6_moor_21 ⟨Nat.le_of_ble_eq_true rfl, Nat.le_of_ble_eq_true rfl⟩ (fun H locs hI => ?_)
  refine lv_aload_n hx hb dX6_moor_24 rfl (lv_at hl 0 rfl) ?_
  refine gt_X6_X6_now hC hI dX6_moor_25 ?_
  refine lv_iload_n hx hb dX6_moor_28 rfl (lv_at hl 1 rfl) ?_
  refine lv_iload_n hx hb dX6_moor_29 rfl (lv_at hl 2 rfl) ?_
  refine lv_iload_n hx hb dX6_moor_30 rfl (lv_at hl 3 rfl) ?_
  obtain ⟨r8, hr9, hf⟩ := gbind hf
  have hr9 := C_X5_putShip l E x gOk_0 hr9
  refine g_callVv (rest := []) hC hI hr9 Y_X5_putShip V_X5_putShip w1128 (rcv_X5 hC hI gOk_0) ⟨rfl, rfl⟩ ⟨Nat.le_of_ble_eq_true rfl, Nat.le_of_ble_eq_true rfl⟩ rfl hl.1 rfl (Nat.le_of_ble_eq_true rfl) dX6_moor_31 ⟨Nat.le_of_ble_eq_true rfl, Nat.le_of_ble_eq_true rfl⟩ (fun H locs hI => ?_)
  refine lv_aload_n hx hb dX6_moor_34 rfl (lv_at hl 0 rfl) ?_
  refine gt_X6_X6_now hC hI dX6_moor_35 ?_
  obtain ⟨r10, hr11, hf⟩ := gbind hf
  have hr11 := C_X5_ships l E x gOk_0 hr11
  refine g_callVi (rest := []) hC hI hr11 Y_X5_ships V_X5_ships w534 (rcv_X5 hC hI gOk_0) ⟨rfl, rfl⟩ ⟨Nat.le_of_ble_eq_true rfl, Nat.le_of_ble_eq_true rfl⟩ rfl hl.1 rfl (Nat.le_of_ble_eq_true rfl) dX6_moor_38 ⟨Nat.le_of_ble_eq_true rfl, Nat.le_of_ble_eq_true rfl⟩ (fun H locs hI => ?_)
  exact kr _ _ _ _ _ _ _ _ (gre hf) hI ⟨.int, rfl, rfl⟩ ⟨Nat.le_of_ble_eq_true rfl, Nat.le_of_ble_eq_true rfl⟩ dX6_moor_41
theorem dX6_isStack_0 : decode cX6_isStack 0 = .ok (.iload_n 0, 1) := by decide +kernel
theorem dX6_isStack_1 : decode cX6_isStack 1 = .ok (.ifCond .lt 12, 3) := by decide +kernel
theorem dX6_isStack_4 : decode cX6_isStack 4 = .ok (.iload_n 0, 1) := by decide +kernel
theorem dX6_isStack_5 : decode cX6_isStack 5 = .ok (.iconst 4, 1) := by decide +kernel
theorem dX6_isStack_6 : decode cX6_isStack 6 = .ok (.if_icmp .ge 7, 3) := by decide +kernel
theorem dX6_isStack_9 : decode cX6_isStack 9 = .ok (.iconst 1, 1) := by decide +kernel
theorem dX6_isStack_10 : decode cX6_isStack 10 = .ok (.goto 4, 3) := by decide +kernel
theorem dX6_isStack_13 : decode cX6_isStack 13 = .ok (.iconst 0, 1) := by decide +kernel
theorem dX6_isStack_14 : decode cX6_isStack 14 = .ok (.ireturn, 1) := by decide +kernel
set_option maxRecDepth 100000 in
set_option maxHeartbeats 4000000 in
theorem C_X6_isStack (l : Launch) (E : gE) (x : gX) {v0 : Int32} {M : gM} {r : Bool} (hf : f_X6_isStack v0 M = some r) : gM0 l E yX6_isStack (.code yX6_isStack cX6_isStack 1 (some .boolean)) (gR 0 0) M x [.int v0] (some (.int (gb r))) M := by
  refine gMet (by decide +kernel) (Nat.le_of_ble_eq_true rfl) ?_
  intro p e s m args below meth c H locs ls Q hC hl hI kr kv
  replace hC : gC p s m args c cX6_isStack 1 RX6 E := hC
  replace hl : lv_has ls 1 [(0, .int v0)] := hl
  have hx := hC.1
  have hb := hC.2.1
  unfold f_X6_isStack at hf
  refine lv_iload_n hx hb dX6_isStack_0 rfl (lv_at hl 0 rfl) ?_
  refine lv_if_lt (tgt := 13) hx hb dX6_isStack_1 rfl (fun h1 => ?_) (fun h1 => ?_)
  · replace hf := gif h1 hf
    refine lv_iconst (v := 0) hx hb dX6_isStack_13 (by decide) ?_
    exact kr _ _ _ _ _ _ (grb0 hf) hI ⟨.boolean, rfl, rfl⟩ dX6_isStack_14
  · replace hf := gifn h1 hf
    refine lv_iload_n hx hb dX6_isStack_4 rfl (lv_at hl 0 rfl) ?_
    refine lv_iconst (v := 4) hx hb dX6_isStack_5 (by decide) ?_
    refine lv_icmp_ge (tgt := 13) hx hb dX6_isStack_6 rfl (fun h2 => ?_) (fun h2 => ?_)
    · replace hf := gif h2 hf
      refine lv_iconst (v := 0) hx hb dX6_isStack_13 (by decide) ?_
      exact kr _ _ _ _ _ _ (grb0 hf) hI ⟨.boolean, rfl, rfl⟩ dX6_isStack_14
    · replace hf := gifn h2 hf
      refine lv_iconst (v := 1) hx hb dX6_isStack_9 (by decide) ?_
      refine lv_goto (tgt := 14) hx hb dX6_isStack_10 rfl ?_
      exact kr _ _ _ _ _ _ (grb1 hf) hI ⟨.boolean, rfl, rfl⟩ dX6_isStack_14
theorem dX6_pileOf_0 : decode cX6_pileOf 0 = .ok (.iload_n 0, 1) := by decide +kernel
theorem dX6_pileOf_1 : decode cX6_pileOf 1 = .ok (.iconst 4, 1) := by decide +kernel
theorem dX6_pileOf_2 : decode cX6_pileOf 2 = .ok (.imul, 1) := by decide +kernel
theorem dX6_pileOf_3 : decode cX6_pileOf 3 = .ok (.iload_n 1, 1) := by decide +kernel
theorem dX6_pileOf_4 : decode cX6_pileOf 4 = .ok (.iadd, 1) := by decide +kernel
theorem dX6_pileOf_5 : decode cX6_pileOf 5 = .ok (.ireturn, 1) := by decide +kernel
set_option maxRecDepth 100000 in
set_option maxHeartbeats 4000000 in
theorem C_X6_pileOf (l : Launch) (E : gE) (x : gX) {v0 v1 : Int32} {M : gM} {r : Int32} (hf : f_X6_pileOf v0 v1 M = some r) : gM0 l E yX6_pileOf (.code yX6_pileOf cX6_pileOf 2 (some .int)) (gR 0 0) M x [.int v0, .int v1] (some (.int r)) M := by
  refine gMet (by decide +kernel) (Nat.le_of_ble_eq_true rfl) ?_
  intro p e s m args below meth c H locs ls Q hC hl hI kr kv
  replace hC : gC p s m args c cX6_pileOf 2 RX6 E := hC
  replace hl : lv_has ls 2 [(0, .int v0), (1, .int v1)] := hl
  have hx := hC.1
  have hb := hC.2.1
  unfold f_X6_pileOf at hf
  refine lv_iload_n hx hb dX6_pileOf_0 rfl (lv_at hl 0 rfl) ?_
  refine lv_iconst (v := 4) hx hb dX6_pileOf_1 (by decide) ?_
  refine lv_imul hx hb dX6_pileOf_2 ?_
  refine lv_iload_n hx hb dX6_pileOf_3 rfl (lv_at hl 1 rfl) ?_
  refine lv_iadd hx hb dX6_pileOf_4 ?_
  exact kr _ _ _ _ _ _ (gri hf) hI ⟨.int, rfl, rfl⟩ dX6_pileOf_5
theorem dX0_height_0 : decode cX0_height 0 = .ok (.iconst 0, 1) := by decide +kernel
theorem dX0_height_1 : decode cX0_height 1 = .ok (.istore_n 2, 1) := by decide +kernel
theorem dX0_height_2 : decode cX0_height 2 = .ok (.iconst 0, 1) := by decide +kernel
theorem dX0_height_3 : decode cX0_height 3 = .ok (.istore_n 3, 1) := by decide +kernel
theorem dX0_height_4 : decode cX0_height 4 = .ok (.iload_n 3, 1) := by decide +kernel
theorem dX0_height_5 : decode cX0_height 5 = .ok (.aload_n 0, 1) := by decide +kernel
theorem dX0_height_6 : decode cX0_height 6 = .ok (.getfield 30, 3) := by decide +kernel
theorem dX0_height_9 : decode cX0_height 9 = .ok (.if_icmp .ge 28, 3) := by decide +kernel
theorem dX0_height_12 : decode cX0_height 12 = .ok (.iload_n 3, 1) := by decide +kernel
theorem dX0_height_13 : decode cX0_height 13 = .ok (.bipush 75, 2) := by decide +kernel
theorem dX0_height_15 : decode cX0_height 15 = .ok (.if_icmp .ge 22, 3) := by decide +kernel
theorem dX0_height_18 : decode cX0_height 18 = .ok (.aload_n 0, 1) := by decide +kernel
theorem dX0_height_19 : decode cX0_height 19 = .ok (.getfield 21, 3) := by decide +kernel
theorem dX0_height_22 : decode cX0_height 22 = .ok (.iload_n 3, 1) := by decide +kernel
theorem dX0_height_23 : decode cX0_height 23 = .ok (.iaload, 1) := by decide +kernel
theorem dX0_height_24 : decode cX0_height 24 = .ok (.iload_n 1, 1) := by decide +kernel
theorem dX0_height_25 : decode cX0_height 25 = .ok (.if_icmp .ne 6, 3) := by decide +kernel
theorem dX0_height_28 : decode cX0_height 28 = .ok (.iinc 2 1, 3) := by decide +kernel
theorem dX0_height_31 : decode cX0_height 31 = .ok (.iinc 3 1, 3) := by decide +kernel
theorem dX0_height_34 : decode cX0_height 34 = .ok (.goto (-30), 3) := by decide +kernel
theorem dX0_height_37 : decode cX0_height 37 = .ok (.iload_n 2, 1) := by decide +kernel
theorem dX0_height_38 : decode cX0_height 38 = .ok (.ireturn, 1) := by decide +kernel
set_option maxRecDepth 100000 in
set_option maxHeartbeats 4000000 in
theorem C_X0_height (l : Launch) (E : gE) (x : gX) {o : Nat} (ho : gOk o) {v1 : Int32} {M : gM} {r : Int32} (hf : f_X0_height o v1 M = some r) : gM0 l E yX0_height (.code yX0_height cX0_height 4 (some .int)) (gR 0 0) M x [.ref (E.2.1 (o + 1)), .int v1] (some (.int r)) M := by
  refine gMet (by decide +kernel) (Nat.le_of_ble_eq_true rfl) ?_
  intro p e s m args below meth c H locs ls Q hC hl hI kr kv
  replace hC : gC p s m args c cX0_height 4 RX0 E := hC
  replace hl : lv_has ls 4 [(0, .ref (E.2.1 (o + 1))), (1, .int v1)] := hl
  have hx := hC.1
  have hb := hC.2.1
  have L4 : ∀ (v1 : Int32) (n : Nat) (v3 : Int32) (v2 : Int32), f_X0_height_L4 o M v1 n v3 v2 = some r → ∀ (H : Heap) (locs : List Loc) (ls : Array Slot), gI E s M x H locs → lv_has ls 4 [(3, .int v3), (2, .int v2), (0, .ref (E.2.1 (o + 1))), (1, .int v1)] → W p l e (gR 0 0) s m args below meth c H locs 0 0 Q (F0 m 4 ls []) := by
    intro v1 n
    induction n with
    | zero => intro v3 v2 hf; rw [f_X0_height_L4] at hf; cases hf
    | succ n ih =>
      intro v3 v2 hf H locs ls hI hl
      rw [f_X0_height_L4] at hf
      refine lv_iload_n hx hb dX0_height_4 rfl (lv_at hl 0 rfl) ?_
      refine lv_aload_n hx hb dX0_height_5 rfl (lv_at hl 2 rfl) ?_
      refine gt_X0_X0_count hC hI ho dX0_height_6 ?_
      refine lv_icmp_ge (tgt := 37) hx hb dX0_height_9 rfl (fun h1 => ?_) (fun h1 => ?_)
      · replace hf := gif h1 hf
        refine lv_iload_n hx hb dX0_height_37 rfl (lv_at hl 1 rfl) ?_
        exact kr _ _ _ _ _ _ (gri hf) hI ⟨.int, rfl, rfl⟩ dX0_height_38
      · replace hf := gifn h1 hf
        refine lv_iload_n hx hb dX0_height_12 rfl (lv_at hl 0 rfl) ?_
        refine lv_bipush (v := 75) hx hb dX0_height_13 (by decide) ?_
        refine lv_icmp_ge (tgt := 37) hx hb dX0_height_15 rfl (fun h2 => ?_) (fun h2 => ?_)
        · replace hf := gif h2 hf
          refine lv_iload_n hx hb dX0_height_37 rfl (lv_at hl 1 rfl) ?_
          exact kr _ _ _ _ _ _ (gri hf) hI ⟨.int, rfl, rfl⟩ dX0_height_38
        · replace hf := gifn h2 hf
          refine lv_aload_n hx hb dX0_height_18 rfl (lv_at hl 2 rfl) ?_
          refine gt_X0_X0_piles hC hI ho dX0_height_19 ?_
          refine lv_iload_n hx hb dX0_height_22 rfl (lv_at hl 0 rfl) ?_
          obtain ⟨h3, hf⟩ := gifN hf
          refine g_iald hC hI (k := v3.toNatClampNeg) (gIA_5 ho) h3 rfl dX0_height_23 ?_
          refine lv_iload_n hx hb dX0_height_24 rfl (lv_at hl 3 rfl) ?_
          refine lv_icmp_ne (tgt := 31) hx hb dX0_height_25 rfl (fun h4 => ?_) (fun h4 => ?_)
          · replace hf := gifn h4 hf
            refine lv_iinc (k := 0) (v := v3 + 1) (lv' := [(3, .int (v3 + 1)), (2, .int v2), (0, .ref (E.2.1 (o + 1))), (1, .int v1)]) hx hb dX0_height_31 hl rfl rfl (by decide) rfl (fun ls hl => ?_)
            refine lv_goto (tgt := 4) hx hb dX0_height_34 rfl ?_
            exact ih (v3 + 1) v2 hf _ _ _ hI (lv_sub hl [0, 1, 2, 3] rfl)
          · replace hf := gif h4 hf
            refine lv_iinc (k := 1) (v := v2 + 1) (lv' := [(2, .int (v2 + 1)), (3, .int v3), (0, .ref (E.2.1 (o + 1))), (1, .int v1)]) hx hb dX0_height_28 hl rfl rfl (by decide) rfl (fun ls hl => ?_)
            refine lv_iinc (k := 1) (v := v3 + 1) (lv' := [(3, .int (v3 + 1)), (2, .int (v2 + 1)), (0, .ref (E.2.1 (o + 1))), (1, .int v1)]) hx hb dX0_height_31 hl rfl rfl (by decide) rfl (fun ls hl => ?_)
            refine lv_goto (tgt := 4) hx hb dX0_height_34 rfl ?_
            exact ih (v3 + 1) (v2 + 1) hf _ _ _ hI (lv_sub hl [0, 1, 2, 3] rfl)
  unfold f_X0_height at hf
  refine lv_iconst (v := 0) hx hb dX0_height_0 (by decide) ?_
  refine lv_istore_n (lv' := [(2, .int 0), (0, .ref (E.2.1 (o + 1))), (1, .int v1)]) hx hb dX0_height_1 rfl hl (by decide) rfl (fun ls hl => ?_)
  refine lv_iconst (v := 0) hx hb dX0_height_2 (by decide) ?_
  refine lv_istore_n (lv' := [(3, .int 0), (2, .int 0), (0, .ref (E.2.1 (o + 1))), (1, .int v1)]) hx hb dX0_height_3 rfl hl (by decide) rfl (fun ls hl => ?_)
  exact L4 v1 gF 0 0 hf _ _ _ hI (lv_sub hl [0, 1, 2, 3] rfl)
theorem dX5_stowingFault_0 : decode cX5_stowingFault 0 = .ok (.iload_n 1, 1) := by decide +kernel
theorem dX5_stowingFault_1 : decode cX5_stowingFault 1 = .ok (.invokestatic 60, 3) := by decide +kernel
theorem dX5_stowingFault_4 : decode cX5_stowingFault 4 = .ok (.ifCond .eq 10, 3) := by decide +kernel
theorem dX5_stowingFault_7 : decode cX5_stowingFault 7 = .ok (.iload_n 2, 1) := by decide +kernel
theorem dX5_stowingFault_8 : decode cX5_stowingFault 8 = .ok (.invokestatic 67, 3) := by decide +kernel
theorem dX5_stowingFault_11 : decode cX5_stowingFault 11 = .ok (.ifCond .ne 5, 3) := by decide +kernel
theorem dX5_stowingFault_14 : decode cX5_stowingFault 14 = .ok (.iconst 1, 1) := by decide +kernel
theorem dX5_stowingFault_15 : decode cX5_stowingFault 15 = .ok (.ireturn, 1) := by decide +kernel
theorem dX5_stowingFault_16 : decode cX5_stowingFault 16 = .ok (.iload_n 3, 1) := by decide +kernel
theorem dX5_stowingFault_17 : decode cX5_stowingFault 17 = .ok (.iconst 1, 1) := by decide +kernel
theorem dX5_stowingFault_18 : decode cX5_stowingFault 18 = .ok (.if_icmp .lt 21, 3) := by decide +kernel
theorem dX5_stowingFault_21 : decode cX5_stowingFault 21 = .ok (.iload_n 3, 1) := by decide +kernel
theorem dX5_stowingFault_22 : decode cX5_stowingFault 22 = .ok (.bipush 30, 2) := by decide +kernel
theorem dX5_stowingFault_24 : decode cX5_stowingFault 24 = .ok (.if_icmp .gt 15, 3) := by decide +kernel
theorem dX5_stowingFault_27 : decode cX5_stowingFault 27 = .ok (.iload 4, 2) := by decide +kernel
theorem dX5_stowingFault_29 : decode cX5_stowingFault 29 = .ok (.ifCond .lt 10, 3) := by decide +kernel
theorem dX5_stowingFault_32 : decode cX5_stowingFault 32 = .ok (.iload 4, 2) := by decide +kernel
theorem dX5_stowingFault_34 : decode cX5_stowingFault 34 = .ok (.bipush 99, 2) := by decide +kernel
theorem dX5_stowingFault_36 : decode cX5_stowingFault 36 = .ok (.if_icmp .le 5, 3) := by decide +kernel
theorem dX5_stowingFault_39 : decode cX5_stowingFault 39 = .ok (.iconst 2, 1) := by decide +kernel
theorem dX5_stowingFault_40 : decode cX5_stowingFault 40 = .ok (.ireturn, 1) := by decide +kernel
theorem dX5_stowingFault_41 : decode cX5_stowingFault 41 = .ok (.aload_n 0, 1) := by decide +kernel
theorem dX5_stowingFault_42 : decode cX5_stowingFault 42 = .ok (.getfield 12, 3) := by decide +kernel
theorem dX5_stowingFault_45 : decode cX5_stowingFault 45 = .ok (.iload_n 1, 1) := by decide +kernel
theorem dX5_stowingFault_46 : decode cX5_stowingFault 46 = .ok (.iload_n 2, 1) := by decide +kernel
theorem dX5_stowingFault_47 : decode cX5_stowingFault 47 = .ok (.invokestatic 70, 3) := by decide +kernel
theorem dX5_stowingFault_50 : decode cX5_stowingFault 50 = .ok (.invokevirtual 74, 3) := by decide +kernel
theorem dX5_stowingFault_53 : decode cX5_stowingFault 53 = .ok (.iconst 5, 1) := by decide +kernel
theorem dX5_stowingFault_54 : decode cX5_stowingFault 54 = .ok (.if_icmp .lt 7, 3) := by decide +kernel
theorem dX5_stowingFault_57 : decode cX5_stowingFault 57 = .ok (.iconst 1, 1) := by decide +kernel
theorem dX5_stowingFault_58 : decode cX5_stowingFault 58 = .ok (.goto 4, 3) := by decide +kernel
theorem dX5_stowingFault_61 : decode cX5_stowingFault 61 = .ok (.iconst 0, 1) := by decide +kernel
theorem dX5_stowingFault_62 : decode cX5_stowingFault 62 = .ok (.istore 5, 2) := by decide +kernel
theorem dX5_stowingFault_64 : decode cX5_stowingFault 64 = .ok (.aload_n 0, 1) := by decide +kernel
theorem dX5_stowingFault_65 : decode cX5_stowingFault 65 = .ok (.iload_n 1, 1) := by decide +kernel
theorem dX5_stowingFault_66 : decode cX5_stowingFault 66 = .ok (.invokevirtual 64, 3) := by decide +kernel
theorem dX5_stowingFault_69 : decode cX5_stowingFault 69 = .ok (.ifCond .eq 8, 3) := by decide +kernel
theorem dX5_stowingFault_72 : decode cX5_stowingFault 72 = .ok (.iload 5, 2) := by decide +kernel
theorem dX5_stowingFault_74 : decode cX5_stowingFault 74 = .ok (.ifCond .eq 7, 3) := by decide +kernel
theorem dX5_stowingFault_77 : decode cX5_stowingFault 77 = .ok (.iconst 3, 1) := by decide +kernel
theorem dX5_stowingFault_78 : decode cX5_stowingFault 78 = .ok (.goto 4, 3) := by decide +kernel
theorem dX5_stowingFault_81 : decode cX5_stowingFault 81 = .ok (.iconst 0, 1) := by decide +kernel
theorem dX5_stowingFault_82 : decode cX5_stowingFault 82 = .ok (.ireturn, 1) := by decide +kernel
set_option maxRecDepth 100000 in
set_option maxHeartbeats 4000000 in
theorem C_X5_stowingFault (l : Launch) (E : gE) (x : gX) {o : Nat} (ho : gOk o) {v1 v2 v3 v4 : Int32} {M : gM} {r : Int32} (hf : f_X5_stowingFault o v1 v2 v3 v4 M = some r) : gM0 l E yX5_stowingFault (.code yX5_stowingFault cX5_stowingFault 6 (some .int)) (gR 2 41) M x [.ref (E.2.1 o), .int v1, .int v2, .int v3, .int v4] (some (.int r)) M := by
  refine gMet (by decide +kernel) (Nat.le_of_ble_eq_true rfl) ?_
  intro p e s m args below meth c H locs ls Q hC hl hI kr kv
  replace hC : gC p s m args c cX5_stowingFault 6 RX5 E := hC
  replace hl : lv_has ls 6 [(0, .ref (E.2.1 o)), (1, .int v1), (2, .int v2), (3, .int v3), (4, .int v4)] := hl
  have hx := hC.1
  have hb := hC.2.1
  unfold f_X5_stowingFault at hf
  refine lv_iload_n hx hb dX5_stowingFault_0 rfl (lv_at hl 1 rfl) ?_
  obtain ⟨r1, hr2, hf⟩ := gbind hf
  have hr2 := C_X6_isBerth l E x  hr2
  refine g_callSNi (rest := []) hC hI hr2 Y_X6_isBerth S_X6_isBerth (List.mem_of_getElem? (i := 6) rfl) ⟨rfl, rfl⟩ ⟨Nat.le_of_ble_eq_true rfl, Nat.le_of_ble_eq_true rfl⟩ rfl hl.1 rfl (Nat.le_of_ble_eq_true rfl) dX5_stowingFault_1 ⟨Nat.le_of_ble_eq_true rfl, Nat.le_of_ble_eq_true rfl⟩ (fun H locs hI => ?_)
  refine lv_if_eq (tgt := 14) hx hb dX5_stowingFault_4 rfl (fun h3 => ?_) (fun h3 => ?_)
  · replace hf := gif h3 hf
    refine lv_iconst (v := 1) hx hb dX5_stowingFault_14 (by decide) ?_
    exact kr _ _ _ _ _ _ (gri hf) hI ⟨.int, rfl, rfl⟩ dX5_stowingFault_15
  · replace hf := gifn h3 hf
    refine lv_iload_n hx hb dX5_stowingFault_7 rfl (lv_at hl 2 rfl) ?_
    obtain ⟨r4, hr5, hf⟩ := gbind hf
    have hr5 := C_X6_isStack l E x  hr5
    refine g_callSNi (rest := []) hC hI hr5 Y_X6_isStack S_X6_isStack (List.mem_of_getElem? (i := 7) rfl) ⟨rfl, rfl⟩ ⟨Nat.le_of_ble_eq_true rfl, Nat.le_of_ble_eq_true rfl⟩ rfl hl.1 rfl (Nat.le_of_ble_eq_true rfl) dX5_stowingFault_8 ⟨Nat.le_of_ble_eq_true rfl, Nat.le_of_ble_eq_true rfl⟩ (fun H locs hI => ?_)
    refine lv_if_ne (tgt := 16) hx hb dX5_stowingFault_11 rfl (fun h6 => ?_) (fun h6 => ?_)
    · replace hf := gifn h6 hf
      refine lv_iload_n hx hb dX5_stowingFault_16 rfl (lv_at hl 3 rfl) ?_
      refine lv_iconst (v := 1) hx hb dX5_stowingFault_17 (by decide) ?_
      refine lv_icmp_lt (tgt := 39) hx hb dX5_stowingFault_18 rfl (fun h7 => ?_) (fun h7 => ?_)
      · replace hf := gif h7 hf
        refine lv_iconst (v := 2) hx hb dX5_stowingFault_39 (by decide) ?_
        exact kr _ _ _ _ _ _ (gri hf) hI ⟨.int, rfl, rfl⟩ dX5_stowingFault_40
      · replace hf := gifn h7 hf
        refine lv_iload_n hx hb dX5_stowingFault_21 rfl (lv_at hl 3 rfl) ?_
        refine lv_bipush (v := 30) hx hb dX5_stowingFault_22 (by decide) ?_
        refine lv_icmp_gt (tgt := 39) hx hb dX5_stowingFault_24 rfl (fun h8 => ?_) (fun h8 => ?_)
        · replace hf := gif h8 hf
          refine lv_iconst (v := 2) hx hb dX5_stowingFault_39 (by decide) ?_
          exact kr _ _ _ _ _ _ (gri hf) hI ⟨.int, rfl, rfl⟩ dX5_stowingFault_40
        · replace hf := gifn h8 hf
          refine lv_iload hx hb dX5_stowingFault_27 (lv_at hl 4 rfl) ?_
          refine lv_if_lt (tgt := 39) hx hb dX5_stowingFault_29 rfl (fun h9 => ?_) (fun h9 => ?_)
          · replace hf := gif h9 hf
            refine lv_iconst (v := 2) hx hb dX5_stowingFault_39 (by decide) ?_
            exact kr _ _ _ _ _ _ (gri hf) hI ⟨.int, rfl, rfl⟩ dX5_stowingFault_40
          · replace hf := gifn h9 hf
            refine lv_iload hx hb dX5_stowingFault_32 (lv_at hl 4 rfl) ?_
            refine lv_bipush (v := 99) hx hb dX5_stowingFault_34 (by decide) ?_
            refine lv_icmp_le (tgt := 41) hx hb dX5_stowingFault_36 rfl (fun h10 => ?_) (fun h10 => ?_)
            · replace hf := gif h10 hf
              refine lv_aload_n hx hb dX5_stowingFault_41 rfl (lv_at hl 0 rfl) ?_
              refine gt_X5_X5_cargo hC hI ho dX5_stowingFault_42 ?_
              refine lv_iload_n hx hb dX5_stowingFault_45 rfl (lv_at hl 1 rfl) ?_
              refine lv_iload_n hx hb dX5_stowingFault_46 rfl (lv_at hl 2 rfl) ?_
              obtain ⟨r11, hr12, hf⟩ := gbind hf
              have hr12 := C_X6_pileOf l E x  hr12
              refine g_callSNi (rest := [.ref (E.2.1 (o + 1))]) hC hI hr12 Y_X6_pileOf S_X6_pileOf (List.mem_of_getElem? (i := 8) rfl) ⟨rfl, rfl⟩ ⟨Nat.le_of_ble_eq_true rfl, Nat.le_of_ble_eq_true rfl⟩ rfl hl.1 rfl (Nat.le_of_ble_eq_true rfl) dX5_stowingFault_47 ⟨Nat.le_of_ble_eq_true rfl, Nat.le_of_ble_eq_true rfl⟩ (fun H locs hI => ?_)
              obtain ⟨r13, hr14, hf⟩ := gbind hf
              have hr14 := C_X0_height l E x ho hr14
              refine g_callVi (rest := []) hC hI hr14 Y_X0_height V_X0_height w247 (rcv_X0 hC hI ho) ⟨rfl, rfl⟩ ⟨Nat.le_of_ble_eq_true rfl, Nat.le_of_ble_eq_true rfl⟩ rfl hl.1 rfl (Nat.le_of_ble_eq_true rfl) dX5_stowingFault_50 ⟨Nat.le_of_ble_eq_true rfl, Nat.le_of_ble_eq_true rfl⟩ (fun H locs hI => ?_)
              refine lv_iconst (v := 5) hx hb dX5_stowingFault_53 (by decide) ?_
              refine lv_icmp_lt (tgt := 61) hx hb dX5_stowingFault_54 rfl (fun h15 => ?_) (fun h15 => ?_)
              · replace hf := gif h15 hf
                refine lv_iconst (v := 0) hx hb dX5_stowingFault_61 (by decide) ?_
                refine lv_istore (lv' := [(5, .int 0), (0, .ref (E.2.1 o)), (1, .int v1), (2, .int v2), (3, .int v3), (4, .int v4)]) hx hb dX5_stowingFault_62 hl (by decide) rfl (fun ls hl => ?_)
                refine lv_aload_n hx hb dX5_stowingFault_64 rfl (lv_at hl 1 rfl) ?_
                refine lv_iload_n hx hb dX5_stowingFault_65 rfl (lv_at hl 2 rfl) ?_
                obtain ⟨r16, hr17, hf⟩ := gbind hf
                have hr17 := C_X5_hasShip l E x ho hr17
                refine g_callVi (rest := []) hC hI hr17 Y_X5_hasShip V_X5_hasShip w251 (rcv_X5 hC hI ho) ⟨rfl, rfl⟩ ⟨Nat.le_of_ble_eq_true rfl, Nat.le_of_ble_eq_true rfl⟩ rfl hl.1 rfl (Nat.le_of_ble_eq_true rfl) dX5_stowingFault_66 ⟨Nat.le_of_ble_eq_true rfl, Nat.le_of_ble_eq_true rfl⟩ (fun H locs hI => ?_)
                refine lv_if_eq (tgt := 77) hx hb dX5_stowingFault_69 rfl (fun h18 => ?_) (fun h18 => ?_)
                · replace hf := gif h18 hf
                  refine lv_iconst (v := 3) hx hb dX5_stowingFault_77 (by decide) ?_
                  refine lv_goto (tgt := 82) hx hb dX5_stowingFault_78 rfl ?_
                  exact kr _ _ _ _ _ _ (gri hf) hI ⟨.int, rfl, rfl⟩ dX5_stowingFault_82
                · replace hf := gifn h18 hf
                  refine lv_iload hx hb dX5_stowingFault_72 (lv_at hl 0 rfl) ?_
                  refine lv_if_eq (tgt := 81) hx hb dX5_stowingFault_74 rfl (fun h19 => ?_) (fun h19 => absurd (by decide) h19)
                  refine lv_iconst (v := 0) hx hb dX5_stowingFault_81 (by decide) ?_
                  exact kr _ _ _ _ _ _ (gri hf) hI ⟨.int, rfl, rfl⟩ dX5_stowingFault_82
              · replace hf := gifn h15 hf
                refine lv_iconst (v := 1) hx hb dX5_stowingFault_57 (by decide) ?_
                refine lv_goto (tgt := 62) hx hb dX5_stowingFault_58 rfl ?_
                refine lv_istore (lv' := [(5, .int 1), (0, .ref (E.2.1 o)), (1, .int v1), (2, .int v2), (3, .int v3), (4, .int v4)]) hx hb dX5_stowingFault_62 hl (by decide) rfl (fun ls hl => ?_)
                refine lv_aload_n hx hb dX5_stowingFault_64 rfl (lv_at hl 1 rfl) ?_
                refine lv_iload_n hx hb dX5_stowingFault_65 rfl (lv_at hl 2 rfl) ?_
                obtain ⟨r20, hr21, hf⟩ := gbind hf
                have hr21 := C_X5_hasShip l E x ho hr21
                refine g_callVi (rest := []) hC hI hr21 Y_X5_hasShip V_X5_hasShip w251 (rcv_X5 hC hI ho) ⟨rfl, rfl⟩ ⟨Nat.le_of_ble_eq_true rfl, Nat.le_of_ble_eq_true rfl⟩ rfl hl.1 rfl (Nat.le_of_ble_eq_true rfl) dX5_stowingFault_66 ⟨Nat.le_of_ble_eq_true rfl, Nat.le_of_ble_eq_true rfl⟩ (fun H locs hI => ?_)
                refine lv_if_eq (tgt := 77) hx hb dX5_stowingFault_69 rfl (fun h22 => ?_) (fun h22 => ?_)
                · replace hf := gif h22 hf
                  refine lv_iconst (v := 3) hx hb dX5_stowingFault_77 (by decide) ?_
                  refine lv_goto (tgt := 82) hx hb dX5_stowingFault_78 rfl ?_
                  exact kr _ _ _ _ _ _ (gri hf) hI ⟨.int, rfl, rfl⟩ dX5_stowingFault_82
                · replace hf := gifn h22 hf
                  refine lv_iload hx hb dX5_stowingFault_72 (lv_at hl 0 rfl) ?_
                  refine lv_if_eq (tgt := 81) hx hb dX5_stowingFault_74 rfl (fun h23 => absurd h23 (by decide)) (fun h23 => ?_)
                  refine lv_iconst (v := 3) hx hb dX5_stowingFault_77 (by decide) ?_
                  refine lv_goto (tgt := 82) hx hb dX5_stowingFault_78 rfl ?_
                  exact kr _ _ _ _ _ _ (gri hf) hI ⟨.int, rfl, rfl⟩ dX5_stowingFault_82
            · replace hf := gifn h10 hf
              refine lv_iconst (v := 2) hx hb dX5_stowingFault_39 (by decide) ?_
              exact kr _ _ _ _ _ _ (gri hf) hI ⟨.int, rfl, rfl⟩ dX5_stowingFault_40
    · replace hf := gif h6 hf
      refine lv_iconst (v := 1) hx hb dX5_stowingFault_14 (by decide) ?_
      exact kr _ _ _ _ _ _ (gri hf) hI ⟨.int, rfl, rfl⟩ dX5_stowingFault_15
theorem dX0_add_0 : decode cX0_add 0 = .ok (.aload_n 0, 1) := by decide +kernel
theorem dX0_add_1 : decode cX0_add 1 = .ok (.getfield 30, 3) := by decide +kernel
theorem dX0_add_4 : decode cX0_add 4 = .ok (.ifCond .lt 12, 3) := by decide +kernel
theorem dX0_add_7 : decode cX0_add 7 = .ok (.aload_n 0, 1) := by decide +kernel
theorem dX0_add_8 : decode cX0_add 8 = .ok (.getfield 30, 3) := by decide +kernel
theorem dX0_add_11 : decode cX0_add 11 = .ok (.bipush 75, 2) := by decide +kernel
theorem dX0_add_13 : decode cX0_add 13 = .ok (.if_icmp .lt 4, 3) := by decide +kernel
theorem dX0_add_16 : decode cX0_add 16 = .ok (.return_, 1) := by decide +kernel
theorem dX0_add_17 : decode cX0_add 17 = .ok (.aload_n 0, 1) := by decide +kernel
theorem dX0_add_18 : decode cX0_add 18 = .ok (.iload 4, 2) := by decide +kernel
theorem dX0_add_20 : decode cX0_add 20 = .ok (.invokevirtual 40, 3) := by decide +kernel
theorem dX0_add_23 : decode cX0_add 23 = .ok (.istore 5, 2) := by decide +kernel
theorem dX0_add_25 : decode cX0_add 25 = .ok (.aload_n 0, 1) := by decide +kernel
theorem dX0_add_26 : decode cX0_add 26 = .ok (.getfield 9, 3) := by decide +kernel
theorem dX0_add_29 : decode cX0_add 29 = .ok (.aload_n 0, 1) := by decide +kernel
theorem dX0_add_30 : decode cX0_add 30 = .ok (.getfield 30, 3) := by decide +kernel
theorem dX0_add_33 : decode cX0_add 33 = .ok (.iload_n 1, 1) := by decide +kernel
theorem dX0_add_34 : decode cX0_add 34 = .ok (.iastore, 1) := by decide +kernel
theorem dX0_add_35 : decode cX0_add 35 = .ok (.aload_n 0, 1) := by decide +kernel
theorem dX0_add_36 : decode cX0_add 36 = .ok (.getfield 15, 3) := by decide +kernel
theorem dX0_add_39 : decode cX0_add 39 = .ok (.aload_n 0, 1) := by decide +kernel
theorem dX0_add_40 : decode cX0_add 40 = .ok (.getfield 30, 3) := by decide +kernel
theorem dX0_add_43 : decode cX0_add 43 = .ok (.iload_n 2, 1) := by decide +kernel
theorem dX0_add_44 : decode cX0_add 44 = .ok (.iastore, 1) := by decide +kernel
theorem dX0_add_45 : decode cX0_add 45 = .ok (.aload_n 0, 1) := by decide +kernel
theorem dX0_add_46 : decode cX0_add 46 = .ok (.getfield 18, 3) := by decide +kernel
theorem dX0_add_49 : decode cX0_add 49 = .ok (.aload_n 0, 1) := by decide +kernel
theorem dX0_add_50 : decode cX0_add 50 = .ok (.getfield 30, 3) := by decide +kernel
theorem dX0_add_53 : decode cX0_add 53 = .ok (.iload_n 3, 1) := by decide +kernel
theorem dX0_add_54 : decode cX0_add 54 = .ok (.iastore, 1) := by decide +kernel
theorem dX0_add_55 : decode cX0_add 55 = .ok (.aload_n 0, 1) := by decide +kernel
theorem dX0_add_56 : decode cX0_add 56 = .ok (.getfield 21, 3) := by decide +kernel
theorem dX0_add_59 : decode cX0_add 59 = .ok (.aload_n 0, 1) := by decide +kernel
theorem dX0_add_60 : decode cX0_add 60 = .ok (.getfield 30, 3) := by decide +kernel
theorem dX0_add_63 : decode cX0_add 63 = .ok (.iload 4, 2) := by decide +kernel
theorem dX0_add_65 : decode cX0_add 65 = .ok (.iastore, 1) := by decide +kernel
theorem dX0_add_66 : decode cX0_add 66 = .ok (.aload_n 0, 1) := by decide +kernel
theorem dX0_add_67 : decode cX0_add 67 = .ok (.getfield 24, 3) := by decide +kernel
theorem dX0_add_70 : decode cX0_add 70 = .ok (.aload_n 0, 1) := by decide +kernel
theorem dX0_add_71 : decode cX0_add 71 = .ok (.getfield 30, 3) := by decide +kernel
theorem dX0_add_74 : decode cX0_add 74 = .ok (.iload 5, 2) := by decide +kernel
theorem dX0_add_76 : decode cX0_add 76 = .ok (.iastore, 1) := by decide +kernel
theorem dX0_add_77 : decode cX0_add 77 = .ok (.aload_n 0, 1) := by decide +kernel
theorem dX0_add_78 : decode cX0_add 78 = .ok (.dup, 1) := by decide +kernel
theorem dX0_add_79 : decode cX0_add 79 = .ok (.getfield 30, 3) := by decide +kernel
theorem dX0_add_82 : decode cX0_add 82 = .ok (.iconst 1, 1) := by decide +kernel
theorem dX0_add_83 : decode cX0_add 83 = .ok (.iadd, 1) := by decide +kernel
theorem dX0_add_84 : decode cX0_add 84 = .ok (.putfield 30, 3) := by decide +kernel
theorem dX0_add_87 : decode cX0_add 87 = .ok (.return_, 1) := by decide +kernel
set_option maxRecDepth 100000 in
set_option maxHeartbeats 4000000 in
theorem C_X0_add (l : Launch) (E : gE) (x : gX) {o : Nat} (ho : gOk o) {v1 v2 v3 v4 : Int32} {M : gM} {M' : gM} (hf : f_X0_add o v1 v2 v3 v4 M = some M') : gM0 l E yX0_add (.code yX0_add cX0_add 6 none) (gR 1 23) M x [.ref (E.2.1 (o + 1)), .int v1, .int v2, .int v3, .int v4] none M' := by
  refine gMet (by decide +kernel) (Nat.le_of_ble_eq_true rfl) ?_
  intro p e s m args below meth c H locs ls Q hC hl hI kr kv
  replace hC : gC p s m args c cX0_add 6 RX0 E := hC
  replace hl : lv_has ls 6 [(0, .ref (E.2.1 (o + 1))), (1, .int v1), (2, .int v2), (3, .int v3), (4, .int v4)] := hl
  have hx := hC.1
  have hb := hC.2.1
  unfold f_X0_add at hf
  refine lv_aload_n hx hb dX0_add_0 rfl (lv_at hl 0 rfl) ?_
  refine gt_X0_X0_count hC hI ho dX0_add_1 ?_
  refine lv_if_lt (tgt := 16) hx hb dX0_add_4 rfl (fun h1 => ?_) (fun h1 => ?_)
  · replace hf := gif h1 hf
    exact kv _ _ _ _ _ (grv hf) hI rfl dX0_add_16
  · replace hf := gifn h1 hf
    refine lv_aload_n hx hb dX0_add_7 rfl (lv_at hl 0 rfl) ?_
    refine gt_X0_X0_count hC hI ho dX0_add_8 ?_
    refine lv_bipush (v := 75) hx hb dX0_add_11 (by decide) ?_
    refine lv_icmp_lt (tgt := 17) hx hb dX0_add_13 rfl (fun h2 => ?_) (fun h2 => ?_)
    · replace hf := gif h2 hf
      refine lv_aload_n hx hb dX0_add_17 rfl (lv_at hl 0 rfl) ?_
      refine lv_iload hx hb dX0_add_18 (lv_at hl 4 rfl) ?_
      obtain ⟨r3, hr4, hf⟩ := gbind hf
      have hr4 := C_X0_height l E x ho hr4
      refine g_callVi (rest := []) hC hI hr4 Y_X0_height V_X0_height w405 (rcv_X0 hC hI ho) ⟨rfl, rfl⟩ ⟨Nat.le_of_ble_eq_true rfl, Nat.le_of_ble_eq_true rfl⟩ rfl hl.1 rfl (Nat.le_of_ble_eq_true rfl) dX0_add_20 ⟨Nat.le_of_ble_eq_true rfl, Nat.le_of_ble_eq_true rfl⟩ (fun H locs hI => ?_)
      refine lv_istore (lv' := [(5, .int r3), (0, .ref (E.2.1 (o + 1))), (1, .int v1), (2, .int v2), (3, .int v3), (4, .int v4)]) hx hb dX0_add_23 hl (by decide) rfl (fun ls hl => ?_)
      refine lv_aload_n hx hb dX0_add_25 rfl (lv_at hl 1 rfl) ?_
      refine gt_X0_X0_ids hC hI ho dX0_add_26 ?_
      refine lv_aload_n hx hb dX0_add_29 rfl (lv_at hl 1 rfl) ?_
      refine gt_X0_X0_count hC hI ho dX0_add_30 ?_
      refine lv_iload_n hx hb dX0_add_33 rfl (lv_at hl 2 rfl) ?_
      obtain ⟨h5, hf⟩ := gifN hf
      obtain ⟨M6, eM6, hf⟩ := glet hf
      refine g_iast hC hI (k := (M (o + 1) 6).toNatClampNeg) (gIA_2 ho) h5 rfl dX0_add_34 (fun H locs hI => ?_)
      replace hI := g_mem eM6 hI
      refine lv_aload_n hx hb dX0_add_35 rfl (lv_at hl 1 rfl) ?_
      refine gt_X0_X0_weights hC hI ho dX0_add_36 ?_
      refine lv_aload_n hx hb dX0_add_39 rfl (lv_at hl 1 rfl) ?_
      refine gt_X0_X0_count hC hI ho dX0_add_40 ?_
      refine lv_iload_n hx hb dX0_add_43 rfl (lv_at hl 3 rfl) ?_
      obtain ⟨h7, hf⟩ := gifN hf
      obtain ⟨M8, eM8, hf⟩ := glet hf
      refine g_iast hC hI (k := (M6 (o + 1) 6).toNatClampNeg) (gIA_3 ho) h7 rfl dX0_add_44 (fun H locs hI => ?_)
      replace hI := g_mem eM8 hI
      refine lv_aload_n hx hb dX0_add_45 rfl (lv_at hl 1 rfl) ?_
      refine gt_X0_X0_keys hC hI ho dX0_add_46 ?_
      refine lv_aload_n hx hb dX0_add_49 rfl (lv_at hl 1 rfl) ?_
      refine gt_X0_X0_count hC hI ho dX0_add_50 ?_
      refine lv_iload_n hx hb dX0_add_53 rfl (lv_at hl 4 rfl) ?_
      obtain ⟨h9, hf⟩ := gifN hf
      obtain ⟨M10, eM10, hf⟩ := glet hf
      refine g_iast hC hI (k := (M8 (o + 1) 6).toNatClampNeg) (gIA_4 ho) h9 rfl dX0_add_54 (fun H locs hI => ?_)
      replace hI := g_mem eM10 hI
      refine lv_aload_n hx hb dX0_add_55 rfl (lv_at hl 1 rfl) ?_
      refine gt_X0_X0_piles hC hI ho dX0_add_56 ?_
      refine lv_aload_n hx hb dX0_add_59 rfl (lv_at hl 1 rfl) ?_
      refine gt_X0_X0_count hC hI ho dX0_add_60 ?_
      refine lv_iload hx hb dX0_add_63 (lv_at hl 5 rfl) ?_
      obtain ⟨h11, hf⟩ := gifN hf
      obtain ⟨M12, eM12, hf⟩ := glet hf
      refine g_iast hC hI (k := (M10 (o + 1) 6).toNatClampNeg) (gIA_5 ho) h11 rfl dX0_add_65 (fun H locs hI => ?_)
      replace hI := g_mem eM12 hI
      refine lv_aload_n hx hb dX0_add_66 rfl (lv_at hl 1 rfl) ?_
      refine gt_X0_X0_levels hC hI ho dX0_add_67 ?_
      refine lv_aload_n hx hb dX0_add_70 rfl (lv_at hl 1 rfl) ?_
      refine gt_X0_X0_count hC hI ho dX0_add_71 ?_
      refine lv_iload hx hb dX0_add_74 (lv_at hl 0 rfl) ?_
      obtain ⟨h13, hf⟩ := gifN hf
      obtain ⟨M14, eM14, hf⟩ := glet hf
      refine g_iast hC hI (k := (M12 (o + 1) 6).toNatClampNeg) (gIA_6 ho) h13 rfl dX0_add_76 (fun H locs hI => ?_)
      replace hI := g_mem eM14 hI
      refine lv_aload_n hx hb dX0_add_77 rfl (lv_at hl 1 rfl) ?_
      refine lv_dup hx hb dX0_add_78 rfl ?_
      refine gt_X0_X0_count hC hI ho dX0_add_79 ?_
      refine lv_iconst (v := 1) hx hb dX0_add_82 (by decide) ?_
      refine lv_iadd hx hb dX0_add_83 ?_
      obtain ⟨M15, eM15, hf⟩ := glet hf
      refine pt_X0_X0_count hC hI ho dX0_add_84 (fun H locs hI => ?_)
      replace hI := g_mem eM15 hI
      exact kv _ _ _ _ _ (grv hf) hI rfl dX0_add_87
    · replace hf := gifn h2 hf
      exact kv _ _ _ _ _ (grv hf) hI rfl dX0_add_16
theorem dX5_putContainer_0 : decode cX5_putContainer 0 = .ok (.aload_n 0, 1) := by decide +kernel
theorem dX5_putContainer_1 : decode cX5_putContainer 1 = .ok (.getfield 38, 3) := by decide +kernel
theorem dX5_putContainer_4 : decode cX5_putContainer 4 = .ok (.istore 5, 2) := by decide +kernel
theorem dX5_putContainer_6 : decode cX5_putContainer 6 = .ok (.aload_n 0, 1) := by decide +kernel
theorem dX5_putContainer_7 : decode cX5_putContainer 7 = .ok (.getfield 12, 3) := by decide +kernel
theorem dX5_putContainer_10 : decode cX5_putContainer 10 = .ok (.iload 5, 2) := by decide +kernel
theorem dX5_putContainer_12 : decode cX5_putContainer 12 = .ok (.iload_n 3, 1) := by decide +kernel
theorem dX5_putContainer_13 : decode cX5_putContainer 13 = .ok (.iload 4, 2) := by decide +kernel
theorem dX5_putContainer_15 : decode cX5_putContainer 15 = .ok (.iload_n 1, 1) := by decide +kernel
theorem dX5_putContainer_16 : decode cX5_putContainer 16 = .ok (.iload_n 2, 1) := by decide +kernel
theorem dX5_putContainer_17 : decode cX5_putContainer 17 = .ok (.invokestatic 70, 3) := by decide +kernel
theorem dX5_putContainer_20 : decode cX5_putContainer 20 = .ok (.invokevirtual 78, 3) := by decide +kernel
theorem dX5_putContainer_23 : decode cX5_putContainer 23 = .ok (.aload_n 0, 1) := by decide +kernel
theorem dX5_putContainer_24 : decode cX5_putContainer 24 = .ok (.dup, 1) := by decide +kernel
theorem dX5_putContainer_25 : decode cX5_putContainer 25 = .ok (.getfield 38, 3) := by decide +kernel
theorem dX5_putContainer_28 : decode cX5_putContainer 28 = .ok (.iconst 1, 1) := by decide +kernel
theorem dX5_putContainer_29 : decode cX5_putContainer 29 = .ok (.iadd, 1) := by decide +kernel
theorem dX5_putContainer_30 : decode cX5_putContainer 30 = .ok (.putfield 38, 3) := by decide +kernel
theorem dX5_putContainer_33 : decode cX5_putContainer 33 = .ok (.iload 5, 2) := by decide +kernel
theorem dX5_putContainer_35 : decode cX5_putContainer 35 = .ok (.ireturn, 1) := by decide +kernel
set_option maxRecDepth 100000 in
set_option maxHeartbeats 4000000 in
theorem C_X5_putContainer (l : Launch) (E : gE) (x : gX) {o : Nat} (ho : gOk o) {v1 v2 v3 v4 : Int32} {M : gM} {r : Int32} {M' : gM} (hf : f_X5_putContainer o v1 v2 v3 v4 M = some (r, M')) : gM0 l E yX5_putContainer (.code yX5_putContainer cX5_putContainer 6 (some .int)) (gR 2 48) M x [.ref (E.2.1 o), .int v1, .int v2, .int v3, .int v4] (some (.int r)) M' := by
  refine gMet (by decide +kernel) (Nat.le_of_ble_eq_true rfl) ?_
  intro p e s m args below meth c H locs ls Q hC hl hI kr kv
  replace hC : gC p s m args c cX5_putContainer 6 RX5 E := hC
  replace hl : lv_has ls 6 [(0, .ref (E.2.1 o)), (1, .int v1), (2, .int v2), (3, .int v3), (4, .int v4)] := hl
  have hx := hC.1
  have hb := hC.2.1
  unfold f_X5_putContainer at hf
  refine lv_aload_n hx hb dX5_putContainer_0 rfl (lv_at hl 0 rfl) ?_
  refine gt_X5_X5_nextId hC hI ho dX5_putContainer_1 ?_
  obtain ⟨z1, ez1, hf⟩ := glet hf
  refine g_top ez1 ?_
  refine lv_istore (lv' := [(5, .int z1), (0, .ref (E.2.1 o)), (1, .int v1), (2, .int v2), (3, .int v3), (4, .int v4)]) hx hb dX5_putContainer_4 hl (by decide) rfl (fun ls hl => ?_)
  refine lv_aload_n hx hb dX5_putContainer_6 rfl (lv_at hl 1 rfl) ?_
  refine gt_X5_X5_cargo hC hI ho dX5_putContainer_7 ?_
  refine lv_iload hx hb dX5_putContainer_10 (lv_at hl 0 rfl) ?_
  refine lv_iload_n hx hb dX5_putContainer_12 rfl (lv_at hl 4 rfl) ?_
  refine lv_iload hx hb dX5_putContainer_13 (lv_at hl 5 rfl) ?_
  refine lv_iload_n hx hb dX5_putContainer_15 rfl (lv_at hl 2 rfl) ?_
  refine lv_iload_n hx hb dX5_putContainer_16 rfl (lv_at hl 3 rfl) ?_
  obtain ⟨r2, hr3, hf⟩ := gbind hf
  have hr3 := C_X6_pileOf l E x  hr3
  refine g_callSNi (rest := [.int v4, .int v3, .int z1, .ref (E.2.1 (o + 1))]) hC hI hr3 Y_X6_pileOf S_X6_pileOf (List.mem_of_getElem? (i := 8) rfl) ⟨rfl, rfl⟩ ⟨Nat.le_of_ble_eq_true rfl, Nat.le_of_ble_eq_true rfl⟩ rfl hl.1 rfl (Nat.le_of_ble_eq_true rfl) dX5_putContainer_17 ⟨Nat.le_of_ble_eq_true rfl, Nat.le_of_ble_eq_true rfl⟩ (fun H locs hI => ?_)
  obtain ⟨r4, hr5, hf⟩ := gbind hf
  have hr5 := C_X0_add l E x ho hr5
  refine g_callVv (rest := []) hC hI hr5 Y_X0_add V_X0_add w401 (rcv_X0 hC hI ho) ⟨rfl, rfl⟩ ⟨Nat.le_of_ble_eq_true rfl, Nat.le_of_ble_eq_true rfl⟩ rfl hl.1 rfl (Nat.le_of_ble_eq_true rfl) dX5_putContainer_20 ⟨Nat.le_of_ble_eq_true rfl, Nat.le_of_ble_eq_true rfl⟩ (fun H locs hI => ?_)
  refine lv_aload_n hx hb dX5_putContainer_23 rfl (lv_at hl 1 rfl) ?_
  refine lv_dup hx hb dX5_putContainer_24 rfl ?_
  refine gt_X5_X5_nextId hC hI ho dX5_putContainer_25 ?_
  refine lv_iconst (v := 1) hx hb dX5_putContainer_28 (by decide) ?_
  refine lv_iadd hx hb dX5_putContainer_29 ?_
  obtain ⟨M6, eM6, hf⟩ := glet hf
  refine pt_X5_X5_nextId hC hI ho dX5_putContainer_30 (fun H locs hI => ?_)
  replace hI := g_mem eM6 hI
  refine lv_iload hx hb dX5_putContainer_33 (lv_at hl 0 rfl) ?_
  exact kr _ _ _ _ _ _ (grw hf) hI ⟨.int, rfl, rfl⟩ dX5_putContainer_35
theorem dX6_stow_0 : decode cX6_stow 0 = .ok (.aload_n 0, 1) := by decide +kernel
theorem dX6_stow_1 : decode cX6_stow 1 = .ok (.getfield 10, 3) := by decide +kernel
theorem dX6_stow_4 : decode cX6_stow 4 = .ok (.iload_n 1, 1) := by decide +kernel
theorem dX6_stow_5 : decode cX6_stow 5 = .ok (.iload_n 2, 1) := by decide +kernel
theorem dX6_stow_6 : decode cX6_stow 6 = .ok (.iload_n 3, 1) := by decide +kernel
theorem dX6_stow_7 : decode cX6_stow 7 = .ok (.iload 4, 2) := by decide +kernel
theorem dX6_stow_9 : decode cX6_stow 9 = .ok (.invokevirtual 81, 3) := by decide +kernel
theorem dX6_stow_12 : decode cX6_stow 12 = .ok (.invokestatic 65, 3) := by decide +kernel
theorem dX6_stow_15 : decode cX6_stow 15 = .ok (.aload_n 0, 1) := by decide +kernel
theorem dX6_stow_16 : decode cX6_stow 16 = .ok (.getfield 29, 3) := by decide +kernel
theorem dX6_stow_19 : decode cX6_stow 19 = .ok (.aload_n 0, 1) := by decide +kernel
theorem dX6_stow_20 : decode cX6_stow 20 = .ok (.getfield 10, 3) := by decide +kernel
theorem dX6_stow_23 : decode cX6_stow 23 = .ok (.invokevirtual 69, 3) := by decide +kernel
theorem dX6_stow_26 : decode cX6_stow 26 = .ok (.aload_n 0, 1) := by decide +kernel
theorem dX6_stow_27 : decode cX6_stow 27 = .ok (.getfield 10, 3) := by decide +kernel
theorem dX6_stow_30 : decode cX6_stow 30 = .ok (.iload_n 1, 1) := by decide +kernel
theorem dX6_stow_31 : decode cX6_stow 31 = .ok (.iload_n 2, 1) := by decide +kernel
theorem dX6_stow_32 : decode cX6_stow 32 = .ok (.iload_n 3, 1) := by decide +kernel
theorem dX6_stow_33 : decode cX6_stow 33 = .ok (.iload 4, 2) := by decide +kernel
theorem dX6_stow_35 : decode cX6_stow 35 = .ok (.invokevirtual 85, 3) := by decide +kernel
theorem dX6_stow_38 : decode cX6_stow 38 = .ok (.ireturn, 1) := by decide +kernel
set_option maxRecDepth 100000 in
set_option maxHeartbeats 4000000 in
theorem C_X6_stow (l : Launch) (hst : l.stackTraces = false) (E : gE) (x : gX) {v1 v2 v3 v4 : Int32} {M : gM} {oc : String ⊕ Int32} {M' : gM} (hf : f_X6_stow v1 v2 v3 v4 M = some (oc, M')) : gX0 l E yX6_stow (.code yX6_stow cX6_stow 5 (some .int)) (gRX 7 124 1 6) M x [.ref (E.2.1 132), .int v1, .int v2, .int v3, .int v4] (gO oc) M' 1 6 := by
  refine gMetX hst (by decide +kernel) (Nat.le_of_ble_eq_true rfl) ?_
  intro p e s m args below meth c H locs ls Q hC hl hI kr kv kx kt kd kf
  replace hC : gC p s m args c cX6_stow 5 RX6 E := hC
  replace hl : lv_has ls 5 [(0, .ref (E.2.1 132)), (1, .int v1), (2, .int v2), (3, .int v3), (4, .int v4)] := hl
  have hx := hC.1
  have hb := hC.2.1
  unfold f_X6_stow at hf
  refine lv_aload_n hx hb dX6_stow_0 rfl (lv_at hl 0 rfl) ?_
  refine gt_X6_X6_now hC hI dX6_stow_1 ?_
  refine lv_iload_n hx hb dX6_stow_4 rfl (lv_at hl 1 rfl) ?_
  refine lv_iload_n hx hb dX6_stow_5 rfl (lv_at hl 2 rfl) ?_
  refine lv_iload_n hx hb dX6_stow_6 rfl (lv_at hl 3 rfl) ?_
  refine lv_iload hx hb dX6_stow_7 (lv_at hl 4 rfl) ?_
  obtain ⟨r1, hr2, hf⟩ := gbind hf
  have hr2 := C_X5_stowingFault l E x gOk_0 hr2
  refine g_callVi (rest := []) hC hI hr2 Y_X5_stowingFault V_X5_stowingFault w234 (rcv_X5 hC hI gOk_0) ⟨rfl, rfl⟩ ⟨Nat.le_of_ble_eq_true rfl, Nat.le_of_ble_eq_true rfl⟩ rfl hl.1 rfl (Nat.le_of_ble_eq_true rfl) dX6_stow_9 ⟨Nat.le_of_ble_eq_true rfl, Nat.le_of_ble_eq_true rfl⟩ (fun H locs hI => ?_)
  rcases gseq hf with ⟨er, Mr, hr4, hf⟩ | ⟨_, M5, hr4, hf⟩
  · replace hr4 := C_X6_raise l hst E x  hr4
    exact g_xSx (rest := []) hC hI hr4 Y_X6_raise S_X6_raise w255 ⟨rfl, rfl⟩ ⟨Nat.le_of_ble_eq_true rfl, Nat.le_of_ble_eq_true rfl⟩ rfl hl.1 rfl (Nat.le_of_ble_eq_true rfl) dX6_stow_12 ⟨Nat.le_of_ble_eq_true rfl, Nat.le_of_ble_eq_true rfl⟩ (fun ce q H locs hI h1 h2 h3 => kx _ _ _ _ _ _ _ _ _ _ _ (gtx hf) hI h1 h2 h3 ⟨Nat.le_of_ble_eq_true rfl, Nat.le_of_ble_eq_true rfl⟩)
  replace hr4 := C_X6_raise l hst E x  hr4
  refine g_xSv (rest := []) hC hI hr4 Y_X6_raise S_X6_raise w255 ⟨rfl, rfl⟩ ⟨Nat.le_of_ble_eq_true rfl, Nat.le_of_ble_eq_true rfl⟩ rfl hl.1 rfl (Nat.le_of_ble_eq_true rfl) dX6_stow_12 ⟨Nat.le_of_ble_eq_true rfl, Nat.le_of_ble_eq_true rfl⟩ (fun H locs hI => ?_)
  refine lv_aload_n hx hb dX6_stow_15 rfl (lv_at hl 0 rfl) ?_
  refine gt_X6_X6_history hC hI dX6_stow_16 ?_
  refine lv_aload_n hx hb dX6_stow_19 rfl (lv_at hl 0 rfl) ?_
  refine gt_X6_X6_now hC hI dX6_stow_20 ?_
  obtain ⟨r6, hr7, hf⟩ := gbind hf
  have hr7 := C_X1_push l E x gOk_0 hr7
  refine g_callVv (rest := []) hC hI hr7 Y_X1_push V_X1_push w377 (rcv_X1 hC hI) ⟨rfl, rfl⟩ ⟨Nat.le_of_ble_eq_true rfl, Nat.le_of_ble_eq_true rfl⟩ rfl hl.1 rfl (Nat.le_of_ble_eq_true rfl) dX6_stow_23 ⟨Nat.le_of_ble_eq_true rfl, Nat.le_of_ble_eq_true rfl⟩ (fun H locs hI => ?_)
  refine lv_aload_n hx hb dX6_stow_26 rfl (lv_at hl 0 rfl) ?_
  refine gt_X6_X6_now hC hI dX6_stow_27 ?_
  refine lv_iload_n hx hb dX6_stow_30 rfl (lv_at hl 1 rfl) ?_
  refine lv_iload_n hx hb dX6_stow_31 rfl (lv_at hl 2 rfl) ?_
  refine lv_iload_n hx hb dX6_stow_32 rfl (lv_at hl 3 rfl) ?_
  refine lv_iload hx hb dX6_stow_33 (lv_at hl 4 rfl) ?_
  obtain ⟨r8, hr9, hf⟩ := gbind hf
  have hr9 := C_X5_putContainer l E x gOk_0 hr9
  refine g_callVi (rest := []) hC hI hr9 Y_X5_putContainer V_X5_putContainer w397 (rcv_X5 hC hI gOk_0) ⟨rfl, rfl⟩ ⟨Nat.le_of_ble_eq_true rfl, Nat.le_of_ble_eq_true rfl⟩ rfl hl.1 rfl (Nat.le_of_ble_eq_true rfl) dX6_stow_35 ⟨Nat.le_of_ble_eq_true rfl, Nat.le_of_ble_eq_true rfl⟩ (fun H locs hI => ?_)
  exact kr _ _ _ _ _ _ _ _ (gre hf) hI ⟨.int, rfl, rfl⟩ ⟨Nat.le_of_ble_eq_true rfl, Nat.le_of_ble_eq_true rfl⟩ dX6_stow_38
theorem dX5_clearingFault_0 : decode cX5_clearingFault 0 = .ok (.iload_n 1, 1) := by decide +kernel
theorem dX5_clearingFault_1 : decode cX5_clearingFault 1 = .ok (.invokestatic 60, 3) := by decide +kernel
theorem dX5_clearingFault_4 : decode cX5_clearingFault 4 = .ok (.ifCond .eq 10, 3) := by decide +kernel
theorem dX5_clearingFault_7 : decode cX5_clearingFault 7 = .ok (.iload_n 2, 1) := by decide +kernel
theorem dX5_clearingFault_8 : decode cX5_clearingFault 8 = .ok (.invokestatic 67, 3) := by decide +kernel
theorem dX5_clearingFault_11 : decode cX5_clearingFault 11 = .ok (.ifCond .ne 5, 3) := by decide +kernel
theorem dX5_clearingFault_14 : decode cX5_clearingFault 14 = .ok (.iconst 1, 1) := by decide +kernel
theorem dX5_clearingFault_15 : decode cX5_clearingFault 15 = .ok (.ireturn, 1) := by decide +kernel
theorem dX5_clearingFault_16 : decode cX5_clearingFault 16 = .ok (.iload_n 3, 1) := by decide +kernel
theorem dX5_clearingFault_17 : decode cX5_clearingFault 17 = .ok (.ifCond .lt 9, 3) := by decide +kernel
theorem dX5_clearingFault_20 : decode cX5_clearingFault 20 = .ok (.iload_n 3, 1) := by decide +kernel
theorem dX5_clearingFault_21 : decode cX5_clearingFault 21 = .ok (.bipush 9, 2) := by decide +kernel
theorem dX5_clearingFault_23 : decode cX5_clearingFault 23 = .ok (.if_icmp .le 5, 3) := by decide +kernel
theorem dX5_clearingFault_26 : decode cX5_clearingFault 26 = .ok (.iconst 2, 1) := by decide +kernel
theorem dX5_clearingFault_27 : decode cX5_clearingFault 27 = .ok (.ireturn, 1) := by decide +kernel
theorem dX5_clearingFault_28 : decode cX5_clearingFault 28 = .ok (.aload_n 0, 1) := by decide +kernel
theorem dX5_clearingFault_29 : decode cX5_clearingFault 29 = .ok (.getfield 12, 3) := by decide +kernel
theorem dX5_clearingFault_32 : decode cX5_clearingFault 32 = .ok (.iload_n 1, 1) := by decide +kernel
theorem dX5_clearingFault_33 : decode cX5_clearingFault 33 = .ok (.iload_n 2, 1) := by decide +kernel
theorem dX5_clearingFault_34 : decode cX5_clearingFault 34 = .ok (.invokestatic 70, 3) := by decide +kernel
theorem dX5_clearingFault_37 : decode cX5_clearingFault 37 = .ok (.invokevirtual 74, 3) := by decide +kernel
theorem dX5_clearingFault_40 : decode cX5_clearingFault 40 = .ok (.ifCond .ne 7, 3) := by decide +kernel
theorem dX5_clearingFault_43 : decode cX5_clearingFault 43 = .ok (.iconst 1, 1) := by decide +kernel
theorem dX5_clearingFault_44 : decode cX5_clearingFault 44 = .ok (.goto 4, 3) := by decide +kernel
theorem dX5_clearingFault_47 : decode cX5_clearingFault 47 = .ok (.iconst 0, 1) := by decide +kernel
theorem dX5_clearingFault_48 : decode cX5_clearingFault 48 = .ok (.istore 4, 2) := by decide +kernel
theorem dX5_clearingFault_50 : decode cX5_clearingFault 50 = .ok (.aload_n 0, 1) := by decide +kernel
theorem dX5_clearingFault_51 : decode cX5_clearingFault 51 = .ok (.getfield 12, 3) := by decide +kernel
theorem dX5_clearingFault_54 : decode cX5_clearingFault 54 = .ok (.bipush 12, 2) := by decide +kernel
theorem dX5_clearingFault_56 : decode cX5_clearingFault 56 = .ok (.invokevirtual 74, 3) := by decide +kernel
theorem dX5_clearingFault_59 : decode cX5_clearingFault 59 = .ok (.bipush 15, 2) := by decide +kernel
theorem dX5_clearingFault_61 : decode cX5_clearingFault 61 = .ok (.if_icmp .lt 7, 3) := by decide +kernel
theorem dX5_clearingFault_64 : decode cX5_clearingFault 64 = .ok (.iconst 1, 1) := by decide +kernel
theorem dX5_clearingFault_65 : decode cX5_clearingFault 65 = .ok (.goto 4, 3) := by decide +kernel
theorem dX5_clearingFault_68 : decode cX5_clearingFault 68 = .ok (.iconst 0, 1) := by decide +kernel
theorem dX5_clearingFault_69 : decode cX5_clearingFault 69 = .ok (.istore 5, 2) := by decide +kernel
theorem dX5_clearingFault_71 : decode cX5_clearingFault 71 = .ok (.aload_n 0, 1) := by decide +kernel
theorem dX5_clearingFault_72 : decode cX5_clearingFault 72 = .ok (.iload_n 1, 1) := by decide +kernel
theorem dX5_clearingFault_73 : decode cX5_clearingFault 73 = .ok (.invokevirtual 64, 3) := by decide +kernel
theorem dX5_clearingFault_76 : decode cX5_clearingFault 76 = .ok (.ifCond .eq 22, 3) := by decide +kernel
theorem dX5_clearingFault_79 : decode cX5_clearingFault 79 = .ok (.aload_n 0, 1) := by decide +kernel
theorem dX5_clearingFault_80 : decode cX5_clearingFault 80 = .ok (.getfield 28, 3) := by decide +kernel
theorem dX5_clearingFault_83 : decode cX5_clearingFault 83 = .ok (.iload_n 1, 1) := by decide +kernel
theorem dX5_clearingFault_84 : decode cX5_clearingFault 84 = .ok (.iaload, 1) := by decide +kernel
theorem dX5_clearingFault_85 : decode cX5_clearingFault 85 = .ok (.ifCond .gt 13, 3) := by decide +kernel
theorem dX5_clearingFault_88 : decode cX5_clearingFault 88 = .ok (.iload 4, 2) := by decide +kernel
theorem dX5_clearingFault_90 : decode cX5_clearingFault 90 = .ok (.ifCond .ne 8, 3) := by decide +kernel
theorem dX5_clearingFault_93 : decode cX5_clearingFault 93 = .ok (.iload 5, 2) := by decide +kernel
theorem dX5_clearingFault_95 : decode cX5_clearingFault 95 = .ok (.ifCond .eq 7, 3) := by decide +kernel
theorem dX5_clearingFault_98 : decode cX5_clearingFault 98 = .ok (.iconst 3, 1) := by decide +kernel
theorem dX5_clearingFault_99 : decode cX5_clearingFault 99 = .ok (.goto 4, 3) := by decide +kernel
theorem dX5_clearingFault_102 : decode cX5_clearingFault 102 = .ok (.iconst 0, 1) := by decide +kernel
theorem dX5_clearingFault_103 : decode cX5_clearingFault 103 = .ok (.ireturn, 1) := by decide +kernel
set_option maxRecDepth 100000 in
set_option maxHeartbeats 4000000 in
theorem C_X5_clearingFault (l : Launch) (E : gE) (x : gX) {o : Nat} (ho : gOk o) {v1 v2 v3 : Int32} {M : gM} {r : Int32} (hf : f_X5_clearingFault o v1 v2 v3 M = some r) : gM0 l E yX5_clearingFault (.code yX5_clearingFault cX5_clearingFault 6 (some .int)) (gR 2 41) M x [.ref (E.2.1 o), .int v1, .int v2, .int v3] (some (.int r)) M := by
  refine gMet (by decide +kernel) (Nat.le_of_ble_eq_true rfl) ?_
  intro p e s m args below meth c H locs ls Q hC hl hI kr kv
  replace hC : gC p s m args c cX5_clearingFault 6 RX5 E := hC
  replace hl : lv_has ls 6 [(0, .ref (E.2.1 o)), (1, .int v1), (2, .int v2), (3, .int v3)] := hl
  have hx := hC.1
  have hb := hC.2.1
  unfold f_X5_clearingFault at hf
  refine lv_iload_n hx hb dX5_clearingFault_0 rfl (lv_at hl 1 rfl) ?_
  obtain ⟨r1, hr2, hf⟩ := gbind hf
  have hr2 := C_X6_isBerth l E x  hr2
  refine g_callSNi (rest := []) hC hI hr2 Y_X6_isBerth S_X6_isBerth (List.mem_of_getElem? (i := 6) rfl) ⟨rfl, rfl⟩ ⟨Nat.le_of_ble_eq_true rfl, Nat.le_of_ble_eq_true rfl⟩ rfl hl.1 rfl (Nat.le_of_ble_eq_true rfl) dX5_clearingFault_1 ⟨Nat.le_of_ble_eq_true rfl, Nat.le_of_ble_eq_true rfl⟩ (fun H locs hI => ?_)
  refine lv_if_eq (tgt := 14) hx hb dX5_clearingFault_4 rfl (fun h3 => ?_) (fun h3 => ?_)
  · replace hf := gif h3 hf
    refine lv_iconst (v := 1) hx hb dX5_clearingFault_14 (by decide) ?_
    exact kr _ _ _ _ _ _ (gri hf) hI ⟨.int, rfl, rfl⟩ dX5_clearingFault_15
  · replace hf := gifn h3 hf
    refine lv_iload_n hx hb dX5_clearingFault_7 rfl (lv_at hl 2 rfl) ?_
    obtain ⟨r4, hr5, hf⟩ := gbind hf
    have hr5 := C_X6_isStack l E x  hr5
    refine g_callSNi (rest := []) hC hI hr5 Y_X6_isStack S_X6_isStack (List.mem_of_getElem? (i := 7) rfl) ⟨rfl, rfl⟩ ⟨Nat.le_of_ble_eq_true rfl, Nat.le_of_ble_eq_true rfl⟩ rfl hl.1 rfl (Nat.le_of_ble_eq_true rfl) dX5_clearingFault_8 ⟨Nat.le_of_ble_eq_true rfl, Nat.le_of_ble_eq_true rfl⟩ (fun H locs hI => ?_)
    refine lv_if_ne (tgt := 16) hx hb dX5_clearingFault_11 rfl (fun h6 => ?_) (fun h6 => ?_)
    · replace hf := gifn h6 hf
      refine lv_iload_n hx hb dX5_clearingFault_16 rfl (lv_at hl 3 rfl) ?_
      refine lv_if_lt (tgt := 26) hx hb dX5_clearingFault_17 rfl (fun h7 => ?_) (fun h7 => ?_)
      · replace hf := gif h7 hf
        refine lv_iconst (v := 2) hx hb dX5_clearingFault_26 (by decide) ?_
        exact kr _ _ _ _ _ _ (gri hf) hI ⟨.int, rfl, rfl⟩ dX5_clearingFault_27
      · replace hf := gifn h7 hf
        refine lv_iload_n hx hb dX5_clearingFault_20 rfl (lv_at hl 3 rfl) ?_
        refine lv_bipush (v := 9) hx hb dX5_clearingFault_21 (by decide) ?_
        refine lv_icmp_le (tgt := 28) hx hb dX5_clearingFault_23 rfl (fun h8 => ?_) (fun h8 => ?_)
        · replace hf := gif h8 hf
          refine lv_aload_n hx hb dX5_clearingFault_28 rfl (lv_at hl 0 rfl) ?_
          refine gt_X5_X5_cargo hC hI ho dX5_clearingFault_29 ?_
          refine lv_iload_n hx hb dX5_clearingFault_32 rfl (lv_at hl 1 rfl) ?_
          refine lv_iload_n hx hb dX5_clearingFault_33 rfl (lv_at hl 2 rfl) ?_
          obtain ⟨r9, hr10, hf⟩ := gbind hf
          have hr10 := C_X6_pileOf l E x  hr10
          refine g_callSNi (rest := [.ref (E.2.1 (o + 1))]) hC hI hr10 Y_X6_pileOf S_X6_pileOf (List.mem_of_getElem? (i := 8) rfl) ⟨rfl, rfl⟩ ⟨Nat.le_of_ble_eq_true rfl, Nat.le_of_ble_eq_true rfl⟩ rfl hl.1 rfl (Nat.le_of_ble_eq_true rfl) dX5_clearingFault_34 ⟨Nat.le_of_ble_eq_true rfl, Nat.le_of_ble_eq_true rfl⟩ (fun H locs hI => ?_)
          obtain ⟨r11, hr12, hf⟩ := gbind hf
          have hr12 := C_X0_height l E x ho hr12
          refine g_callVi (rest := []) hC hI hr12 Y_X0_height V_X0_height w247 (rcv_X0 hC hI ho) ⟨rfl, rfl⟩ ⟨Nat.le_of_ble_eq_true rfl, Nat.le_of_ble_eq_true rfl⟩ rfl hl.1 rfl (Nat.le_of_ble_eq_true rfl) dX5_clearingFault_37 ⟨Nat.le_of_ble_eq_true rfl, Nat.le_of_ble_eq_true rfl⟩ (fun H locs hI => ?_)
          refine lv_if_ne (tgt := 47) hx hb dX5_clearingFault_40 rfl (fun h13 => ?_) (fun h13 => ?_)
          · replace hf := gifn h13 hf
            refine lv_iconst (v := 0) hx hb dX5_clearingFault_47 (by decide) ?_
            refine lv_istore (lv' := [(4, .int 0), (0, .ref (E.2.1 o)), (1, .int v1), (2, .int v2), (3, .int v3)]) hx hb dX5_clearingFault_48 hl (by decide) rfl (fun ls hl => ?_)
            refine lv_aload_n hx hb dX5_clearingFault_50 rfl (lv_at hl 1 rfl) ?_
            refine gt_X5_X5_cargo hC hI ho dX5_clearingFault_51 ?_
            refine lv_bipush (v := 12) hx hb dX5_clearingFault_54 (by decide) ?_
            obtain ⟨r14, hr15, hf⟩ := gbind hf
            have hr15 := C_X0_height l E x ho hr15
            refine g_callVi (rest := []) hC hI hr15 Y_X0_height V_X0_height w247 (rcv_X0 hC hI ho) ⟨rfl, rfl⟩ ⟨Nat.le_of_ble_eq_true rfl, Nat.le_of_ble_eq_true rfl⟩ rfl hl.1 rfl (Nat.le_of_ble_eq_true rfl) dX5_clearingFault_56 ⟨Nat.le_of_ble_eq_true rfl, Nat.le_of_ble_eq_true rfl⟩ (fun H locs hI => ?_)
            refine lv_bipush (v := 15) hx hb dX5_clearingFault_59 (by decide) ?_
            refine lv_icmp_lt (tgt := 68) hx hb dX5_clearingFault_61 rfl (fun h16 => ?_) (fun h16 => ?_)
            · replace hf := gif h16 hf
              refine lv_iconst (v := 0) hx hb dX5_clearingFault_68 (by decide) ?_
              refine lv_istore (lv' := [(5, .int 0), (4, .int 0), (0, .ref (E.2.1 o)), (1, .int v1), (2, .int v2), (3, .int v3)]) hx hb dX5_clearingFault_69 hl (by decide) rfl (fun ls hl => ?_)
              refine lv_aload_n hx hb dX5_clearingFault_71 rfl (lv_at hl 2 rfl) ?_
              refine lv_iload_n hx hb dX5_clearingFault_72 rfl (lv_at hl 3 rfl) ?_
              obtain ⟨r17, hr18, hf⟩ := gbind hf
              have hr18 := C_X5_hasShip l E x ho hr18
              refine g_callVi (rest := []) hC hI hr18 Y_X5_hasShip V_X5_hasShip w251 (rcv_X5 hC hI ho) ⟨rfl, rfl⟩ ⟨Nat.le_of_ble_eq_true rfl, Nat.le_of_ble_eq_true rfl⟩ rfl hl.1 rfl (Nat.le_of_ble_eq_true rfl) dX5_clearingFault_73 ⟨Nat.le_of_ble_eq_true rfl, Nat.le_of_ble_eq_true rfl⟩ (fun H locs hI => ?_)
              refine lv_if_eq (tgt := 98) hx hb dX5_clearingFault_76 rfl (fun h19 => ?_) (fun h19 => ?_)
              · replace hf := gif h19 hf
                refine lv_iconst (v := 3) hx hb dX5_clearingFault_98 (by decide) ?_
                refine lv_goto (tgt := 103) hx hb dX5_clearingFault_99 rfl ?_
                exact kr _ _ _ _ _ _ (gri hf) hI ⟨.int, rfl, rfl⟩ dX5_clearingFault_103
              · replace hf := gifn h19 hf
                refine lv_aload_n hx hb dX5_clearingFault_79 rfl (lv_at hl 2 rfl) ?_
                refine gt_X5_X5_locks hC hI ho dX5_clearingFault_80 ?_
                refine lv_iload_n hx hb dX5_clearingFault_83 rfl (lv_at hl 3 rfl) ?_
                obtain ⟨h20, hf⟩ := gifN hf
                refine g_iald hC hI (k := v1.toNatClampNeg) (gIA_11 ho) h20 rfl dX5_clearingFault_84 ?_
                refine lv_if_gt (tgt := 98) hx hb dX5_clearingFault_85 rfl (fun h21 => ?_) (fun h21 => ?_)
                · replace hf := gif h21 hf
                  refine lv_iconst (v := 3) hx hb dX5_clearingFault_98 (by decide) ?_
                  refine lv_goto (tgt := 103) hx hb dX5_clearingFault_99 rfl ?_
                  exact kr _ _ _ _ _ _ (gri hf) hI ⟨.int, rfl, rfl⟩ dX5_clearingFault_103
                · replace hf := gifn h21 hf
                  refine lv_iload hx hb dX5_clearingFault_88 (lv_at hl 1 rfl) ?_
                  refine lv_if_ne (tgt := 98) hx hb dX5_clearingFault_90 rfl (fun h22 => absurd (by decide) h22) (fun h22 => ?_)
                  refine lv_iload hx hb dX5_clearingFault_93 (lv_at hl 0 rfl) ?_
                  refine lv_if_eq (tgt := 102) hx hb dX5_clearingFault_95 rfl (fun h23 => ?_) (fun h23 => absurd (by decide) h23)
                  refine lv_iconst (v := 0) hx hb dX5_clearingFault_102 (by decide) ?_
                  exact kr _ _ _ _ _ _ (gri hf) hI ⟨.int, rfl, rfl⟩ dX5_clearingFault_103
            · replace hf := gifn h16 hf
              refine lv_iconst (v := 1) hx hb dX5_clearingFault_64 (by decide) ?_
              refine lv_goto (tgt := 69) hx hb dX5_clearingFault_65 rfl ?_
              refine lv_istore (lv' := [(5, .int 1), (4, .int 0), (0, .ref (E.2.1 o)), (1, .int v1), (2, .int v2), (3, .int v3)]) hx hb dX5_clearingFault_69 hl (by decide) rfl (fun ls hl => ?_)
              refine lv_aload_n hx hb dX5_clearingFault_71 rfl (lv_at hl 2 rfl) ?_
              refine lv_iload_n hx hb dX5_clearingFault_72 rfl (lv_at hl 3 rfl) ?_
              obtain ⟨r24, hr25, hf⟩ := gbind hf
              have hr25 := C_X5_hasShip l E x ho hr25
              refine g_callVi (rest := []) hC hI hr25 Y_X5_hasShip V_X5_hasShip w251 (rcv_X5 hC hI ho) ⟨rfl, rfl⟩ ⟨Nat.le_of_ble_eq_true rfl, Nat.le_of_ble_eq_true rfl⟩ rfl hl.1 rfl (Nat.le_of_ble_eq_true rfl) dX5_clearingFault_73 ⟨Nat.le_of_ble_eq_true rfl, Nat.le_of_ble_eq_true rfl⟩ (fun H locs hI => ?_)
              refine lv_if_eq (tgt := 98) hx hb dX5_clearingFault_76 rfl (fun h26 => ?_) (fun h26 => ?_)
              · replace hf := gif h26 hf
                refine lv_iconst (v := 3) hx hb dX5_clearingFault_98 (by decide) ?_
                refine lv_goto (tgt := 103) hx hb dX5_clearingFault_99 rfl ?_
                exact kr _ _ _ _ _ _ (gri hf) hI ⟨.int, rfl, rfl⟩ dX5_clearingFault_103
              · replace hf := gifn h26 hf
                refine lv_aload_n hx hb dX5_clearingFault_79 rfl (lv_at hl 2 rfl) ?_
                refine gt_X5_X5_locks hC hI ho dX5_clearingFault_80 ?_
                refine lv_iload_n hx hb dX5_clearingFault_83 rfl (lv_at hl 3 rfl) ?_
                obtain ⟨h27, hf⟩ := gifN hf
                refine g_iald hC hI (k := v1.toNatClampNeg) (gIA_11 ho) h27 rfl dX5_clearingFault_84 ?_
                refine lv_if_gt (tgt := 98) hx hb dX5_clearingFault_85 rfl (fun h28 => ?_) (fun h28 => ?_)
                · replace hf := gif h28 hf
                  refine lv_iconst (v := 3) hx hb dX5_clearingFault_98 (by decide) ?_
                  refine lv_goto (tgt := 103) hx hb dX5_clearingFault_99 rfl ?_
                  exact kr _ _ _ _ _ _ (gri hf) hI ⟨.int, rfl, rfl⟩ dX5_clearingFault_103
                · replace hf := gifn h28 hf
                  refine lv_iload hx hb dX5_clearingFault_88 (lv_at hl 1 rfl) ?_
                  refine lv_if_ne (tgt := 98) hx hb dX5_clearingFault_90 rfl (fun h29 => absurd (by decide) h29) (fun h29 => ?_)
                  refine lv_iload hx hb dX5_clearingFault_93 (lv_at hl 0 rfl) ?_
                  refine lv_if_eq (tgt := 102) hx hb dX5_clearingFault_95 rfl (fun h30 => absurd h30 (by decide)) (fun h30 => ?_)
                  refine lv_iconst (v := 3) hx hb dX5_clearingFault_98 (by decide) ?_
                  refine lv_goto (tgt := 103) hx hb dX5_clearingFault_99 rfl ?_
                  exact kr _ _ _ _ _ _ (gri hf) hI ⟨.int, rfl, rfl⟩ dX5_clearingFault_103
          · replace hf := gif h13 hf
            refine lv_iconst (v := 1) hx hb dX5_clearingFault_43 (by decide) ?_
            refine lv_goto (tgt := 48) hx hb dX5_clearingFault_44 rfl ?_
            refine lv_istore (lv' := [(4, .int 1), (0, .ref (E.2.1 o)), (1, .int v1), (2, .int v2), (3, .int v3)]) hx hb dX5_clearingFault_48 hl (by decide) rfl (fun ls hl => ?_)
            refine lv_aload_n hx hb dX5_clearingFault_50 rfl (lv_at hl 1 rfl) ?_
            refine gt_X5_X5_cargo hC hI ho dX5_clearingFault_51 ?_
            refine lv_bipush (v := 12) hx hb dX5_clearingFault_54 (by decide) ?_
            obtain ⟨r31, hr32, hf⟩ := gbind hf
            have hr32 := C_X0_height l E x ho hr32
            refine g_callVi (rest := []) hC hI hr32 Y_X0_height V_X0_height w247 (rcv_X0 hC hI ho) ⟨rfl, rfl⟩ ⟨Nat.le_of_ble_eq_true rfl, Nat.le_of_ble_eq_true rfl⟩ rfl hl.1 rfl (Nat.le_of_ble_eq_true rfl) dX5_clearingFault_56 ⟨Nat.le_of_ble_eq_true rfl, Nat.le_of_ble_eq_true rfl⟩ (fun H locs hI => ?_)
            refine lv_bipush (v := 15) hx hb dX5_clearingFault_59 (by decide) ?_
            refine lv_icmp_lt (tgt := 68) hx hb dX5_clearingFault_61 rfl (fun h33 => ?_) (fun h33 => ?_)
            · replace hf := gif h33 hf
              refine lv_iconst (v := 0) hx hb dX5_clearingFault_68 (by decide) ?_
              refine lv_istore (lv' := [(5, .int 0), (4, .int 1), (0, .ref (E.2.1 o)), (1, .int v1), (2, .int v2), (3, .int v3)]) hx hb dX5_clearingFault_69 hl (by decide) rfl (fun ls hl => ?_)
              refine lv_aload_n hx hb dX5_clearingFault_71 rfl (lv_at hl 2 rfl) ?_
              refine lv_iload_n hx hb dX5_clearingFault_72 rfl (lv_at hl 3 rfl) ?_
              obtain ⟨r34, hr35, hf⟩ := gbind hf
              have hr35 := C_X5_hasShip l E x ho hr35
              refine g_callVi (rest := []) hC hI hr35 Y_X5_hasShip V_X5_hasShip w251 (rcv_X5 hC hI ho) ⟨rfl, rfl⟩ ⟨Nat.le_of_ble_eq_true rfl, Nat.le_of_ble_eq_true rfl⟩ rfl hl.1 rfl (Nat.le_of_ble_eq_true rfl) dX5_clearingFault_73 ⟨Nat.le_of_ble_eq_true rfl, Nat.le_of_ble_eq_true rfl⟩ (fun H locs hI => ?_)
              refine lv_if_eq (tgt := 98) hx hb dX5_clearingFault_76 rfl (fun h36 => ?_) (fun h36 => ?_)
              · replace hf := gif h36 hf
                refine lv_iconst (v := 3) hx hb dX5_clearingFault_98 (by decide) ?_
                refine lv_goto (tgt := 103) hx hb dX5_clearingFault_99 rfl ?_
                exact kr _ _ _ _ _ _ (gri hf) hI ⟨.int, rfl, rfl⟩ dX5_clearingFault_103
              · replace hf := gifn h36 hf
                refine lv_aload_n hx hb dX5_clearingFault_79 rfl (lv_at hl 2 rfl) ?_
                refine gt_X5_X5_locks hC hI ho dX5_clearingFault_80 ?_
                refine lv_iload_n hx hb dX5_clearingFault_83 rfl (lv_at hl 3 rfl) ?_
                obtain ⟨h37, hf⟩ := gifN hf
                refine g_iald hC hI (k := v1.toNatClampNeg) (gIA_11 ho) h37 rfl dX5_clearingFault_84 ?_
                refine lv_if_gt (tgt := 98) hx hb dX5_clearingFault_85 rfl (fun h38 => ?_) (fun h38 => ?_)
                · replace hf := gif h38 hf
                  refine lv_iconst (v := 3) hx hb dX5_clearingFault_98 (by decide) ?_
                  refine lv_goto (tgt := 103) hx hb dX5_clearingFault_99 rfl ?_
                  exact kr _ _ _ _ _ _ (gri hf) hI ⟨.int, rfl, rfl⟩ dX5_clearingFault_103
                · replace hf := gifn h38 hf
                  refine lv_iload hx hb dX5_clearingFault_88 (lv_at hl 1 rfl) ?_
                  refine lv_if_ne (tgt := 98) hx hb dX5_clearingFault_90 rfl (fun h39 => ?_) (fun h39 => absurd h39 (by decide))
                  refine lv_iconst (v := 3) hx hb dX5_clearingFault_98 (by decide) ?_
                  refine lv_goto (tgt := 103) hx hb dX5_clearingFault_99 rfl ?_
                  exact kr _ _ _ _ _ _ (gri hf) hI ⟨.int, rfl, rfl⟩ dX5_clearingFault_103
            · replace hf := gifn h33 hf
              refine lv_iconst (v := 1) hx hb dX5_clearingFault_64 (by decide) ?_
              refine lv_goto (tgt := 69) hx hb dX5_clearingFault_65 rfl ?_
              refine lv_istore (lv' := [(5, .int 1), (4, .int 1), (0, .ref (E.2.1 o)), (1, .int v1), (2, .int v2), (3, .int v3)]) hx hb dX5_clearingFault_69 hl (by decide) rfl (fun ls hl => ?_)
              refine lv_aload_n hx hb dX5_clearingFault_71 rfl (lv_at hl 2 rfl) ?_
              refine lv_iload_n hx hb dX5_clearingFault_72 rfl (lv_at hl 3 rfl) ?_
              obtain ⟨r40, hr41, hf⟩ := gbind hf
              have hr41 := C_X5_hasShip l E x ho hr41
              refine g_callVi (rest := []) hC hI hr41 Y_X5_hasShip V_X5_hasShip w251 (rcv_X5 hC hI ho) ⟨rfl, rfl⟩ ⟨Nat.le_of_ble_eq_true rfl, Nat.le_of_ble_eq_true rfl⟩ rfl hl.1 rfl (Nat.le_of_ble_eq_true rfl) dX5_clearingFault_73 ⟨Nat.le_of_ble_eq_true rfl, Nat.le_of_ble_eq_true rfl⟩ (fun H locs hI => ?_)
              refine lv_if_eq (tgt := 98) hx hb dX5_clearingFault_76 rfl (fun h42 => ?_) (fun h42 => ?_)
              · replace hf := gif h42 hf
                refine lv_iconst (v := 3) hx hb dX5_clearingFault_98 (by decide) ?_
                refine lv_goto (tgt := 103) hx hb dX5_clearingFault_99 rfl ?_
                exact kr _ _ _ _ _ _ (gri hf) hI ⟨.int, rfl, rfl⟩ dX5_clearingFault_103
              · replace hf := gifn h42 hf
                refine lv_aload_n hx hb dX5_clearingFault_79 rfl (lv_at hl 2 rfl) ?_
                refine gt_X5_X5_locks hC hI ho dX5_clearingFault_80 ?_
                refine lv_iload_n hx hb dX5_clearingFault_83 rfl (lv_at hl 3 rfl) ?_
                obtain ⟨h43, hf⟩ := gifN hf
                refine g_iald hC hI (k := v1.toNatClampNeg) (gIA_11 ho) h43 rfl dX5_clearingFault_84 ?_
                refine lv_if_gt (tgt := 98) hx hb dX5_clearingFault_85 rfl (fun h44 => ?_) (fun h44 => ?_)
                · replace hf := gif h44 hf
                  refine lv_iconst (v := 3) hx hb dX5_clearingFault_98 (by decide) ?_
                  refine lv_goto (tgt := 103) hx hb dX5_clearingFault_99 rfl ?_
                  exact kr _ _ _ _ _ _ (gri hf) hI ⟨.int, rfl, rfl⟩ dX5_clearingFault_103
                · replace hf := gifn h44 hf
                  refine lv_iload hx hb dX5_clearingFault_88 (lv_at hl 1 rfl) ?_
                  refine lv_if_ne (tgt := 98) hx hb dX5_clearingFault_90 rfl (fun h45 => ?_) (fun h45 => absurd h45 (by decide))
                  refine lv_iconst (v := 3) hx hb dX5_clearingFault_98 (by decide) ?_
                  refine lv_goto (tgt := 103) hx hb dX5_clearingFault_99 rfl ?_
                  exact kr _ _ _ _ _ _ (gri hf) hI ⟨.int, rfl, rfl⟩ dX5_clearingFault_103
        · replace hf := gifn h8 hf
          refine lv_iconst (v := 2) hx hb dX5_clearingFault_26 (by decide) ?_
          exact kr _ _ _ _ _ _ (gri hf) hI ⟨.int, rfl, rfl⟩ dX5_clearingFault_27
    · replace hf := gif h6 hf
      refine lv_iconst (v := 1) hx hb dX5_clearingFault_14 (by decide) ?_
      exact kr _ _ _ _ _ _ (gri hf) hI ⟨.int, rfl, rfl⟩ dX5_clearingFault_15
theorem dX0_rowAt_0 : decode cX0_rowAt 0 = .ok (.iconst 0, 1) := by decide +kernel
theorem dX0_rowAt_1 : decode cX0_rowAt 1 = .ok (.istore_n 3, 1) := by decide +kernel
theorem dX0_rowAt_2 : decode cX0_rowAt 2 = .ok (.iload_n 3, 1) := by decide +kernel
theorem dX0_rowAt_3 : decode cX0_rowAt 3 = .ok (.aload_n 0, 1) := by decide +kernel
theorem dX0_rowAt_4 : decode cX0_rowAt 4 = .ok (.getfield 30, 3) := by decide +kernel
theorem dX0_rowAt_7 : decode cX0_rowAt 7 = .ok (.if_icmp .ge 37, 3) := by decide +kernel
theorem dX0_rowAt_10 : decode cX0_rowAt 10 = .ok (.iload_n 3, 1) := by decide +kernel
theorem dX0_rowAt_11 : decode cX0_rowAt 11 = .ok (.bipush 75, 2) := by decide +kernel
theorem dX0_rowAt_13 : decode cX0_rowAt 13 = .ok (.if_icmp .ge 31, 3) := by decide +kernel
theorem dX0_rowAt_16 : decode cX0_rowAt 16 = .ok (.aload_n 0, 1) := by decide +kernel
theorem dX0_rowAt_17 : decode cX0_rowAt 17 = .ok (.getfield 21, 3) := by decide +kernel
theorem dX0_rowAt_20 : decode cX0_rowAt 20 = .ok (.iload_n 3, 1) := by decide +kernel
theorem dX0_rowAt_21 : decode cX0_rowAt 21 = .ok (.iaload, 1) := by decide +kernel
theorem dX0_rowAt_22 : decode cX0_rowAt 22 = .ok (.iload_n 1, 1) := by decide +kernel
theorem dX0_rowAt_23 : decode cX0_rowAt 23 = .ok (.if_icmp .ne 15, 3) := by decide +kernel
theorem dX0_rowAt_26 : decode cX0_rowAt 26 = .ok (.aload_n 0, 1) := by decide +kernel
theorem dX0_rowAt_27 : decode cX0_rowAt 27 = .ok (.getfield 24, 3) := by decide +kernel
theorem dX0_rowAt_30 : decode cX0_rowAt 30 = .ok (.iload_n 3, 1) := by decide +kernel
theorem dX0_rowAt_31 : decode cX0_rowAt 31 = .ok (.iaload, 1) := by decide +kernel
theorem dX0_rowAt_32 : decode cX0_rowAt 32 = .ok (.iload_n 2, 1) := by decide +kernel
theorem dX0_rowAt_33 : decode cX0_rowAt 33 = .ok (.if_icmp .ne 5, 3) := by decide +kernel
theorem dX0_rowAt_36 : decode cX0_rowAt 36 = .ok (.iload_n 3, 1) := by decide +kernel
theorem dX0_rowAt_37 : decode cX0_rowAt 37 = .ok (.ireturn, 1) := by decide +kernel
theorem dX0_rowAt_38 : decode cX0_rowAt 38 = .ok (.iinc 3 1, 3) := by decide +kernel
theorem dX0_rowAt_41 : decode cX0_rowAt 41 = .ok (.goto (-39), 3) := by decide +kernel
theorem dX0_rowAt_44 : decode cX0_rowAt 44 = .ok (.iconst (-1), 1) := by decide +kernel
theorem dX0_rowAt_45 : decode cX0_rowAt 45 = .ok (.ireturn, 1) := by decide +kernel
set_option maxRecDepth 100000 in
set_option maxHeartbeats 4000000 in
theorem C_X0_rowAt (l : Launch) (E : gE) (x : gX) {o : Nat} (ho : gOk o) {v1 v2 : Int32} {M : gM} {r : Int32} (hf : f_X0_rowAt o v1 v2 M = some r) : gM0 l E yX0_rowAt (.code yX0_rowAt cX0_rowAt 4 (some .int)) (gR 0 0) M x [.ref (E.2.1 (o + 1)), .int v1, .int v2] (some (.int r)) M := by
  refine gMet (by decide +kernel) (Nat.le_of_ble_eq_true rfl) ?_
  intro p e s m args below meth c H locs ls Q hC hl hI kr kv
  replace hC : gC p s m args c cX0_rowAt 4 RX0 E := hC
  replace hl : lv_has ls 4 [(0, .ref (E.2.1 (o + 1))), (1, .int v1), (2, .int v2)] := hl
  have hx := hC.1
  have hb := hC.2.1
  have L2 : ∀ (v1 : Int32) (v2 : Int32) (n : Nat) (v3 : Int32), f_X0_rowAt_L2 o M v1 v2 n v3 = some r → ∀ (H : Heap) (locs : List Loc) (ls : Array Slot), gI E s M x H locs → lv_has ls 4 [(3, .int v3), (0, .ref (E.2.1 (o + 1))), (1, .int v1), (2, .int v2)] → W p l e (gR 0 0) s m args below meth c H locs 0 0 Q (F0 m 2 ls []) := by
    intro v1 v2 n
    induction n with
    | zero => intro v3 hf; rw [f_X0_rowAt_L2] at hf; cases hf
    | succ n ih =>
      intro v3 hf H locs ls hI hl
      rw [f_X0_rowAt_L2] at hf
      refine lv_iload_n hx hb dX0_rowAt_2 rfl (lv_at hl 0 rfl) ?_
      refine lv_aload_n hx hb dX0_rowAt_3 rfl (lv_at hl 1 rfl) ?_
      refine gt_X0_X0_count hC hI ho dX0_rowAt_4 ?_
      refine lv_icmp_ge (tgt := 44) hx hb dX0_rowAt_7 rfl (fun h1 => ?_) (fun h1 => ?_)
      · replace hf := gif h1 hf
        refine lv_iconst (v := (-1)) hx hb dX0_rowAt_44 (by decide) ?_
        exact kr _ _ _ _ _ _ (gri hf) hI ⟨.int, rfl, rfl⟩ dX0_rowAt_45
      · replace hf := gifn h1 hf
        refine lv_iload_n hx hb dX0_rowAt_10 rfl (lv_at hl 0 rfl) ?_
        refine lv_bipush (v := 75) hx hb dX0_rowAt_11 (by decide) ?_
        refine lv_icmp_ge (tgt := 44) hx hb dX0_rowAt_13 rfl (fun h2 => ?_) (fun h2 => ?_)
        · replace hf := gif h2 hf
          refine lv_iconst (v := (-1)) hx hb dX0_rowAt_44 (by decide) ?_
          exact kr _ _ _ _ _ _ (gri hf) hI ⟨.int, rfl, rfl⟩ dX0_rowAt_45
        · replace hf := gifn h2 hf
          refine lv_aload_n hx hb dX0_rowAt_16 rfl (lv_at hl 1 rfl) ?_
          refine gt_X0_X0_piles hC hI ho dX0_rowAt_17 ?_
          refine lv_iload_n hx hb dX0_rowAt_20 rfl (lv_at hl 0 rfl) ?_
          obtain ⟨h3, hf⟩ := gifN hf
          refine g_iald hC hI (k := v3.toNatClampNeg) (gIA_5 ho) h3 rfl dX0_rowAt_21 ?_
          refine lv_iload_n hx hb dX0_rowAt_22 rfl (lv_at hl 2 rfl) ?_
          refine lv_icmp_ne (tgt := 38) hx hb dX0_rowAt_23 rfl (fun h4 => ?_) (fun h4 => ?_)
          · replace hf := gifn h4 hf
            refine lv_iinc (k := 0) (v := v3 + 1) (lv' := [(3, .int (v3 + 1)), (0, .ref (E.2.1 (o + 1))), (1, .int v1), (2, .int v2)]) hx hb dX0_rowAt_38 hl rfl rfl (by decide) rfl (fun ls hl => ?_)
            refine lv_goto (tgt := 2) hx hb dX0_rowAt_41 rfl ?_
            exact ih (v3 + 1) hf _ _ _ hI (lv_sub hl [0, 1, 2, 3] rfl)
          · replace hf := gif h4 hf
            refine lv_aload_n hx hb dX0_rowAt_26 rfl (lv_at hl 1 rfl) ?_
            refine gt_X0_X0_levels hC hI ho dX0_rowAt_27 ?_
            refine lv_iload_n hx hb dX0_rowAt_30 rfl (lv_at hl 0 rfl) ?_
            obtain ⟨h5, hf⟩ := gifN hf
            refine g_iald hC hI (k := v3.toNatClampNeg) (gIA_6 ho) h5 rfl dX0_rowAt_31 ?_
            refine lv_iload_n hx hb dX0_rowAt_32 rfl (lv_at hl 3 rfl) ?_
            refine lv_icmp_ne (tgt := 38) hx hb dX0_rowAt_33 rfl (fun h6 => ?_) (fun h6 => ?_)
            · replace hf := gifn h6 hf
              refine lv_iinc (k := 0) (v := v3 + 1) (lv' := [(3, .int (v3 + 1)), (0, .ref (E.2.1 (o + 1))), (1, .int v1), (2, .int v2)]) hx hb dX0_rowAt_38 hl rfl rfl (by decide) rfl (fun ls hl => ?_)
              refine lv_goto (tgt := 2) hx hb dX0_rowAt_41 rfl ?_
              exact ih (v3 + 1) hf _ _ _ hI (lv_sub hl [0, 1, 2, 3] rfl)
            · replace hf := gif h6 hf
              refine lv_iload_n hx hb dX0_rowAt_36 rfl (lv_at hl 0 rfl) ?_
              exact kr _ _ _ _ _ _ (gri hf) hI ⟨.int, rfl, rfl⟩ dX0_rowAt_37
  unfold f_X0_rowAt at hf
  refine lv_iconst (v := 0) hx hb dX0_rowAt_0 (by decide) ?_
  refine lv_istore_n (lv' := [(3, .int 0), (0, .ref (E.2.1 (o + 1))), (1, .int v1), (2, .int v2)]) hx hb dX0_rowAt_1 rfl hl (by decide) rfl (fun ls hl => ?_)
  exact L2 v1 v2 gF 0 hf _ _ _ hI (lv_sub hl [0, 1, 2, 3] rfl)
theorem dX0_topRow_0 : decode cX0_topRow 0 = .ok (.aload_n 0, 1) := by decide +kernel
theorem dX0_topRow_1 : decode cX0_topRow 1 = .ok (.iload_n 1, 1) := by decide +kernel
theorem dX0_topRow_2 : decode cX0_topRow 2 = .ok (.aload_n 0, 1) := by decide +kernel
theorem dX0_topRow_3 : decode cX0_topRow 3 = .ok (.iload_n 1, 1) := by decide +kernel
theorem dX0_topRow_4 : decode cX0_topRow 4 = .ok (.invokevirtual 40, 3) := by decide +kernel
theorem dX0_topRow_7 : decode cX0_topRow 7 = .ok (.iconst 1, 1) := by decide +kernel
theorem dX0_topRow_8 : decode cX0_topRow 8 = .ok (.isub, 1) := by decide +kernel
theorem dX0_topRow_9 : decode cX0_topRow 9 = .ok (.invokevirtual 72, 3) := by decide +kernel
theorem dX0_topRow_12 : decode cX0_topRow 12 = .ok (.ireturn, 1) := by decide +kernel
set_option maxRecDepth 100000 in
set_option maxHeartbeats 4000000 in
theorem C_X0_topRow (l : Launch) (E : gE) (x : gX) {o : Nat} (ho : gOk o) {v1 : Int32} {M : gM} {r : Int32} (hf : f_X0_topRow o v1 M = some r) : gM0 l E yX0_topRow (.code yX0_topRow cX0_topRow 2 (some .int)) (gR 1 23) M x [.ref (E.2.1 (o + 1)), .int v1] (some (.int r)) M := by
  refine gMet (by decide +kernel) (Nat.le_of_ble_eq_true rfl) ?_
  intro p e s m args below meth c H locs ls Q hC hl hI kr kv
  replace hC : gC p s m args c cX0_topRow 2 RX0 E := hC
  replace hl : lv_has ls 2 [(0, .ref (E.2.1 (o + 1))), (1, .int v1)] := hl
  have hx := hC.1
  have hb := hC.2.1
  unfold f_X0_topRow at hf
  refine lv_aload_n hx hb dX0_topRow_0 rfl (lv_at hl 0 rfl) ?_
  refine lv_iload_n hx hb dX0_topRow_1 rfl (lv_at hl 1 rfl) ?_
  refine lv_aload_n hx hb dX0_topRow_2 rfl (lv_at hl 0 rfl) ?_
  refine lv_iload_n hx hb dX0_topRow_3 rfl (lv_at hl 1 rfl) ?_
  obtain ⟨r1, hr2, hf⟩ := gbind hf
  have hr2 := C_X0_height l E x ho hr2
  refine g_callVi (rest := [.int v1, .ref (E.2.1 (o + 1))]) hC hI hr2 Y_X0_height V_X0_height w405 (rcv_X0 hC hI ho) ⟨rfl, rfl⟩ ⟨Nat.le_of_ble_eq_true rfl, Nat.le_of_ble_eq_true rfl⟩ rfl hl.1 rfl (Nat.le_of_ble_eq_true rfl) dX0_topRow_4 ⟨Nat.le_of_ble_eq_true rfl, Nat.le_of_ble_eq_true rfl⟩ (fun H locs hI => ?_)
  refine lv_iconst (v := 1) hx hb dX0_topRow_7 (by decide) ?_
  refine lv_isub hx hb dX0_topRow_8 ?_
  obtain ⟨r3, hr4, hf⟩ := gbind hf
  have hr4 := C_X0_rowAt l E x ho hr4
  refine g_callVi (rest := []) hC hI hr4 Y_X0_rowAt V_X0_rowAt w422 (rcv_X0 hC hI ho) ⟨rfl, rfl⟩ ⟨Nat.le_of_ble_eq_true rfl, Nat.le_of_ble_eq_true rfl⟩ rfl hl.1 rfl (Nat.le_of_ble_eq_true rfl) dX0_topRow_9 ⟨Nat.le_of_ble_eq_true rfl, Nat.le_of_ble_eq_true rfl⟩ (fun H locs hI => ?_)
  exact kr _ _ _ _ _ _ (gri hf) hI ⟨.int, rfl, rfl⟩ dX0_topRow_12
theorem dX0_hasRow_0 : decode cX0_hasRow 0 = .ok (.iload_n 1, 1) := by decide +kernel
theorem dX0_hasRow_1 : decode cX0_hasRow 1 = .ok (.ifCond .lt 21, 3) := by decide +kernel
theorem dX0_hasRow_4 : decode cX0_hasRow 4 = .ok (.iload_n 1, 1) := by decide +kernel
theorem dX0_hasRow_5 : decode cX0_hasRow 5 = .ok (.aload_n 0, 1) := by decide +kernel
theorem dX0_hasRow_6 : decode cX0_hasRow 6 = .ok (.getfield 30, 3) := by decide +kernel
theorem dX0_hasRow_9 : decode cX0_hasRow 9 = .ok (.if_icmp .ge 13, 3) := by decide +kernel
theorem dX0_hasRow_12 : decode cX0_hasRow 12 = .ok (.iload_n 1, 1) := by decide +kernel
theorem dX0_hasRow_13 : decode cX0_hasRow 13 = .ok (.bipush 75, 2) := by decide +kernel
theorem dX0_hasRow_15 : decode cX0_hasRow 15 = .ok (.if_icmp .ge 7, 3) := by decide +kernel
theorem dX0_hasRow_18 : decode cX0_hasRow 18 = .ok (.iconst 1, 1) := by decide +kernel
theorem dX0_hasRow_19 : decode cX0_hasRow 19 = .ok (.goto 4, 3) := by decide +kernel
theorem dX0_hasRow_22 : decode cX0_hasRow 22 = .ok (.iconst 0, 1) := by decide +kernel
theorem dX0_hasRow_23 : decode cX0_hasRow 23 = .ok (.ireturn, 1) := by decide +kernel
set_option maxRecDepth 100000 in
set_option maxHeartbeats 4000000 in
theorem C_X0_hasRow (l : Launch) (E : gE) (x : gX) {o : Nat} (ho : gOk o) {v1 : Int32} {M : gM} {r : Bool} (hf : f_X0_hasRow o v1 M = some r) : gM0 l E yX0_hasRow (.code yX0_hasRow cX0_hasRow 2 (some .boolean)) (gR 0 0) M x [.ref (E.2.1 (o + 1)), .int v1] (some (.int (gb r))) M := by
  refine gMet (by decide +kernel) (Nat.le_of_ble_eq_true rfl) ?_
  intro p e s m args below meth c H locs ls Q hC hl hI kr kv
  replace hC : gC p s m args c cX0_hasRow 2 RX0 E := hC
  replace hl : lv_has ls 2 [(0, .ref (E.2.1 (o + 1))), (1, .int v1)] := hl
  have hx := hC.1
  have hb := hC.2.1
  unfold f_X0_hasRow at hf
  refine lv_iload_n hx hb dX0_hasRow_0 rfl (lv_at hl 1 rfl) ?_
  refine lv_if_lt (tgt := 22) hx hb dX0_hasRow_1 rfl (fun h1 => ?_) (fun h1 => ?_)
  · replace hf := gif h1 hf
    refine lv_iconst (v := 0) hx hb dX0_hasRow_22 (by decide) ?_
    exact kr _ _ _ _ _ _ (grb0 hf) hI ⟨.boolean, rfl, rfl⟩ dX0_hasRow_23
  · replace hf := gifn h1 hf
    refine lv_iload_n hx hb dX0_hasRow_4 rfl (lv_at hl 1 rfl) ?_
    refine lv_aload_n hx hb dX0_hasRow_5 rfl (lv_at hl 0 rfl) ?_
    refine gt_X0_X0_count hC hI ho dX0_hasRow_6 ?_
    refine lv_icmp_ge (tgt := 22) hx hb dX0_hasRow_9 rfl (fun h2 => ?_) (fun h2 => ?_)
    · replace hf := gif h2 hf
      refine lv_iconst (v := 0) hx hb dX0_hasRow_22 (by decide) ?_
      exact kr _ _ _ _ _ _ (grb0 hf) hI ⟨.boolean, rfl, rfl⟩ dX0_hasRow_23
    · replace hf := gifn h2 hf
      refine lv_iload_n hx hb dX0_hasRow_12 rfl (lv_at hl 1 rfl) ?_
      refine lv_bipush (v := 75) hx hb dX0_hasRow_13 (by decide) ?_
      refine lv_icmp_ge (tgt := 22) hx hb dX0_hasRow_15 rfl (fun h3 => ?_) (fun h3 => ?_)
      · replace hf := gif h3 hf
        refine lv_iconst (v := 0) hx hb dX0_hasRow_22 (by decide) ?_
        exact kr _ _ _ _ _ _ (grb0 hf) hI ⟨.boolean, rfl, rfl⟩ dX0_hasRow_23
      · replace hf := gifn h3 hf
        refine lv_iconst (v := 1) hx hb dX0_hasRow_18 (by decide) ?_
        refine lv_goto (tgt := 23) hx hb dX0_hasRow_19 rfl ?_
        exact kr _ _ _ _ _ _ (grb1 hf) hI ⟨.boolean, rfl, rfl⟩ dX0_hasRow_23
theorem dX0_key_0 : decode cX0_key 0 = .ok (.aload_n 0, 1) := by decide +kernel
theorem dX0_key_1 : decode cX0_key 1 = .ok (.iload_n 1, 1) := by decide +kernel
theorem dX0_key_2 : decode cX0_key 2 = .ok (.invokevirtual 44, 3) := by decide +kernel
theorem dX0_key_5 : decode cX0_key 5 = .ok (.ifCond .eq 12, 3) := by decide +kernel
theorem dX0_key_8 : decode cX0_key 8 = .ok (.aload_n 0, 1) := by decide +kernel
theorem dX0_key_9 : decode cX0_key 9 = .ok (.getfield 18, 3) := by decide +kernel
theorem dX0_key_12 : decode cX0_key 12 = .ok (.iload_n 1, 1) := by decide +kernel
theorem dX0_key_13 : decode cX0_key 13 = .ok (.iaload, 1) := by decide +kernel
theorem dX0_key_14 : decode cX0_key 14 = .ok (.goto 4, 3) := by decide +kernel
theorem dX0_key_17 : decode cX0_key 17 = .ok (.iconst 0, 1) := by decide +kernel
theorem dX0_key_18 : decode cX0_key 18 = .ok (.ireturn, 1) := by decide +kernel
set_option maxRecDepth 100000 in
set_option maxHeartbeats 4000000 in
theorem C_X0_key (l : Launch) (E : gE) (x : gX) {o : Nat} (ho : gOk o) {v1 : Int32} {M : gM} {r : Int32} (hf : f_X0_key o v1 M = some r) : gM0 l E yX0_key (.code yX0_key cX0_key 2 (some .int)) (gR 1 21) M x [.ref (E.2.1 (o + 1)), .int v1] (some (.int r)) M := by
  refine gMet (by decide +kernel) (Nat.le_of_ble_eq_true rfl) ?_
  intro p e s m args below meth c H locs ls Q hC hl hI kr kv
  replace hC : gC p s m args c cX0_key 2 RX0 E := hC
  replace hl : lv_has ls 2 [(0, .ref (E.2.1 (o + 1))), (1, .int v1)] := hl
  have hx := hC.1
  have hb := hC.2.1
  unfold f_X0_key at hf
  refine lv_aload_n hx hb dX0_key_0 rfl (lv_at hl 0 rfl) ?_
  refine lv_iload_n hx hb dX0_key_1 rfl (lv_at hl 1 rfl) ?_
  obtain ⟨r1, hr2, hf⟩ := gbind hf
  have hr2 := C_X0_hasRow l E x ho hr2
  refine g_callVi (rest := []) hC hI hr2 Y_X0_hasRow V_X0_hasRow w434 (rcv_X0 hC hI ho) ⟨rfl, rfl⟩ ⟨Nat.le_of_ble_eq_true rfl, Nat.le_of_ble_eq_true rfl⟩ rfl hl.1 rfl (Nat.le_of_ble_eq_true rfl) dX0_key_2 ⟨Nat.le_of_ble_eq_true rfl, Nat.le_of_ble_eq_true rfl⟩ (fun H locs hI => ?_)
  refine lv_if_eq (tgt := 17) hx hb dX0_key_5 rfl (fun h3 => ?_) (fun h3 => ?_)
  · replace hf := gif h3 hf
    refine lv_iconst (v := 0) hx hb dX0_key_17 (by decide) ?_
    exact kr _ _ _ _ _ _ (gri hf) hI ⟨.int, rfl, rfl⟩ dX0_key_18
  · replace hf := gifn h3 hf
    refine lv_aload_n hx hb dX0_key_8 rfl (lv_at hl 0 rfl) ?_
    refine gt_X0_X0_keys hC hI ho dX0_key_9 ?_
    refine lv_iload_n hx hb dX0_key_12 rfl (lv_at hl 1 rfl) ?_
    obtain ⟨h4, hf⟩ := gifN hf
    refine g_iald hC hI (k := v1.toNatClampNeg) (gIA_4 ho) h4 rfl dX0_key_13 ?_
    refine lv_goto (tgt := 18) hx hb dX0_key_14 rfl ?_
    exact kr _ _ _ _ _ _ (gri hf) hI ⟨.int, rfl, rfl⟩ dX0_key_18
theorem dX0_weight_0 : decode cX0_weight 0 = .ok (.aload_n 0, 1) := by decide +kernel
theorem dX0_weight_1 : decode cX0_weight 1 = .ok (.iload_n 1, 1) := by decide +kernel
theorem dX0_weight_2 : decode cX0_weight 2 = .ok (.invokevirtual 44, 3) := by decide +kernel
theorem dX0_weight_5 : decode cX0_weight 5 = .ok (.ifCond .eq 12, 3) := by decide +kernel
theorem dX0_weight_8 : decode cX0_weight 8 = .ok (.aload_n 0, 1) := by decide +kernel
theorem dX0_weight_9 : decode cX0_weight 9 = .ok (.getfield 15, 3) := by decide +kernel
theorem dX0_weight_12 : decode cX0_weight 12 = .ok (.iload_n 1, 1) := by decide +kernel
theorem dX0_weight_13 : decode cX0_weight 13 = .ok (.iaload, 1) := by decide +kernel
theorem dX0_weight_14 : decode cX0_weight 14 = .ok (.goto 4, 3) := by decide +kernel
theorem dX0_weight_17 : decode cX0_weight 17 = .ok (.iconst 0, 1) := by decide +kernel
theorem dX0_weight_18 : decode cX0_weight 18 = .ok (.ireturn, 1) := by decide +kernel
set_option maxRecDepth 100000 in
set_option maxHeartbeats 4000000 in
theorem C_X0_weight (l : Launch) (E : gE) (x : gX) {o : Nat} (ho : gOk o) {v1 : Int32} {M : gM} {r : Int32} (hf : f_X0_weight o v1 M = some r) : gM0 l E yX0_weight (.code yX0_weight cX0_weight 2 (some .int)) (gR 1 21) M x [.ref (E.2.1 (o + 1)), .int v1] (some (.int r)) M := by
  refine gMet (by decide +kernel) (Nat.le_of_ble_eq_true rfl) ?_
  intro p e s m args below meth c H locs ls Q hC hl hI kr kv
  replace hC : gC p s m args c cX0_weight 2 RX0 E := hC
  replace hl : lv_has ls 2 [(0, .ref (E.2.1 (o + 1))), (1, .int v1)] := hl
  have hx := hC.1
  have hb := hC.2.1
  unfold f_X0_weight at hf
  refine lv_aload_n hx hb dX0_weight_0 rfl (lv_at hl 0 rfl) ?_
  refine lv_iload_n hx hb dX0_weight_1 rfl (lv_at hl 1 rfl) ?_
  obtain ⟨r1, hr2, hf⟩ := gbind hf
  have hr2 := C_X0_hasRow l E x ho hr2
  refine g_callVi (rest := []) hC hI hr2 Y_X0_hasRow V_X0_hasRow w434 (rcv_X0 hC hI ho) ⟨rfl, rfl⟩ ⟨Nat.le_of_ble_eq_true rfl, Nat.le_of_ble_eq_true rfl⟩ rfl hl.1 rfl (Nat.le_of_ble_eq_true rfl) dX0_weight_2 ⟨Nat.le_of_ble_eq_true rfl, Nat.le_of_ble_eq_true rfl⟩ (fun H locs hI => ?_)
  refine lv_if_eq (tgt := 17) hx hb dX0_weight_5 rfl (fun h3 => ?_) (fun h3 => ?_)
  · replace hf := gif h3 hf
    refine lv_iconst (v := 0) hx hb dX0_weight_17 (by decide) ?_
    exact kr _ _ _ _ _ _ (gri hf) hI ⟨.int, rfl, rfl⟩ dX0_weight_18
  · replace hf := gifn h3 hf
    refine lv_aload_n hx hb dX0_weight_8 rfl (lv_at hl 0 rfl) ?_
    refine gt_X0_X0_weights hC hI ho dX0_weight_9 ?_
    refine lv_iload_n hx hb dX0_weight_12 rfl (lv_at hl 1 rfl) ?_
    obtain ⟨h4, hf⟩ := gifN hf
    refine g_iald hC hI (k := v1.toNatClampNeg) (gIA_3 ho) h4 rfl dX0_weight_13 ?_
    refine lv_goto (tgt := 18) hx hb dX0_weight_14 rfl ?_
    exact kr _ _ _ _ _ _ (gri hf) hI ⟨.int, rfl, rfl⟩ dX0_weight_18
theorem dX0_answer_0 : decode cX0_answer 0 = .ok (.aload_n 0, 1) := by decide +kernel
theorem dX0_answer_1 : decode cX0_answer 1 = .ok (.iload_n 1, 1) := by decide +kernel
theorem dX0_answer_2 : decode cX0_answer 2 = .ok (.invokevirtual 60, 3) := by decide +kernel
theorem dX0_answer_5 : decode cX0_answer 5 = .ok (.bipush 7, 2) := by decide +kernel
theorem dX0_answer_7 : decode cX0_answer 7 = .ok (.imul, 1) := by decide +kernel
theorem dX0_answer_8 : decode cX0_answer 8 = .ok (.aload_n 0, 1) := by decide +kernel
theorem dX0_answer_9 : decode cX0_answer 9 = .ok (.iload_n 1, 1) := by decide +kernel
theorem dX0_answer_10 : decode cX0_answer 10 = .ok (.invokevirtual 63, 3) := by decide +kernel
theorem dX0_answer_13 : decode cX0_answer 13 = .ok (.iadd, 1) := by decide +kernel
theorem dX0_answer_14 : decode cX0_answer 14 = .ok (.bipush 10, 2) := by decide +kernel
theorem dX0_answer_16 : decode cX0_answer 16 = .ok (.irem, 1) := by decide +kernel
theorem dX0_answer_17 : decode cX0_answer 17 = .ok (.ireturn, 1) := by decide +kernel
set_option maxRecDepth 100000 in
set_option maxHeartbeats 4000000 in
theorem C_X0_answer (l : Launch) (E : gE) (x : gX) {o : Nat} (ho : gOk o) {v1 : Int32} {M : gM} {r : Int32} (hf : f_X0_answer o v1 M = some r) : gM0 l E yX0_answer (.code yX0_answer cX0_answer 2 (some .int)) (gR 2 42) M x [.ref (E.2.1 (o + 1)), .int v1] (some (.int r)) M := by
  refine gMet (by decide +kernel) (Nat.le_of_ble_eq_true rfl) ?_
  intro p e s m args below meth c H locs ls Q hC hl hI kr kv
  replace hC : gC p s m args c cX0_answer 2 RX0 E := hC
  replace hl : lv_has ls 2 [(0, .ref (E.2.1 (o + 1))), (1, .int v1)] := hl
  have hx := hC.1
  have hb := hC.2.1
  unfold f_X0_answer at hf
  refine lv_aload_n hx hb dX0_answer_0 rfl (lv_at hl 0 rfl) ?_
  refine lv_iload_n hx hb dX0_answer_1 rfl (lv_at hl 1 rfl) ?_
  obtain ⟨r1, hr2, hf⟩ := gbind hf
  have hr2 := C_X0_key l E x ho hr2
  refine g_callVi (rest := []) hC hI hr2 Y_X0_key V_X0_key w430 (rcv_X0 hC hI ho) ⟨rfl, rfl⟩ ⟨Nat.le_of_ble_eq_true rfl, Nat.le_of_ble_eq_true rfl⟩ rfl hl.1 rfl (Nat.le_of_ble_eq_true rfl) dX0_answer_2 ⟨Nat.le_of_ble_eq_true rfl, Nat.le_of_ble_eq_true rfl⟩ (fun H locs hI => ?_)
  refine lv_bipush (v := 7) hx hb dX0_answer_5 (by decide) ?_
  refine lv_imul hx hb dX0_answer_7 ?_
  refine lv_aload_n hx hb dX0_answer_8 rfl (lv_at hl 0 rfl) ?_
  refine lv_iload_n hx hb dX0_answer_9 rfl (lv_at hl 1 rfl) ?_
  obtain ⟨r3, hr4, hf⟩ := gbind hf
  have hr4 := C_X0_weight l E x ho hr4
  refine g_callVi (rest := [.int (r1 * 7)]) hC hI hr4 Y_X0_weight V_X0_weight w438 (rcv_X0 hC hI ho) ⟨rfl, rfl⟩ ⟨Nat.le_of_ble_eq_true rfl, Nat.le_of_ble_eq_true rfl⟩ rfl hl.1 rfl (Nat.le_of_ble_eq_true rfl) dX0_answer_10 ⟨Nat.le_of_ble_eq_true rfl, Nat.le_of_ble_eq_true rfl⟩ (fun H locs hI => ?_)
  refine lv_iadd hx hb dX0_answer_13 ?_
  refine lv_bipush (v := 10) hx hb dX0_answer_14 (by decide) ?_
  refine lv_irem hx hb dX0_answer_16 (by decide) ?_
  exact kr _ _ _ _ _ _ (gri hf) hI ⟨.int, rfl, rfl⟩ dX0_answer_17
theorem dX5_countWrongAnswer_0 : decode cX5_countWrongAnswer 0 = .ok (.aload_n 0, 1) := by decide +kernel
theorem dX5_countWrongAnswer_1 : decode cX5_countWrongAnswer 1 = .ok (.dup, 1) := by decide +kernel
theorem dX5_countWrongAnswer_2 : decode cX5_countWrongAnswer 2 = .ok (.getfield 47, 3) := by decide +kernel
theorem dX5_countWrongAnswer_5 : decode cX5_countWrongAnswer 5 = .ok (.iconst 1, 1) := by decide +kernel
theorem dX5_countWrongAnswer_6 : decode cX5_countWrongAnswer 6 = .ok (.iadd, 1) := by decide +kernel
theorem dX5_countWrongAnswer_7 : decode cX5_countWrongAnswer 7 = .ok (.putfield 47, 3) := by decide +kernel
theorem dX5_countWrongAnswer_10 : decode cX5_countWrongAnswer 10 = .ok (.aload_n 0, 1) := by decide +kernel
theorem dX5_countWrongAnswer_11 : decode cX5_countWrongAnswer 11 = .ok (.dup, 1) := by decide +kernel
theorem dX5_countWrongAnswer_12 : decode cX5_countWrongAnswer 12 = .ok (.getfield 35, 3) := by decide +kernel
theorem dX5_countWrongAnswer_15 : decode cX5_countWrongAnswer 15 = .ok (.iconst 5, 1) := by decide +kernel
theorem dX5_countWrongAnswer_16 : decode cX5_countWrongAnswer 16 = .ok (.iadd, 1) := by decide +kernel
theorem dX5_countWrongAnswer_17 : decode cX5_countWrongAnswer 17 = .ok (.putfield 35, 3) := by decide +kernel
theorem dX5_countWrongAnswer_20 : decode cX5_countWrongAnswer 20 = .ok (.iload_n 1, 1) := by decide +kernel
theorem dX5_countWrongAnswer_21 : decode cX5_countWrongAnswer 21 = .ok (.invokestatic 60, 3) := by decide +kernel
theorem dX5_countWrongAnswer_24 : decode cX5_countWrongAnswer 24 = .ok (.ifCond .ne 4, 3) := by decide +kernel
theorem dX5_countWrongAnswer_27 : decode cX5_countWrongAnswer 27 = .ok (.return_, 1) := by decide +kernel
theorem dX5_countWrongAnswer_28 : decode cX5_countWrongAnswer 28 = .ok (.aload_n 0, 1) := by decide +kernel
theorem dX5_countWrongAnswer_29 : decode cX5_countWrongAnswer 29 = .ok (.getfield 25, 3) := by decide +kernel
theorem dX5_countWrongAnswer_32 : decode cX5_countWrongAnswer 32 = .ok (.iload_n 1, 1) := by decide +kernel
theorem dX5_countWrongAnswer_33 : decode cX5_countWrongAnswer 33 = .ok (.dup2, 1) := by decide +kernel
theorem dX5_countWrongAnswer_34 : decode cX5_countWrongAnswer 34 = .ok (.iaload, 1) := by decide +kernel
theorem dX5_countWrongAnswer_35 : decode cX5_countWrongAnswer 35 = .ok (.iconst 1, 1) := by decide +kernel
theorem dX5_countWrongAnswer_36 : decode cX5_countWrongAnswer 36 = .ok (.iadd, 1) := by decide +kernel
theorem dX5_countWrongAnswer_37 : decode cX5_countWrongAnswer 37 = .ok (.iastore, 1) := by decide +kernel
theorem dX5_countWrongAnswer_38 : decode cX5_countWrongAnswer 38 = .ok (.aload_n 0, 1) := by decide +kernel
theorem dX5_countWrongAnswer_39 : decode cX5_countWrongAnswer 39 = .ok (.getfield 25, 3) := by decide +kernel
theorem dX5_countWrongAnswer_42 : decode cX5_countWrongAnswer 42 = .ok (.iload_n 1, 1) := by decide +kernel
theorem dX5_countWrongAnswer_43 : decode cX5_countWrongAnswer 43 = .ok (.iaload, 1) := by decide +kernel
theorem dX5_countWrongAnswer_44 : decode cX5_countWrongAnswer 44 = .ok (.iconst 3, 1) := by decide +kernel
theorem dX5_countWrongAnswer_45 : decode cX5_countWrongAnswer 45 = .ok (.if_icmp .lt 17, 3) := by decide +kernel
theorem dX5_countWrongAnswer_48 : decode cX5_countWrongAnswer 48 = .ok (.aload_n 0, 1) := by decide +kernel
theorem dX5_countWrongAnswer_49 : decode cX5_countWrongAnswer 49 = .ok (.getfield 25, 3) := by decide +kernel
theorem dX5_countWrongAnswer_52 : decode cX5_countWrongAnswer 52 = .ok (.iload_n 1, 1) := by decide +kernel
theorem dX5_countWrongAnswer_53 : decode cX5_countWrongAnswer 53 = .ok (.iconst 0, 1) := by decide +kernel
theorem dX5_countWrongAnswer_54 : decode cX5_countWrongAnswer 54 = .ok (.iastore, 1) := by decide +kernel
theorem dX5_countWrongAnswer_55 : decode cX5_countWrongAnswer 55 = .ok (.aload_n 0, 1) := by decide +kernel
theorem dX5_countWrongAnswer_56 : decode cX5_countWrongAnswer 56 = .ok (.getfield 28, 3) := by decide +kernel
theorem dX5_countWrongAnswer_59 : decode cX5_countWrongAnswer 59 = .ok (.iload_n 1, 1) := by decide +kernel
theorem dX5_countWrongAnswer_60 : decode cX5_countWrongAnswer 60 = .ok (.iconst 2, 1) := by decide +kernel
theorem dX5_countWrongAnswer_61 : decode cX5_countWrongAnswer 61 = .ok (.iastore, 1) := by decide +kernel
theorem dX5_countWrongAnswer_62 : decode cX5_countWrongAnswer 62 = .ok (.return_, 1) := by decide +kernel
set_option maxRecDepth 100000 in
set_option maxHeartbeats 4000000 in
theorem C_X5_countWrongAnswer (l : Launch) (E : gE) (x : gX) {o : Nat} (ho : gOk o) {v1 : Int32} {M : gM} {M' : gM} (hf : f_X5_countWrongAnswer o v1 M = some M') : gM0 l E yX5_countWrongAnswer (.code yX5_countWrongAnswer cX5_countWrongAnswer 2 none) (gR 1 20) M x [.ref (E.2.1 o), .int v1] none M' := by
  refine gMet (by decide +kernel) (Nat.le_of_ble_eq_true rfl) ?_
  intro p e s m args below meth c H locs ls Q hC hl hI kr kv
  replace hC : gC p s m args c cX5_countWrongAnswer 2 RX5 E := hC
  replace hl : lv_has ls 2 [(0, .ref (E.2.1 o)), (1, .int v1)] := hl
  have hx := hC.1
  have hb := hC.2.1
  unfold f_X5_countWrongAnswer at hf
  refine lv_aload_n hx hb dX5_countWrongAnswer_0 rfl (lv_at hl 0 rfl) ?_
  refine lv_dup hx hb dX5_countWrongAnswer_1 rfl ?_
  refine gt_X5_X5_wrong hC hI ho dX5_countWrongAnswer_2 ?_
  refine lv_iconst (v := 1) hx hb dX5_countWrongAnswer_5 (by decide) ?_
  refine lv_iadd hx hb dX5_countWrongAnswer_6 ?_
  obtain ⟨M1, eM1, hf⟩ := glet hf
  refine pt_X5_X5_wrong hC hI ho dX5_countWrongAnswer_7 (fun H locs hI => ?_)
  replace hI := g_mem eM1 hI
  refine lv_aload_n hx hb dX5_countWrongAnswer_10 rfl (lv_at hl 0 rfl) ?_
  refine lv_dup hx hb dX5_countWrongAnswer_11 rfl ?_
  refine gt_X5_X5_fees hC hI ho dX5_countWrongAnswer_12 ?_
  refine lv_iconst (v := 5) hx hb dX5_countWrongAnswer_15 (by decide) ?_
  refine lv_iadd hx hb dX5_countWrongAnswer_16 ?_
  obtain ⟨M2, eM2, hf⟩ := glet hf
  refine pt_X5_X5_fees hC hI ho dX5_countWrongAnswer_17 (fun H locs hI => ?_)
  replace hI := g_mem eM2 hI
  refine lv_iload_n hx hb dX5_countWrongAnswer_20 rfl (lv_at hl 1 rfl) ?_
  obtain ⟨r3, hr4, hf⟩ := gbind hf
  have hr4 := C_X6_isBerth l E x  hr4
  refine g_callSNi (rest := []) hC hI hr4 Y_X6_isBerth S_X6_isBerth (List.mem_of_getElem? (i := 6) rfl) ⟨rfl, rfl⟩ ⟨Nat.le_of_ble_eq_true rfl, Nat.le_of_ble_eq_true rfl⟩ rfl hl.1 rfl (Nat.le_of_ble_eq_true rfl) dX5_countWrongAnswer_21 ⟨Nat.le_of_ble_eq_true rfl, Nat.le_of_ble_eq_true rfl⟩ (fun H locs hI => ?_)
  refine lv_if_ne (tgt := 28) hx hb dX5_countWrongAnswer_24 rfl (fun h5 => ?_) (fun h5 => ?_)
  · replace hf := gifn h5 hf
    refine lv_aload_n hx hb dX5_countWrongAnswer_28 rfl (lv_at hl 0 rfl) ?_
    refine gt_X5_X5_wrongs hC hI ho dX5_countWrongAnswer_29 ?_
    refine lv_iload_n hx hb dX5_countWrongAnswer_32 rfl (lv_at hl 1 rfl) ?_
    refine lv_dup2_11 hx hb dX5_countWrongAnswer_33 rfl rfl ?_
    obtain ⟨h6, hf⟩ := gifN hf
    refine g_iald hC hI (k := v1.toNatClampNeg) (gIA_10 ho) h6 rfl dX5_countWrongAnswer_34 ?_
    refine lv_iconst (v := 1) hx hb dX5_countWrongAnswer_35 (by decide) ?_
    refine lv_iadd hx hb dX5_countWrongAnswer_36 ?_
    obtain ⟨h7, hf⟩ := gifN hf
    obtain ⟨M8, eM8, hf⟩ := glet hf
    refine g_iast hC hI (k := v1.toNatClampNeg) (gIA_10 ho) h7 rfl dX5_countWrongAnswer_37 (fun H locs hI => ?_)
    replace hI := g_mem eM8 hI
    refine lv_aload_n hx hb dX5_countWrongAnswer_38 rfl (lv_at hl 0 rfl) ?_
    refine gt_X5_X5_wrongs hC hI ho dX5_countWrongAnswer_39 ?_
    refine lv_iload_n hx hb dX5_countWrongAnswer_42 rfl (lv_at hl 1 rfl) ?_
    obtain ⟨h9, hf⟩ := gifN hf
    refine g_iald hC hI (k := v1.toNatClampNeg) (gIA_10 ho) h9 rfl dX5_countWrongAnswer_43 ?_
    refine lv_iconst (v := 3) hx hb dX5_countWrongAnswer_44 (by decide) ?_
    refine lv_icmp_lt (tgt := 62) hx hb dX5_countWrongAnswer_45 rfl (fun h10 => ?_) (fun h10 => ?_)
    · replace hf := gif h10 hf
      exact kv _ _ _ _ _ (grv hf) hI rfl dX5_countWrongAnswer_62
    · replace hf := gifn h10 hf
      refine lv_aload_n hx hb dX5_countWrongAnswer_48 rfl (lv_at hl 0 rfl) ?_
      refine gt_X5_X5_wrongs hC hI ho dX5_countWrongAnswer_49 ?_
      refine lv_iload_n hx hb dX5_countWrongAnswer_52 rfl (lv_at hl 1 rfl) ?_
      refine lv_iconst (v := 0) hx hb dX5_countWrongAnswer_53 (by decide) ?_
      obtain ⟨h11, hf⟩ := gifN hf
      obtain ⟨M12, eM12, hf⟩ := glet hf
      refine g_iast hC hI (k := v1.toNatClampNeg) (gIA_10 ho) h11 rfl dX5_countWrongAnswer_54 (fun H locs hI => ?_)
      replace hI := g_mem eM12 hI
      refine lv_aload_n hx hb dX5_countWrongAnswer_55 rfl (lv_at hl 0 rfl) ?_
      refine gt_X5_X5_locks hC hI ho dX5_countWrongAnswer_56 ?_
      refine lv_iload_n hx hb dX5_countWrongAnswer_59 rfl (lv_at hl 1 rfl) ?_
      refine lv_iconst (v := 2) hx hb dX5_countWrongAnswer_60 (by decide) ?_
      obtain ⟨h13, hf⟩ := gifN hf
      obtain ⟨M14, eM14, hf⟩ := glet hf
      refine g_iast hC hI (k := v1.toNatClampNeg) (gIA_11 ho) h13 rfl dX5_countWrongAnswer_61 (fun H locs hI => ?_)
      replace hI := g_mem eM14 hI
      exact kv _ _ _ _ _ (grv hf) hI rfl dX5_countWrongAnswer_62
  · replace hf := gif h5 hf
    exact kv _ _ _ _ _ (grv hf) hI rfl dX5_countWrongAnswer_27
theorem dX0_put_0 : decode cX0_put 0 = .ok (.aload_n 0, 1) := by decide +kernel
theorem dX0_put_1 : decode cX0_put 1 = .ok (.iload_n 1, 1) := by decide +kernel
theorem dX0_put_2 : decode cX0_put 2 = .ok (.invokevirtual 44, 3) := by decide +kernel
theorem dX0_put_5 : decode cX0_put 5 = .ok (.ifCond .ne 4, 3) := by decide +kernel
theorem dX0_put_8 : decode cX0_put 8 = .ok (.return_, 1) := by decide +kernel
theorem dX0_put_9 : decode cX0_put 9 = .ok (.aload_n 0, 1) := by decide +kernel
theorem dX0_put_10 : decode cX0_put 10 = .ok (.getfield 24, 3) := by decide +kernel
theorem dX0_put_13 : decode cX0_put 13 = .ok (.iload_n 1, 1) := by decide +kernel
theorem dX0_put_14 : decode cX0_put 14 = .ok (.aload_n 0, 1) := by decide +kernel
theorem dX0_put_15 : decode cX0_put 15 = .ok (.iload_n 2, 1) := by decide +kernel
theorem dX0_put_16 : decode cX0_put 16 = .ok (.invokevirtual 40, 3) := by decide +kernel
theorem dX0_put_19 : decode cX0_put 19 = .ok (.iastore, 1) := by decide +kernel
theorem dX0_put_20 : decode cX0_put 20 = .ok (.aload_n 0, 1) := by decide +kernel
theorem dX0_put_21 : decode cX0_put 21 = .ok (.getfield 21, 3) := by decide +kernel
theorem dX0_put_24 : decode cX0_put 24 = .ok (.iload_n 1, 1) := by decide +kernel
theorem dX0_put_25 : decode cX0_put 25 = .ok (.iload_n 2, 1) := by decide +kernel
theorem dX0_put_26 : decode cX0_put 26 = .ok (.iastore, 1) := by decide +kernel
theorem dX0_put_27 : decode cX0_put 27 = .ok (.return_, 1) := by decide +kernel
set_option maxRecDepth 100000 in
set_option maxHeartbeats 4000000 in
theorem C_X0_put (l : Launch) (E : gE) (x : gX) {o : Nat} (ho : gOk o) {v1 v2 : Int32} {M : gM} {M' : gM} (hf : f_X0_put o v1 v2 M = some M') : gM0 l E yX0_put (.code yX0_put cX0_put 3 none) (gR 1 23) M x [.ref (E.2.1 (o + 1)), .int v1, .int v2] none M' := by
  refine gMet (by decide +kernel) (Nat.le_of_ble_eq_true rfl) ?_
  intro p e s m args below meth c H locs ls Q hC hl hI kr kv
  replace hC : gC p s m args c cX0_put 3 RX0 E := hC
  replace hl : lv_has ls 3 [(0, .ref (E.2.1 (o + 1))), (1, .int v1), (2, .int v2)] := hl
  have hx := hC.1
  have hb := hC.2.1
  unfold f_X0_put at hf
  refine lv_aload_n hx hb dX0_put_0 rfl (lv_at hl 0 rfl) ?_
  refine lv_iload_n hx hb dX0_put_1 rfl (lv_at hl 1 rfl) ?_
  obtain ⟨r1, hr2, hf⟩ := gbind hf
  have hr2 := C_X0_hasRow l E x ho hr2
  refine g_callVi (rest := []) hC hI hr2 Y_X0_hasRow V_X0_hasRow w434 (rcv_X0 hC hI ho) ⟨rfl, rfl⟩ ⟨Nat.le_of_ble_eq_true rfl, Nat.le_of_ble_eq_true rfl⟩ rfl hl.1 rfl (Nat.le_of_ble_eq_true rfl) dX0_put_2 ⟨Nat.le_of_ble_eq_true rfl, Nat.le_of_ble_eq_true rfl⟩ (fun H locs hI => ?_)
  refine lv_if_ne (tgt := 9) hx hb dX0_put_5 rfl (fun h3 => ?_) (fun h3 => ?_)
  · replace hf := gifn h3 hf
    refine lv_aload_n hx hb dX0_put_9 rfl (lv_at hl 0 rfl) ?_
    refine gt_X0_X0_levels hC hI ho dX0_put_10 ?_
    refine lv_iload_n hx hb dX0_put_13 rfl (lv_at hl 1 rfl) ?_
    refine lv_aload_n hx hb dX0_put_14 rfl (lv_at hl 0 rfl) ?_
    refine lv_iload_n hx hb dX0_put_15 rfl (lv_at hl 2 rfl) ?_
    obtain ⟨r4, hr5, hf⟩ := gbind hf
    have hr5 := C_X0_height l E x ho hr5
    refine g_callVi (rest := [.int v1, .ref (E.2.1 (o + 6))]) hC hI hr5 Y_X0_height V_X0_height w405 (rcv_X0 hC hI ho) ⟨rfl, rfl⟩ ⟨Nat.le_of_ble_eq_true rfl, Nat.le_of_ble_eq_true rfl⟩ rfl hl.1 rfl (Nat.le_of_ble_eq_true rfl) dX0_put_16 ⟨Nat.le_of_ble_eq_true rfl, Nat.le_of_ble_eq_true rfl⟩ (fun H locs hI => ?_)
    obtain ⟨h6, hf⟩ := gifN hf
    obtain ⟨M7, eM7, hf⟩ := glet hf
    refine g_iast hC hI (k := v1.toNatClampNeg) (gIA_6 ho) h6 rfl dX0_put_19 (fun H locs hI => ?_)
    replace hI := g_mem eM7 hI
    refine lv_aload_n hx hb dX0_put_20 rfl (lv_at hl 0 rfl) ?_
    refine gt_X0_X0_piles hC hI ho dX0_put_21 ?_
    refine lv_iload_n hx hb dX0_put_24 rfl (lv_at hl 1 rfl) ?_
    refine lv_iload_n hx hb dX0_put_25 rfl (lv_at hl 2 rfl) ?_
    obtain ⟨h8, hf⟩ := gifN hf
    obtain ⟨M9, eM9, hf⟩ := glet hf
    refine g_iast hC hI (k := v1.toNatClampNeg) (gIA_5 ho) h8 rfl dX0_put_26 (fun H locs hI => ?_)
    replace hI := g_mem eM9 hI
    exact kv _ _ _ _ _ (grv hf) hI rfl dX0_put_27
  · replace hf := gif h3 hf
    exact kv _ _ _ _ _ (grv hf) hI rfl dX0_put_8
theorem dX5_tryAnswer_0 : decode cX5_tryAnswer 0 = .ok (.aload_n 0, 1) := by decide +kernel
theorem dX5_tryAnswer_1 : decode cX5_tryAnswer 1 = .ok (.getfield 12, 3) := by decide +kernel
theorem dX5_tryAnswer_4 : decode cX5_tryAnswer 4 = .ok (.iload_n 1, 1) := by decide +kernel
theorem dX5_tryAnswer_5 : decode cX5_tryAnswer 5 = .ok (.iload_n 2, 1) := by decide +kernel
theorem dX5_tryAnswer_6 : decode cX5_tryAnswer 6 = .ok (.invokestatic 70, 3) := by decide +kernel
theorem dX5_tryAnswer_9 : decode cX5_tryAnswer 9 = .ok (.invokevirtual 82, 3) := by decide +kernel
theorem dX5_tryAnswer_12 : decode cX5_tryAnswer 12 = .ok (.istore 4, 2) := by decide +kernel
theorem dX5_tryAnswer_14 : decode cX5_tryAnswer 14 = .ok (.aload_n 0, 1) := by decide +kernel
theorem dX5_tryAnswer_15 : decode cX5_tryAnswer 15 = .ok (.getfield 12, 3) := by decide +kernel
theorem dX5_tryAnswer_18 : decode cX5_tryAnswer 18 = .ok (.iload 4, 2) := by decide +kernel
theorem dX5_tryAnswer_20 : decode cX5_tryAnswer 20 = .ok (.invokevirtual 85, 3) := by decide +kernel
theorem dX5_tryAnswer_23 : decode cX5_tryAnswer 23 = .ok (.iload_n 3, 1) := by decide +kernel
theorem dX5_tryAnswer_24 : decode cX5_tryAnswer 24 = .ok (.if_icmp .eq 10, 3) := by decide +kernel
theorem dX5_tryAnswer_27 : decode cX5_tryAnswer 27 = .ok (.aload_n 0, 1) := by decide +kernel
theorem dX5_tryAnswer_28 : decode cX5_tryAnswer 28 = .ok (.iload_n 1, 1) := by decide +kernel
theorem dX5_tryAnswer_29 : decode cX5_tryAnswer 29 = .ok (.invokevirtual 88, 3) := by decide +kernel
theorem dX5_tryAnswer_32 : decode cX5_tryAnswer 32 = .ok (.iconst 0, 1) := by decide +kernel
theorem dX5_tryAnswer_33 : decode cX5_tryAnswer 33 = .ok (.ireturn, 1) := by decide +kernel
theorem dX5_tryAnswer_34 : decode cX5_tryAnswer 34 = .ok (.aload_n 0, 1) := by decide +kernel
theorem dX5_tryAnswer_35 : decode cX5_tryAnswer 35 = .ok (.getfield 12, 3) := by decide +kernel
theorem dX5_tryAnswer_38 : decode cX5_tryAnswer 38 = .ok (.iload 4, 2) := by decide +kernel
theorem dX5_tryAnswer_40 : decode cX5_tryAnswer 40 = .ok (.bipush 12, 2) := by decide +kernel
theorem dX5_tryAnswer_42 : decode cX5_tryAnswer 42 = .ok (.invokevirtual 92, 3) := by decide +kernel
theorem dX5_tryAnswer_45 : decode cX5_tryAnswer 45 = .ok (.aload_n 0, 1) := by decide +kernel
theorem dX5_tryAnswer_46 : decode cX5_tryAnswer 46 = .ok (.dup, 1) := by decide +kernel
theorem dX5_tryAnswer_47 : decode cX5_tryAnswer 47 = .ok (.getfield 41, 3) := by decide +kernel
theorem dX5_tryAnswer_50 : decode cX5_tryAnswer 50 = .ok (.iconst 1, 1) := by decide +kernel
theorem dX5_tryAnswer_51 : decode cX5_tryAnswer 51 = .ok (.iadd, 1) := by decide +kernel
theorem dX5_tryAnswer_52 : decode cX5_tryAnswer 52 = .ok (.putfield 41, 3) := by decide +kernel
theorem dX5_tryAnswer_55 : decode cX5_tryAnswer 55 = .ok (.iconst 1, 1) := by decide +kernel
theorem dX5_tryAnswer_56 : decode cX5_tryAnswer 56 = .ok (.ireturn, 1) := by decide +kernel
set_option maxRecDepth 100000 in
set_option maxHeartbeats 4000000 in
theorem C_X5_tryAnswer (l : Launch) (E : gE) (x : gX) {o : Nat} (ho : gOk o) {v1 v2 v3 : Int32} {M : gM} {r : Bool} {M' : gM} (hf : f_X5_tryAnswer o v1 v2 v3 M = some (r, M')) : gM0 l E yX5_tryAnswer (.code yX5_tryAnswer cX5_tryAnswer 5 (some .boolean)) (gR 3 63) M x [.ref (E.2.1 o), .int v1, .int v2, .int v3] (some (.int (gb r))) M' := by
  refine gMet (by decide +kernel) (Nat.le_of_ble_eq_true rfl) ?_
  intro p e s m args below meth c H locs ls Q hC hl hI kr kv
  replace hC : gC p s m args c cX5_tryAnswer 5 RX5 E := hC
  replace hl : lv_has ls 5 [(0, .ref (E.2.1 o)), (1, .int v1), (2, .int v2), (3, .int v3)] := hl
  have hx := hC.1
  have hb := hC.2.1
  unfold f_X5_tryAnswer at hf
  refine lv_aload_n hx hb dX5_tryAnswer_0 rfl (lv_at hl 0 rfl) ?_
  refine gt_X5_X5_cargo hC hI ho dX5_tryAnswer_1 ?_
  refine lv_iload_n hx hb dX5_tryAnswer_4 rfl (lv_at hl 1 rfl) ?_
  refine lv_iload_n hx hb dX5_tryAnswer_5 rfl (lv_at hl 2 rfl) ?_
  obtain ⟨r1, hr2, hf⟩ := gbind hf
  have hr2 := C_X6_pileOf l E x  hr2
  refine g_callSNi (rest := [.ref (E.2.1 (o + 1))]) hC hI hr2 Y_X6_pileOf S_X6_pileOf (List.mem_of_getElem? (i := 8) rfl) ⟨rfl, rfl⟩ ⟨Nat.le_of_ble_eq_true rfl, Nat.le_of_ble_eq_true rfl⟩ rfl hl.1 rfl (Nat.le_of_ble_eq_true rfl) dX5_tryAnswer_6 ⟨Nat.le_of_ble_eq_true rfl, Nat.le_of_ble_eq_true rfl⟩ (fun H locs hI => ?_)
  obtain ⟨r3, hr4, hf⟩ := gbind hf
  have hr4 := C_X0_topRow l E x ho hr4
  refine g_callVi (rest := []) hC hI hr4 Y_X0_topRow V_X0_topRow w418 (rcv_X0 hC hI ho) ⟨rfl, rfl⟩ ⟨Nat.le_of_ble_eq_true rfl, Nat.le_of_ble_eq_true rfl⟩ rfl hl.1 rfl (Nat.le_of_ble_eq_true rfl) dX5_tryAnswer_9 ⟨Nat.le_of_ble_eq_true rfl, Nat.le_of_ble_eq_true rfl⟩ (fun H locs hI => ?_)
  refine lv_istore (lv' := [(4, .int r3), (0, .ref (E.2.1 o)), (1, .int v1), (2, .int v2), (3, .int v3)]) hx hb dX5_tryAnswer_12 hl (by decide) rfl (fun ls hl => ?_)
  refine lv_aload_n hx hb dX5_tryAnswer_14 rfl (lv_at hl 1 rfl) ?_
  refine gt_X5_X5_cargo hC hI ho dX5_tryAnswer_15 ?_
  refine lv_iload hx hb dX5_tryAnswer_18 (lv_at hl 0 rfl) ?_
  obtain ⟨r5, hr6, hf⟩ := gbind hf
  have hr6 := C_X0_answer l E x ho hr6
  refine g_callVi (rest := []) hC hI hr6 Y_X0_answer V_X0_answer w426 (rcv_X0 hC hI ho) ⟨rfl, rfl⟩ ⟨Nat.le_of_ble_eq_true rfl, Nat.le_of_ble_eq_true rfl⟩ rfl hl.1 rfl (Nat.le_of_ble_eq_true rfl) dX5_tryAnswer_20 ⟨Nat.le_of_ble_eq_true rfl, Nat.le_of_ble_eq_true rfl⟩ (fun H locs hI => ?_)
  refine lv_iload_n hx hb dX5_tryAnswer_23 rfl (lv_at hl 4 rfl) ?_
  refine lv_icmp_eq (tgt := 34) hx hb dX5_tryAnswer_24 rfl (fun h7 => ?_) (fun h7 => ?_)
  · replace hf := gif h7 hf
    refine lv_aload_n hx hb dX5_tryAnswer_34 rfl (lv_at hl 1 rfl) ?_
    refine gt_X5_X5_cargo hC hI ho dX5_tryAnswer_35 ?_
    refine lv_iload hx hb dX5_tryAnswer_38 (lv_at hl 0 rfl) ?_
    refine lv_bipush (v := 12) hx hb dX5_tryAnswer_40 (by decide) ?_
    obtain ⟨r8, hr9, hf⟩ := gbind hf
    have hr9 := C_X0_put l E x ho hr9
    refine g_callVv (rest := []) hC hI hr9 Y_X0_put V_X0_put w446 (rcv_X0 hC hI ho) ⟨rfl, rfl⟩ ⟨Nat.le_of_ble_eq_true rfl, Nat.le_of_ble_eq_true rfl⟩ rfl hl.1 rfl (Nat.le_of_ble_eq_true rfl) dX5_tryAnswer_42 ⟨Nat.le_of_ble_eq_true rfl, Nat.le_of_ble_eq_true rfl⟩ (fun H locs hI => ?_)
    refine lv_aload_n hx hb dX5_tryAnswer_45 rfl (lv_at hl 1 rfl) ?_
    refine lv_dup hx hb dX5_tryAnswer_46 rfl ?_
    refine gt_X5_X5_cleared hC hI ho dX5_tryAnswer_47 ?_
    refine lv_iconst (v := 1) hx hb dX5_tryAnswer_50 (by decide) ?_
    refine lv_iadd hx hb dX5_tryAnswer_51 ?_
    obtain ⟨M10, eM10, hf⟩ := glet hf
    refine pt_X5_X5_cleared hC hI ho dX5_tryAnswer_52 (fun H locs hI => ?_)
    replace hI := g_mem eM10 hI
    refine lv_iconst (v := 1) hx hb dX5_tryAnswer_55 (by decide) ?_
    exact kr _ _ _ _ _ _ (grwb1 hf) hI ⟨.boolean, rfl, rfl⟩ dX5_tryAnswer_56
  · replace hf := gifn h7 hf
    refine lv_aload_n hx hb dX5_tryAnswer_27 rfl (lv_at hl 1 rfl) ?_
    refine lv_iload_n hx hb dX5_tryAnswer_28 rfl (lv_at hl 2 rfl) ?_
    obtain ⟨r11, hr12, hf⟩ := gbind hf
    have hr12 := C_X5_countWrongAnswer l E x ho hr12
    refine g_callVv (rest := []) hC hI hr12 Y_X5_countWrongAnswer V_X5_countWrongAnswer w442 (rcv_X5 hC hI ho) ⟨rfl, rfl⟩ ⟨Nat.le_of_ble_eq_true rfl, Nat.le_of_ble_eq_true rfl⟩ rfl hl.1 rfl (Nat.le_of_ble_eq_true rfl) dX5_tryAnswer_29 ⟨Nat.le_of_ble_eq_true rfl, Nat.le_of_ble_eq_true rfl⟩ (fun H locs hI => ?_)
    refine lv_iconst (v := 0) hx hb dX5_tryAnswer_32 (by decide) ?_
    exact kr _ _ _ _ _ _ (grwb0 hf) hI ⟨.boolean, rfl, rfl⟩ dX5_tryAnswer_33
theorem dX6_clear_0 : decode cX6_clear 0 = .ok (.aload_n 0, 1) := by decide +kernel
theorem dX6_clear_1 : decode cX6_clear 1 = .ok (.getfield 10, 3) := by decide +kernel
theorem dX6_clear_4 : decode cX6_clear 4 = .ok (.iload_n 1, 1) := by decide +kernel
theorem dX6_clear_5 : decode cX6_clear 5 = .ok (.iload_n 2, 1) := by decide +kernel
theorem dX6_clear_6 : decode cX6_clear 6 = .ok (.iload_n 3, 1) := by decide +kernel
theorem dX6_clear_7 : decode cX6_clear 7 = .ok (.invokevirtual 88, 3) := by decide +kernel
theorem dX6_clear_10 : decode cX6_clear 10 = .ok (.invokestatic 65, 3) := by decide +kernel
theorem dX6_clear_13 : decode cX6_clear 13 = .ok (.aload_n 0, 1) := by decide +kernel
theorem dX6_clear_14 : decode cX6_clear 14 = .ok (.getfield 29, 3) := by decide +kernel
theorem dX6_clear_17 : decode cX6_clear 17 = .ok (.aload_n 0, 1) := by decide +kernel
theorem dX6_clear_18 : decode cX6_clear 18 = .ok (.getfield 10, 3) := by decide +kernel
theorem dX6_clear_21 : decode cX6_clear 21 = .ok (.invokevirtual 69, 3) := by decide +kernel
theorem dX6_clear_24 : decode cX6_clear 24 = .ok (.aload_n 0, 1) := by decide +kernel
theorem dX6_clear_25 : decode cX6_clear 25 = .ok (.getfield 10, 3) := by decide +kernel
theorem dX6_clear_28 : decode cX6_clear 28 = .ok (.iload_n 1, 1) := by decide +kernel
theorem dX6_clear_29 : decode cX6_clear 29 = .ok (.iload_n 2, 1) := by decide +kernel
theorem dX6_clear_30 : decode cX6_clear 30 = .ok (.iload_n 3, 1) := by decide +kernel
theorem dX6_clear_31 : decode cX6_clear 31 = .ok (.invokevirtual 91, 3) := by decide +kernel
theorem dX6_clear_34 : decode cX6_clear 34 = .ok (.ireturn, 1) := by decide +kernel
set_option maxRecDepth 100000 in
set_option maxHeartbeats 4000000 in
theorem C_X6_clear (l : Launch) (hst : l.stackTraces = false) (E : gE) (x : gX) {v1 v2 v3 : Int32} {M : gM} {oc : String ⊕ Bool} {M' : gM} (hf : f_X6_clear v1 v2 v3 M = some (oc, M')) : gX0 l E yX6_clear (.code yX6_clear cX6_clear 4 (some .boolean)) (gRX 7 124 1 6) M x [.ref (E.2.1 132), .int v1, .int v2, .int v3] (gOb oc) M' 1 6 := by
  refine gMetX hst (by decide +kernel) (Nat.le_of_ble_eq_true rfl) ?_
  intro p e s m args below meth c H locs ls Q hC hl hI kr kv kx kt kd kf
  replace hC : gC p s m args c cX6_clear 4 RX6 E := hC
  replace hl : lv_has ls 4 [(0, .ref (E.2.1 132)), (1, .int v1), (2, .int v2), (3, .int v3)] := hl
  have hx := hC.1
  have hb := hC.2.1
  unfold f_X6_clear at hf
  refine lv_aload_n hx hb dX6_clear_0 rfl (lv_at hl 0 rfl) ?_
  refine gt_X6_X6_now hC hI dX6_clear_1 ?_
  refine lv_iload_n hx hb dX6_clear_4 rfl (lv_at hl 1 rfl) ?_
  refine lv_iload_n hx hb dX6_clear_5 rfl (lv_at hl 2 rfl) ?_
  refine lv_iload_n hx hb dX6_clear_6 rfl (lv_at hl 3 rfl) ?_
  obtain ⟨r1, hr2, hf⟩ := gbind hf
  have hr2 := C_X5_clearingFault l E x gOk_0 hr2
  refine g_callVi (rest := []) hC hI hr2 Y_X5_clearingFault V_X5_clearingFault w410 (rcv_X5 hC hI gOk_0) ⟨rfl, rfl⟩ ⟨Nat.le_of_ble_eq_true rfl, Nat.le_of_ble_eq_true rfl⟩ rfl hl.1 rfl (Nat.le_of_ble_eq_true rfl) dX6_clear_7 ⟨Nat.le_of_ble_eq_true rfl, Nat.le_of_ble_eq_true rfl⟩ (fun H locs hI => ?_)
  rcases gseq hf with ⟨er, Mr, hr4, hf⟩ | ⟨_, M5, hr4, hf⟩
  · replace hr4 := C_X6_raise l hst E x  hr4
    exact g_xSx (rest := []) hC hI hr4 Y_X6_raise S_X6_raise w255 ⟨rfl, rfl⟩ ⟨Nat.le_of_ble_eq_true rfl, Nat.le_of_ble_eq_true rfl⟩ rfl hl.1 rfl (Nat.le_of_ble_eq_true rfl) dX6_clear_10 ⟨Nat.le_of_ble_eq_true rfl, Nat.le_of_ble_eq_true rfl⟩ (fun ce q H locs hI h1 h2 h3 => kx _ _ _ _ _ _ _ _ _ _ _ (gtxb hf) hI h1 h2 h3 ⟨Nat.le_of_ble_eq_true rfl, Nat.le_of_ble_eq_true rfl⟩)
  replace hr4 := C_X6_raise l hst E x  hr4
  refine g_xSv (rest := []) hC hI hr4 Y_X6_raise S_X6_raise w255 ⟨rfl, rfl⟩ ⟨Nat.le_of_ble_eq_true rfl, Nat.le_of_ble_eq_true rfl⟩ rfl hl.1 rfl (Nat.le_of_ble_eq_true rfl) dX6_clear_10 ⟨Nat.le_of_ble_eq_true rfl, Nat.le_of_ble_eq_true rfl⟩ (fun H locs hI => ?_)
  refine lv_aload_n hx hb dX6_clear_13 rfl (lv_at hl 0 rfl) ?_
  refine gt_X6_X6_history hC hI dX6_clear_14 ?_
  refine lv_aload_n hx hb dX6_clear_17 rfl (lv_at hl 0 rfl) ?_
  refine gt_X6_X6_now hC hI dX6_clear_18 ?_
  obtain ⟨r6, hr7, hf⟩ := gbind hf
  have hr7 := C_X1_push l E x gOk_0 hr7
  refine g_callVv (rest := []) hC hI hr7 Y_X1_push V_X1_push w377 (rcv_X1 hC hI) ⟨rfl, rfl⟩ ⟨Nat.le_of_ble_eq_true rfl, Nat.le_of_ble_eq_true rfl⟩ rfl hl.1 rfl (Nat.le_of_ble_eq_true rfl) dX6_clear_21 ⟨Nat.le_of_ble_eq_true rfl, Nat.le_of_ble_eq_true rfl⟩ (fun H locs hI => ?_)
  refine lv_aload_n hx hb dX6_clear_24 rfl (lv_at hl 0 rfl) ?_
  refine gt_X6_X6_now hC hI dX6_clear_25 ?_
  refine lv_iload_n hx hb dX6_clear_28 rfl (lv_at hl 1 rfl) ?_
  refine lv_iload_n hx hb dX6_clear_29 rfl (lv_at hl 2 rfl) ?_
  refine lv_iload_n hx hb dX6_clear_30 rfl (lv_at hl 3 rfl) ?_
  obtain ⟨r8, hr9, hf⟩ := gbind hf
  have hr9 := C_X5_tryAnswer l E x gOk_0 hr9
  refine g_callVi (rest := []) hC hI hr9 Y_X5_tryAnswer V_X5_tryAnswer w414 (rcv_X5 hC hI gOk_0) ⟨rfl, rfl⟩ ⟨Nat.le_of_ble_eq_true rfl, Nat.le_of_ble_eq_true rfl⟩ rfl hl.1 rfl (Nat.le_of_ble_eq_true rfl) dX6_clear_31 ⟨Nat.le_of_ble_eq_true rfl, Nat.le_of_ble_eq_true rfl⟩ (fun H locs hI => ?_)
  exact kr _ _ _ _ _ _ _ _ (greb hf) hI ⟨.boolean, rfl, gb_nar _⟩ ⟨Nat.le_of_ble_eq_true rfl, Nat.le_of_ble_eq_true rfl⟩ dX6_clear_34
theorem dX5_movingFault_0 : decode cX5_movingFault 0 = .ok (.iload_n 1, 1) := by decide +kernel
theorem dX5_movingFault_1 : decode cX5_movingFault 1 = .ok (.invokestatic 60, 3) := by decide +kernel
theorem dX5_movingFault_4 : decode cX5_movingFault 4 = .ok (.ifCond .eq 17, 3) := by decide +kernel
theorem dX5_movingFault_7 : decode cX5_movingFault 7 = .ok (.iload_n 2, 1) := by decide +kernel
theorem dX5_movingFault_8 : decode cX5_movingFault 8 = .ok (.invokestatic 67, 3) := by decide +kernel
theorem dX5_movingFault_11 : decode cX5_movingFault 11 = .ok (.ifCond .eq 10, 3) := by decide +kernel
theorem dX5_movingFault_14 : decode cX5_movingFault 14 = .ok (.iload_n 3, 1) := by decide +kernel
theorem dX5_movingFault_15 : decode cX5_movingFault 15 = .ok (.invokestatic 67, 3) := by decide +kernel
theorem dX5_movingFault_18 : decode cX5_movingFault 18 = .ok (.ifCond .ne 5, 3) := by decide +kernel
theorem dX5_movingFault_21 : decode cX5_movingFault 21 = .ok (.iconst 1, 1) := by decide +kernel
theorem dX5_movingFault_22 : decode cX5_movingFault 22 = .ok (.ireturn, 1) := by decide +kernel
theorem dX5_movingFault_23 : decode cX5_movingFault 23 = .ok (.iload_n 2, 1) := by decide +kernel
theorem dX5_movingFault_24 : decode cX5_movingFault 24 = .ok (.iload_n 3, 1) := by decide +kernel
theorem dX5_movingFault_25 : decode cX5_movingFault 25 = .ok (.if_icmp .ne 5, 3) := by decide +kernel
theorem dX5_movingFault_28 : decode cX5_movingFault 28 = .ok (.iconst 2, 1) := by decide +kernel
theorem dX5_movingFault_29 : decode cX5_movingFault 29 = .ok (.ireturn, 1) := by decide +kernel
theorem dX5_movingFault_30 : decode cX5_movingFault 30 = .ok (.aload_n 0, 1) := by decide +kernel
theorem dX5_movingFault_31 : decode cX5_movingFault 31 = .ok (.getfield 12, 3) := by decide +kernel
theorem dX5_movingFault_34 : decode cX5_movingFault 34 = .ok (.iload_n 1, 1) := by decide +kernel
theorem dX5_movingFault_35 : decode cX5_movingFault 35 = .ok (.iload_n 2, 1) := by decide +kernel
theorem dX5_movingFault_36 : decode cX5_movingFault 36 = .ok (.invokestatic 70, 3) := by decide +kernel
theorem dX5_movingFault_39 : decode cX5_movingFault 39 = .ok (.invokevirtual 74, 3) := by decide +kernel
theorem dX5_movingFault_42 : decode cX5_movingFault 42 = .ok (.ifCond .ne 7, 3) := by decide +kernel
theorem dX5_movingFault_45 : decode cX5_movingFault 45 = .ok (.iconst 1, 1) := by decide +kernel
theorem dX5_movingFault_46 : decode cX5_movingFault 46 = .ok (.goto 4, 3) := by decide +kernel
theorem dX5_movingFault_49 : decode cX5_movingFault 49 = .ok (.iconst 0, 1) := by decide +kernel
theorem dX5_movingFault_50 : decode cX5_movingFault 50 = .ok (.istore 4, 2) := by decide +kernel
theorem dX5_movingFault_52 : decode cX5_movingFault 52 = .ok (.aload_n 0, 1) := by decide +kernel
theorem dX5_movingFault_53 : decode cX5_movingFault 53 = .ok (.getfield 12, 3) := by decide +kernel
theorem dX5_movingFault_56 : decode cX5_movingFault 56 = .ok (.iload_n 1, 1) := by decide +kernel
theorem dX5_movingFault_57 : decode cX5_movingFault 57 = .ok (.iload_n 3, 1) := by decide +kernel
theorem dX5_movingFault_58 : decode cX5_movingFault 58 = .ok (.invokestatic 70, 3) := by decide +kernel
theorem dX5_movingFault_61 : decode cX5_movingFault 61 = .ok (.invokevirtual 74, 3) := by decide +kernel
theorem dX5_movingFault_64 : decode cX5_movingFault 64 = .ok (.iconst 5, 1) := by decide +kernel
theorem dX5_movingFault_65 : decode cX5_movingFault 65 = .ok (.if_icmp .lt 7, 3) := by decide +kernel
theorem dX5_movingFault_68 : decode cX5_movingFault 68 = .ok (.iconst 1, 1) := by decide +kernel
theorem dX5_movingFault_69 : decode cX5_movingFault 69 = .ok (.goto 4, 3) := by decide +kernel
theorem dX5_movingFault_72 : decode cX5_movingFault 72 = .ok (.iconst 0, 1) := by decide +kernel
theorem dX5_movingFault_73 : decode cX5_movingFault 73 = .ok (.istore 5, 2) := by decide +kernel
theorem dX5_movingFault_75 : decode cX5_movingFault 75 = .ok (.aload_n 0, 1) := by decide +kernel
theorem dX5_movingFault_76 : decode cX5_movingFault 76 = .ok (.iload_n 1, 1) := by decide +kernel
theorem dX5_movingFault_77 : decode cX5_movingFault 77 = .ok (.invokevirtual 64, 3) := by decide +kernel
theorem dX5_movingFault_80 : decode cX5_movingFault 80 = .ok (.ifCond .eq 13, 3) := by decide +kernel
theorem dX5_movingFault_83 : decode cX5_movingFault 83 = .ok (.iload 4, 2) := by decide +kernel
theorem dX5_movingFault_85 : decode cX5_movingFault 85 = .ok (.ifCond .ne 8, 3) := by decide +kernel
theorem dX5_movingFault_88 : decode cX5_movingFault 88 = .ok (.iload 5, 2) := by decide +kernel
theorem dX5_movingFault_90 : decode cX5_movingFault 90 = .ok (.ifCond .eq 7, 3) := by decide +kernel
theorem dX5_movingFault_93 : decode cX5_movingFault 93 = .ok (.iconst 3, 1) := by decide +kernel
theorem dX5_movingFault_94 : decode cX5_movingFault 94 = .ok (.goto 4, 3) := by decide +kernel
theorem dX5_movingFault_97 : decode cX5_movingFault 97 = .ok (.iconst 0, 1) := by decide +kernel
theorem dX5_movingFault_98 : decode cX5_movingFault 98 = .ok (.ireturn, 1) := by decide +kernel
set_option maxRecDepth 100000 in
set_option maxHeartbeats 4000000 in
theorem C_X5_movingFault (l : Launch) (E : gE) (x : gX) {o : Nat} (ho : gOk o) {v1 v2 v3 : Int32} {M : gM} {r : Int32} (hf : f_X5_movingFault o v1 v2 v3 M = some r) : gM0 l E yX5_movingFault (.code yX5_movingFault cX5_movingFault 6 (some .int)) (gR 2 41) M x [.ref (E.2.1 o), .int v1, .int v2, .int v3] (some (.int r)) M := by
  refine gMet (by decide +kernel) (Nat.le_of_ble_eq_true rfl) ?_
  intro p e s m args below meth c H locs ls Q hC hl hI kr kv
  replace hC : gC p s m args c cX5_movingFault 6 RX5 E := hC
  replace hl : lv_has ls 6 [(0, .ref (E.2.1 o)), (1, .int v1), (2, .int v2), (3, .int v3)] := hl
  have hx := hC.1
  have hb := hC.2.1
  unfold f_X5_movingFault at hf
  refine lv_iload_n hx hb dX5_movingFault_0 rfl (lv_at hl 1 rfl) ?_
  obtain ⟨r1, hr2, hf⟩ := gbind hf
  have hr2 := C_X6_isBerth l E x  hr2
  refine g_callSNi (rest := []) hC hI hr2 Y_X6_isBerth S_X6_isBerth (List.mem_of_getElem? (i := 6) rfl) ⟨rfl, rfl⟩ ⟨Nat.le_of_ble_eq_true rfl, Nat.le_of_ble_eq_true rfl⟩ rfl hl.1 rfl (Nat.le_of_ble_eq_true rfl) dX5_movingFault_1 ⟨Nat.le_of_ble_eq_true rfl, Nat.le_of_ble_eq_true rfl⟩ (fun H locs hI => ?_)
  refine lv_if_eq (tgt := 21) hx hb dX5_movingFault_4 rfl (fun h3 => ?_) (fun h3 => ?_)
  · replace hf := gif h3 hf
    refine lv_iconst (v := 1) hx hb dX5_movingFault_21 (by decide) ?_
    exact kr _ _ _ _ _ _ (gri hf) hI ⟨.int, rfl, rfl⟩ dX5_movingFault_22
  · replace hf := gifn h3 hf
    refine lv_iload_n hx hb dX5_movingFault_7 rfl (lv_at hl 2 rfl) ?_
    obtain ⟨r4, hr5, hf⟩ := gbind hf
    have hr5 := C_X6_isStack l E x  hr5
    refine g_callSNi (rest := []) hC hI hr5 Y_X6_isStack S_X6_isStack (List.mem_of_getElem? (i := 7) rfl) ⟨rfl, rfl⟩ ⟨Nat.le_of_ble_eq_true rfl, Nat.le_of_ble_eq_true rfl⟩ rfl hl.1 rfl (Nat.le_of_ble_eq_true rfl) dX5_movingFault_8 ⟨Nat.le_of_ble_eq_true rfl, Nat.le_of_ble_eq_true rfl⟩ (fun H locs hI => ?_)
    refine lv_if_eq (tgt := 21) hx hb dX5_movingFault_11 rfl (fun h6 => ?_) (fun h6 => ?_)
    · replace hf := gif h6 hf
      refine lv_iconst (v := 1) hx hb dX5_movingFault_21 (by decide) ?_
      exact kr _ _ _ _ _ _ (gri hf) hI ⟨.int, rfl, rfl⟩ dX5_movingFault_22
    · replace hf := gifn h6 hf
      refine lv_iload_n hx hb dX5_movingFault_14 rfl (lv_at hl 3 rfl) ?_
      obtain ⟨r7, hr8, hf⟩ := gbind hf
      have hr8 := C_X6_isStack l E x  hr8
      refine g_callSNi (rest := []) hC hI hr8 Y_X6_isStack S_X6_isStack (List.mem_of_getElem? (i := 7) rfl) ⟨rfl, rfl⟩ ⟨Nat.le_of_ble_eq_true rfl, Nat.le_of_ble_eq_true rfl⟩ rfl hl.1 rfl (Nat.le_of_ble_eq_true rfl) dX5_movingFault_15 ⟨Nat.le_of_ble_eq_true rfl, Nat.le_of_ble_eq_true rfl⟩ (fun H locs hI => ?_)
      refine lv_if_ne (tgt := 23) hx hb dX5_movingFault_18 rfl (fun h9 => ?_) (fun h9 => ?_)
      · replace hf := gifn h9 hf
        refine lv_iload_n hx hb dX5_movingFault_23 rfl (lv_at hl 2 rfl) ?_
        refine lv_iload_n hx hb dX5_movingFault_24 rfl (lv_at hl 3 rfl) ?_
        refine lv_icmp_ne (tgt := 30) hx hb dX5_movingFault_25 rfl (fun h10 => ?_) (fun h10 => ?_)
        · replace hf := gifn h10 hf
          refine lv_aload_n hx hb dX5_movingFault_30 rfl (lv_at hl 0 rfl) ?_
          refine gt_X5_X5_cargo hC hI ho dX5_movingFault_31 ?_
          refine lv_iload_n hx hb dX5_movingFault_34 rfl (lv_at hl 1 rfl) ?_
          refine lv_iload_n hx hb dX5_movingFault_35 rfl (lv_at hl 2 rfl) ?_
          obtain ⟨r11, hr12, hf⟩ := gbind hf
          have hr12 := C_X6_pileOf l E x  hr12
          refine g_callSNi (rest := [.ref (E.2.1 (o + 1))]) hC hI hr12 Y_X6_pileOf S_X6_pileOf (List.mem_of_getElem? (i := 8) rfl) ⟨rfl, rfl⟩ ⟨Nat.le_of_ble_eq_true rfl, Nat.le_of_ble_eq_true rfl⟩ rfl hl.1 rfl (Nat.le_of_ble_eq_true rfl) dX5_movingFault_36 ⟨Nat.le_of_ble_eq_true rfl, Nat.le_of_ble_eq_true rfl⟩ (fun H locs hI => ?_)
          obtain ⟨r13, hr14, hf⟩ := gbind hf
          have hr14 := C_X0_height l E x ho hr14
          refine g_callVi (rest := []) hC hI hr14 Y_X0_height V_X0_height w247 (rcv_X0 hC hI ho) ⟨rfl, rfl⟩ ⟨Nat.le_of_ble_eq_true rfl, Nat.le_of_ble_eq_true rfl⟩ rfl hl.1 rfl (Nat.le_of_ble_eq_true rfl) dX5_movingFault_39 ⟨Nat.le_of_ble_eq_true rfl, Nat.le_of_ble_eq_true rfl⟩ (fun H locs hI => ?_)
          refine lv_if_ne (tgt := 49) hx hb dX5_movingFault_42 rfl (fun h15 => ?_) (fun h15 => ?_)
          · replace hf := gifn h15 hf
            refine lv_iconst (v := 0) hx hb dX5_movingFault_49 (by decide) ?_
            refine lv_istore (lv' := [(4, .int 0), (0, .ref (E.2.1 o)), (1, .int v1), (2, .int v2), (3, .int v3)]) hx hb dX5_movingFault_50 hl (by decide) rfl (fun ls hl => ?_)
            refine lv_aload_n hx hb dX5_movingFault_52 rfl (lv_at hl 1 rfl) ?_
            refine gt_X5_X5_cargo hC hI ho dX5_movingFault_53 ?_
            refine lv_iload_n hx hb dX5_movingFault_56 rfl (lv_at hl 2 rfl) ?_
            refine lv_iload_n hx hb dX5_movingFault_57 rfl (lv_at hl 4 rfl) ?_
            obtain ⟨r16, hr17, hf⟩ := gbind hf
            have hr17 := C_X6_pileOf l E x  hr17
            refine g_callSNi (rest := [.ref (E.2.1 (o + 1))]) hC hI hr17 Y_X6_pileOf S_X6_pileOf (List.mem_of_getElem? (i := 8) rfl) ⟨rfl, rfl⟩ ⟨Nat.le_of_ble_eq_true rfl, Nat.le_of_ble_eq_true rfl⟩ rfl hl.1 rfl (Nat.le_of_ble_eq_true rfl) dX5_movingFault_58 ⟨Nat.le_of_ble_eq_true rfl, Nat.le_of_ble_eq_true rfl⟩ (fun H locs hI => ?_)
            obtain ⟨r18, hr19, hf⟩ := gbind hf
            have hr19 := C_X0_height l E x ho hr19
            refine g_callVi (rest := []) hC hI hr19 Y_X0_height V_X0_height w247 (rcv_X0 hC hI ho) ⟨rfl, rfl⟩ ⟨Nat.le_of_ble_eq_true rfl, Nat.le_of_ble_eq_true rfl⟩ rfl hl.1 rfl (Nat.le_of_ble_eq_true rfl) dX5_movingFault_61 ⟨Nat.le_of_ble_eq_true rfl, Nat.le_of_ble_eq_true rfl⟩ (fun H locs hI => ?_)
            refine lv_iconst (v := 5) hx hb dX5_movingFault_64 (by decide) ?_
            refine lv_icmp_lt (tgt := 72) hx hb dX5_movingFault_65 rfl (fun h20 => ?_) (fun h20 => ?_)
            · replace hf := gif h20 hf
              refine lv_iconst (v := 0) hx hb dX5_movingFault_72 (by decide) ?_
              refine lv_istore (lv' := [(5, .int 0), (4, .int 0), (0, .ref (E.2.1 o)), (1, .int v1), (2, .int v2), (3, .int v3)]) hx hb dX5_movingFault_73 hl (by decide) rfl (fun ls hl => ?_)
              refine lv_aload_n hx hb dX5_movingFault_75 rfl (lv_at hl 2 rfl) ?_
              refine lv_iload_n hx hb dX5_movingFault_76 rfl (lv_at hl 3 rfl) ?_
              obtain ⟨r21, hr22, hf⟩ := gbind hf
              have hr22 := C_X5_hasShip l E x ho hr22
              refine g_callVi (rest := []) hC hI hr22 Y_X5_hasShip V_X5_hasShip w251 (rcv_X5 hC hI ho) ⟨rfl, rfl⟩ ⟨Nat.le_of_ble_eq_true rfl, Nat.le_of_ble_eq_true rfl⟩ rfl hl.1 rfl (Nat.le_of_ble_eq_true rfl) dX5_movingFault_77 ⟨Nat.le_of_ble_eq_true rfl, Nat.le_of_ble_eq_true rfl⟩ (fun H locs hI => ?_)
              refine lv_if_eq (tgt := 93) hx hb dX5_movingFault_80 rfl (fun h23 => ?_) (fun h23 => ?_)
              · replace hf := gif h23 hf
                refine lv_iconst (v := 3) hx hb dX5_movingFault_93 (by decide) ?_
                refine lv_goto (tgt := 98) hx hb dX5_movingFault_94 rfl ?_
                exact kr _ _ _ _ _ _ (gri hf) hI ⟨.int, rfl, rfl⟩ dX5_movingFault_98
              · replace hf := gifn h23 hf
                refine lv_iload hx hb dX5_movingFault_83 (lv_at hl 1 rfl) ?_
                refine lv_if_ne (tgt := 93) hx hb dX5_movingFault_85 rfl (fun h24 => absurd (by decide) h24) (fun h24 => ?_)
                refine lv_iload hx hb dX5_movingFault_88 (lv_at hl 0 rfl) ?_
                refine lv_if_eq (tgt := 97) hx hb dX5_movingFault_90 rfl (fun h25 => ?_) (fun h25 => absurd (by decide) h25)
                refine lv_iconst (v := 0) hx hb dX5_movingFault_97 (by decide) ?_
                exact kr _ _ _ _ _ _ (gri hf) hI ⟨.int, rfl, rfl⟩ dX5_movingFault_98
            · replace hf := gifn h20 hf
              refine lv_iconst (v := 1) hx hb dX5_movingFault_68 (by decide) ?_
              refine lv_goto (tgt := 73) hx hb dX5_movingFault_69 rfl ?_
              refine lv_istore (lv' := [(5, .int 1), (4, .int 0), (0, .ref (E.2.1 o)), (1, .int v1), (2, .int v2), (3, .int v3)]) hx hb dX5_movingFault_73 hl (by decide) rfl (fun ls hl => ?_)
              refine lv_aload_n hx hb dX5_movingFault_75 rfl (lv_at hl 2 rfl) ?_
              refine lv_iload_n hx hb dX5_movingFault_76 rfl (lv_at hl 3 rfl) ?_
              obtain ⟨r26, hr27, hf⟩ := gbind hf
              have hr27 := C_X5_hasShip l E x ho hr27
              refine g_callVi (rest := []) hC hI hr27 Y_X5_hasShip V_X5_hasShip w251 (rcv_X5 hC hI ho) ⟨rfl, rfl⟩ ⟨Nat.le_of_ble_eq_true rfl, Nat.le_of_ble_eq_true rfl⟩ rfl hl.1 rfl (Nat.le_of_ble_eq_true rfl) dX5_movingFault_77 ⟨Nat.le_of_ble_eq_true rfl, Nat.le_of_ble_eq_true rfl⟩ (fun H locs hI => ?_)
              refine lv_if_eq (tgt := 93) hx hb dX5_movingFault_80 rfl (fun h28 => ?_) (fun h28 => ?_)
              · replace hf := gif h28 hf
                refine lv_iconst (v := 3) hx hb dX5_movingFault_93 (by decide) ?_
                refine lv_goto (tgt := 98) hx hb dX5_movingFault_94 rfl ?_
                exact kr _ _ _ _ _ _ (gri hf) hI ⟨.int, rfl, rfl⟩ dX5_movingFault_98
              · replace hf := gifn h28 hf
                refine lv_iload hx hb dX5_movingFault_83 (lv_at hl 1 rfl) ?_
                refine lv_if_ne (tgt := 93) hx hb dX5_movingFault_85 rfl (fun h29 => absurd (by decide) h29) (fun h29 => ?_)
                refine lv_iload hx hb dX5_movingFault_88 (lv_at hl 0 rfl) ?_
                refine lv_if_eq (tgt := 97) hx hb dX5_movingFault_90 rfl (fun h30 => absurd h30 (by decide)) (fun h30 => ?_)
                refine lv_iconst (v := 3) hx hb dX5_movingFault_93 (by decide) ?_
                refine lv_goto (tgt := 98) hx hb dX5_movingFault_94 rfl ?_
                exact kr _ _ _ _ _ _ (gri hf) hI ⟨.int, rfl, rfl⟩ dX5_movingFault_98
          · replace hf := gif h15 hf
            refine lv_iconst (v := 1) hx hb dX5_movingFault_45 (by decide) ?_
            refine lv_goto (tgt := 50) hx hb dX5_movingFault_46 rfl ?_
            refine lv_istore (lv' := [(4, .int 1), (0, .ref (E.2.1 o)), (1, .int v1), (2, .int v2), (3, .int v3)]) hx hb dX5_movingFault_50 hl (by decide) rfl (fun ls hl => ?_)
            refine lv_aload_n hx hb dX5_movingFault_52 rfl (lv_at hl 1 rfl) ?_
            refine gt_X5_X5_cargo hC hI ho dX5_movingFault_53 ?_
            refine lv_iload_n hx hb dX5_movingFault_56 rfl (lv_at hl 2 rfl) ?_
            refine lv_iload_n hx hb dX5_movingFault_57 rfl (lv_at hl 4 rfl) ?_
            obtain ⟨r31, hr32, hf⟩ := gbind hf
            have hr32 := C_X6_pileOf l E x  hr32
            refine g_callSNi (rest := [.ref (E.2.1 (o + 1))]) hC hI hr32 Y_X6_pileOf S_X6_pileOf (List.mem_of_getElem? (i := 8) rfl) ⟨rfl, rfl⟩ ⟨Nat.le_of_ble_eq_true rfl, Nat.le_of_ble_eq_true rfl⟩ rfl hl.1 rfl (Nat.le_of_ble_eq_true rfl) dX5_movingFault_58 ⟨Nat.le_of_ble_eq_true rfl, Nat.le_of_ble_eq_true rfl⟩ (fun H locs hI => ?_)
            obtain ⟨r33, hr34, hf⟩ := gbind hf
            have hr34 := C_X0_height l E x ho hr34
            refine g_callVi (rest := []) hC hI hr34 Y_X0_height V_X0_height w247 (rcv_X0 hC hI ho) ⟨rfl, rfl⟩ ⟨Nat.le_of_ble_eq_true rfl, Nat.le_of_ble_eq_true rfl⟩ rfl hl.1 rfl (Nat.le_of_ble_eq_true rfl) dX5_movingFault_61 ⟨Nat.le_of_ble_eq_true rfl, Nat.le_of_ble_eq_true rfl⟩ (fun H locs hI => ?_)
            refine lv_iconst (v := 5) hx hb dX5_movingFault_64 (by decide) ?_
            refine lv_icmp_lt (tgt := 72) hx hb dX5_movingFault_65 rfl (fun h35 => ?_) (fun h35 => ?_)
            · replace hf := gif h35 hf
              refine lv_iconst (v := 0) hx hb dX5_movingFault_72 (by decide) ?_
              refine lv_istore (lv' := [(5, .int 0), (4, .int 1), (0, .ref (E.2.1 o)), (1, .int v1), (2, .int v2), (3, .int v3)]) hx hb dX5_movingFault_73 hl (by decide) rfl (fun ls hl => ?_)
              refine lv_aload_n hx hb dX5_movingFault_75 rfl (lv_at hl 2 rfl) ?_
              refine lv_iload_n hx hb dX5_movingFault_76 rfl (lv_at hl 3 rfl) ?_
              obtain ⟨r36, hr37, hf⟩ := gbind hf
              have hr37 := C_X5_hasShip l E x ho hr37
              refine g_callVi (rest := []) hC hI hr37 Y_X5_hasShip V_X5_hasShip w251 (rcv_X5 hC hI ho) ⟨rfl, rfl⟩ ⟨Nat.le_of_ble_eq_true rfl, Nat.le_of_ble_eq_true rfl⟩ rfl hl.1 rfl (Nat.le_of_ble_eq_true rfl) dX5_movingFault_77 ⟨Nat.le_of_ble_eq_true rfl, Nat.le_of_ble_eq_true rfl⟩ (fun H locs hI => ?_)
              refine lv_if_eq (tgt := 93) hx hb dX5_movingFault_80 rfl (fun h38 => ?_) (fun h38 => ?_)
              · replace hf := gif h38 hf
                refine lv_iconst (v := 3) hx hb dX5_movingFault_93 (by decide) ?_
                refine lv_goto (tgt := 98) hx hb dX5_movingFault_94 rfl ?_
                exact kr _ _ _ _ _ _ (gri hf) hI ⟨.int, rfl, rfl⟩ dX5_movingFault_98
              · replace hf := gifn h38 hf
                refine lv_iload hx hb dX5_movingFault_83 (lv_at hl 1 rfl) ?_
                refine lv_if_ne (tgt := 93) hx hb dX5_movingFault_85 rfl (fun h39 => ?_) (fun h39 => absurd h39 (by decide))
                refine lv_iconst (v := 3) hx hb dX5_movingFault_93 (by decide) ?_
                refine lv_goto (tgt := 98) hx hb dX5_movingFault_94 rfl ?_
                exact kr _ _ _ _ _ _ (gri hf) hI ⟨.int, rfl, rfl⟩ dX5_movingFault_98
            · replace hf := gifn h35 hf
              refine lv_iconst (v := 1) hx hb dX5_movingFault_68 (by decide) ?_
              refine lv_goto (tgt := 73) hx hb dX5_movingFault_69 rfl ?_
              refine lv_istore (lv' := [(5, .int 1), (4, .int 1), (0, .ref (E.2.1 o)), (1, .int v1), (2, .int v2), (3, .int v3)]) hx hb dX5_movingFault_73 hl (by decide) rfl (fun ls hl => ?_)
              refine lv_aload_n hx hb dX5_movingFault_75 rfl (lv_at hl 2 rfl) ?_
              refine lv_iload_n hx hb dX5_movingFault_76 rfl (lv_at hl 3 rfl) ?_
              obtain ⟨r40, hr41, hf⟩ := gbind hf
              have hr41 := C_X5_hasShip l E x ho hr41
              refine g_callVi (rest := []) hC hI hr41 Y_X5_hasShip V_X5_hasShip w251 (rcv_X5 hC hI ho) ⟨rfl, rfl⟩ ⟨Nat.le_of_ble_eq_true rfl, Nat.le_of_ble_eq_true rfl⟩ rfl hl.1 rfl (Nat.le_of_ble_eq_true rfl) dX5_movingFault_77 ⟨Nat.le_of_ble_eq_true rfl, Nat.le_of_ble_eq_true rfl⟩ (fun H locs hI => ?_)
              refine lv_if_eq (tgt := 93) hx hb dX5_movingFault_80 rfl (fun h42 => ?_) (fun h42 => ?_)
              · replace hf := gif h42 hf
                refine lv_iconst (v := 3) hx hb dX5_movingFault_93 (by decide) ?_
                refine lv_goto (tgt := 98) hx hb dX5_movingFault_94 rfl ?_
                exact kr _ _ _ _ _ _ (gri hf) hI ⟨.int, rfl, rfl⟩ dX5_movingFault_98
              · replace hf := gifn h42 hf
                refine lv_iload hx hb dX5_movingFault_83 (lv_at hl 1 rfl) ?_
                refine lv_if_ne (tgt := 93) hx hb dX5_movingFault_85 rfl (fun h43 => ?_) (fun h43 => absurd h43 (by decide))
                refine lv_iconst (v := 3) hx hb dX5_movingFault_93 (by decide) ?_
                refine lv_goto (tgt := 98) hx hb dX5_movingFault_94 rfl ?_
                exact kr _ _ _ _ _ _ (gri hf) hI ⟨.int, rfl, rfl⟩ dX5_movingFault_98
        · replace hf := gif h10 hf
          refine lv_iconst (v := 2) hx hb dX5_movingFault_28 (by decide) ?_
          exact kr _ _ _ _ _ _ (gri hf) hI ⟨.int, rfl, rfl⟩ dX5_movingFault_29
      · replace hf := gif h9 hf
        refine lv_iconst (v := 1) hx hb dX5_movingFault_21 (by decide) ?_
        exact kr _ _ _ _ _ _ (gri hf) hI ⟨.int, rfl, rfl⟩ dX5_movingFault_22
theorem dX0_id_0 : decode cX0_id 0 = .ok (.aload_n 0, 1) := by decide +kernel
theorem dX0_id_1 : decode cX0_id 1 = .ok (.iload_n 1, 1) := by decide +kernel
theorem dX0_id_2 : decode cX0_id 2 = .ok (.invokevirtual 44, 3) := by decide +kernel
theorem dX0_id_5 : decode cX0_id 5 = .ok (.ifCond .eq 12, 3) := by decide +kernel
theorem dX0_id_8 : decode cX0_id 8 = .ok (.aload_n 0, 1) := by decide +kernel
theorem dX0_id_9 : decode cX0_id 9 = .ok (.getfield 9, 3) := by decide +kernel
theorem dX0_id_12 : decode cX0_id 12 = .ok (.iload_n 1, 1) := by decide +kernel
theorem dX0_id_13 : decode cX0_id 13 = .ok (.iaload, 1) := by decide +kernel
theorem dX0_id_14 : decode cX0_id 14 = .ok (.goto 4, 3) := by decide +kernel
theorem dX0_id_17 : decode cX0_id 17 = .ok (.iconst (-1), 1) := by decide +kernel
theorem dX0_id_18 : decode cX0_id 18 = .ok (.ireturn, 1) := by decide +kernel
set_option maxRecDepth 100000 in
set_option maxHeartbeats 4000000 in
theorem C_X0_id (l : Launch) (E : gE) (x : gX) {o : Nat} (ho : gOk o) {v1 : Int32} {M : gM} {r : Int32} (hf : f_X0_id o v1 M = some r) : gM0 l E yX0_id (.code yX0_id cX0_id 2 (some .int)) (gR 1 21) M x [.ref (E.2.1 (o + 1)), .int v1] (some (.int r)) M := by
  refine gMet (by decide +kernel) (Nat.le_of_ble_eq_true rfl) ?_
  intro p e s m args below meth c H locs ls Q hC hl hI kr kv
  replace hC : gC p s m args c cX0_id 2 RX0 E := hC
  replace hl : lv_has ls 2 [(0, .ref (E.2.1 (o + 1))), (1, .int v1)] := hl
  have hx := hC.1
  have hb := hC.2.1
  unfold f_X0_id at hf
  refine lv_aload_n hx hb dX0_id_0 rfl (lv_at hl 0 rfl) ?_
  refine lv_iload_n hx hb dX0_id_1 rfl (lv_at hl 1 rfl) ?_
  obtain ⟨r1, hr2, hf⟩ := gbind hf
  have hr2 := C_X0_hasRow l E x ho hr2
  refine g_callVi (rest := []) hC hI hr2 Y_X0_hasRow V_X0_hasRow w434 (rcv_X0 hC hI ho) ⟨rfl, rfl⟩ ⟨Nat.le_of_ble_eq_true rfl, Nat.le_of_ble_eq_true rfl⟩ rfl hl.1 rfl (Nat.le_of_ble_eq_true rfl) dX0_id_2 ⟨Nat.le_of_ble_eq_true rfl, Nat.le_of_ble_eq_true rfl⟩ (fun H locs hI => ?_)
  refine lv_if_eq (tgt := 17) hx hb dX0_id_5 rfl (fun h3 => ?_) (fun h3 => ?_)
  · replace hf := gif h3 hf
    refine lv_iconst (v := (-1)) hx hb dX0_id_17 (by decide) ?_
    exact kr _ _ _ _ _ _ (gri hf) hI ⟨.int, rfl, rfl⟩ dX0_id_18
  · replace hf := gifn h3 hf
    refine lv_aload_n hx hb dX0_id_8 rfl (lv_at hl 0 rfl) ?_
    refine gt_X0_X0_ids hC hI ho dX0_id_9 ?_
    refine lv_iload_n hx hb dX0_id_12 rfl (lv_at hl 1 rfl) ?_
    obtain ⟨h4, hf⟩ := gifN hf
    refine g_iald hC hI (k := v1.toNatClampNeg) (gIA_2 ho) h4 rfl dX0_id_13 ?_
    refine lv_goto (tgt := 18) hx hb dX0_id_14 rfl ?_
    exact kr _ _ _ _ _ _ (gri hf) hI ⟨.int, rfl, rfl⟩ dX0_id_18
theorem dX5_shiftTop_0 : decode cX5_shiftTop 0 = .ok (.aload_n 0, 1) := by decide +kernel
theorem dX5_shiftTop_1 : decode cX5_shiftTop 1 = .ok (.getfield 12, 3) := by decide +kernel
theorem dX5_shiftTop_4 : decode cX5_shiftTop 4 = .ok (.iload_n 1, 1) := by decide +kernel
theorem dX5_shiftTop_5 : decode cX5_shiftTop 5 = .ok (.iload_n 2, 1) := by decide +kernel
theorem dX5_shiftTop_6 : decode cX5_shiftTop 6 = .ok (.invokestatic 70, 3) := by decide +kernel
theorem dX5_shiftTop_9 : decode cX5_shiftTop 9 = .ok (.invokevirtual 82, 3) := by decide +kernel
theorem dX5_shiftTop_12 : decode cX5_shiftTop 12 = .ok (.istore 4, 2) := by decide +kernel
theorem dX5_shiftTop_14 : decode cX5_shiftTop 14 = .ok (.aload_n 0, 1) := by decide +kernel
theorem dX5_shiftTop_15 : decode cX5_shiftTop 15 = .ok (.getfield 12, 3) := by decide +kernel
theorem dX5_shiftTop_18 : decode cX5_shiftTop 18 = .ok (.iload 4, 2) := by decide +kernel
theorem dX5_shiftTop_20 : decode cX5_shiftTop 20 = .ok (.iload_n 1, 1) := by decide +kernel
theorem dX5_shiftTop_21 : decode cX5_shiftTop 21 = .ok (.iload_n 3, 1) := by decide +kernel
theorem dX5_shiftTop_22 : decode cX5_shiftTop 22 = .ok (.invokestatic 70, 3) := by decide +kernel
theorem dX5_shiftTop_25 : decode cX5_shiftTop 25 = .ok (.invokevirtual 92, 3) := by decide +kernel
theorem dX5_shiftTop_28 : decode cX5_shiftTop 28 = .ok (.aload_n 0, 1) := by decide +kernel
theorem dX5_shiftTop_29 : decode cX5_shiftTop 29 = .ok (.getfield 12, 3) := by decide +kernel
theorem dX5_shiftTop_32 : decode cX5_shiftTop 32 = .ok (.iload 4, 2) := by decide +kernel
theorem dX5_shiftTop_34 : decode cX5_shiftTop 34 = .ok (.invokevirtual 96, 3) := by decide +kernel
theorem dX5_shiftTop_37 : decode cX5_shiftTop 37 = .ok (.ireturn, 1) := by decide +kernel
set_option maxRecDepth 100000 in
set_option maxHeartbeats 4000000 in
theorem C_X5_shiftTop (l : Launch) (E : gE) (x : gX) {o : Nat} (ho : gOk o) {v1 v2 v3 : Int32} {M : gM} {r : Int32} {M' : gM} (hf : f_X5_shiftTop o v1 v2 v3 M = some (r, M')) : gM0 l E yX5_shiftTop (.code yX5_shiftTop cX5_shiftTop 5 (some .int)) (gR 2 45) M x [.ref (E.2.1 o), .int v1, .int v2, .int v3] (some (.int r)) M' := by
  refine gMet (by decide +kernel) (Nat.le_of_ble_eq_true rfl) ?_
  intro p e s m args below meth c H locs ls Q hC hl hI kr kv
  replace hC : gC p s m args c cX5_shiftTop 5 RX5 E := hC
  replace hl : lv_has ls 5 [(0, .ref (E.2.1 o)), (1, .int v1), (2, .int v2), (3, .int v3)] := hl
  have hx := hC.1
  have hb := hC.2.1
  unfold f_X5_shiftTop at hf
  refine lv_aload_n hx hb dX5_shiftTop_0 rfl (lv_at hl 0 rfl) ?_
  refine gt_X5_X5_cargo hC hI ho dX5_shiftTop_1 ?_
  refine lv_iload_n hx hb dX5_shiftTop_4 rfl (lv_at hl 1 rfl) ?_
  refine lv_iload_n hx hb dX5_shiftTop_5 rfl (lv_at hl 2 rfl) ?_
  obtain ⟨r1, hr2, hf⟩ := gbind hf
  have hr2 := C_X6_pileOf l E x  hr2
  refine g_callSNi (rest := [.ref (E.2.1 (o + 1))]) hC hI hr2 Y_X6_pileOf S_X6_pileOf (List.mem_of_getElem? (i := 8) rfl) ⟨rfl, rfl⟩ ⟨Nat.le_of_ble_eq_true rfl, Nat.le_of_ble_eq_true rfl⟩ rfl hl.1 rfl (Nat.le_of_ble_eq_true rfl) dX5_shiftTop_6 ⟨Nat.le_of_ble_eq_true rfl, Nat.le_of_ble_eq_true rfl⟩ (fun H locs hI => ?_)
  obtain ⟨r3, hr4, hf⟩ := gbind hf
  have hr4 := C_X0_topRow l E x ho hr4
  refine g_callVi (rest := []) hC hI hr4 Y_X0_topRow V_X0_topRow w418 (rcv_X0 hC hI ho) ⟨rfl, rfl⟩ ⟨Nat.le_of_ble_eq_true rfl, Nat.le_of_ble_eq_true rfl⟩ rfl hl.1 rfl (Nat.le_of_ble_eq_true rfl) dX5_shiftTop_9 ⟨Nat.le_of_ble_eq_true rfl, Nat.le_of_ble_eq_true rfl⟩ (fun H locs hI => ?_)
  refine lv_istore (lv' := [(4, .int r3), (0, .ref (E.2.1 o)), (1, .int v1), (2, .int v2), (3, .int v3)]) hx hb dX5_shiftTop_12 hl (by decide) rfl (fun ls hl => ?_)
  refine lv_aload_n hx hb dX5_shiftTop_14 rfl (lv_at hl 1 rfl) ?_
  refine gt_X5_X5_cargo hC hI ho dX5_shiftTop_15 ?_
  refine lv_iload hx hb dX5_shiftTop_18 (lv_at hl 0 rfl) ?_
  refine lv_iload_n hx hb dX5_shiftTop_20 rfl (lv_at hl 2 rfl) ?_
  refine lv_iload_n hx hb dX5_shiftTop_21 rfl (lv_at hl 4 rfl) ?_
  obtain ⟨r5, hr6, hf⟩ := gbind hf
  have hr6 := C_X6_pileOf l E x  hr6
  refine g_callSNi (rest := [.int r3, .ref (E.2.1 (o + 1))]) hC hI hr6 Y_X6_pileOf S_X6_pileOf (List.mem_of_getElem? (i := 8) rfl) ⟨rfl, rfl⟩ ⟨Nat.le_of_ble_eq_true rfl, Nat.le_of_ble_eq_true rfl⟩ rfl hl.1 rfl (Nat.le_of_ble_eq_true rfl) dX5_shiftTop_22 ⟨Nat.le_of_ble_eq_true rfl, Nat.le_of_ble_eq_true rfl⟩ (fun H locs hI => ?_)
  obtain ⟨r7, hr8, hf⟩ := gbind hf
  have hr8 := C_X0_put l E x ho hr8
  refine g_callVv (rest := []) hC hI hr8 Y_X0_put V_X0_put w446 (rcv_X0 hC hI ho) ⟨rfl, rfl⟩ ⟨Nat.le_of_ble_eq_true rfl, Nat.le_of_ble_eq_true rfl⟩ rfl hl.1 rfl (Nat.le_of_ble_eq_true rfl) dX5_shiftTop_25 ⟨Nat.le_of_ble_eq_true rfl, Nat.le_of_ble_eq_true rfl⟩ (fun H locs hI => ?_)
  refine lv_aload_n hx hb dX5_shiftTop_28 rfl (lv_at hl 1 rfl) ?_
  refine gt_X5_X5_cargo hC hI ho dX5_shiftTop_29 ?_
  refine lv_iload hx hb dX5_shiftTop_32 (lv_at hl 0 rfl) ?_
  obtain ⟨r9, hr10, hf⟩ := gbind hf
  have hr10 := C_X0_id l E x ho hr10
  refine g_callVi (rest := []) hC hI hr10 Y_X0_id V_X0_id w462 (rcv_X0 hC hI ho) ⟨rfl, rfl⟩ ⟨Nat.le_of_ble_eq_true rfl, Nat.le_of_ble_eq_true rfl⟩ rfl hl.1 rfl (Nat.le_of_ble_eq_true rfl) dX5_shiftTop_34 ⟨Nat.le_of_ble_eq_true rfl, Nat.le_of_ble_eq_true rfl⟩ (fun H locs hI => ?_)
  exact kr _ _ _ _ _ _ (grw hf) hI ⟨.int, rfl, rfl⟩ dX5_shiftTop_37
theorem dX6_move_0 : decode cX6_move 0 = .ok (.aload_n 0, 1) := by decide +kernel
theorem dX6_move_1 : decode cX6_move 1 = .ok (.getfield 10, 3) := by decide +kernel
theorem dX6_move_4 : decode cX6_move 4 = .ok (.iload_n 1, 1) := by decide +kernel
theorem dX6_move_5 : decode cX6_move 5 = .ok (.iload_n 2, 1) := by decide +kernel
theorem dX6_move_6 : decode cX6_move 6 = .ok (.iload_n 3, 1) := by decide +kernel
theorem dX6_move_7 : decode cX6_move 7 = .ok (.invokevirtual 95, 3) := by decide +kernel
theorem dX6_move_10 : decode cX6_move 10 = .ok (.invokestatic 65, 3) := by decide +kernel
theorem dX6_move_13 : decode cX6_move 13 = .ok (.aload_n 0, 1) := by decide +kernel
theorem dX6_move_14 : decode cX6_move 14 = .ok (.getfield 29, 3) := by decide +kernel
theorem dX6_move_17 : decode cX6_move 17 = .ok (.aload_n 0, 1) := by decide +kernel
theorem dX6_move_18 : decode cX6_move 18 = .ok (.getfield 10, 3) := by decide +kernel
theorem dX6_move_21 : decode cX6_move 21 = .ok (.invokevirtual 69, 3) := by decide +kernel
theorem dX6_move_24 : decode cX6_move 24 = .ok (.aload_n 0, 1) := by decide +kernel
theorem dX6_move_25 : decode cX6_move 25 = .ok (.getfield 10, 3) := by decide +kernel
theorem dX6_move_28 : decode cX6_move 28 = .ok (.iload_n 1, 1) := by decide +kernel
theorem dX6_move_29 : decode cX6_move 29 = .ok (.iload_n 2, 1) := by decide +kernel
theorem dX6_move_30 : decode cX6_move 30 = .ok (.iload_n 3, 1) := by decide +kernel
theorem dX6_move_31 : decode cX6_move 31 = .ok (.invokevirtual 98, 3) := by decide +kernel
theorem dX6_move_34 : decode cX6_move 34 = .ok (.ireturn, 1) := by decide +kernel
set_option maxRecDepth 100000 in
set_option maxHeartbeats 4000000 in
theorem C_X6_move (l : Launch) (hst : l.stackTraces = false) (E : gE) (x : gX) {v1 v2 v3 : Int32} {M : gM} {oc : String ⊕ Int32} {M' : gM} (hf : f_X6_move v1 v2 v3 M = some (oc, M')) : gX0 l E yX6_move (.code yX6_move cX6_move 4 (some .int)) (gRX 7 124 1 6) M x [.ref (E.2.1 132), .int v1, .int v2, .int v3] (gO oc) M' 1 6 := by
  refine gMetX hst (by decide +kernel) (Nat.le_of_ble_eq_true rfl) ?_
  intro p e s m args below meth c H locs ls Q hC hl hI kr kv kx kt kd kf
  replace hC : gC p s m args c cX6_move 4 RX6 E := hC
  replace hl : lv_has ls 4 [(0, .ref (E.2.1 132)), (1, .int v1), (2, .int v2), (3, .int v3)] := hl
  have hx := hC.1
  have hb := hC.2.1
  unfold f_X6_move at hf
  refine lv_aload_n hx hb dX6_move_0 rfl (lv_at hl 0 rfl) ?_
  refine gt_X6_X6_now hC hI dX6_move_1 ?_
  refine lv_iload_n hx hb dX6_move_4 rfl (lv_at hl 1 rfl) ?_
  refine lv_iload_n hx hb dX6_move_5 rfl (lv_at hl 2 rfl) ?_
  refine lv_iload_n hx hb dX6_move_6 rfl (lv_at hl 3 rfl) ?_
  obtain ⟨r1, hr2, hf⟩ := gbind hf
  have hr2 := C_X5_movingFault l E x gOk_0 hr2
  refine g_callVi (rest := []) hC hI hr2 Y_X5_movingFault V_X5_movingFault w454 (rcv_X5 hC hI gOk_0) ⟨rfl, rfl⟩ ⟨Nat.le_of_ble_eq_true rfl, Nat.le_of_ble_eq_true rfl⟩ rfl hl.1 rfl (Nat.le_of_ble_eq_true rfl) dX6_move_7 ⟨Nat.le_of_ble_eq_true rfl, Nat.le_of_ble_eq_true rfl⟩ (fun H locs hI => ?_)
  rcases gseq hf with ⟨er, Mr, hr4, hf⟩ | ⟨_, M5, hr4, hf⟩
  · replace hr4 := C_X6_raise l hst E x  hr4
    exact g_xSx (rest := []) hC hI hr4 Y_X6_raise S_X6_raise w255 ⟨rfl, rfl⟩ ⟨Nat.le_of_ble_eq_true rfl, Nat.le_of_ble_eq_true rfl⟩ rfl hl.1 rfl (Nat.le_of_ble_eq_true rfl) dX6_move_10 ⟨Nat.le_of_ble_eq_true rfl, Nat.le_of_ble_eq_true rfl⟩ (fun ce q H locs hI h1 h2 h3 => kx _ _ _ _ _ _ _ _ _ _ _ (gtx hf) hI h1 h2 h3 ⟨Nat.le_of_ble_eq_true rfl, Nat.le_of_ble_eq_true rfl⟩)
  replace hr4 := C_X6_raise l hst E x  hr4
  refine g_xSv (rest := []) hC hI hr4 Y_X6_raise S_X6_raise w255 ⟨rfl, rfl⟩ ⟨Nat.le_of_ble_eq_true rfl, Nat.le_of_ble_eq_true rfl⟩ rfl hl.1 rfl (Nat.le_of_ble_eq_true rfl) dX6_move_10 ⟨Nat.le_of_ble_eq_true rfl, Nat.le_of_ble_eq_true rfl⟩ (fun H locs hI => ?_)
  refine lv_aload_n hx hb dX6_move_13 rfl (lv_at hl 0 rfl) ?_
  refine gt_X6_X6_history hC hI dX6_move_14 ?_
  refine lv_aload_n hx hb dX6_move_17 rfl (lv_at hl 0 rfl) ?_
  refine gt_X6_X6_now hC hI dX6_move_18 ?_
  obtain ⟨r6, hr7, hf⟩ := gbind hf
  have hr7 := C_X1_push l E x gOk_0 hr7
  refine g_callVv (rest := []) hC hI hr7 Y_X1_push V_X1_push w377 (rcv_X1 hC hI) ⟨rfl, rfl⟩ ⟨Nat.le_of_ble_eq_true rfl, Nat.le_of_ble_eq_true rfl⟩ rfl hl.1 rfl (Nat.le_of_ble_eq_true rfl) dX6_move_21 ⟨Nat.le_of_ble_eq_true rfl, Nat.le_of_ble_eq_true rfl⟩ (fun H locs hI => ?_)
  refine lv_aload_n hx hb dX6_move_24 rfl (lv_at hl 0 rfl) ?_
  refine gt_X6_X6_now hC hI dX6_move_25 ?_
  refine lv_iload_n hx hb dX6_move_28 rfl (lv_at hl 1 rfl) ?_
  refine lv_iload_n hx hb dX6_move_29 rfl (lv_at hl 2 rfl) ?_
  refine lv_iload_n hx hb dX6_move_30 rfl (lv_at hl 3 rfl) ?_
  obtain ⟨r8, hr9, hf⟩ := gbind hf
  have hr9 := C_X5_shiftTop l E x gOk_0 hr9
  refine g_callVi (rest := []) hC hI hr9 Y_X5_shiftTop V_X5_shiftTop w458 (rcv_X5 hC hI gOk_0) ⟨rfl, rfl⟩ ⟨Nat.le_of_ble_eq_true rfl, Nat.le_of_ble_eq_true rfl⟩ rfl hl.1 rfl (Nat.le_of_ble_eq_true rfl) dX6_move_31 ⟨Nat.le_of_ble_eq_true rfl, Nat.le_of_ble_eq_true rfl⟩ (fun H locs hI => ?_)
  exact kr _ _ _ _ _ _ _ _ (gre hf) hI ⟨.int, rfl, rfl⟩ ⟨Nat.le_of_ble_eq_true rfl, Nat.le_of_ble_eq_true rfl⟩ dX6_move_34
theorem dX0_rowOf_0 : decode cX0_rowOf 0 = .ok (.iconst 0, 1) := by decide +kernel
theorem dX0_rowOf_1 : decode cX0_rowOf 1 = .ok (.istore_n 2, 1) := by decide +kernel
theorem dX0_rowOf_2 : decode cX0_rowOf 2 = .ok (.iload_n 2, 1) := by decide +kernel
theorem dX0_rowOf_3 : decode cX0_rowOf 3 = .ok (.aload_n 0, 1) := by decide +kernel
theorem dX0_rowOf_4 : decode cX0_rowOf 4 = .ok (.getfield 30, 3) := by decide +kernel
theorem dX0_rowOf_7 : decode cX0_rowOf 7 = .ok (.if_icmp .ge 27, 3) := by decide +kernel
theorem dX0_rowOf_10 : decode cX0_rowOf 10 = .ok (.iload_n 2, 1) := by decide +kernel
theorem dX0_rowOf_11 : decode cX0_rowOf 11 = .ok (.bipush 75, 2) := by decide +kernel
theorem dX0_rowOf_13 : decode cX0_rowOf 13 = .ok (.if_icmp .ge 21, 3) := by decide +kernel
theorem dX0_rowOf_16 : decode cX0_rowOf 16 = .ok (.aload_n 0, 1) := by decide +kernel
theorem dX0_rowOf_17 : decode cX0_rowOf 17 = .ok (.getfield 9, 3) := by decide +kernel
theorem dX0_rowOf_20 : decode cX0_rowOf 20 = .ok (.iload_n 2, 1) := by decide +kernel
theorem dX0_rowOf_21 : decode cX0_rowOf 21 = .ok (.iaload, 1) := by decide +kernel
theorem dX0_rowOf_22 : decode cX0_rowOf 22 = .ok (.iload_n 1, 1) := by decide +kernel
theorem dX0_rowOf_23 : decode cX0_rowOf 23 = .ok (.if_icmp .ne 5, 3) := by decide +kernel
theorem dX0_rowOf_26 : decode cX0_rowOf 26 = .ok (.iload_n 2, 1) := by decide +kernel
theorem dX0_rowOf_27 : decode cX0_rowOf 27 = .ok (.ireturn, 1) := by decide +kernel
theorem dX0_rowOf_28 : decode cX0_rowOf 28 = .ok (.iinc 2 1, 3) := by decide +kernel
theorem dX0_rowOf_31 : decode cX0_rowOf 31 = .ok (.goto (-29), 3) := by decide +kernel
theorem dX0_rowOf_34 : decode cX0_rowOf 34 = .ok (.iconst (-1), 1) := by decide +kernel
theorem dX0_rowOf_35 : decode cX0_rowOf 35 = .ok (.ireturn, 1) := by decide +kernel
set_option maxRecDepth 100000 in
set_option maxHeartbeats 4000000 in
theorem C_X0_rowOf (l : Launch) (E : gE) (x : gX) {o : Nat} (ho : gOk o) {v1 : Int32} {M : gM} {r : Int32} (hf : f_X0_rowOf o v1 M = some r) : gM0 l E yX0_rowOf (.code yX0_rowOf cX0_rowOf 3 (some .int)) (gR 0 0) M x [.ref (E.2.1 (o + 1)), .int v1] (some (.int r)) M := by
  refine gMet (by decide +kernel) (Nat.le_of_ble_eq_true rfl) ?_
  intro p e s m args below meth c H locs ls Q hC hl hI kr kv
  replace hC : gC p s m args c cX0_rowOf 3 RX0 E := hC
  replace hl : lv_has ls 3 [(0, .ref (E.2.1 (o + 1))), (1, .int v1)] := hl
  have hx := hC.1
  have hb := hC.2.1
  have L2 : ∀ (v1 : Int32) (n : Nat) (v2 : Int32), f_X0_rowOf_L2 o M v1 n v2 = some r → ∀ (H : Heap) (locs : List Loc) (ls : Array Slot), gI E s M x H locs → lv_has ls 3 [(2, .int v2), (0, .ref (E.2.1 (o + 1))), (1, .int v1)] → W p l e (gR 0 0) s m args below meth c H locs 0 0 Q (F0 m 2 ls []) := by
    intro v1 n
    induction n with
    | zero => intro v2 hf; rw [f_X0_rowOf_L2] at hf; cases hf
    | succ n ih =>
      intro v2 hf H locs ls hI hl
      rw [f_X0_rowOf_L2] at hf
      refine lv_iload_n hx hb dX0_rowOf_2 rfl (lv_at hl 0 rfl) ?_
      refine lv_aload_n hx hb dX0_rowOf_3 rfl (lv_at hl 1 rfl) ?_
      refine gt_X0_X0_count hC hI ho dX0_rowOf_4 ?_
      refine lv_icmp_ge (tgt := 34) hx hb dX0_rowOf_7 rfl (fun h1 => ?_) (fun h1 => ?_)
      · replace hf := gif h1 hf
        refine lv_iconst (v := (-1)) hx hb dX0_rowOf_34 (by decide) ?_
        exact kr _ _ _ _ _ _ (gri hf) hI ⟨.int, rfl, rfl⟩ dX0_rowOf_35
      · replace hf := gifn h1 hf
        refine lv_iload_n hx hb dX0_rowOf_10 rfl (lv_at hl 0 rfl) ?_
        refine lv_bipush (v := 75) hx hb dX0_rowOf_11 (by decide) ?_
        refine lv_icmp_ge (tgt := 34) hx hb dX0_rowOf_13 rfl (fun h2 => ?_) (fun h2 => ?_)
        · replace hf := gif h2 hf
          refine lv_iconst (v := (-1)) hx hb dX0_rowOf_34 (by decide) ?_
          exact kr _ _ _ _ _ _ (gri hf) hI ⟨.int, rfl, rfl⟩ dX0_rowOf_35
        · replace hf := gifn h2 hf
          refine lv_aload_n hx hb dX0_rowOf_16 rfl (lv_at hl 1 rfl) ?_
          refine gt_X0_X0_ids hC hI ho dX0_rowOf_17 ?_
          refine lv_iload_n hx hb dX0_rowOf_20 rfl (lv_at hl 0 rfl) ?_
          obtain ⟨h3, hf⟩ := gifN hf
          refine g_iald hC hI (k := v2.toNatClampNeg) (gIA_2 ho) h3 rfl dX0_rowOf_21 ?_
          refine lv_iload_n hx hb dX0_rowOf_22 rfl (lv_at hl 2 rfl) ?_
          refine lv_icmp_ne (tgt := 28) hx hb dX0_rowOf_23 rfl (fun h4 => ?_) (fun h4 => ?_)
          · replace hf := gifn h4 hf
            refine lv_iinc (k := 0) (v := v2 + 1) (lv' := [(2, .int (v2 + 1)), (0, .ref (E.2.1 (o + 1))), (1, .int v1)]) hx hb dX0_rowOf_28 hl rfl rfl (by decide) rfl (fun ls hl => ?_)
            refine lv_goto (tgt := 2) hx hb dX0_rowOf_31 rfl ?_
            exact ih (v2 + 1) hf _ _ _ hI (lv_sub hl [0, 1, 2] rfl)
          · replace hf := gif h4 hf
            refine lv_iload_n hx hb dX0_rowOf_26 rfl (lv_at hl 0 rfl) ?_
            exact kr _ _ _ _ _ _ (gri hf) hI ⟨.int, rfl, rfl⟩ dX0_rowOf_27
  unfold f_X0_rowOf at hf
  refine lv_iconst (v := 0) hx hb dX0_rowOf_0 (by decide) ?_
  refine lv_istore_n (lv' := [(2, .int 0), (0, .ref (E.2.1 (o + 1))), (1, .int v1)]) hx hb dX0_rowOf_1 rfl hl (by decide) rfl (fun ls hl => ?_)
  exact L2 v1 gF 0 hf _ _ _ hI (lv_sub hl [0, 1, 2] rfl)
theorem dX0_pile_0 : decode cX0_pile 0 = .ok (.aload_n 0, 1) := by decide +kernel
theorem dX0_pile_1 : decode cX0_pile 1 = .ok (.iload_n 1, 1) := by decide +kernel
theorem dX0_pile_2 : decode cX0_pile 2 = .ok (.invokevirtual 44, 3) := by decide +kernel
theorem dX0_pile_5 : decode cX0_pile 5 = .ok (.ifCond .eq 12, 3) := by decide +kernel
theorem dX0_pile_8 : decode cX0_pile 8 = .ok (.aload_n 0, 1) := by decide +kernel
theorem dX0_pile_9 : decode cX0_pile 9 = .ok (.getfield 21, 3) := by decide +kernel
theorem dX0_pile_12 : decode cX0_pile 12 = .ok (.iload_n 1, 1) := by decide +kernel
theorem dX0_pile_13 : decode cX0_pile 13 = .ok (.iaload, 1) := by decide +kernel
theorem dX0_pile_14 : decode cX0_pile 14 = .ok (.goto 4, 3) := by decide +kernel
theorem dX0_pile_17 : decode cX0_pile 17 = .ok (.iconst (-1), 1) := by decide +kernel
theorem dX0_pile_18 : decode cX0_pile 18 = .ok (.ireturn, 1) := by decide +kernel
set_option maxRecDepth 100000 in
set_option maxHeartbeats 4000000 in
theorem C_X0_pile (l : Launch) (E : gE) (x : gX) {o : Nat} (ho : gOk o) {v1 : Int32} {M : gM} {r : Int32} (hf : f_X0_pile o v1 M = some r) : gM0 l E yX0_pile (.code yX0_pile cX0_pile 2 (some .int)) (gR 1 21) M x [.ref (E.2.1 (o + 1)), .int v1] (some (.int r)) M := by
  refine gMet (by decide +kernel) (Nat.le_of_ble_eq_true rfl) ?_
  intro p e s m args below meth c H locs ls Q hC hl hI kr kv
  replace hC : gC p s m args c cX0_pile 2 RX0 E := hC
  replace hl : lv_has ls 2 [(0, .ref (E.2.1 (o + 1))), (1, .int v1)] := hl
  have hx := hC.1
  have hb := hC.2.1
  unfold f_X0_pile at hf
  refine lv_aload_n hx hb dX0_pile_0 rfl (lv_at hl 0 rfl) ?_
  refine lv_iload_n hx hb dX0_pile_1 rfl (lv_at hl 1 rfl) ?_
  obtain ⟨r1, hr2, hf⟩ := gbind hf
  have hr2 := C_X0_hasRow l E x ho hr2
  refine g_callVi (rest := []) hC hI hr2 Y_X0_hasRow V_X0_hasRow w434 (rcv_X0 hC hI ho) ⟨rfl, rfl⟩ ⟨Nat.le_of_ble_eq_true rfl, Nat.le_of_ble_eq_true rfl⟩ rfl hl.1 rfl (Nat.le_of_ble_eq_true rfl) dX0_pile_2 ⟨Nat.le_of_ble_eq_true rfl, Nat.le_of_ble_eq_true rfl⟩ (fun H locs hI => ?_)
  refine lv_if_eq (tgt := 17) hx hb dX0_pile_5 rfl (fun h3 => ?_) (fun h3 => ?_)
  · replace hf := gif h3 hf
    refine lv_iconst (v := (-1)) hx hb dX0_pile_17 (by decide) ?_
    exact kr _ _ _ _ _ _ (gri hf) hI ⟨.int, rfl, rfl⟩ dX0_pile_18
  · replace hf := gifn h3 hf
    refine lv_aload_n hx hb dX0_pile_8 rfl (lv_at hl 0 rfl) ?_
    refine gt_X0_X0_piles hC hI ho dX0_pile_9 ?_
    refine lv_iload_n hx hb dX0_pile_12 rfl (lv_at hl 1 rfl) ?_
    obtain ⟨h4, hf⟩ := gifN hf
    refine g_iald hC hI (k := v1.toNatClampNeg) (gIA_5 ho) h4 rfl dX0_pile_13 ?_
    refine lv_goto (tgt := 18) hx hb dX0_pile_14 rfl ?_
    exact kr _ _ _ _ _ _ (gri hf) hI ⟨.int, rfl, rfl⟩ dX0_pile_18
theorem dX0_yardRowOf_0 : decode cX0_yardRowOf 0 = .ok (.aload_n 0, 1) := by decide +kernel
theorem dX0_yardRowOf_1 : decode cX0_yardRowOf 1 = .ok (.iload_n 1, 1) := by decide +kernel
theorem dX0_yardRowOf_2 : decode cX0_yardRowOf 2 = .ok (.invokevirtual 66, 3) := by decide +kernel
theorem dX0_yardRowOf_5 : decode cX0_yardRowOf 5 = .ok (.istore_n 2, 1) := by decide +kernel
theorem dX0_yardRowOf_6 : decode cX0_yardRowOf 6 = .ok (.aload_n 0, 1) := by decide +kernel
theorem dX0_yardRowOf_7 : decode cX0_yardRowOf 7 = .ok (.iload_n 2, 1) := by decide +kernel
theorem dX0_yardRowOf_8 : decode cX0_yardRowOf 8 = .ok (.invokevirtual 69, 3) := by decide +kernel
theorem dX0_yardRowOf_11 : decode cX0_yardRowOf 11 = .ok (.bipush 12, 2) := by decide +kernel
theorem dX0_yardRowOf_13 : decode cX0_yardRowOf 13 = .ok (.if_icmp .ne 7, 3) := by decide +kernel
theorem dX0_yardRowOf_16 : decode cX0_yardRowOf 16 = .ok (.iload_n 2, 1) := by decide +kernel
theorem dX0_yardRowOf_17 : decode cX0_yardRowOf 17 = .ok (.goto 4, 3) := by decide +kernel
theorem dX0_yardRowOf_20 : decode cX0_yardRowOf 20 = .ok (.iconst (-1), 1) := by decide +kernel
theorem dX0_yardRowOf_21 : decode cX0_yardRowOf 21 = .ok (.ireturn, 1) := by decide +kernel
set_option maxRecDepth 100000 in
set_option maxHeartbeats 4000000 in
theorem C_X0_yardRowOf (l : Launch) (E : gE) (x : gX) {o : Nat} (ho : gOk o) {v1 : Int32} {M : gM} {r : Int32} (hf : f_X0_yardRowOf o v1 M = some r) : gM0 l E yX0_yardRowOf (.code yX0_yardRowOf cX0_yardRowOf 3 (some .int)) (gR 2 42) M x [.ref (E.2.1 (o + 1)), .int v1] (some (.int r)) M := by
  refine gMet (by decide +kernel) (Nat.le_of_ble_eq_true rfl) ?_
  intro p e s m args below meth c H locs ls Q hC hl hI kr kv
  replace hC : gC p s m args c cX0_yardRowOf 3 RX0 E := hC
  replace hl : lv_has ls 3 [(0, .ref (E.2.1 (o + 1))), (1, .int v1)] := hl
  have hx := hC.1
  have hb := hC.2.1
  unfold f_X0_yardRowOf at hf
  refine lv_aload_n hx hb dX0_yardRowOf_0 rfl (lv_at hl 0 rfl) ?_
  refine lv_iload_n hx hb dX0_yardRowOf_1 rfl (lv_at hl 1 rfl) ?_
  obtain ⟨r1, hr2, hf⟩ := gbind hf
  have hr2 := C_X0_rowOf l E x ho hr2
  refine g_callVi (rest := []) hC hI hr2 Y_X0_rowOf V_X0_rowOf w478 (rcv_X0 hC hI ho) ⟨rfl, rfl⟩ ⟨Nat.le_of_ble_eq_true rfl, Nat.le_of_ble_eq_true rfl⟩ rfl hl.1 rfl (Nat.le_of_ble_eq_true rfl) dX0_yardRowOf_2 ⟨Nat.le_of_ble_eq_true rfl, Nat.le_of_ble_eq_true rfl⟩ (fun H locs hI => ?_)
  refine lv_istore_n (lv' := [(2, .int r1), (0, .ref (E.2.1 (o + 1))), (1, .int v1)]) hx hb dX0_yardRowOf_5 rfl hl (by decide) rfl (fun ls hl => ?_)
  refine lv_aload_n hx hb dX0_yardRowOf_6 rfl (lv_at hl 1 rfl) ?_
  refine lv_iload_n hx hb dX0_yardRowOf_7 rfl (lv_at hl 0 rfl) ?_
  obtain ⟨r3, hr4, hf⟩ := gbind hf
  have hr4 := C_X0_pile l E x ho hr4
  refine g_callVi (rest := []) hC hI hr4 Y_X0_pile V_X0_pile w482 (rcv_X0 hC hI ho) ⟨rfl, rfl⟩ ⟨Nat.le_of_ble_eq_true rfl, Nat.le_of_ble_eq_true rfl⟩ rfl hl.1 rfl (Nat.le_of_ble_eq_true rfl) dX0_yardRowOf_8 ⟨Nat.le_of_ble_eq_true rfl, Nat.le_of_ble_eq_true rfl⟩ (fun H locs hI => ?_)
  refine lv_bipush (v := 12) hx hb dX0_yardRowOf_11 (by decide) ?_
  refine lv_icmp_ne (tgt := 20) hx hb dX0_yardRowOf_13 rfl (fun h5 => ?_) (fun h5 => ?_)
  · replace hf := gifn h5 hf
    refine lv_iconst (v := (-1)) hx hb dX0_yardRowOf_20 (by decide) ?_
    exact kr _ _ _ _ _ _ (gri hf) hI ⟨.int, rfl, rfl⟩ dX0_yardRowOf_21
  · replace hf := gif h5 hf
    refine lv_iload_n hx hb dX0_yardRowOf_16 rfl (lv_at hl 0 rfl) ?_
    refine lv_goto (tgt := 21) hx hb dX0_yardRowOf_17 rfl ?_
    exact kr _ _ _ _ _ _ (gri hf) hI ⟨.int, rfl, rfl⟩ dX0_yardRowOf_21
theorem dX5_deliveringFault_0 : decode cX5_deliveringFault 0 = .ok (.aload_n 0, 1) := by decide +kernel
theorem dX5_deliveringFault_1 : decode cX5_deliveringFault 1 = .ok (.getfield 12, 3) := by decide +kernel
theorem dX5_deliveringFault_4 : decode cX5_deliveringFault 4 = .ok (.iload_n 1, 1) := by decide +kernel
theorem dX5_deliveringFault_5 : decode cX5_deliveringFault 5 = .ok (.invokevirtual 99, 3) := by decide +kernel
theorem dX5_deliveringFault_8 : decode cX5_deliveringFault 8 = .ok (.iconst (-1), 1) := by decide +kernel
theorem dX5_deliveringFault_9 : decode cX5_deliveringFault 9 = .ok (.if_icmp .ne 7, 3) := by decide +kernel
theorem dX5_deliveringFault_12 : decode cX5_deliveringFault 12 = .ok (.iconst 4, 1) := by decide +kernel
theorem dX5_deliveringFault_13 : decode cX5_deliveringFault 13 = .ok (.goto 4, 3) := by decide +kernel
theorem dX5_deliveringFault_16 : decode cX5_deliveringFault 16 = .ok (.iconst 0, 1) := by decide +kernel
theorem dX5_deliveringFault_17 : decode cX5_deliveringFault 17 = .ok (.ireturn, 1) := by decide +kernel
set_option maxRecDepth 100000 in
set_option maxHeartbeats 4000000 in
theorem C_X5_deliveringFault (l : Launch) (E : gE) (x : gX) {o : Nat} (ho : gOk o) {v1 : Int32} {M : gM} {r : Int32} (hf : f_X5_deliveringFault o v1 M = some r) : gM0 l E yX5_deliveringFault (.code yX5_deliveringFault cX5_deliveringFault 2 (some .int)) (gR 3 64) M x [.ref (E.2.1 o), .int v1] (some (.int r)) M := by
  refine gMet (by decide +kernel) (Nat.le_of_ble_eq_true rfl) ?_
  intro p e s m args below meth c H locs ls Q hC hl hI kr kv
  replace hC : gC p s m args c cX5_deliveringFault 2 RX5 E := hC
  replace hl : lv_has ls 2 [(0, .ref (E.2.1 o)), (1, .int v1)] := hl
  have hx := hC.1
  have hb := hC.2.1
  unfold f_X5_deliveringFault at hf
  refine lv_aload_n hx hb dX5_deliveringFault_0 rfl (lv_at hl 0 rfl) ?_
  refine gt_X5_X5_cargo hC hI ho dX5_deliveringFault_1 ?_
  refine lv_iload_n hx hb dX5_deliveringFault_4 rfl (lv_at hl 1 rfl) ?_
  obtain ⟨r1, hr2, hf⟩ := gbind hf
  have hr2 := C_X0_yardRowOf l E x ho hr2
  refine g_callVi (rest := []) hC hI hr2 Y_X0_yardRowOf V_X0_yardRowOf w474 (rcv_X0 hC hI ho) ⟨rfl, rfl⟩ ⟨Nat.le_of_ble_eq_true rfl, Nat.le_of_ble_eq_true rfl⟩ rfl hl.1 rfl (Nat.le_of_ble_eq_true rfl) dX5_deliveringFault_5 ⟨Nat.le_of_ble_eq_true rfl, Nat.le_of_ble_eq_true rfl⟩ (fun H locs hI => ?_)
  refine lv_iconst (v := (-1)) hx hb dX5_deliveringFault_8 (by decide) ?_
  refine lv_icmp_ne (tgt := 16) hx hb dX5_deliveringFault_9 rfl (fun h3 => ?_) (fun h3 => ?_)
  · replace hf := gifn h3 hf
    refine lv_iconst (v := 0) hx hb dX5_deliveringFault_16 (by decide) ?_
    exact kr _ _ _ _ _ _ (gri hf) hI ⟨.int, rfl, rfl⟩ dX5_deliveringFault_17
  · replace hf := gif h3 hf
    refine lv_iconst (v := 4) hx hb dX5_deliveringFault_12 (by decide) ?_
    refine lv_goto (tgt := 17) hx hb dX5_deliveringFault_13 rfl ?_
    exact kr _ _ _ _ _ _ (gri hf) hI ⟨.int, rfl, rfl⟩ dX5_deliveringFault_17
theorem dX0_isAbove_0 : decode cX0_isAbove 0 = .ok (.aload_n 0, 1) := by decide +kernel
theorem dX0_isAbove_1 : decode cX0_isAbove 1 = .ok (.iload_n 1, 1) := by decide +kernel
theorem dX0_isAbove_2 : decode cX0_isAbove 2 = .ok (.invokevirtual 44, 3) := by decide +kernel
theorem dX0_isAbove_5 : decode cX0_isAbove 5 = .ok (.ifCond .eq 45, 3) := by decide +kernel
theorem dX0_isAbove_8 : decode cX0_isAbove 8 = .ok (.aload_n 0, 1) := by decide +kernel
theorem dX0_isAbove_9 : decode cX0_isAbove 9 = .ok (.iload_n 2, 1) := by decide +kernel
theorem dX0_isAbove_10 : decode cX0_isAbove 10 = .ok (.invokevirtual 44, 3) := by decide +kernel
theorem dX0_isAbove_13 : decode cX0_isAbove 13 = .ok (.ifCond .eq 37, 3) := by decide +kernel
theorem dX0_isAbove_16 : decode cX0_isAbove 16 = .ok (.aload_n 0, 1) := by decide +kernel
theorem dX0_isAbove_17 : decode cX0_isAbove 17 = .ok (.getfield 21, 3) := by decide +kernel
theorem dX0_isAbove_20 : decode cX0_isAbove 20 = .ok (.iload_n 1, 1) := by decide +kernel
theorem dX0_isAbove_21 : decode cX0_isAbove 21 = .ok (.iaload, 1) := by decide +kernel
theorem dX0_isAbove_22 : decode cX0_isAbove 22 = .ok (.aload_n 0, 1) := by decide +kernel
theorem dX0_isAbove_23 : decode cX0_isAbove 23 = .ok (.getfield 21, 3) := by decide +kernel
theorem dX0_isAbove_26 : decode cX0_isAbove 26 = .ok (.iload_n 2, 1) := by decide +kernel
theorem dX0_isAbove_27 : decode cX0_isAbove 27 = .ok (.iaload, 1) := by decide +kernel
theorem dX0_isAbove_28 : decode cX0_isAbove 28 = .ok (.if_icmp .ne 22, 3) := by decide +kernel
theorem dX0_isAbove_31 : decode cX0_isAbove 31 = .ok (.aload_n 0, 1) := by decide +kernel
theorem dX0_isAbove_32 : decode cX0_isAbove 32 = .ok (.getfield 24, 3) := by decide +kernel
theorem dX0_isAbove_35 : decode cX0_isAbove 35 = .ok (.iload_n 1, 1) := by decide +kernel
theorem dX0_isAbove_36 : decode cX0_isAbove 36 = .ok (.iaload, 1) := by decide +kernel
theorem dX0_isAbove_37 : decode cX0_isAbove 37 = .ok (.aload_n 0, 1) := by decide +kernel
theorem dX0_isAbove_38 : decode cX0_isAbove 38 = .ok (.getfield 24, 3) := by decide +kernel
theorem dX0_isAbove_41 : decode cX0_isAbove 41 = .ok (.iload_n 2, 1) := by decide +kernel
theorem dX0_isAbove_42 : decode cX0_isAbove 42 = .ok (.iaload, 1) := by decide +kernel
theorem dX0_isAbove_43 : decode cX0_isAbove 43 = .ok (.if_icmp .le 7, 3) := by decide +kernel
theorem dX0_isAbove_46 : decode cX0_isAbove 46 = .ok (.iconst 1, 1) := by decide +kernel
theorem dX0_isAbove_47 : decode cX0_isAbove 47 = .ok (.goto 4, 3) := by decide +kernel
theorem dX0_isAbove_50 : decode cX0_isAbove 50 = .ok (.iconst 0, 1) := by decide +kernel
theorem dX0_isAbove_51 : decode cX0_isAbove 51 = .ok (.ireturn, 1) := by decide +kernel
set_option maxRecDepth 100000 in
set_option maxHeartbeats 4000000 in
theorem C_X0_isAbove (l : Launch) (E : gE) (x : gX) {o : Nat} (ho : gOk o) {v1 v2 : Int32} {M : gM} {r : Bool} (hf : f_X0_isAbove o v1 v2 M = some r) : gM0 l E yX0_isAbove (.code yX0_isAbove cX0_isAbove 3 (some .boolean)) (gR 1 21) M x [.ref (E.2.1 (o + 1)), .int v1, .int v2] (some (.int (gb r))) M := by
  refine gMet (by decide +kernel) (Nat.le_of_ble_eq_true rfl) ?_
  intro p e s m args below meth c H locs ls Q hC hl hI kr kv
  replace hC : gC p s m args c cX0_isAbove 3 RX0 E := hC
  replace hl : lv_has ls 3 [(0, .ref (E.2.1 (o + 1))), (1, .int v1), (2, .int v2)] := hl
  have hx := hC.1
  have hb := hC.2.1
  unfold f_X0_isAbove at hf
  refine lv_aload_n hx hb dX0_isAbove_0 rfl (lv_at hl 0 rfl) ?_
  refine lv_iload_n hx hb dX0_isAbove_1 rfl (lv_at hl 1 rfl) ?_
  obtain ⟨r1, hr2, hf⟩ := gbind hf
  have hr2 := C_X0_hasRow l E x ho hr2
  refine g_callVi (rest := []) hC hI hr2 Y_X0_hasRow V_X0_hasRow w434 (rcv_X0 hC hI ho) ⟨rfl, rfl⟩ ⟨Nat.le_of_ble_eq_true rfl, Nat.le_of_ble_eq_true rfl⟩ rfl hl.1 rfl (Nat.le_of_ble_eq_true rfl) dX0_isAbove_2 ⟨Nat.le_of_ble_eq_true rfl, Nat.le_of_ble_eq_true rfl⟩ (fun H locs hI => ?_)
  refine lv_if_eq (tgt := 50) hx hb dX0_isAbove_5 rfl (fun h3 => ?_) (fun h3 => ?_)
  · replace hf := gif h3 hf
    refine lv_iconst (v := 0) hx hb dX0_isAbove_50 (by decide) ?_
    exact kr _ _ _ _ _ _ (grb0 hf) hI ⟨.boolean, rfl, rfl⟩ dX0_isAbove_51
  · replace hf := gifn h3 hf
    refine lv_aload_n hx hb dX0_isAbove_8 rfl (lv_at hl 0 rfl) ?_
    refine lv_iload_n hx hb dX0_isAbove_9 rfl (lv_at hl 2 rfl) ?_
    obtain ⟨r4, hr5, hf⟩ := gbind hf
    have hr5 := C_X0_hasRow l E x ho hr5
    refine g_callVi (rest := []) hC hI hr5 Y_X0_hasRow V_X0_hasRow w434 (rcv_X0 hC hI ho) ⟨rfl, rfl⟩ ⟨Nat.le_of_ble_eq_true rfl, Nat.le_of_ble_eq_true rfl⟩ rfl hl.1 rfl (Nat.le_of_ble_eq_true rfl) dX0_isAbove_10 ⟨Nat.le_of_ble_eq_true rfl, Nat.le_of_ble_eq_true rfl⟩ (fun H locs hI => ?_)
    refine lv_if_eq (tgt := 50) hx hb dX0_isAbove_13 rfl (fun h6 => ?_) (fun h6 => ?_)
    · replace hf := gif h6 hf
      refine lv_iconst (v := 0) hx hb dX0_isAbove_50 (by decide) ?_
      exact kr _ _ _ _ _ _ (grb0 hf) hI ⟨.boolean, rfl, rfl⟩ dX0_isAbove_51
    · replace hf := gifn h6 hf
      refine lv_aload_n hx hb dX0_isAbove_16 rfl (lv_at hl 0 rfl) ?_
      refine gt_X0_X0_piles hC hI ho dX0_isAbove_17 ?_
      refine lv_iload_n hx hb dX0_isAbove_20 rfl (lv_at hl 1 rfl) ?_
      obtain ⟨h7, hf⟩ := gifN hf
      refine g_iald hC hI (k := v1.toNatClampNeg) (gIA_5 ho) h7 rfl dX0_isAbove_21 ?_
      refine lv_aload_n hx hb dX0_isAbove_22 rfl (lv_at hl 0 rfl) ?_
      refine gt_X0_X0_piles hC hI ho dX0_isAbove_23 ?_
      refine lv_iload_n hx hb dX0_isAbove_26 rfl (lv_at hl 2 rfl) ?_
      obtain ⟨h8, hf⟩ := gifN hf
      refine g_iald hC hI (k := v2.toNatClampNeg) (gIA_5 ho) h8 rfl dX0_isAbove_27 ?_
      refine lv_icmp_ne (tgt := 50) hx hb dX0_isAbove_28 rfl (fun h9 => ?_) (fun h9 => ?_)
      · replace hf := gifn h9 hf
        refine lv_iconst (v := 0) hx hb dX0_isAbove_50 (by decide) ?_
        exact kr _ _ _ _ _ _ (grb0 hf) hI ⟨.boolean, rfl, rfl⟩ dX0_isAbove_51
      · replace hf := gif h9 hf
        refine lv_aload_n hx hb dX0_isAbove_31 rfl (lv_at hl 0 rfl) ?_
        refine gt_X0_X0_levels hC hI ho dX0_isAbove_32 ?_
        refine lv_iload_n hx hb dX0_isAbove_35 rfl (lv_at hl 1 rfl) ?_
        obtain ⟨h10, hf⟩ := gifN hf
        refine g_iald hC hI (k := v1.toNatClampNeg) (gIA_6 ho) h10 rfl dX0_isAbove_36 ?_
        refine lv_aload_n hx hb dX0_isAbove_37 rfl (lv_at hl 0 rfl) ?_
        refine gt_X0_X0_levels hC hI ho dX0_isAbove_38 ?_
        refine lv_iload_n hx hb dX0_isAbove_41 rfl (lv_at hl 2 rfl) ?_
        obtain ⟨h11, hf⟩ := gifN hf
        refine g_iald hC hI (k := v2.toNatClampNeg) (gIA_6 ho) h11 rfl dX0_isAbove_42 ?_
        refine lv_icmp_le (tgt := 50) hx hb dX0_isAbove_43 rfl (fun h12 => ?_) (fun h12 => ?_)
        · replace hf := gif h12 hf
          refine lv_iconst (v := 0) hx hb dX0_isAbove_50 (by decide) ?_
          exact kr _ _ _ _ _ _ (grb0 hf) hI ⟨.boolean, rfl, rfl⟩ dX0_isAbove_51
        · replace hf := gifn h12 hf
          refine lv_iconst (v := 1) hx hb dX0_isAbove_46 (by decide) ?_
          refine lv_goto (tgt := 51) hx hb dX0_isAbove_47 rfl ?_
          exact kr _ _ _ _ _ _ (grb1 hf) hI ⟨.boolean, rfl, rfl⟩ dX0_isAbove_51
theorem dX0_lower_0 : decode cX0_lower 0 = .ok (.aload_n 0, 1) := by decide +kernel
theorem dX0_lower_1 : decode cX0_lower 1 = .ok (.iload_n 1, 1) := by decide +kernel
theorem dX0_lower_2 : decode cX0_lower 2 = .ok (.invokevirtual 44, 3) := by decide +kernel
theorem dX0_lower_5 : decode cX0_lower 5 = .ok (.ifCond .eq 13, 3) := by decide +kernel
theorem dX0_lower_8 : decode cX0_lower 8 = .ok (.aload_n 0, 1) := by decide +kernel
theorem dX0_lower_9 : decode cX0_lower 9 = .ok (.getfield 24, 3) := by decide +kernel
theorem dX0_lower_12 : decode cX0_lower 12 = .ok (.iload_n 1, 1) := by decide +kernel
theorem dX0_lower_13 : decode cX0_lower 13 = .ok (.dup2, 1) := by decide +kernel
theorem dX0_lower_14 : decode cX0_lower 14 = .ok (.iaload, 1) := by decide +kernel
theorem dX0_lower_15 : decode cX0_lower 15 = .ok (.iconst 1, 1) := by decide +kernel
theorem dX0_lower_16 : decode cX0_lower 16 = .ok (.isub, 1) := by decide +kernel
theorem dX0_lower_17 : decode cX0_lower 17 = .ok (.iastore, 1) := by decide +kernel
theorem dX0_lower_18 : decode cX0_lower 18 = .ok (.return_, 1) := by decide +kernel
set_option maxRecDepth 100000 in
set_option maxHeartbeats 4000000 in
theorem C_X0_lower (l : Launch) (E : gE) (x : gX) {o : Nat} (ho : gOk o) {v1 : Int32} {M : gM} {M' : gM} (hf : f_X0_lower o v1 M = some M') : gM0 l E yX0_lower (.code yX0_lower cX0_lower 2 none) (gR 1 21) M x [.ref (E.2.1 (o + 1)), .int v1] none M' := by
  refine gMet (by decide +kernel) (Nat.le_of_ble_eq_true rfl) ?_
  intro p e s m args below meth c H locs ls Q hC hl hI kr kv
  replace hC : gC p s m args c cX0_lower 2 RX0 E := hC
  replace hl : lv_has ls 2 [(0, .ref (E.2.1 (o + 1))), (1, .int v1)] := hl
  have hx := hC.1
  have hb := hC.2.1
  unfold f_X0_lower at hf
  refine lv_aload_n hx hb dX0_lower_0 rfl (lv_at hl 0 rfl) ?_
  refine lv_iload_n hx hb dX0_lower_1 rfl (lv_at hl 1 rfl) ?_
  obtain ⟨r1, hr2, hf⟩ := gbind hf
  have hr2 := C_X0_hasRow l E x ho hr2
  refine g_callVi (rest := []) hC hI hr2 Y_X0_hasRow V_X0_hasRow w434 (rcv_X0 hC hI ho) ⟨rfl, rfl⟩ ⟨Nat.le_of_ble_eq_true rfl, Nat.le_of_ble_eq_true rfl⟩ rfl hl.1 rfl (Nat.le_of_ble_eq_true rfl) dX0_lower_2 ⟨Nat.le_of_ble_eq_true rfl, Nat.le_of_ble_eq_true rfl⟩ (fun H locs hI => ?_)
  refine lv_if_eq (tgt := 18) hx hb dX0_lower_5 rfl (fun h3 => ?_) (fun h3 => ?_)
  · replace hf := gif h3 hf
    exact kv _ _ _ _ _ (grv hf) hI rfl dX0_lower_18
  · replace hf := gifn h3 hf
    refine lv_aload_n hx hb dX0_lower_8 rfl (lv_at hl 0 rfl) ?_
    refine gt_X0_X0_levels hC hI ho dX0_lower_9 ?_
    refine lv_iload_n hx hb dX0_lower_12 rfl (lv_at hl 1 rfl) ?_
    refine lv_dup2_11 hx hb dX0_lower_13 rfl rfl ?_
    obtain ⟨h4, hf⟩ := gifN hf
    refine g_iald hC hI (k := v1.toNatClampNeg) (gIA_6 ho) h4 rfl dX0_lower_14 ?_
    refine lv_iconst (v := 1) hx hb dX0_lower_15 (by decide) ?_
    refine lv_isub hx hb dX0_lower_16 ?_
    obtain ⟨h5, hf⟩ := gifN hf
    obtain ⟨M6, eM6, hf⟩ := glet hf
    refine g_iast hC hI (k := v1.toNatClampNeg) (gIA_6 ho) h5 rfl dX0_lower_17 (fun H locs hI => ?_)
    replace hI := g_mem eM6 hI
    exact kv _ _ _ _ _ (grv hf) hI rfl dX0_lower_18
theorem dX0_copyRow_0 : decode cX0_copyRow 0 = .ok (.aload_n 0, 1) := by decide +kernel
theorem dX0_copyRow_1 : decode cX0_copyRow 1 = .ok (.iload_n 1, 1) := by decide +kernel
theorem dX0_copyRow_2 : decode cX0_copyRow 2 = .ok (.invokevirtual 44, 3) := by decide +kernel
theorem dX0_copyRow_5 : decode cX0_copyRow 5 = .ok (.ifCond .eq 71, 3) := by decide +kernel
theorem dX0_copyRow_8 : decode cX0_copyRow 8 = .ok (.aload_n 0, 1) := by decide +kernel
theorem dX0_copyRow_9 : decode cX0_copyRow 9 = .ok (.iload_n 2, 1) := by decide +kernel
theorem dX0_copyRow_10 : decode cX0_copyRow 10 = .ok (.invokevirtual 44, 3) := by decide +kernel
theorem dX0_copyRow_13 : decode cX0_copyRow 13 = .ok (.ifCond .eq 63, 3) := by decide +kernel
theorem dX0_copyRow_16 : decode cX0_copyRow 16 = .ok (.aload_n 0, 1) := by decide +kernel
theorem dX0_copyRow_17 : decode cX0_copyRow 17 = .ok (.getfield 9, 3) := by decide +kernel
theorem dX0_copyRow_20 : decode cX0_copyRow 20 = .ok (.iload_n 2, 1) := by decide +kernel
theorem dX0_copyRow_21 : decode cX0_copyRow 21 = .ok (.aload_n 0, 1) := by decide +kernel
theorem dX0_copyRow_22 : decode cX0_copyRow 22 = .ok (.getfield 9, 3) := by decide +kernel
theorem dX0_copyRow_25 : decode cX0_copyRow 25 = .ok (.iload_n 1, 1) := by decide +kernel
theorem dX0_copyRow_26 : decode cX0_copyRow 26 = .ok (.iaload, 1) := by decide +kernel
theorem dX0_copyRow_27 : decode cX0_copyRow 27 = .ok (.iastore, 1) := by decide +kernel
theorem dX0_copyRow_28 : decode cX0_copyRow 28 = .ok (.aload_n 0, 1) := by decide +kernel
theorem dX0_copyRow_29 : decode cX0_copyRow 29 = .ok (.getfield 15, 3) := by decide +kernel
theorem dX0_copyRow_32 : decode cX0_copyRow 32 = .ok (.iload_n 2, 1) := by decide +kernel
theorem dX0_copyRow_33 : decode cX0_copyRow 33 = .ok (.aload_n 0, 1) := by decide +kernel
theorem dX0_copyRow_34 : decode cX0_copyRow 34 = .ok (.getfield 15, 3) := by decide +kernel
theorem dX0_copyRow_37 : decode cX0_copyRow 37 = .ok (.iload_n 1, 1) := by decide +kernel
theorem dX0_copyRow_38 : decode cX0_copyRow 38 = .ok (.iaload, 1) := by decide +kernel
theorem dX0_copyRow_39 : decode cX0_copyRow 39 = .ok (.iastore, 1) := by decide +kernel
theorem dX0_copyRow_40 : decode cX0_copyRow 40 = .ok (.aload_n 0, 1) := by decide +kernel
theorem dX0_copyRow_41 : decode cX0_copyRow 41 = .ok (.getfield 18, 3) := by decide +kernel
theorem dX0_copyRow_44 : decode cX0_copyRow 44 = .ok (.iload_n 2, 1) := by decide +kernel
theorem dX0_copyRow_45 : decode cX0_copyRow 45 = .ok (.aload_n 0, 1) := by decide +kernel
theorem dX0_copyRow_46 : decode cX0_copyRow 46 = .ok (.getfield 18, 3) := by decide +kernel
theorem dX0_copyRow_49 : decode cX0_copyRow 49 = .ok (.iload_n 1, 1) := by decide +kernel
theorem dX0_copyRow_50 : decode cX0_copyRow 50 = .ok (.iaload, 1) := by decide +kernel
theorem dX0_copyRow_51 : decode cX0_copyRow 51 = .ok (.iastore, 1) := by decide +kernel
theorem dX0_copyRow_52 : decode cX0_copyRow 52 = .ok (.aload_n 0, 1) := by decide +kernel
theorem dX0_copyRow_53 : decode cX0_copyRow 53 = .ok (.getfield 21, 3) := by decide +kernel
theorem dX0_copyRow_56 : decode cX0_copyRow 56 = .ok (.iload_n 2, 1) := by decide +kernel
theorem dX0_copyRow_57 : decode cX0_copyRow 57 = .ok (.aload_n 0, 1) := by decide +kernel
theorem dX0_copyRow_58 : decode cX0_copyRow 58 = .ok (.getfield 21, 3) := by decide +kernel
theorem dX0_copyRow_61 : decode cX0_copyRow 61 = .ok (.iload_n 1, 1) := by decide +kernel
theorem dX0_copyRow_62 : decode cX0_copyRow 62 = .ok (.iaload, 1) := by decide +kernel
theorem dX0_copyRow_63 : decode cX0_copyRow 63 = .ok (.iastore, 1) := by decide +kernel
theorem dX0_copyRow_64 : decode cX0_copyRow 64 = .ok (.aload_n 0, 1) := by decide +kernel
theorem dX0_copyRow_65 : decode cX0_copyRow 65 = .ok (.getfield 24, 3) := by decide +kernel
theorem dX0_copyRow_68 : decode cX0_copyRow 68 = .ok (.iload_n 2, 1) := by decide +kernel
theorem dX0_copyRow_69 : decode cX0_copyRow 69 = .ok (.aload_n 0, 1) := by decide +kernel
theorem dX0_copyRow_70 : decode cX0_copyRow 70 = .ok (.getfield 24, 3) := by decide +kernel
theorem dX0_copyRow_73 : decode cX0_copyRow 73 = .ok (.iload_n 1, 1) := by decide +kernel
theorem dX0_copyRow_74 : decode cX0_copyRow 74 = .ok (.iaload, 1) := by decide +kernel
theorem dX0_copyRow_75 : decode cX0_copyRow 75 = .ok (.iastore, 1) := by decide +kernel
theorem dX0_copyRow_76 : decode cX0_copyRow 76 = .ok (.return_, 1) := by decide +kernel
set_option maxRecDepth 100000 in
set_option maxHeartbeats 4000000 in
theorem C_X0_copyRow (l : Launch) (E : gE) (x : gX) {o : Nat} (ho : gOk o) {v1 v2 : Int32} {M : gM} {M' : gM} (hf : f_X0_copyRow o v1 v2 M = some M') : gM0 l E yX0_copyRow (.code yX0_copyRow cX0_copyRow 3 none) (gR 1 21) M x [.ref (E.2.1 (o + 1)), .int v1, .int v2] none M' := by
  refine gMet (by decide +kernel) (Nat.le_of_ble_eq_true rfl) ?_
  intro p e s m args below meth c H locs ls Q hC hl hI kr kv
  replace hC : gC p s m args c cX0_copyRow 3 RX0 E := hC
  replace hl : lv_has ls 3 [(0, .ref (E.2.1 (o + 1))), (1, .int v1), (2, .int v2)] := hl
  have hx := hC.1
  have hb := hC.2.1
  unfold f_X0_copyRow at hf
  refine lv_aload_n hx hb dX0_copyRow_0 rfl (lv_at hl 0 rfl) ?_
  refine lv_iload_n hx hb dX0_copyRow_1 rfl (lv_at hl 1 rfl) ?_
  obtain ⟨r1, hr2, hf⟩ := gbind hf
  have hr2 := C_X0_hasRow l E x ho hr2
  refine g_callVi (rest := []) hC hI hr2 Y_X0_hasRow V_X0_hasRow w434 (rcv_X0 hC hI ho) ⟨rfl, rfl⟩ ⟨Nat.le_of_ble_eq_true rfl, Nat.le_of_ble_eq_true rfl⟩ rfl hl.1 rfl (Nat.le_of_ble_eq_true rfl) dX0_copyRow_2 ⟨Nat.le_of_ble_eq_true rfl, Nat.le_of_ble_eq_true rfl⟩ (fun H locs hI => ?_)
  refine lv_if_eq (tgt := 76) hx hb dX0_copyRow_5 rfl (fun h3 => ?_) (fun h3 => ?_)
  · replace hf := gif h3 hf
    exact kv _ _ _ _ _ (grv hf) hI rfl dX0_copyRow_76
  · replace hf := gifn h3 hf
    refine lv_aload_n hx hb dX0_copyRow_8 rfl (lv_at hl 0 rfl) ?_
    refine lv_iload_n hx hb dX0_copyRow_9 rfl (lv_at hl 2 rfl) ?_
    obtain ⟨r4, hr5, hf⟩ := gbind hf
    have hr5 := C_X0_hasRow l E x ho hr5
    refine g_callVi (rest := []) hC hI hr5 Y_X0_hasRow V_X0_hasRow w434 (rcv_X0 hC hI ho) ⟨rfl, rfl⟩ ⟨Nat.le_of_ble_eq_true rfl, Nat.le_of_ble_eq_true rfl⟩ rfl hl.1 rfl (Nat.le_of_ble_eq_true rfl) dX0_copyRow_10 ⟨Nat.le_of_ble_eq_true rfl, Nat.le_of_ble_eq_true rfl⟩ (fun H locs hI => ?_)
    refine lv_if_eq (tgt := 76) hx hb dX0_copyRow_13 rfl (fun h6 => ?_) (fun h6 => ?_)
    · replace hf := gif h6 hf
      exact kv _ _ _ _ _ (grv hf) hI rfl dX0_copyRow_76
    · replace hf := gifn h6 hf
      refine lv_aload_n hx hb dX0_copyRow_16 rfl (lv_at hl 0 rfl) ?_
      refine gt_X0_X0_ids hC hI ho dX0_copyRow_17 ?_
      refine lv_iload_n hx hb dX0_copyRow_20 rfl (lv_at hl 2 rfl) ?_
      refine lv_aload_n hx hb dX0_copyRow_21 rfl (lv_at hl 0 rfl) ?_
      refine gt_X0_X0_ids hC hI ho dX0_copyRow_22 ?_
      refine lv_iload_n hx hb dX0_copyRow_25 rfl (lv_at hl 1 rfl) ?_
      obtain ⟨h7, hf⟩ := gifN hf
      refine g_iald hC hI (k := v1.toNatClampNeg) (gIA_2 ho) h7 rfl dX0_copyRow_26 ?_
      obtain ⟨h8, hf⟩ := gifN hf
      obtain ⟨M9, eM9, hf⟩ := glet hf
      refine g_iast hC hI (k := v2.toNatClampNeg) (gIA_2 ho) h8 rfl dX0_copyRow_27 (fun H locs hI => ?_)
      replace hI := g_mem eM9 hI
      refine lv_aload_n hx hb dX0_copyRow_28 rfl (lv_at hl 0 rfl) ?_
      refine gt_X0_X0_weights hC hI ho dX0_copyRow_29 ?_
      refine lv_iload_n hx hb dX0_copyRow_32 rfl (lv_at hl 2 rfl) ?_
      refine lv_aload_n hx hb dX0_copyRow_33 rfl (lv_at hl 0 rfl) ?_
      refine gt_X0_X0_weights hC hI ho dX0_copyRow_34 ?_
      refine lv_iload_n hx hb dX0_copyRow_37 rfl (lv_at hl 1 rfl) ?_
      obtain ⟨h10, hf⟩ := gifN hf
      refine g_iald hC hI (k := v1.toNatClampNeg) (gIA_3 ho) h10 rfl dX0_copyRow_38 ?_
      obtain ⟨h11, hf⟩ := gifN hf
      obtain ⟨M12, eM12, hf⟩ := glet hf
      refine g_iast hC hI (k := v2.toNatClampNeg) (gIA_3 ho) h11 rfl dX0_copyRow_39 (fun H locs hI => ?_)
      replace hI := g_mem eM12 hI
      refine lv_aload_n hx hb dX0_copyRow_40 rfl (lv_at hl 0 rfl) ?_
      refine gt_X0_X0_keys hC hI ho dX0_copyRow_41 ?_
      refine lv_iload_n hx hb dX0_copyRow_44 rfl (lv_at hl 2 rfl) ?_
      refine lv_aload_n hx hb dX0_copyRow_45 rfl (lv_at hl 0 rfl) ?_
      refine gt_X0_X0_keys hC hI ho dX0_copyRow_46 ?_
      refine lv_iload_n hx hb dX0_copyRow_49 rfl (lv_at hl 1 rfl) ?_
      obtain ⟨h13, hf⟩ := gifN hf
      refine g_iald hC hI (k := v1.toNatClampNeg) (gIA_4 ho) h13 rfl dX0_copyRow_50 ?_
      obtain ⟨h14, hf⟩ := gifN hf
      obtain ⟨M15, eM15, hf⟩ := glet hf
      refine g_iast hC hI (k := v2.toNatClampNeg) (gIA_4 ho) h14 rfl dX0_copyRow_51 (fun H locs hI => ?_)
      replace hI := g_mem eM15 hI
      refine lv_aload_n hx hb dX0_copyRow_52 rfl (lv_at hl 0 rfl) ?_
      refine gt_X0_X0_piles hC hI ho dX0_copyRow_53 ?_
      refine lv_iload_n hx hb dX0_copyRow_56 rfl (lv_at hl 2 rfl) ?_
      refine lv_aload_n hx hb dX0_copyRow_57 rfl (lv_at hl 0 rfl) ?_
      refine gt_X0_X0_piles hC hI ho dX0_copyRow_58 ?_
      refine lv_iload_n hx hb dX0_copyRow_61 rfl (lv_at hl 1 rfl) ?_
      obtain ⟨h16, hf⟩ := gifN hf
      refine g_iald hC hI (k := v1.toNatClampNeg) (gIA_5 ho) h16 rfl dX0_copyRow_62 ?_
      obtain ⟨h17, hf⟩ := gifN hf
      obtain ⟨M18, eM18, hf⟩ := glet hf
      refine g_iast hC hI (k := v2.toNatClampNeg) (gIA_5 ho) h17 rfl dX0_copyRow_63 (fun H locs hI => ?_)
      replace hI := g_mem eM18 hI
      refine lv_aload_n hx hb dX0_copyRow_64 rfl (lv_at hl 0 rfl) ?_
      refine gt_X0_X0_levels hC hI ho dX0_copyRow_65 ?_
      refine lv_iload_n hx hb dX0_copyRow_68 rfl (lv_at hl 2 rfl) ?_
      refine lv_aload_n hx hb dX0_copyRow_69 rfl (lv_at hl 0 rfl) ?_
      refine gt_X0_X0_levels hC hI ho dX0_copyRow_70 ?_
      refine lv_iload_n hx hb dX0_copyRow_73 rfl (lv_at hl 1 rfl) ?_
      obtain ⟨h19, hf⟩ := gifN hf
      refine g_iald hC hI (k := v1.toNatClampNeg) (gIA_6 ho) h19 rfl dX0_copyRow_74 ?_
      obtain ⟨h20, hf⟩ := gifN hf
      obtain ⟨M21, eM21, hf⟩ := glet hf
      refine g_iast hC hI (k := v2.toNatClampNeg) (gIA_6 ho) h20 rfl dX0_copyRow_75 (fun H locs hI => ?_)
      replace hI := g_mem eM21 hI
      exact kv _ _ _ _ _ (grv hf) hI rfl dX0_copyRow_76
theorem dX0_remove_0 : decode cX0_remove 0 = .ok (.aload_n 0, 1) := by decide +kernel
theorem dX0_remove_1 : decode cX0_remove 1 = .ok (.iload_n 1, 1) := by decide +kernel
theorem dX0_remove_2 : decode cX0_remove 2 = .ok (.invokevirtual 44, 3) := by decide +kernel
theorem dX0_remove_5 : decode cX0_remove 5 = .ok (.ifCond .ne 4, 3) := by decide +kernel
theorem dX0_remove_8 : decode cX0_remove 8 = .ok (.return_, 1) := by decide +kernel
theorem dX0_remove_9 : decode cX0_remove 9 = .ok (.iconst 0, 1) := by decide +kernel
theorem dX0_remove_10 : decode cX0_remove 10 = .ok (.istore_n 2, 1) := by decide +kernel
theorem dX0_remove_11 : decode cX0_remove 11 = .ok (.iload_n 2, 1) := by decide +kernel
theorem dX0_remove_12 : decode cX0_remove 12 = .ok (.aload_n 0, 1) := by decide +kernel
theorem dX0_remove_13 : decode cX0_remove 13 = .ok (.getfield 30, 3) := by decide +kernel
theorem dX0_remove_16 : decode cX0_remove 16 = .ok (.if_icmp .ge 23, 3) := by decide +kernel
theorem dX0_remove_19 : decode cX0_remove 19 = .ok (.aload_n 0, 1) := by decide +kernel
theorem dX0_remove_20 : decode cX0_remove 20 = .ok (.iload_n 2, 1) := by decide +kernel
theorem dX0_remove_21 : decode cX0_remove 21 = .ok (.iload_n 1, 1) := by decide +kernel
theorem dX0_remove_22 : decode cX0_remove 22 = .ok (.invokevirtual 48, 3) := by decide +kernel
theorem dX0_remove_25 : decode cX0_remove 25 = .ok (.ifCond .eq 8, 3) := by decide +kernel
theorem dX0_remove_28 : decode cX0_remove 28 = .ok (.aload_n 0, 1) := by decide +kernel
theorem dX0_remove_29 : decode cX0_remove 29 = .ok (.iload_n 2, 1) := by decide +kernel
theorem dX0_remove_30 : decode cX0_remove 30 = .ok (.invokevirtual 52, 3) := by decide +kernel
theorem dX0_remove_33 : decode cX0_remove 33 = .ok (.iinc 2 1, 3) := by decide +kernel
theorem dX0_remove_36 : decode cX0_remove 36 = .ok (.goto (-25), 3) := by decide +kernel
theorem dX0_remove_39 : decode cX0_remove 39 = .ok (.iload_n 1, 1) := by decide +kernel
theorem dX0_remove_40 : decode cX0_remove 40 = .ok (.iconst 1, 1) := by decide +kernel
theorem dX0_remove_41 : decode cX0_remove 41 = .ok (.iadd, 1) := by decide +kernel
theorem dX0_remove_42 : decode cX0_remove 42 = .ok (.istore_n 2, 1) := by decide +kernel
theorem dX0_remove_43 : decode cX0_remove 43 = .ok (.iload_n 2, 1) := by decide +kernel
theorem dX0_remove_44 : decode cX0_remove 44 = .ok (.aload_n 0, 1) := by decide +kernel
theorem dX0_remove_45 : decode cX0_remove 45 = .ok (.getfield 30, 3) := by decide +kernel
theorem dX0_remove_48 : decode cX0_remove 48 = .ok (.if_icmp .ge 17, 3) := by decide +kernel
theorem dX0_remove_51 : decode cX0_remove 51 = .ok (.aload_n 0, 1) := by decide +kernel
theorem dX0_remove_52 : decode cX0_remove 52 = .ok (.iload_n 2, 1) := by decide +kernel
theorem dX0_remove_53 : decode cX0_remove 53 = .ok (.iload_n 2, 1) := by decide +kernel
theorem dX0_remove_54 : decode cX0_remove 54 = .ok (.iconst 1, 1) := by decide +kernel
theorem dX0_remove_55 : decode cX0_remove 55 = .ok (.isub, 1) := by decide +kernel
theorem dX0_remove_56 : decode cX0_remove 56 = .ok (.invokevirtual 56, 3) := by decide +kernel
theorem dX0_remove_59 : decode cX0_remove 59 = .ok (.iinc 2 1, 3) := by decide +kernel
theorem dX0_remove_62 : decode cX0_remove 62 = .ok (.goto (-19), 3) := by decide +kernel
theorem dX0_remove_65 : decode cX0_remove 65 = .ok (.aload_n 0, 1) := by decide +kernel
theorem dX0_remove_66 : decode cX0_remove 66 = .ok (.dup, 1) := by decide +kernel
theorem dX0_remove_67 : decode cX0_remove 67 = .ok (.getfield 30, 3) := by decide +kernel
theorem dX0_remove_70 : decode cX0_remove 70 = .ok (.iconst 1, 1) := by decide +kernel
theorem dX0_remove_71 : decode cX0_remove 71 = .ok (.isub, 1) := by decide +kernel
theorem dX0_remove_72 : decode cX0_remove 72 = .ok (.putfield 30, 3) := by decide +kernel
theorem dX0_remove_75 : decode cX0_remove 75 = .ok (.return_, 1) := by decide +kernel
set_option maxRecDepth 100000 in
set_option maxHeartbeats 4000000 in
theorem C_X0_remove (l : Launch) (E : gE) (x : gX) {o : Nat} (ho : gOk o) {v1 : Int32} {M : gM} {M' : gM} (hf : f_X0_remove o v1 M = some M') : gM0 l E yX0_remove (.code yX0_remove cX0_remove 3 none) (gR 2 43) M x [.ref (E.2.1 (o + 1)), .int v1] none M' := by
  refine gMet (by decide +kernel) (Nat.le_of_ble_eq_true rfl) ?_
  intro p e s m args below meth c H locs ls Q hC hl hI kr kv
  replace hC : gC p s m args c cX0_remove 3 RX0 E := hC
  replace hl : lv_has ls 3 [(0, .ref (E.2.1 (o + 1))), (1, .int v1)] := hl
  have hx := hC.1
  have hb := hC.2.1
  have L43 : ∀ (v1 : Int32) (n : Nat) (v2 : Int32) (M : gM), f_X0_remove_L43 o v1 n v2 M = some M' → ∀ (H : Heap) (locs : List Loc) (ls : Array Slot), gI E s M x H locs → lv_has ls 3 [(2, .int v2), (0, .ref (E.2.1 (o + 1))), (1, .int v1)] → W p l e (gR 2 43) s m args below meth c H locs 0 0 Q (F0 m 43 ls []) := by
    intro v1 n
    induction n with
    | zero => intro v2 M hf; rw [f_X0_remove_L43] at hf; cases hf
    | succ n ih =>
      intro v2 M hf H locs ls hI hl
      rw [f_X0_remove_L43] at hf
      refine lv_iload_n hx hb dX0_remove_43 rfl (lv_at hl 0 rfl) ?_
      refine lv_aload_n hx hb dX0_remove_44 rfl (lv_at hl 1 rfl) ?_
      refine gt_X0_X0_count hC hI ho dX0_remove_45 ?_
      refine lv_icmp_ge (tgt := 65) hx hb dX0_remove_48 rfl (fun h6 => ?_) (fun h6 => ?_)
      · replace hf := gif h6 hf
        refine lv_aload_n hx hb dX0_remove_65 rfl (lv_at hl 1 rfl) ?_
        refine lv_dup hx hb dX0_remove_66 rfl ?_
        refine gt_X0_X0_count hC hI ho dX0_remove_67 ?_
        refine lv_iconst (v := 1) hx hb dX0_remove_70 (by decide) ?_
        refine lv_isub hx hb dX0_remove_71 ?_
        obtain ⟨M7, eM7, hf⟩ := glet hf
        refine pt_X0_X0_count hC hI ho dX0_remove_72 (fun H locs hI => ?_)
        replace hI := g_mem eM7 hI
        exact kv _ _ _ _ _ (grv hf) hI rfl dX0_remove_75
      · replace hf := gifn h6 hf
        refine lv_aload_n hx hb dX0_remove_51 rfl (lv_at hl 1 rfl) ?_
        refine lv_iload_n hx hb dX0_remove_52 rfl (lv_at hl 0 rfl) ?_
        refine lv_iload_n hx hb dX0_remove_53 rfl (lv_at hl 0 rfl) ?_
        refine lv_iconst (v := 1) hx hb dX0_remove_54 (by decide) ?_
        refine lv_isub hx hb dX0_remove_55 ?_
        obtain ⟨r8, hr9, hf⟩ := gbind hf
        have hr9 := C_X0_copyRow l E x ho hr9
        refine g_callVv (rest := []) hC hI hr9 Y_X0_copyRow V_X0_copyRow w502 (rcv_X0 hC hI ho) ⟨rfl, rfl⟩ ⟨Nat.le_of_ble_eq_true rfl, Nat.le_of_ble_eq_true rfl⟩ rfl hl.1 rfl (Nat.le_of_ble_eq_true rfl) dX0_remove_56 ⟨Nat.le_of_ble_eq_true rfl, Nat.le_of_ble_eq_true rfl⟩ (fun H locs hI => ?_)
        refine lv_iinc (k := 0) (v := v2 + 1) (lv' := [(2, .int (v2 + 1)), (0, .ref (E.2.1 (o + 1))), (1, .int v1)]) hx hb dX0_remove_59 hl rfl rfl (by decide) rfl (fun ls hl => ?_)
        refine lv_goto (tgt := 43) hx hb dX0_remove_62 rfl ?_
        exact ih (v2 + 1) r8 hf _ _ _ hI (lv_sub hl [0, 1, 2] rfl)
  have L11 : ∀ (v1 : Int32) (n : Nat) (v2 : Int32) (M : gM), f_X0_remove_L11 o v1 n v2 M = some M' → ∀ (H : Heap) (locs : List Loc) (ls : Array Slot), gI E s M x H locs → lv_has ls 3 [(2, .int v2), (0, .ref (E.2.1 (o + 1))), (1, .int v1)] → W p l e (gR 2 43) s m args below meth c H locs 0 0 Q (F0 m 11 ls []) := by
    intro v1 n
    induction n with
    | zero => intro v2 M hf; rw [f_X0_remove_L11] at hf; cases hf
    | succ n ih =>
      intro v2 M hf H locs ls hI hl
      rw [f_X0_remove_L11] at hf
      refine lv_iload_n hx hb dX0_remove_11 rfl (lv_at hl 0 rfl) ?_
      refine lv_aload_n hx hb dX0_remove_12 rfl (lv_at hl 1 rfl) ?_
      refine gt_X0_X0_count hC hI ho dX0_remove_13 ?_
      refine lv_icmp_ge (tgt := 39) hx hb dX0_remove_16 rfl (fun h4 => ?_) (fun h4 => ?_)
      · replace hf := gif h4 hf
        refine lv_iload_n hx hb dX0_remove_39 rfl (lv_at hl 2 rfl) ?_
        refine lv_iconst (v := 1) hx hb dX0_remove_40 (by decide) ?_
        refine lv_iadd hx hb dX0_remove_41 ?_
        obtain ⟨z5, ez5, hf⟩ := glet hf
        refine g_top ez5 ?_
        refine lv_istore_n (lv' := [(2, .int z5), (0, .ref (E.2.1 (o + 1))), (1, .int v1)]) hx hb dX0_remove_42 rfl hl (by decide) rfl (fun ls hl => ?_)
        exact L43 v1 gF z5 M hf _ _ _ hI (lv_sub hl [0, 1, 2] rfl)
      · replace hf := gifn h4 hf
        refine lv_aload_n hx hb dX0_remove_19 rfl (lv_at hl 1 rfl) ?_
        refine lv_iload_n hx hb dX0_remove_20 rfl (lv_at hl 0 rfl) ?_
        refine lv_iload_n hx hb dX0_remove_21 rfl (lv_at hl 2 rfl) ?_
        obtain ⟨r10, hr11, hf⟩ := gbind hf
        have hr11 := C_X0_isAbove l E x ho hr11
        refine g_callVi (rest := []) hC hI hr11 Y_X0_isAbove V_X0_isAbove w494 (rcv_X0 hC hI ho) ⟨rfl, rfl⟩ ⟨Nat.le_of_ble_eq_true rfl, Nat.le_of_ble_eq_true rfl⟩ rfl hl.1 rfl (Nat.le_of_ble_eq_true rfl) dX0_remove_22 ⟨Nat.le_of_ble_eq_true rfl, Nat.le_of_ble_eq_true rfl⟩ (fun H locs hI => ?_)
        refine lv_if_eq (tgt := 33) hx hb dX0_remove_25 rfl (fun h12 => ?_) (fun h12 => ?_)
        · replace hf := gif h12 hf
          refine lv_iinc (k := 0) (v := v2 + 1) (lv' := [(2, .int (v2 + 1)), (0, .ref (E.2.1 (o + 1))), (1, .int v1)]) hx hb dX0_remove_33 hl rfl rfl (by decide) rfl (fun ls hl => ?_)
          refine lv_goto (tgt := 11) hx hb dX0_remove_36 rfl ?_
          exact ih (v2 + 1) M hf _ _ _ hI (lv_sub hl [0, 1, 2] rfl)
        · replace hf := gifn h12 hf
          refine lv_aload_n hx hb dX0_remove_28 rfl (lv_at hl 1 rfl) ?_
          refine lv_iload_n hx hb dX0_remove_29 rfl (lv_at hl 0 rfl) ?_
          obtain ⟨r13, hr14, hf⟩ := gbind hf
          have hr14 := C_X0_lower l E x ho hr14
          refine g_callVv (rest := []) hC hI hr14 Y_X0_lower V_X0_lower w498 (rcv_X0 hC hI ho) ⟨rfl, rfl⟩ ⟨Nat.le_of_ble_eq_true rfl, Nat.le_of_ble_eq_true rfl⟩ rfl hl.1 rfl (Nat.le_of_ble_eq_true rfl) dX0_remove_30 ⟨Nat.le_of_ble_eq_true rfl, Nat.le_of_ble_eq_true rfl⟩ (fun H locs hI => ?_)
          refine lv_iinc (k := 0) (v := v2 + 1) (lv' := [(2, .int (v2 + 1)), (0, .ref (E.2.1 (o + 1))), (1, .int v1)]) hx hb dX0_remove_33 hl rfl rfl (by decide) rfl (fun ls hl => ?_)
          refine lv_goto (tgt := 11) hx hb dX0_remove_36 rfl ?_
          exact ih (v2 + 1) r13 hf _ _ _ hI (lv_sub hl [0, 1, 2] rfl)
  unfold f_X0_remove at hf
  refine lv_aload_n hx hb dX0_remove_0 rfl (lv_at hl 0 rfl) ?_
  refine lv_iload_n hx hb dX0_remove_1 rfl (lv_at hl 1 rfl) ?_
  obtain ⟨r1, hr2, hf⟩ := gbind hf
  have hr2 := C_X0_hasRow l E x ho hr2
  refine g_callVi (rest := []) hC hI hr2 Y_X0_hasRow V_X0_hasRow w434 (rcv_X0 hC hI ho) ⟨rfl, rfl⟩ ⟨Nat.le_of_ble_eq_true rfl, Nat.le_of_ble_eq_true rfl⟩ rfl hl.1 rfl (Nat.le_of_ble_eq_true rfl) dX0_remove_2 ⟨Nat.le_of_ble_eq_true rfl, Nat.le_of_ble_eq_true rfl⟩ (fun H locs hI => ?_)
  refine lv_if_ne (tgt := 9) hx hb dX0_remove_5 rfl (fun h3 => ?_) (fun h3 => ?_)
  · replace hf := gifn h3 hf
    refine lv_iconst (v := 0) hx hb dX0_remove_9 (by decide) ?_
    refine lv_istore_n (lv' := [(2, .int 0), (0, .ref (E.2.1 (o + 1))), (1, .int v1)]) hx hb dX0_remove_10 rfl hl (by decide) rfl (fun ls hl => ?_)
    exact L11 v1 gF 0 M hf _ _ _ hI (lv_sub hl [0, 1, 2] rfl)
  · replace hf := gif h3 hf
    exact kv _ _ _ _ _ (grv hf) hI rfl dX0_remove_8
theorem dX5_handOver_0 : decode cX5_handOver 0 = .ok (.aload_n 0, 1) := by decide +kernel
theorem dX5_handOver_1 : decode cX5_handOver 1 = .ok (.getfield 12, 3) := by decide +kernel
theorem dX5_handOver_4 : decode cX5_handOver 4 = .ok (.aload_n 0, 1) := by decide +kernel
theorem dX5_handOver_5 : decode cX5_handOver 5 = .ok (.getfield 12, 3) := by decide +kernel
theorem dX5_handOver_8 : decode cX5_handOver 8 = .ok (.iload_n 1, 1) := by decide +kernel
theorem dX5_handOver_9 : decode cX5_handOver 9 = .ok (.invokevirtual 99, 3) := by decide +kernel
theorem dX5_handOver_12 : decode cX5_handOver 12 = .ok (.invokevirtual 102, 3) := by decide +kernel
theorem dX5_handOver_15 : decode cX5_handOver 15 = .ok (.aload_n 0, 1) := by decide +kernel
theorem dX5_handOver_16 : decode cX5_handOver 16 = .ok (.dup, 1) := by decide +kernel
theorem dX5_handOver_17 : decode cX5_handOver 17 = .ok (.getfield 44, 3) := by decide +kernel
theorem dX5_handOver_20 : decode cX5_handOver 20 = .ok (.iconst 1, 1) := by decide +kernel
theorem dX5_handOver_21 : decode cX5_handOver 21 = .ok (.iadd, 1) := by decide +kernel
theorem dX5_handOver_22 : decode cX5_handOver 22 = .ok (.putfield 44, 3) := by decide +kernel
theorem dX5_handOver_25 : decode cX5_handOver 25 = .ok (.return_, 1) := by decide +kernel
set_option maxRecDepth 100000 in
set_option maxHeartbeats 4000000 in
theorem C_X5_handOver (l : Launch) (E : gE) (x : gX) {o : Nat} (ho : gOk o) {v1 : Int32} {M : gM} {M' : gM} (hf : f_X5_handOver o v1 M = some M') : gM0 l E yX5_handOver (.code yX5_handOver cX5_handOver 2 none) (gR 3 65) M x [.ref (E.2.1 o), .int v1] none M' := by
  refine gMet (by decide +kernel) (Nat.le_of_ble_eq_true rfl) ?_
  intro p e s m args below meth c H locs ls Q hC hl hI kr kv
  replace hC : gC p s m args c cX5_handOver 2 RX5 E := hC
  replace hl : lv_has ls 2 [(0, .ref (E.2.1 o)), (1, .int v1)] := hl
  have hx := hC.1
  have hb := hC.2.1
  unfold f_X5_handOver at hf
  refine lv_aload_n hx hb dX5_handOver_0 rfl (lv_at hl 0 rfl) ?_
  refine gt_X5_X5_cargo hC hI ho dX5_handOver_1 ?_
  refine lv_aload_n hx hb dX5_handOver_4 rfl (lv_at hl 0 rfl) ?_
  refine gt_X5_X5_cargo hC hI ho dX5_handOver_5 ?_
  refine lv_iload_n hx hb dX5_handOver_8 rfl (lv_at hl 1 rfl) ?_
  obtain ⟨r1, hr2, hf⟩ := gbind hf
  have hr2 := C_X0_yardRowOf l E x ho hr2
  refine g_callVi (rest := [.ref (E.2.1 (o + 1))]) hC hI hr2 Y_X0_yardRowOf V_X0_yardRowOf w474 (rcv_X0 hC hI ho) ⟨rfl, rfl⟩ ⟨Nat.le_of_ble_eq_true rfl, Nat.le_of_ble_eq_true rfl⟩ rfl hl.1 rfl (Nat.le_of_ble_eq_true rfl) dX5_handOver_9 ⟨Nat.le_of_ble_eq_true rfl, Nat.le_of_ble_eq_true rfl⟩ (fun H locs hI => ?_)
  obtain ⟨r3, hr4, hf⟩ := gbind hf
  have hr4 := C_X0_remove l E x ho hr4
  refine g_callVv (rest := []) hC hI hr4 Y_X0_remove V_X0_remove w490 (rcv_X0 hC hI ho) ⟨rfl, rfl⟩ ⟨Nat.le_of_ble_eq_true rfl, Nat.le_of_ble_eq_true rfl⟩ rfl hl.1 rfl (Nat.le_of_ble_eq_true rfl) dX5_handOver_12 ⟨Nat.le_of_ble_eq_true rfl, Nat.le_of_ble_eq_true rfl⟩ (fun H locs hI => ?_)
  refine lv_aload_n hx hb dX5_handOver_15 rfl (lv_at hl 0 rfl) ?_
  refine lv_dup hx hb dX5_handOver_16 rfl ?_
  refine gt_X5_X5_delivered hC hI ho dX5_handOver_17 ?_
  refine lv_iconst (v := 1) hx hb dX5_handOver_20 (by decide) ?_
  refine lv_iadd hx hb dX5_handOver_21 ?_
  obtain ⟨M5, eM5, hf⟩ := glet hf
  refine pt_X5_X5_delivered hC hI ho dX5_handOver_22 (fun H locs hI => ?_)
  replace hI := g_mem eM5 hI
  exact kv _ _ _ _ _ (grv hf) hI rfl dX5_handOver_25
theorem dX6_deliver_0 : decode cX6_deliver 0 = .ok (.aload_n 0, 1) := by decide +kernel
theorem dX6_deliver_1 : decode cX6_deliver 1 = .ok (.getfield 10, 3) := by decide +kernel
theorem dX6_deliver_4 : decode cX6_deliver 4 = .ok (.iload_n 1, 1) := by decide +kernel
theorem dX6_deliver_5 : decode cX6_deliver 5 = .ok (.invokevirtual 101, 3) := by decide +kernel
theorem dX6_deliver_8 : decode cX6_deliver 8 = .ok (.invokestatic 65, 3) := by decide +kernel
theorem dX6_deliver_11 : decode cX6_deliver 11 = .ok (.aload_n 0, 1) := by decide +kernel
theorem dX6_deliver_12 : decode cX6_deliver 12 = .ok (.getfield 29, 3) := by decide +kernel
theorem dX6_deliver_15 : decode cX6_deliver 15 = .ok (.aload_n 0, 1) := by decide +kernel
theorem dX6_deliver_16 : decode cX6_deliver 16 = .ok (.getfield 10, 3) := by decide +kernel
theorem dX6_deliver_19 : decode cX6_deliver 19 = .ok (.invokevirtual 69, 3) := by decide +kernel
theorem dX6_deliver_22 : decode cX6_deliver 22 = .ok (.aload_n 0, 1) := by decide +kernel
theorem dX6_deliver_23 : decode cX6_deliver 23 = .ok (.getfield 10, 3) := by decide +kernel
theorem dX6_deliver_26 : decode cX6_deliver 26 = .ok (.iload_n 1, 1) := by decide +kernel
theorem dX6_deliver_27 : decode cX6_deliver 27 = .ok (.invokevirtual 105, 3) := by decide +kernel
theorem dX6_deliver_30 : decode cX6_deliver 30 = .ok (.aload_n 0, 1) := by decide +kernel
theorem dX6_deliver_31 : decode cX6_deliver 31 = .ok (.getfield 10, 3) := by decide +kernel
theorem dX6_deliver_34 : decode cX6_deliver 34 = .ok (.getfield 108, 3) := by decide +kernel
theorem dX6_deliver_37 : decode cX6_deliver 37 = .ok (.bipush 12, 2) := by decide +kernel
theorem dX6_deliver_39 : decode cX6_deliver 39 = .ok (.invokevirtual 112, 3) := by decide +kernel
theorem dX6_deliver_42 : decode cX6_deliver 42 = .ok (.ireturn, 1) := by decide +kernel
set_option maxRecDepth 100000 in
set_option maxHeartbeats 4000000 in
theorem C_X6_deliver (l : Launch) (hst : l.stackTraces = false) (E : gE) (x : gX) {v1 : Int32} {M : gM} {oc : String ⊕ Int32} {M' : gM} (hf : f_X6_deliver v1 M = some (oc, M')) : gX0 l E yX6_deliver (.code yX6_deliver cX6_deliver 2 (some .int)) (gRX 7 124 1 6) M x [.ref (E.2.1 132), .int v1] (gO oc) M' 1 6 := by
  refine gMetX hst (by decide +kernel) (Nat.le_of_ble_eq_true rfl) ?_
  intro p e s m args below meth c H locs ls Q hC hl hI kr kv kx kt kd kf
  replace hC : gC p s m args c cX6_deliver 2 RX6 E := hC
  replace hl : lv_has ls 2 [(0, .ref (E.2.1 132)), (1, .int v1)] := hl
  have hx := hC.1
  have hb := hC.2.1
  unfold f_X6_deliver at hf
  refine lv_aload_n hx hb dX6_deliver_0 rfl (lv_at hl 0 rfl) ?_
  refine gt_X6_X6_now hC hI dX6_deliver_1 ?_
  refine lv_iload_n hx hb dX6_deliver_4 rfl (lv_at hl 1 rfl) ?_
  obtain ⟨r1, hr2, hf⟩ := gbind hf
  have hr2 := C_X5_deliveringFault l E x gOk_0 hr2
  refine g_callVi (rest := []) hC hI hr2 Y_X5_deliveringFault V_X5_deliveringFault w470 (rcv_X5 hC hI gOk_0) ⟨rfl, rfl⟩ ⟨Nat.le_of_ble_eq_true rfl, Nat.le_of_ble_eq_true rfl⟩ rfl hl.1 rfl (Nat.le_of_ble_eq_true rfl) dX6_deliver_5 ⟨Nat.le_of_ble_eq_true rfl, Nat.le_of_ble_eq_true rfl⟩ (fun H locs hI => ?_)
  rcases gseq hf with ⟨er, Mr, hr4, hf⟩ | ⟨_, M5, hr4, hf⟩
  · replace hr4 := C_X6_raise l hst E x  hr4
    exact g_xSx (rest := []) hC hI hr4 Y_X6_raise S_X6_raise w255 ⟨rfl, rfl⟩ ⟨Nat.le_of_ble_eq_true rfl, Nat.le_of_ble_eq_true rfl⟩ rfl hl.1 rfl (Nat.le_of_ble_eq_true rfl) dX6_deliver_8 ⟨Nat.le_of_ble_eq_true rfl, Nat.le_of_ble_eq_true rfl⟩ (fun ce q H locs hI h1 h2 h3 => kx _ _ _ _ _ _ _ _ _ _ _ (gtx hf) hI h1 h2 h3 ⟨Nat.le_of_ble_eq_true rfl, Nat.le_of_ble_eq_true rfl⟩)
  replace hr4 := C_X6_raise l hst E x  hr4
  refine g_xSv (rest := []) hC hI hr4 Y_X6_raise S_X6_raise w255 ⟨rfl, rfl⟩ ⟨Nat.le_of_ble_eq_true rfl, Nat.le_of_ble_eq_true rfl⟩ rfl hl.1 rfl (Nat.le_of_ble_eq_true rfl) dX6_deliver_8 ⟨Nat.le_of_ble_eq_true rfl, Nat.le_of_ble_eq_true rfl⟩ (fun H locs hI => ?_)
  refine lv_aload_n hx hb dX6_deliver_11 rfl (lv_at hl 0 rfl) ?_
  refine gt_X6_X6_history hC hI dX6_deliver_12 ?_
  refine lv_aload_n hx hb dX6_deliver_15 rfl (lv_at hl 0 rfl) ?_
  refine gt_X6_X6_now hC hI dX6_deliver_16 ?_
  obtain ⟨r6, hr7, hf⟩ := gbind hf
  have hr7 := C_X1_push l E x gOk_0 hr7
  refine g_callVv (rest := []) hC hI hr7 Y_X1_push V_X1_push w377 (rcv_X1 hC hI) ⟨rfl, rfl⟩ ⟨Nat.le_of_ble_eq_true rfl, Nat.le_of_ble_eq_true rfl⟩ rfl hl.1 rfl (Nat.le_of_ble_eq_true rfl) dX6_deliver_19 ⟨Nat.le_of_ble_eq_true rfl, Nat.le_of_ble_eq_true rfl⟩ (fun H locs hI => ?_)
  refine lv_aload_n hx hb dX6_deliver_22 rfl (lv_at hl 0 rfl) ?_
  refine gt_X6_X6_now hC hI dX6_deliver_23 ?_
  refine lv_iload_n hx hb dX6_deliver_26 rfl (lv_at hl 1 rfl) ?_
  obtain ⟨r8, hr9, hf⟩ := gbind hf
  have hr9 := C_X5_handOver l E x gOk_0 hr9
  refine g_callVv (rest := []) hC hI hr9 Y_X5_handOver V_X5_handOver w486 (rcv_X5 hC hI gOk_0) ⟨rfl, rfl⟩ ⟨Nat.le_of_ble_eq_true rfl, Nat.le_of_ble_eq_true rfl⟩ rfl hl.1 rfl (Nat.le_of_ble_eq_true rfl) dX6_deliver_27 ⟨Nat.le_of_ble_eq_true rfl, Nat.le_of_ble_eq_true rfl⟩ (fun H locs hI => ?_)
  refine lv_aload_n hx hb dX6_deliver_30 rfl (lv_at hl 0 rfl) ?_
  refine gt_X6_X6_now hC hI dX6_deliver_31 ?_
  refine gt_X6_X5_cargo hC hI gOk_0 dX6_deliver_34 ?_
  refine lv_bipush (v := 12) hx hb dX6_deliver_37 (by decide) ?_
  obtain ⟨r10, hr11, hf⟩ := gbind hf
  have hr11 := C_X0_height l E x gOk_0 hr11
  refine g_callVi (rest := []) hC hI hr11 Y_X0_height V_X0_height w506 (rcv_X0 hC hI gOk_0) ⟨rfl, rfl⟩ ⟨Nat.le_of_ble_eq_true rfl, Nat.le_of_ble_eq_true rfl⟩ rfl hl.1 rfl (Nat.le_of_ble_eq_true rfl) dX6_deliver_39 ⟨Nat.le_of_ble_eq_true rfl, Nat.le_of_ble_eq_true rfl⟩ (fun H locs hI => ?_)
  exact kr _ _ _ _ _ _ _ _ (gre hf) hI ⟨.int, rfl, rfl⟩ ⟨Nat.le_of_ble_eq_true rfl, Nat.le_of_ble_eq_true rfl⟩ dX6_deliver_42
theorem dX0_loadOf_0 : decode cX0_loadOf 0 = .ok (.iconst 0, 1) := by decide +kernel
theorem dX0_loadOf_1 : decode cX0_loadOf 1 = .ok (.istore_n 2, 1) := by decide +kernel
theorem dX0_loadOf_2 : decode cX0_loadOf 2 = .ok (.iconst 0, 1) := by decide +kernel
theorem dX0_loadOf_3 : decode cX0_loadOf 3 = .ok (.istore_n 3, 1) := by decide +kernel
theorem dX0_loadOf_4 : decode cX0_loadOf 4 = .ok (.iload_n 3, 1) := by decide +kernel
theorem dX0_loadOf_5 : decode cX0_loadOf 5 = .ok (.iconst 4, 1) := by decide +kernel
theorem dX0_loadOf_6 : decode cX0_loadOf 6 = .ok (.if_icmp .ge 21, 3) := by decide +kernel
theorem dX0_loadOf_9 : decode cX0_loadOf 9 = .ok (.iload_n 2, 1) := by decide +kernel
theorem dX0_loadOf_10 : decode cX0_loadOf 10 = .ok (.aload_n 0, 1) := by decide +kernel
theorem dX0_loadOf_11 : decode cX0_loadOf 11 = .ok (.iload_n 1, 1) := by decide +kernel
theorem dX0_loadOf_12 : decode cX0_loadOf 12 = .ok (.iload_n 3, 1) := by decide +kernel
theorem dX0_loadOf_13 : decode cX0_loadOf 13 = .ok (.invokestatic 76, 3) := by decide +kernel
theorem dX0_loadOf_16 : decode cX0_loadOf 16 = .ok (.invokevirtual 40, 3) := by decide +kernel
theorem dX0_loadOf_19 : decode cX0_loadOf 19 = .ok (.iadd, 1) := by decide +kernel
theorem dX0_loadOf_20 : decode cX0_loadOf 20 = .ok (.istore_n 2, 1) := by decide +kernel
theorem dX0_loadOf_21 : decode cX0_loadOf 21 = .ok (.iinc 3 1, 3) := by decide +kernel
theorem dX0_loadOf_24 : decode cX0_loadOf 24 = .ok (.goto (-20), 3) := by decide +kernel
theorem dX0_loadOf_27 : decode cX0_loadOf 27 = .ok (.iload_n 2, 1) := by decide +kernel
theorem dX0_loadOf_28 : decode cX0_loadOf 28 = .ok (.ireturn, 1) := by decide +kernel
set_option maxRecDepth 100000 in
set_option maxHeartbeats 4000000 in
theorem C_X0_loadOf (l : Launch) (E : gE) (x : gX) {o : Nat} (ho : gOk o) {v1 : Int32} {M : gM} {r : Int32} (hf : f_X0_loadOf o v1 M = some r) : gM0 l E yX0_loadOf (.code yX0_loadOf cX0_loadOf 4 (some .int)) (gR 1 23) M x [.ref (E.2.1 (o + 1)), .int v1] (some (.int r)) M := by
  refine gMet (by decide +kernel) (Nat.le_of_ble_eq_true rfl) ?_
  intro p e s m args below meth c H locs ls Q hC hl hI kr kv
  replace hC : gC p s m args c cX0_loadOf 4 RX0 E := hC
  replace hl : lv_has ls 4 [(0, .ref (E.2.1 (o + 1))), (1, .int v1)] := hl
  have hx := hC.1
  have hb := hC.2.1
  have L4 : ∀ (v1 : Int32) (n : Nat) (v3 : Int32) (v2 : Int32), f_X0_loadOf_L4 o M v1 n v3 v2 = some r → ∀ (H : Heap) (locs : List Loc) (ls : Array Slot), gI E s M x H locs → lv_has ls 4 [(3, .int v3), (2, .int v2), (0, .ref (E.2.1 (o + 1))), (1, .int v1)] → W p l e (gR 1 23) s m args below meth c H locs 0 0 Q (F0 m 4 ls []) := by
    intro v1 n
    induction n with
    | zero => intro v3 v2 hf; rw [f_X0_loadOf_L4] at hf; cases hf
    | succ n ih =>
      intro v3 v2 hf H locs ls hI hl
      rw [f_X0_loadOf_L4] at hf
      refine lv_iload_n hx hb dX0_loadOf_4 rfl (lv_at hl 0 rfl) ?_
      refine lv_iconst (v := 4) hx hb dX0_loadOf_5 (by decide) ?_
      refine lv_icmp_ge (tgt := 27) hx hb dX0_loadOf_6 rfl (fun h1 => ?_) (fun h1 => ?_)
      · replace hf := gif h1 hf
        refine lv_iload_n hx hb dX0_loadOf_27 rfl (lv_at hl 1 rfl) ?_
        exact kr _ _ _ _ _ _ (gri hf) hI ⟨.int, rfl, rfl⟩ dX0_loadOf_28
      · replace hf := gifn h1 hf
        refine lv_iload_n hx hb dX0_loadOf_9 rfl (lv_at hl 1 rfl) ?_
        refine lv_aload_n hx hb dX0_loadOf_10 rfl (lv_at hl 2 rfl) ?_
        refine lv_iload_n hx hb dX0_loadOf_11 rfl (lv_at hl 3 rfl) ?_
        refine lv_iload_n hx hb dX0_loadOf_12 rfl (lv_at hl 0 rfl) ?_
        obtain ⟨r2, hr3, hf⟩ := gbind hf
        have hr3 := C_X6_pileOf l E x  hr3
        refine g_callSNi (rest := [.ref (E.2.1 (o + 1)), .int v2]) hC hI hr3 Y_X6_pileOf S_X6_pileOf (List.mem_of_getElem? (i := 9) rfl) ⟨rfl, rfl⟩ ⟨Nat.le_of_ble_eq_true rfl, Nat.le_of_ble_eq_true rfl⟩ rfl hl.1 rfl (Nat.le_of_ble_eq_true rfl) dX0_loadOf_13 ⟨Nat.le_of_ble_eq_true rfl, Nat.le_of_ble_eq_true rfl⟩ (fun H locs hI => ?_)
        obtain ⟨r4, hr5, hf⟩ := gbind hf
        have hr5 := C_X0_height l E x ho hr5
        refine g_callVi (rest := [.int v2]) hC hI hr5 Y_X0_height V_X0_height w405 (rcv_X0 hC hI ho) ⟨rfl, rfl⟩ ⟨Nat.le_of_ble_eq_true rfl, Nat.le_of_ble_eq_true rfl⟩ rfl hl.1 rfl (Nat.le_of_ble_eq_true rfl) dX0_loadOf_16 ⟨Nat.le_of_ble_eq_true rfl, Nat.le_of_ble_eq_true rfl⟩ (fun H locs hI => ?_)
        refine lv_iadd hx hb dX0_loadOf_19 ?_
        obtain ⟨z6, ez6, hf⟩ := glet hf
        refine g_top ez6 ?_
        refine lv_istore_n (lv' := [(2, .int z6), (3, .int v3), (0, .ref (E.2.1 (o + 1))), (1, .int v1)]) hx hb dX0_loadOf_20 rfl hl (by decide) rfl (fun ls hl => ?_)
        refine lv_iinc (k := 1) (v := v3 + 1) (lv' := [(3, .int (v3 + 1)), (2, .int z6), (0, .ref (E.2.1 (o + 1))), (1, .int v1)]) hx hb dX0_loadOf_21 hl rfl rfl (by decide) rfl (fun ls hl => ?_)
        refine lv_goto (tgt := 4) hx hb dX0_loadOf_24 rfl ?_
        exact ih (v3 + 1) z6 hf _ _ _ hI (lv_sub hl [0, 1, 2, 3] rfl)
  unfold f_X0_loadOf at hf
  refine lv_iconst (v := 0) hx hb dX0_loadOf_0 (by decide) ?_
  refine lv_istore_n (lv' := [(2, .int 0), (0, .ref (E.2.1 (o + 1))), (1, .int v1)]) hx hb dX0_loadOf_1 rfl hl (by decide) rfl (fun ls hl => ?_)
  refine lv_iconst (v := 0) hx hb dX0_loadOf_2 (by decide) ?_
  refine lv_istore_n (lv' := [(3, .int 0), (2, .int 0), (0, .ref (E.2.1 (o + 1))), (1, .int v1)]) hx hb dX0_loadOf_3 rfl hl (by decide) rfl (fun ls hl => ?_)
  exact L4 v1 gF 0 0 hf _ _ _ hI (lv_sub hl [0, 1, 2, 3] rfl)
theorem dJ9_floorMod_7cf53_0 : decode cJ9_floorMod_7cf53 0 = .ok (.iload_n 0, 1) := by decide +kernel
theorem dJ9_floorMod_7cf53_1 : decode cJ9_floorMod_7cf53 1 = .ok (.iload_n 1, 1) := by decide +kernel
theorem dJ9_floorMod_7cf53_2 : decode cJ9_floorMod_7cf53 2 = .ok (.irem, 1) := by decide +kernel
theorem dJ9_floorMod_7cf53_3 : decode cJ9_floorMod_7cf53 3 = .ok (.istore_n 2, 1) := by decide +kernel
theorem dJ9_floorMod_7cf53_4 : decode cJ9_floorMod_7cf53 4 = .ok (.iload_n 0, 1) := by decide +kernel
theorem dJ9_floorMod_7cf53_5 : decode cJ9_floorMod_7cf53 5 = .ok (.iload_n 1, 1) := by decide +kernel
theorem dJ9_floorMod_7cf53_6 : decode cJ9_floorMod_7cf53 6 = .ok (.ixor, 1) := by decide +kernel
theorem dJ9_floorMod_7cf53_7 : decode cJ9_floorMod_7cf53 7 = .ok (.ifCond .ge 11, 3) := by decide +kernel
theorem dJ9_floorMod_7cf53_10 : decode cJ9_floorMod_7cf53 10 = .ok (.iload_n 2, 1) := by decide +kernel
theorem dJ9_floorMod_7cf53_11 : decode cJ9_floorMod_7cf53 11 = .ok (.ifCond .eq 7, 3) := by decide +kernel
theorem dJ9_floorMod_7cf53_14 : decode cJ9_floorMod_7cf53 14 = .ok (.iload_n 2, 1) := by decide +kernel
theorem dJ9_floorMod_7cf53_15 : decode cJ9_floorMod_7cf53 15 = .ok (.iload_n 1, 1) := by decide +kernel
theorem dJ9_floorMod_7cf53_16 : decode cJ9_floorMod_7cf53 16 = .ok (.iadd, 1) := by decide +kernel
theorem dJ9_floorMod_7cf53_17 : decode cJ9_floorMod_7cf53 17 = .ok (.ireturn, 1) := by decide +kernel
theorem dJ9_floorMod_7cf53_18 : decode cJ9_floorMod_7cf53 18 = .ok (.iload_n 2, 1) := by decide +kernel
theorem dJ9_floorMod_7cf53_19 : decode cJ9_floorMod_7cf53 19 = .ok (.ireturn, 1) := by decide +kernel
set_option maxRecDepth 100000 in
set_option maxHeartbeats 4000000 in
theorem C_J9_floorMod_7cf53 (l : Launch) (E : gE) (x : gX) {v0 v1 : Int32} {M : gM} {r : Int32} (hf : f_J9_floorMod_7cf53 v0 v1 M = some r) : gM0 l E yJ9_floorMod_7cf53 (.code yJ9_floorMod_7cf53 cJ9_floorMod_7cf53 3 (some .int)) (gR 0 0) M x [.int v0, .int v1] (some (.int r)) M := by
  refine gMet (by decide +kernel) (Nat.le_of_ble_eq_true rfl) ?_
  intro p e s m args below meth c H locs ls Q hC hl hI kr kv
  replace hC : gC p s m args c cJ9_floorMod_7cf53 3 RJ9 E := hC
  replace hl : lv_has ls 3 [(0, .int v0), (1, .int v1)] := hl
  have hx := hC.1
  have hb := hC.2.1
  unfold f_J9_floorMod_7cf53 at hf
  refine lv_iload_n hx hb dJ9_floorMod_7cf53_0 rfl (lv_at hl 0 rfl) ?_
  refine lv_iload_n hx hb dJ9_floorMod_7cf53_1 rfl (lv_at hl 1 rfl) ?_
  obtain ⟨h1, hf⟩ := gifNn hf
  refine lv_irem hx hb dJ9_floorMod_7cf53_2 h1 ?_
  obtain ⟨z2, ez2, hf⟩ := glet hf
  refine g_top ez2 ?_
  refine lv_istore_n (lv' := [(2, .int z2), (0, .int v0), (1, .int v1)]) hx hb dJ9_floorMod_7cf53_3 rfl hl (by decide) rfl (fun ls hl => ?_)
  refine lv_iload_n hx hb dJ9_floorMod_7cf53_4 rfl (lv_at hl 1 rfl) ?_
  refine lv_iload_n hx hb dJ9_floorMod_7cf53_5 rfl (lv_at hl 2 rfl) ?_
  refine lv_ixor hx hb dJ9_floorMod_7cf53_6 ?_
  refine lv_if_ge (tgt := 18) hx hb dJ9_floorMod_7cf53_7 rfl (fun h3 => ?_) (fun h3 => ?_)
  · replace hf := gif h3 hf
    refine lv_iload_n hx hb dJ9_floorMod_7cf53_18 rfl (lv_at hl 0 rfl) ?_
    exact kr _ _ _ _ _ _ (gri hf) hI ⟨.int, rfl, rfl⟩ dJ9_floorMod_7cf53_19
  · replace hf := gifn h3 hf
    refine lv_iload_n hx hb dJ9_floorMod_7cf53_10 rfl (lv_at hl 0 rfl) ?_
    refine lv_if_eq (tgt := 18) hx hb dJ9_floorMod_7cf53_11 rfl (fun h4 => ?_) (fun h4 => ?_)
    · replace hf := gif h4 hf
      refine lv_iload_n hx hb dJ9_floorMod_7cf53_18 rfl (lv_at hl 0 rfl) ?_
      exact kr _ _ _ _ _ _ (gri hf) hI ⟨.int, rfl, rfl⟩ dJ9_floorMod_7cf53_19
    · replace hf := gifn h4 hf
      refine lv_iload_n hx hb dJ9_floorMod_7cf53_14 rfl (lv_at hl 0 rfl) ?_
      refine lv_iload_n hx hb dJ9_floorMod_7cf53_15 rfl (lv_at hl 2 rfl) ?_
      refine lv_iadd hx hb dJ9_floorMod_7cf53_16 ?_
      exact kr _ _ _ _ _ _ (gri hf) hI ⟨.int, rfl, rfl⟩ dJ9_floorMod_7cf53_17
theorem dX6_tideAt_0 : decode cX6_tideAt 0 = .ok (.iload_n 0, 1) := by decide +kernel
theorem dX6_tideAt_1 : decode cX6_tideAt 1 = .ok (.bipush 12, 2) := by decide +kernel
theorem dX6_tideAt_3 : decode cX6_tideAt 3 = .ok (.invokestatic 369, 3) := by decide +kernel
theorem dX6_tideAt_6 : decode cX6_tideAt 6 = .ok (.istore_n 1, 1) := by decide +kernel
theorem dX6_tideAt_7 : decode cX6_tideAt 7 = .ok (.iload_n 1, 1) := by decide +kernel
theorem dX6_tideAt_8 : decode cX6_tideAt 8 = .ok (.bipush 6, 2) := by decide +kernel
theorem dX6_tideAt_10 : decode cX6_tideAt 10 = .ok (.if_icmp .gt 7, 3) := by decide +kernel
theorem dX6_tideAt_13 : decode cX6_tideAt 13 = .ok (.iload_n 1, 1) := by decide +kernel
theorem dX6_tideAt_14 : decode cX6_tideAt 14 = .ok (.goto 7, 3) := by decide +kernel
theorem dX6_tideAt_17 : decode cX6_tideAt 17 = .ok (.bipush 12, 2) := by decide +kernel
theorem dX6_tideAt_19 : decode cX6_tideAt 19 = .ok (.iload_n 1, 1) := by decide +kernel
theorem dX6_tideAt_20 : decode cX6_tideAt 20 = .ok (.isub, 1) := by decide +kernel
theorem dX6_tideAt_21 : decode cX6_tideAt 21 = .ok (.ireturn, 1) := by decide +kernel
set_option maxRecDepth 100000 in
set_option maxHeartbeats 4000000 in
theorem C_X6_tideAt (l : Launch) (E : gE) (x : gX) {v0 : Int32} {M : gM} {r : Int32} (hf : f_X6_tideAt v0 M = some r) : gM0 l E yX6_tideAt (.code yX6_tideAt cX6_tideAt 2 (some .int)) (gR 1 22) M x [.int v0] (some (.int r)) M := by
  refine gMet (by decide +kernel) (Nat.le_of_ble_eq_true rfl) ?_
  intro p e s m args below meth c H locs ls Q hC hl hI kr kv
  replace hC : gC p s m args c cX6_tideAt 2 RX6 E := hC
  replace hl : lv_has ls 2 [(0, .int v0)] := hl
  have hx := hC.1
  have hb := hC.2.1
  unfold f_X6_tideAt at hf
  refine lv_iload_n hx hb dX6_tideAt_0 rfl (lv_at hl 0 rfl) ?_
  refine lv_bipush (v := 12) hx hb dX6_tideAt_1 (by decide) ?_
  obtain ⟨r1, hr2, hf⟩ := gbind hf
  have hr2 := C_J9_floorMod_7cf53 l E x  hr2
  refine g_callSi (rest := []) hC hI hr2 Y_J9_floorMod_7cf53 S_J9_floorMod_7cf53 w527 ⟨rfl, rfl⟩ ⟨Nat.le_of_ble_eq_true rfl, Nat.le_of_ble_eq_true rfl⟩ rfl hl.1 rfl (Nat.le_of_ble_eq_true rfl) dX6_tideAt_3 ⟨Nat.le_of_ble_eq_true rfl, Nat.le_of_ble_eq_true rfl⟩ (fun H locs hI => ?_)
  refine lv_istore_n (lv' := [(1, .int r1), (0, .int v0)]) hx hb dX6_tideAt_6 rfl hl (by decide) rfl (fun ls hl => ?_)
  refine lv_iload_n hx hb dX6_tideAt_7 rfl (lv_at hl 0 rfl) ?_
  refine lv_bipush (v := 6) hx hb dX6_tideAt_8 (by decide) ?_
  refine lv_icmp_gt (tgt := 17) hx hb dX6_tideAt_10 rfl (fun h3 => ?_) (fun h3 => ?_)
  · replace hf := gif h3 hf
    refine lv_bipush (v := 12) hx hb dX6_tideAt_17 (by decide) ?_
    refine lv_iload_n hx hb dX6_tideAt_19 rfl (lv_at hl 0 rfl) ?_
    refine lv_isub hx hb dX6_tideAt_20 ?_
    exact kr _ _ _ _ _ _ (gri hf) hI ⟨.int, rfl, rfl⟩ dX6_tideAt_21
  · replace hf := gifn h3 hf
    refine lv_iload_n hx hb dX6_tideAt_13 rfl (lv_at hl 0 rfl) ?_
    refine lv_goto (tgt := 21) hx hb dX6_tideAt_14 rfl ?_
    exact kr _ _ _ _ _ _ (gri hf) hI ⟨.int, rfl, rfl⟩ dX6_tideAt_21
theorem dX5_floatsAfter_0 : decode cX5_floatsAfter 0 = .ok (.aload_n 0, 1) := by decide +kernel
theorem dX5_floatsAfter_1 : decode cX5_floatsAfter 1 = .ok (.iload_n 1, 1) := by decide +kernel
theorem dX5_floatsAfter_2 : decode cX5_floatsAfter 2 = .ok (.invokevirtual 64, 3) := by decide +kernel
theorem dX5_floatsAfter_5 : decode cX5_floatsAfter 5 = .ok (.ifCond .eq 27, 3) := by decide +kernel
theorem dX5_floatsAfter_8 : decode cX5_floatsAfter 8 = .ok (.iconst 4, 1) := by decide +kernel
theorem dX5_floatsAfter_9 : decode cX5_floatsAfter 9 = .ok (.aload_n 0, 1) := by decide +kernel
theorem dX5_floatsAfter_10 : decode cX5_floatsAfter 10 = .ok (.getfield 31, 3) := by decide +kernel
theorem dX5_floatsAfter_13 : decode cX5_floatsAfter 13 = .ok (.iload_n 2, 1) := by decide +kernel
theorem dX5_floatsAfter_14 : decode cX5_floatsAfter 14 = .ok (.iadd, 1) := by decide +kernel
theorem dX5_floatsAfter_15 : decode cX5_floatsAfter 15 = .ok (.invokestatic 116, 3) := by decide +kernel
theorem dX5_floatsAfter_18 : decode cX5_floatsAfter 18 = .ok (.iadd, 1) := by decide +kernel
theorem dX5_floatsAfter_19 : decode cX5_floatsAfter 19 = .ok (.aload_n 0, 1) := by decide +kernel
theorem dX5_floatsAfter_20 : decode cX5_floatsAfter 20 = .ok (.getfield 18, 3) := by decide +kernel
theorem dX5_floatsAfter_23 : decode cX5_floatsAfter 23 = .ok (.iload_n 1, 1) := by decide +kernel
theorem dX5_floatsAfter_24 : decode cX5_floatsAfter 24 = .ok (.iaload, 1) := by decide +kernel
theorem dX5_floatsAfter_25 : decode cX5_floatsAfter 25 = .ok (.if_icmp .lt 7, 3) := by decide +kernel
theorem dX5_floatsAfter_28 : decode cX5_floatsAfter 28 = .ok (.iconst 1, 1) := by decide +kernel
theorem dX5_floatsAfter_29 : decode cX5_floatsAfter 29 = .ok (.goto 4, 3) := by decide +kernel
theorem dX5_floatsAfter_32 : decode cX5_floatsAfter 32 = .ok (.iconst 0, 1) := by decide +kernel
theorem dX5_floatsAfter_33 : decode cX5_floatsAfter 33 = .ok (.ireturn, 1) := by decide +kernel
set_option maxRecDepth 100000 in
set_option maxHeartbeats 4000000 in
theorem C_X5_floatsAfter (l : Launch) (E : gE) (x : gX) {o : Nat} (ho : gOk o) {v1 v2 : Int32} {M : gM} {r : Bool} (hf : f_X5_floatsAfter o v1 v2 M = some r) : gM0 l E yX5_floatsAfter (.code yX5_floatsAfter cX5_floatsAfter 3 (some .boolean)) (gR 2 43) M x [.ref (E.2.1 o), .int v1, .int v2] (some (.int (gb r))) M := by
  refine gMet (by decide +kernel) (Nat.le_of_ble_eq_true rfl) ?_
  intro p e s m args below meth c H locs ls Q hC hl hI kr kv
  replace hC : gC p s m args c cX5_floatsAfter 3 RX5 E := hC
  replace hl : lv_has ls 3 [(0, .ref (E.2.1 o)), (1, .int v1), (2, .int v2)] := hl
  have hx := hC.1
  have hb := hC.2.1
  unfold f_X5_floatsAfter at hf
  refine lv_aload_n hx hb dX5_floatsAfter_0 rfl (lv_at hl 0 rfl) ?_
  refine lv_iload_n hx hb dX5_floatsAfter_1 rfl (lv_at hl 1 rfl) ?_
  obtain ⟨r1, hr2, hf⟩ := gbind hf
  have hr2 := C_X5_hasShip l E x ho hr2
  refine g_callVi (rest := []) hC hI hr2 Y_X5_hasShip V_X5_hasShip w251 (rcv_X5 hC hI ho) ⟨rfl, rfl⟩ ⟨Nat.le_of_ble_eq_true rfl, Nat.le_of_ble_eq_true rfl⟩ rfl hl.1 rfl (Nat.le_of_ble_eq_true rfl) dX5_floatsAfter_2 ⟨Nat.le_of_ble_eq_true rfl, Nat.le_of_ble_eq_true rfl⟩ (fun H locs hI => ?_)
  refine lv_if_eq (tgt := 32) hx hb dX5_floatsAfter_5 rfl (fun h3 => ?_) (fun h3 => ?_)
  · replace hf := gif h3 hf
    refine lv_iconst (v := 0) hx hb dX5_floatsAfter_32 (by decide) ?_
    exact kr _ _ _ _ _ _ (grb0 hf) hI ⟨.boolean, rfl, rfl⟩ dX5_floatsAfter_33
  · replace hf := gifn h3 hf
    refine lv_iconst (v := 4) hx hb dX5_floatsAfter_8 (by decide) ?_
    refine lv_aload_n hx hb dX5_floatsAfter_9 rfl (lv_at hl 0 rfl) ?_
    refine gt_X5_X5_hour hC hI ho dX5_floatsAfter_10 ?_
    refine lv_iload_n hx hb dX5_floatsAfter_13 rfl (lv_at hl 2 rfl) ?_
    refine lv_iadd hx hb dX5_floatsAfter_14 ?_
    obtain ⟨r4, hr5, hf⟩ := gbind hf
    have hr5 := C_X6_tideAt l E x  hr5
    refine g_callSNi (rest := [.int 4]) hC hI hr5 Y_X6_tideAt S_X6_tideAt (List.mem_of_getElem? (i := 10) rfl) ⟨rfl, rfl⟩ ⟨Nat.le_of_ble_eq_true rfl, Nat.le_of_ble_eq_true rfl⟩ rfl hl.1 rfl (Nat.le_of_ble_eq_true rfl) dX5_floatsAfter_15 ⟨Nat.le_of_ble_eq_true rfl, Nat.le_of_ble_eq_true rfl⟩ (fun H locs hI => ?_)
    refine lv_iadd hx hb dX5_floatsAfter_18 ?_
    refine lv_aload_n hx hb dX5_floatsAfter_19 rfl (lv_at hl 0 rfl) ?_
    refine gt_X5_X5_draughts hC hI ho dX5_floatsAfter_20 ?_
    refine lv_iload_n hx hb dX5_floatsAfter_23 rfl (lv_at hl 1 rfl) ?_
    obtain ⟨h6, hf⟩ := gifN hf
    refine g_iald hC hI (k := v1.toNatClampNeg) (gIA_8 ho) h6 rfl dX5_floatsAfter_24 ?_
    refine lv_icmp_lt (tgt := 32) hx hb dX5_floatsAfter_25 rfl (fun h7 => ?_) (fun h7 => ?_)
    · replace hf := gif h7 hf
      refine lv_iconst (v := 0) hx hb dX5_floatsAfter_32 (by decide) ?_
      exact kr _ _ _ _ _ _ (grb0 hf) hI ⟨.boolean, rfl, rfl⟩ dX5_floatsAfter_33
    · replace hf := gifn h7 hf
      refine lv_iconst (v := 1) hx hb dX5_floatsAfter_28 (by decide) ?_
      refine lv_goto (tgt := 33) hx hb dX5_floatsAfter_29 rfl ?_
      exact kr _ _ _ _ _ _ (grb1 hf) hI ⟨.boolean, rfl, rfl⟩ dX5_floatsAfter_33
theorem dX5_leavingFault_0 : decode cX5_leavingFault 0 = .ok (.iload_n 1, 1) := by decide +kernel
theorem dX5_leavingFault_1 : decode cX5_leavingFault 1 = .ok (.invokestatic 60, 3) := by decide +kernel
theorem dX5_leavingFault_4 : decode cX5_leavingFault 4 = .ok (.ifCond .ne 5, 3) := by decide +kernel
theorem dX5_leavingFault_7 : decode cX5_leavingFault 7 = .ok (.iconst 1, 1) := by decide +kernel
theorem dX5_leavingFault_8 : decode cX5_leavingFault 8 = .ok (.ireturn, 1) := by decide +kernel
theorem dX5_leavingFault_9 : decode cX5_leavingFault 9 = .ok (.aload_n 0, 1) := by decide +kernel
theorem dX5_leavingFault_10 : decode cX5_leavingFault 10 = .ok (.iload_n 1, 1) := by decide +kernel
theorem dX5_leavingFault_11 : decode cX5_leavingFault 11 = .ok (.invokevirtual 64, 3) := by decide +kernel
theorem dX5_leavingFault_14 : decode cX5_leavingFault 14 = .ok (.ifCond .eq 27, 3) := by decide +kernel
theorem dX5_leavingFault_17 : decode cX5_leavingFault 17 = .ok (.aload_n 0, 1) := by decide +kernel
theorem dX5_leavingFault_18 : decode cX5_leavingFault 18 = .ok (.getfield 12, 3) := by decide +kernel
theorem dX5_leavingFault_21 : decode cX5_leavingFault 21 = .ok (.iload_n 1, 1) := by decide +kernel
theorem dX5_leavingFault_22 : decode cX5_leavingFault 22 = .ok (.invokevirtual 105, 3) := by decide +kernel
theorem dX5_leavingFault_25 : decode cX5_leavingFault 25 = .ok (.ifCond .ne 16, 3) := by decide +kernel
theorem dX5_leavingFault_28 : decode cX5_leavingFault 28 = .ok (.aload_n 0, 1) := by decide +kernel
theorem dX5_leavingFault_29 : decode cX5_leavingFault 29 = .ok (.iload_n 1, 1) := by decide +kernel
theorem dX5_leavingFault_30 : decode cX5_leavingFault 30 = .ok (.iconst 0, 1) := by decide +kernel
theorem dX5_leavingFault_31 : decode cX5_leavingFault 31 = .ok (.invokevirtual 108, 3) := by decide +kernel
theorem dX5_leavingFault_34 : decode cX5_leavingFault 34 = .ok (.ifCond .eq 7, 3) := by decide +kernel
theorem dX5_leavingFault_37 : decode cX5_leavingFault 37 = .ok (.iconst 1, 1) := by decide +kernel
theorem dX5_leavingFault_38 : decode cX5_leavingFault 38 = .ok (.goto 4, 3) := by decide +kernel
theorem dX5_leavingFault_41 : decode cX5_leavingFault 41 = .ok (.iconst 0, 1) := by decide +kernel
theorem dX5_leavingFault_42 : decode cX5_leavingFault 42 = .ok (.istore_n 2, 1) := by decide +kernel
theorem dX5_leavingFault_43 : decode cX5_leavingFault 43 = .ok (.iload_n 2, 1) := by decide +kernel
theorem dX5_leavingFault_44 : decode cX5_leavingFault 44 = .ok (.ifCond .eq 7, 3) := by decide +kernel
theorem dX5_leavingFault_47 : decode cX5_leavingFault 47 = .ok (.iconst 0, 1) := by decide +kernel
theorem dX5_leavingFault_48 : decode cX5_leavingFault 48 = .ok (.goto 4, 3) := by decide +kernel
theorem dX5_leavingFault_51 : decode cX5_leavingFault 51 = .ok (.iconst 3, 1) := by decide +kernel
theorem dX5_leavingFault_52 : decode cX5_leavingFault 52 = .ok (.ireturn, 1) := by decide +kernel
set_option maxRecDepth 100000 in
set_option maxHeartbeats 4000000 in
theorem C_X5_leavingFault (l : Launch) (E : gE) (x : gX) {o : Nat} (ho : gOk o) {v1 : Int32} {M : gM} {r : Int32} (hf : f_X5_leavingFault o v1 M = some r) : gM0 l E yX5_leavingFault (.code yX5_leavingFault cX5_leavingFault 3 (some .int)) (gR 3 65) M x [.ref (E.2.1 o), .int v1] (some (.int r)) M := by
  refine gMet (by decide +kernel) (Nat.le_of_ble_eq_true rfl) ?_
  intro p e s m args below meth c H locs ls Q hC hl hI kr kv
  replace hC : gC p s m args c cX5_leavingFault 3 RX5 E := hC
  replace hl : lv_has ls 3 [(0, .ref (E.2.1 o)), (1, .int v1)] := hl
  have hx := hC.1
  have hb := hC.2.1
  unfold f_X5_leavingFault at hf
  refine lv_iload_n hx hb dX5_leavingFault_0 rfl (lv_at hl 1 rfl) ?_
  obtain ⟨r1, hr2, hf⟩ := gbind hf
  have hr2 := C_X6_isBerth l E x  hr2
  refine g_callSNi (rest := []) hC hI hr2 Y_X6_isBerth S_X6_isBerth (List.mem_of_getElem? (i := 6) rfl) ⟨rfl, rfl⟩ ⟨Nat.le_of_ble_eq_true rfl, Nat.le_of_ble_eq_true rfl⟩ rfl hl.1 rfl (Nat.le_of_ble_eq_true rfl) dX5_leavingFault_1 ⟨Nat.le_of_ble_eq_true rfl, Nat.le_of_ble_eq_true rfl⟩ (fun H locs hI => ?_)
  refine lv_if_ne (tgt := 9) hx hb dX5_leavingFault_4 rfl (fun h3 => ?_) (fun h3 => ?_)
  · replace hf := gifn h3 hf
    refine lv_aload_n hx hb dX5_leavingFault_9 rfl (lv_at hl 0 rfl) ?_
    refine lv_iload_n hx hb dX5_leavingFault_10 rfl (lv_at hl 1 rfl) ?_
    obtain ⟨r4, hr5, hf⟩ := gbind hf
    have hr5 := C_X5_hasShip l E x ho hr5
    refine g_callVi (rest := []) hC hI hr5 Y_X5_hasShip V_X5_hasShip w251 (rcv_X5 hC hI ho) ⟨rfl, rfl⟩ ⟨Nat.le_of_ble_eq_true rfl, Nat.le_of_ble_eq_true rfl⟩ rfl hl.1 rfl (Nat.le_of_ble_eq_true rfl) dX5_leavingFault_11 ⟨Nat.le_of_ble_eq_true rfl, Nat.le_of_ble_eq_true rfl⟩ (fun H locs hI => ?_)
    refine lv_if_eq (tgt := 41) hx hb dX5_leavingFault_14 rfl (fun h6 => ?_) (fun h6 => ?_)
    · replace hf := gif h6 hf
      refine lv_iconst (v := 0) hx hb dX5_leavingFault_41 (by decide) ?_
      refine lv_istore_n (lv' := [(2, .int 0), (0, .ref (E.2.1 o)), (1, .int v1)]) hx hb dX5_leavingFault_42 rfl hl (by decide) rfl (fun ls hl => ?_)
      refine lv_iload_n hx hb dX5_leavingFault_43 rfl (lv_at hl 0 rfl) ?_
      refine lv_if_eq (tgt := 51) hx hb dX5_leavingFault_44 rfl (fun h7 => ?_) (fun h7 => absurd (by decide) h7)
      refine lv_iconst (v := 3) hx hb dX5_leavingFault_51 (by decide) ?_
      exact kr _ _ _ _ _ _ (gri hf) hI ⟨.int, rfl, rfl⟩ dX5_leavingFault_52
    · replace hf := gifn h6 hf
      refine lv_aload_n hx hb dX5_leavingFault_17 rfl (lv_at hl 0 rfl) ?_
      refine gt_X5_X5_cargo hC hI ho dX5_leavingFault_18 ?_
      refine lv_iload_n hx hb dX5_leavingFault_21 rfl (lv_at hl 1 rfl) ?_
      obtain ⟨r8, hr9, hf⟩ := gbind hf
      have hr9 := C_X0_loadOf l E x ho hr9
      refine g_callVi (rest := []) hC hI hr9 Y_X0_loadOf V_X0_loadOf w515 (rcv_X0 hC hI ho) ⟨rfl, rfl⟩ ⟨Nat.le_of_ble_eq_true rfl, Nat.le_of_ble_eq_true rfl⟩ rfl hl.1 rfl (Nat.le_of_ble_eq_true rfl) dX5_leavingFault_22 ⟨Nat.le_of_ble_eq_true rfl, Nat.le_of_ble_eq_true rfl⟩ (fun H locs hI => ?_)
      refine lv_if_ne (tgt := 41) hx hb dX5_leavingFault_25 rfl (fun h10 => ?_) (fun h10 => ?_)
      · replace hf := gifn h10 hf
        refine lv_iconst (v := 0) hx hb dX5_leavingFault_41 (by decide) ?_
        refine lv_istore_n (lv' := [(2, .int 0), (0, .ref (E.2.1 o)), (1, .int v1)]) hx hb dX5_leavingFault_42 rfl hl (by decide) rfl (fun ls hl => ?_)
        refine lv_iload_n hx hb dX5_leavingFault_43 rfl (lv_at hl 0 rfl) ?_
        refine lv_if_eq (tgt := 51) hx hb dX5_leavingFault_44 rfl (fun h11 => ?_) (fun h11 => absurd (by decide) h11)
        refine lv_iconst (v := 3) hx hb dX5_leavingFault_51 (by decide) ?_
        exact kr _ _ _ _ _ _ (gri hf) hI ⟨.int, rfl, rfl⟩ dX5_leavingFault_52
      · replace hf := gif h10 hf
        refine lv_aload_n hx hb dX5_leavingFault_28 rfl (lv_at hl 0 rfl) ?_
        refine lv_iload_n hx hb dX5_leavingFault_29 rfl (lv_at hl 1 rfl) ?_
        refine lv_iconst (v := 0) hx hb dX5_leavingFault_30 (by decide) ?_
        obtain ⟨r12, hr13, hf⟩ := gbind hf
        have hr13 := C_X5_floatsAfter l E x ho hr13
        refine g_callVi (rest := []) hC hI hr13 Y_X5_floatsAfter V_X5_floatsAfter w520 (rcv_X5 hC hI ho) ⟨rfl, rfl⟩ ⟨Nat.le_of_ble_eq_true rfl, Nat.le_of_ble_eq_true rfl⟩ rfl hl.1 rfl (Nat.le_of_ble_eq_true rfl) dX5_leavingFault_31 ⟨Nat.le_of_ble_eq_true rfl, Nat.le_of_ble_eq_true rfl⟩ (fun H locs hI => ?_)
        refine lv_if_eq (tgt := 41) hx hb dX5_leavingFault_34 rfl (fun h14 => ?_) (fun h14 => ?_)
        · replace hf := gif h14 hf
          refine lv_iconst (v := 0) hx hb dX5_leavingFault_41 (by decide) ?_
          refine lv_istore_n (lv' := [(2, .int 0), (0, .ref (E.2.1 o)), (1, .int v1)]) hx hb dX5_leavingFault_42 rfl hl (by decide) rfl (fun ls hl => ?_)
          refine lv_iload_n hx hb dX5_leavingFault_43 rfl (lv_at hl 0 rfl) ?_
          refine lv_if_eq (tgt := 51) hx hb dX5_leavingFault_44 rfl (fun h15 => ?_) (fun h15 => absurd (by decide) h15)
          refine lv_iconst (v := 3) hx hb dX5_leavingFault_51 (by decide) ?_
          exact kr _ _ _ _ _ _ (gri hf) hI ⟨.int, rfl, rfl⟩ dX5_leavingFault_52
        · replace hf := gifn h14 hf
          refine lv_iconst (v := 1) hx hb dX5_leavingFault_37 (by decide) ?_
          refine lv_goto (tgt := 42) hx hb dX5_leavingFault_38 rfl ?_
          refine lv_istore_n (lv' := [(2, .int 1), (0, .ref (E.2.1 o)), (1, .int v1)]) hx hb dX5_leavingFault_42 rfl hl (by decide) rfl (fun ls hl => ?_)
          refine lv_iload_n hx hb dX5_leavingFault_43 rfl (lv_at hl 0 rfl) ?_
          refine lv_if_eq (tgt := 51) hx hb dX5_leavingFault_44 rfl (fun h16 => absurd h16 (by decide)) (fun h16 => ?_)
          refine lv_iconst (v := 0) hx hb dX5_leavingFault_47 (by decide) ?_
          refine lv_goto (tgt := 52) hx hb dX5_leavingFault_48 rfl ?_
          exact kr _ _ _ _ _ _ (gri hf) hI ⟨.int, rfl, rfl⟩ dX5_leavingFault_52
  · replace hf := gif h3 hf
    refine lv_iconst (v := 1) hx hb dX5_leavingFault_7 (by decide) ?_
    exact kr _ _ _ _ _ _ (gri hf) hI ⟨.int, rfl, rfl⟩ dX5_leavingFault_8
theorem dX5_takeShip_0 : decode cX5_takeShip 0 = .ok (.iload_n 1, 1) := by decide +kernel
theorem dX5_takeShip_1 : decode cX5_takeShip 1 = .ok (.invokestatic 60, 3) := by decide +kernel
theorem dX5_takeShip_4 : decode cX5_takeShip 4 = .ok (.ifCond .eq 31, 3) := by decide +kernel
theorem dX5_takeShip_7 : decode cX5_takeShip 7 = .ok (.aload_n 0, 1) := by decide +kernel
theorem dX5_takeShip_8 : decode cX5_takeShip 8 = .ok (.getfield 18, 3) := by decide +kernel
theorem dX5_takeShip_11 : decode cX5_takeShip 11 = .ok (.iload_n 1, 1) := by decide +kernel
theorem dX5_takeShip_12 : decode cX5_takeShip 12 = .ok (.iconst 0, 1) := by decide +kernel
theorem dX5_takeShip_13 : decode cX5_takeShip 13 = .ok (.iastore, 1) := by decide +kernel
theorem dX5_takeShip_14 : decode cX5_takeShip 14 = .ok (.aload_n 0, 1) := by decide +kernel
theorem dX5_takeShip_15 : decode cX5_takeShip 15 = .ok (.getfield 22, 3) := by decide +kernel
theorem dX5_takeShip_18 : decode cX5_takeShip 18 = .ok (.iload_n 1, 1) := by decide +kernel
theorem dX5_takeShip_19 : decode cX5_takeShip 19 = .ok (.iconst 0, 1) := by decide +kernel
theorem dX5_takeShip_20 : decode cX5_takeShip 20 = .ok (.iastore, 1) := by decide +kernel
theorem dX5_takeShip_21 : decode cX5_takeShip 21 = .ok (.aload_n 0, 1) := by decide +kernel
theorem dX5_takeShip_22 : decode cX5_takeShip 22 = .ok (.getfield 25, 3) := by decide +kernel
theorem dX5_takeShip_25 : decode cX5_takeShip 25 = .ok (.iload_n 1, 1) := by decide +kernel
theorem dX5_takeShip_26 : decode cX5_takeShip 26 = .ok (.iconst 0, 1) := by decide +kernel
theorem dX5_takeShip_27 : decode cX5_takeShip 27 = .ok (.iastore, 1) := by decide +kernel
theorem dX5_takeShip_28 : decode cX5_takeShip 28 = .ok (.aload_n 0, 1) := by decide +kernel
theorem dX5_takeShip_29 : decode cX5_takeShip 29 = .ok (.getfield 28, 3) := by decide +kernel
theorem dX5_takeShip_32 : decode cX5_takeShip 32 = .ok (.iload_n 1, 1) := by decide +kernel
theorem dX5_takeShip_33 : decode cX5_takeShip 33 = .ok (.iconst 0, 1) := by decide +kernel
theorem dX5_takeShip_34 : decode cX5_takeShip 34 = .ok (.iastore, 1) := by decide +kernel
theorem dX5_takeShip_35 : decode cX5_takeShip 35 = .ok (.return_, 1) := by decide +kernel
set_option maxRecDepth 100000 in
set_option maxHeartbeats 4000000 in
theorem C_X5_takeShip (l : Launch) (E : gE) (x : gX) {o : Nat} (ho : gOk o) {v1 : Int32} {M : gM} {M' : gM} (hf : f_X5_takeShip o v1 M = some M') : gM0 l E yX5_takeShip (.code yX5_takeShip cX5_takeShip 2 none) (gR 1 20) M x [.ref (E.2.1 o), .int v1] none M' := by
  refine gMet (by decide +kernel) (Nat.le_of_ble_eq_true rfl) ?_
  intro p e s m args below meth c H locs ls Q hC hl hI kr kv
  replace hC : gC p s m args c cX5_takeShip 2 RX5 E := hC
  replace hl : lv_has ls 2 [(0, .ref (E.2.1 o)), (1, .int v1)] := hl
  have hx := hC.1
  have hb := hC.2.1
  unfold f_X5_takeShip at hf
  refine lv_iload_n hx hb dX5_takeShip_0 rfl (lv_at hl 1 rfl) ?_
  obtain ⟨r1, hr2, hf⟩ := gbind hf
  have hr2 := C_X6_isBerth l E x  hr2
  refine g_callSNi (rest := []) hC hI hr2 Y_X6_isBerth S_X6_isBerth (List.mem_of_getElem? (i := 6) rfl) ⟨rfl, rfl⟩ ⟨Nat.le_of_ble_eq_true rfl, Nat.le_of_ble_eq_true rfl⟩ rfl hl.1 rfl (Nat.le_of_ble_eq_true rfl) dX5_takeShip_1 ⟨Nat.le_of_ble_eq_true rfl, Nat.le_of_ble_eq_true rfl⟩ (fun H locs hI => ?_)
  refine lv_if_eq (tgt := 35) hx hb dX5_takeShip_4 rfl (fun h3 => ?_) (fun h3 => ?_)
  · replace hf := gif h3 hf
    exact kv _ _ _ _ _ (grv hf) hI rfl dX5_takeShip_35
  · replace hf := gifn h3 hf
    refine lv_aload_n hx hb dX5_takeShip_7 rfl (lv_at hl 0 rfl) ?_
    refine gt_X5_X5_draughts hC hI ho dX5_takeShip_8 ?_
    refine lv_iload_n hx hb dX5_takeShip_11 rfl (lv_at hl 1 rfl) ?_
    refine lv_iconst (v := 0) hx hb dX5_takeShip_12 (by decide) ?_
    obtain ⟨h4, hf⟩ := gifN hf
    obtain ⟨M5, eM5, hf⟩ := glet hf
    refine g_iast hC hI (k := v1.toNatClampNeg) (gIA_8 ho) h4 rfl dX5_takeShip_13 (fun H locs hI => ?_)
    replace hI := g_mem eM5 hI
    refine lv_aload_n hx hb dX5_takeShip_14 rfl (lv_at hl 0 rfl) ?_
    refine gt_X5_X5_dueHours hC hI ho dX5_takeShip_15 ?_
    refine lv_iload_n hx hb dX5_takeShip_18 rfl (lv_at hl 1 rfl) ?_
    refine lv_iconst (v := 0) hx hb dX5_takeShip_19 (by decide) ?_
    obtain ⟨h6, hf⟩ := gifN hf
    obtain ⟨M7, eM7, hf⟩ := glet hf
    refine g_iast hC hI (k := v1.toNatClampNeg) (gIA_9 ho) h6 rfl dX5_takeShip_20 (fun H locs hI => ?_)
    replace hI := g_mem eM7 hI
    refine lv_aload_n hx hb dX5_takeShip_21 rfl (lv_at hl 0 rfl) ?_
    refine gt_X5_X5_wrongs hC hI ho dX5_takeShip_22 ?_
    refine lv_iload_n hx hb dX5_takeShip_25 rfl (lv_at hl 1 rfl) ?_
    refine lv_iconst (v := 0) hx hb dX5_takeShip_26 (by decide) ?_
    obtain ⟨h8, hf⟩ := gifN hf
    obtain ⟨M9, eM9, hf⟩ := glet hf
    refine g_iast hC hI (k := v1.toNatClampNeg) (gIA_10 ho) h8 rfl dX5_takeShip_27 (fun H locs hI => ?_)
    replace hI := g_mem eM9 hI
    refine lv_aload_n hx hb dX5_takeShip_28 rfl (lv_at hl 0 rfl) ?_
    refine gt_X5_X5_locks hC hI ho dX5_takeShip_29 ?_
    refine lv_iload_n hx hb dX5_takeShip_32 rfl (lv_at hl 1 rfl) ?_
    refine lv_iconst (v := 0) hx hb dX5_takeShip_33 (by decide) ?_
    obtain ⟨h10, hf⟩ := gifN hf
    obtain ⟨M11, eM11, hf⟩ := glet hf
    refine g_iast hC hI (k := v1.toNatClampNeg) (gIA_11 ho) h10 rfl dX5_takeShip_34 (fun H locs hI => ?_)
    replace hI := g_mem eM11 hI
    exact kv _ _ _ _ _ (grv hf) hI rfl dX5_takeShip_35
theorem dX6_leave_0 : decode cX6_leave 0 = .ok (.aload_n 0, 1) := by decide +kernel
theorem dX6_leave_1 : decode cX6_leave 1 = .ok (.getfield 10, 3) := by decide +kernel
theorem dX6_leave_4 : decode cX6_leave 4 = .ok (.iload_n 1, 1) := by decide +kernel
theorem dX6_leave_5 : decode cX6_leave 5 = .ok (.invokevirtual 117, 3) := by decide +kernel
theorem dX6_leave_8 : decode cX6_leave 8 = .ok (.invokestatic 65, 3) := by decide +kernel
theorem dX6_leave_11 : decode cX6_leave 11 = .ok (.aload_n 0, 1) := by decide +kernel
theorem dX6_leave_12 : decode cX6_leave 12 = .ok (.getfield 29, 3) := by decide +kernel
theorem dX6_leave_15 : decode cX6_leave 15 = .ok (.aload_n 0, 1) := by decide +kernel
theorem dX6_leave_16 : decode cX6_leave 16 = .ok (.getfield 10, 3) := by decide +kernel
theorem dX6_leave_19 : decode cX6_leave 19 = .ok (.invokevirtual 69, 3) := by decide +kernel
theorem dX6_leave_22 : decode cX6_leave 22 = .ok (.aload_n 0, 1) := by decide +kernel
theorem dX6_leave_23 : decode cX6_leave 23 = .ok (.getfield 10, 3) := by decide +kernel
theorem dX6_leave_26 : decode cX6_leave 26 = .ok (.iload_n 1, 1) := by decide +kernel
theorem dX6_leave_27 : decode cX6_leave 27 = .ok (.invokevirtual 120, 3) := by decide +kernel
theorem dX6_leave_30 : decode cX6_leave 30 = .ok (.aload_n 0, 1) := by decide +kernel
theorem dX6_leave_31 : decode cX6_leave 31 = .ok (.getfield 10, 3) := by decide +kernel
theorem dX6_leave_34 : decode cX6_leave 34 = .ok (.invokevirtual 77, 3) := by decide +kernel
theorem dX6_leave_37 : decode cX6_leave 37 = .ok (.ireturn, 1) := by decide +kernel
set_option maxRecDepth 100000 in
set_option maxHeartbeats 4000000 in
theorem C_X6_leave (l : Launch) (hst : l.stackTraces = false) (E : gE) (x : gX) {v1 : Int32} {M : gM} {oc : String ⊕ Int32} {M' : gM} (hf : f_X6_leave v1 M = some (oc, M')) : gX0 l E yX6_leave (.code yX6_leave cX6_leave 2 (some .int)) (gRX 7 124 1 6) M x [.ref (E.2.1 132), .int v1] (gO oc) M' 1 6 := by
  refine gMetX hst (by decide +kernel) (Nat.le_of_ble_eq_true rfl) ?_
  intro p e s m args below meth c H locs ls Q hC hl hI kr kv kx kt kd kf
  replace hC : gC p s m args c cX6_leave 2 RX6 E := hC
  replace hl : lv_has ls 2 [(0, .ref (E.2.1 132)), (1, .int v1)] := hl
  have hx := hC.1
  have hb := hC.2.1
  unfold f_X6_leave at hf
  refine lv_aload_n hx hb dX6_leave_0 rfl (lv_at hl 0 rfl) ?_
  refine gt_X6_X6_now hC hI dX6_leave_1 ?_
  refine lv_iload_n hx hb dX6_leave_4 rfl (lv_at hl 1 rfl) ?_
  obtain ⟨r1, hr2, hf⟩ := gbind hf
  have hr2 := C_X5_leavingFault l E x gOk_0 hr2
  refine g_callVi (rest := []) hC hI hr2 Y_X5_leavingFault V_X5_leavingFault w511 (rcv_X5 hC hI gOk_0) ⟨rfl, rfl⟩ ⟨Nat.le_of_ble_eq_true rfl, Nat.le_of_ble_eq_true rfl⟩ rfl hl.1 rfl (Nat.le_of_ble_eq_true rfl) dX6_leave_5 ⟨Nat.le_of_ble_eq_true rfl, Nat.le_of_ble_eq_true rfl⟩ (fun H locs hI => ?_)
  rcases gseq hf with ⟨er, Mr, hr4, hf⟩ | ⟨_, M5, hr4, hf⟩
  · replace hr4 := C_X6_raise l hst E x  hr4
    exact g_xSx (rest := []) hC hI hr4 Y_X6_raise S_X6_raise w255 ⟨rfl, rfl⟩ ⟨Nat.le_of_ble_eq_true rfl, Nat.le_of_ble_eq_true rfl⟩ rfl hl.1 rfl (Nat.le_of_ble_eq_true rfl) dX6_leave_8 ⟨Nat.le_of_ble_eq_true rfl, Nat.le_of_ble_eq_true rfl⟩ (fun ce q H locs hI h1 h2 h3 => kx _ _ _ _ _ _ _ _ _ _ _ (gtx hf) hI h1 h2 h3 ⟨Nat.le_of_ble_eq_true rfl, Nat.le_of_ble_eq_true rfl⟩)
  replace hr4 := C_X6_raise l hst E x  hr4
  refine g_xSv (rest := []) hC hI hr4 Y_X6_raise S_X6_raise w255 ⟨rfl, rfl⟩ ⟨Nat.le_of_ble_eq_true rfl, Nat.le_of_ble_eq_true rfl⟩ rfl hl.1 rfl (Nat.le_of_ble_eq_true rfl) dX6_leave_8 ⟨Nat.le_of_ble_eq_true rfl, Nat.le_of_ble_eq_true rfl⟩ (fun H locs hI => ?_)
  refine lv_aload_n hx hb dX6_leave_11 rfl (lv_at hl 0 rfl) ?_
  refine gt_X6_X6_history hC hI dX6_leave_12 ?_
  refine lv_aload_n hx hb dX6_leave_15 rfl (lv_at hl 0 rfl) ?_
  refine gt_X6_X6_now hC hI dX6_leave_16 ?_
  obtain ⟨r6, hr7, hf⟩ := gbind hf
  have hr7 := C_X1_push l E x gOk_0 hr7
  refine g_callVv (rest := []) hC hI hr7 Y_X1_push V_X1_push w377 (rcv_X1 hC hI) ⟨rfl, rfl⟩ ⟨Nat.le_of_ble_eq_true rfl, Nat.le_of_ble_eq_true rfl⟩ rfl hl.1 rfl (Nat.le_of_ble_eq_true rfl) dX6_leave_19 ⟨Nat.le_of_ble_eq_true rfl, Nat.le_of_ble_eq_true rfl⟩ (fun H locs hI => ?_)
  refine lv_aload_n hx hb dX6_leave_22 rfl (lv_at hl 0 rfl) ?_
  refine gt_X6_X6_now hC hI dX6_leave_23 ?_
  refine lv_iload_n hx hb dX6_leave_26 rfl (lv_at hl 1 rfl) ?_
  obtain ⟨r8, hr9, hf⟩ := gbind hf
  have hr9 := C_X5_takeShip l E x gOk_0 hr9
  refine g_callVv (rest := []) hC hI hr9 Y_X5_takeShip V_X5_takeShip w530 (rcv_X5 hC hI gOk_0) ⟨rfl, rfl⟩ ⟨Nat.le_of_ble_eq_true rfl, Nat.le_of_ble_eq_true rfl⟩ rfl hl.1 rfl (Nat.le_of_ble_eq_true rfl) dX6_leave_27 ⟨Nat.le_of_ble_eq_true rfl, Nat.le_of_ble_eq_true rfl⟩ (fun H locs hI => ?_)
  refine lv_aload_n hx hb dX6_leave_30 rfl (lv_at hl 0 rfl) ?_
  refine gt_X6_X6_now hC hI dX6_leave_31 ?_
  obtain ⟨r10, hr11, hf⟩ := gbind hf
  have hr11 := C_X5_ships l E x gOk_0 hr11
  refine g_callVi (rest := []) hC hI hr11 Y_X5_ships V_X5_ships w534 (rcv_X5 hC hI gOk_0) ⟨rfl, rfl⟩ ⟨Nat.le_of_ble_eq_true rfl, Nat.le_of_ble_eq_true rfl⟩ rfl hl.1 rfl (Nat.le_of_ble_eq_true rfl) dX6_leave_34 ⟨Nat.le_of_ble_eq_true rfl, Nat.le_of_ble_eq_true rfl⟩ (fun H locs hI => ?_)
  exact kr _ _ _ _ _ _ _ _ (gre hf) hI ⟨.int, rfl, rfl⟩ ⟨Nat.le_of_ble_eq_true rfl, Nat.le_of_ble_eq_true rfl⟩ dX6_leave_37
theorem dX6_passingFault_0 : decode cX6_passingFault 0 = .ok (.iload_n 0, 1) := by decide +kernel
theorem dX6_passingFault_1 : decode cX6_passingFault 1 = .ok (.iconst 1, 1) := by decide +kernel
theorem dX6_passingFault_2 : decode cX6_passingFault 2 = .ok (.if_icmp .lt 9, 3) := by decide +kernel
theorem dX6_passingFault_5 : decode cX6_passingFault 5 = .ok (.iload_n 0, 1) := by decide +kernel
theorem dX6_passingFault_6 : decode cX6_passingFault 6 = .ok (.bipush 100, 2) := by decide +kernel
theorem dX6_passingFault_8 : decode cX6_passingFault 8 = .ok (.if_icmp .le 7, 3) := by decide +kernel
theorem dX6_passingFault_11 : decode cX6_passingFault 11 = .ok (.iconst 2, 1) := by decide +kernel
theorem dX6_passingFault_12 : decode cX6_passingFault 12 = .ok (.goto 4, 3) := by decide +kernel
theorem dX6_passingFault_15 : decode cX6_passingFault 15 = .ok (.iconst 0, 1) := by decide +kernel
theorem dX6_passingFault_16 : decode cX6_passingFault 16 = .ok (.ireturn, 1) := by decide +kernel
set_option maxRecDepth 100000 in
set_option maxHeartbeats 4000000 in
theorem C_X6_passingFault (l : Launch) (E : gE) (x : gX) {v0 : Int32} {M : gM} {r : Int32} (hf : f_X6_passingFault v0 M = some r) : gM0 l E yX6_passingFault (.code yX6_passingFault cX6_passingFault 1 (some .int)) (gR 0 0) M x [.int v0] (some (.int r)) M := by
  refine gMet (by decide +kernel) (Nat.le_of_ble_eq_true rfl) ?_
  intro p e s m args below meth c H locs ls Q hC hl hI kr kv
  replace hC : gC p s m args c cX6_passingFault 1 RX6 E := hC
  replace hl : lv_has ls 1 [(0, .int v0)] := hl
  have hx := hC.1
  have hb := hC.2.1
  unfold f_X6_passingFault at hf
  refine lv_iload_n hx hb dX6_passingFault_0 rfl (lv_at hl 0 rfl) ?_
  refine lv_iconst (v := 1) hx hb dX6_passingFault_1 (by decide) ?_
  refine lv_icmp_lt (tgt := 11) hx hb dX6_passingFault_2 rfl (fun h1 => ?_) (fun h1 => ?_)
  · replace hf := gif h1 hf
    refine lv_iconst (v := 2) hx hb dX6_passingFault_11 (by decide) ?_
    refine lv_goto (tgt := 16) hx hb dX6_passingFault_12 rfl ?_
    exact kr _ _ _ _ _ _ (gri hf) hI ⟨.int, rfl, rfl⟩ dX6_passingFault_16
  · replace hf := gifn h1 hf
    refine lv_iload_n hx hb dX6_passingFault_5 rfl (lv_at hl 0 rfl) ?_
    refine lv_bipush (v := 100) hx hb dX6_passingFault_6 (by decide) ?_
    refine lv_icmp_le (tgt := 15) hx hb dX6_passingFault_8 rfl (fun h2 => ?_) (fun h2 => ?_)
    · replace hf := gif h2 hf
      refine lv_iconst (v := 0) hx hb dX6_passingFault_15 (by decide) ?_
      exact kr _ _ _ _ _ _ (gri hf) hI ⟨.int, rfl, rfl⟩ dX6_passingFault_16
    · replace hf := gifn h2 hf
      refine lv_iconst (v := 2) hx hb dX6_passingFault_11 (by decide) ?_
      refine lv_goto (tgt := 16) hx hb dX6_passingFault_12 rfl ?_
      exact kr _ _ _ _ _ _ (gri hf) hI ⟨.int, rfl, rfl⟩ dX6_passingFault_16
theorem dX5_letHourPass_0 : decode cX5_letHourPass 0 = .ok (.iconst 0, 1) := by decide +kernel
theorem dX5_letHourPass_1 : decode cX5_letHourPass 1 = .ok (.istore_n 1, 1) := by decide +kernel
theorem dX5_letHourPass_2 : decode cX5_letHourPass 2 = .ok (.aload_n 0, 1) := by decide +kernel
theorem dX5_letHourPass_3 : decode cX5_letHourPass 3 = .ok (.dup, 1) := by decide +kernel
theorem dX5_letHourPass_4 : decode cX5_letHourPass 4 = .ok (.getfield 31, 3) := by decide +kernel
theorem dX5_letHourPass_7 : decode cX5_letHourPass 7 = .ok (.iconst 1, 1) := by decide +kernel
theorem dX5_letHourPass_8 : decode cX5_letHourPass 8 = .ok (.iadd, 1) := by decide +kernel
theorem dX5_letHourPass_9 : decode cX5_letHourPass 9 = .ok (.putfield 31, 3) := by decide +kernel
theorem dX5_letHourPass_12 : decode cX5_letHourPass 12 = .ok (.iconst 0, 1) := by decide +kernel
theorem dX5_letHourPass_13 : decode cX5_letHourPass 13 = .ok (.istore_n 2, 1) := by decide +kernel
theorem dX5_letHourPass_14 : decode cX5_letHourPass 14 = .ok (.iload_n 2, 1) := by decide +kernel
theorem dX5_letHourPass_15 : decode cX5_letHourPass 15 = .ok (.iconst 3, 1) := by decide +kernel
theorem dX5_letHourPass_16 : decode cX5_letHourPass 16 = .ok (.if_icmp .ge 62, 3) := by decide +kernel
theorem dX5_letHourPass_19 : decode cX5_letHourPass 19 = .ok (.aload_n 0, 1) := by decide +kernel
theorem dX5_letHourPass_20 : decode cX5_letHourPass 20 = .ok (.getfield 28, 3) := by decide +kernel
theorem dX5_letHourPass_23 : decode cX5_letHourPass 23 = .ok (.iload_n 2, 1) := by decide +kernel
theorem dX5_letHourPass_24 : decode cX5_letHourPass 24 = .ok (.iaload, 1) := by decide +kernel
theorem dX5_letHourPass_25 : decode cX5_letHourPass 25 = .ok (.ifCond .le 13, 3) := by decide +kernel
theorem dX5_letHourPass_28 : decode cX5_letHourPass 28 = .ok (.aload_n 0, 1) := by decide +kernel
theorem dX5_letHourPass_29 : decode cX5_letHourPass 29 = .ok (.getfield 28, 3) := by decide +kernel
theorem dX5_letHourPass_32 : decode cX5_letHourPass 32 = .ok (.iload_n 2, 1) := by decide +kernel
theorem dX5_letHourPass_33 : decode cX5_letHourPass 33 = .ok (.dup2, 1) := by decide +kernel
theorem dX5_letHourPass_34 : decode cX5_letHourPass 34 = .ok (.iaload, 1) := by decide +kernel
theorem dX5_letHourPass_35 : decode cX5_letHourPass 35 = .ok (.iconst 1, 1) := by decide +kernel
theorem dX5_letHourPass_36 : decode cX5_letHourPass 36 = .ok (.isub, 1) := by decide +kernel
theorem dX5_letHourPass_37 : decode cX5_letHourPass 37 = .ok (.iastore, 1) := by decide +kernel
theorem dX5_letHourPass_38 : decode cX5_letHourPass 38 = .ok (.aload_n 0, 1) := by decide +kernel
theorem dX5_letHourPass_39 : decode cX5_letHourPass 39 = .ok (.iload_n 2, 1) := by decide +kernel
theorem dX5_letHourPass_40 : decode cX5_letHourPass 40 = .ok (.invokevirtual 64, 3) := by decide +kernel
theorem dX5_letHourPass_43 : decode cX5_letHourPass 43 = .ok (.ifCond .eq 29, 3) := by decide +kernel
theorem dX5_letHourPass_46 : decode cX5_letHourPass 46 = .ok (.aload_n 0, 1) := by decide +kernel
theorem dX5_letHourPass_47 : decode cX5_letHourPass 47 = .ok (.getfield 22, 3) := by decide +kernel
theorem dX5_letHourPass_50 : decode cX5_letHourPass 50 = .ok (.iload_n 2, 1) := by decide +kernel
theorem dX5_letHourPass_51 : decode cX5_letHourPass 51 = .ok (.iaload, 1) := by decide +kernel
theorem dX5_letHourPass_52 : decode cX5_letHourPass 52 = .ok (.aload_n 0, 1) := by decide +kernel
theorem dX5_letHourPass_53 : decode cX5_letHourPass 53 = .ok (.getfield 31, 3) := by decide +kernel
theorem dX5_letHourPass_56 : decode cX5_letHourPass 56 = .ok (.if_icmp .ge 16, 3) := by decide +kernel
theorem dX5_letHourPass_59 : decode cX5_letHourPass 59 = .ok (.iload_n 1, 1) := by decide +kernel
theorem dX5_letHourPass_60 : decode cX5_letHourPass 60 = .ok (.aload_n 0, 1) := by decide +kernel
theorem dX5_letHourPass_61 : decode cX5_letHourPass 61 = .ok (.getfield 12, 3) := by decide +kernel
theorem dX5_letHourPass_64 : decode cX5_letHourPass 64 = .ok (.iload_n 2, 1) := by decide +kernel
theorem dX5_letHourPass_65 : decode cX5_letHourPass 65 = .ok (.invokevirtual 105, 3) := by decide +kernel
theorem dX5_letHourPass_68 : decode cX5_letHourPass 68 = .ok (.iconst 1, 1) := by decide +kernel
theorem dX5_letHourPass_69 : decode cX5_letHourPass 69 = .ok (.iadd, 1) := by decide +kernel
theorem dX5_letHourPass_70 : decode cX5_letHourPass 70 = .ok (.iadd, 1) := by decide +kernel
theorem dX5_letHourPass_71 : decode cX5_letHourPass 71 = .ok (.istore_n 1, 1) := by decide +kernel
theorem dX5_letHourPass_72 : decode cX5_letHourPass 72 = .ok (.iinc 2 1, 3) := by decide +kernel
theorem dX5_letHourPass_75 : decode cX5_letHourPass 75 = .ok (.goto (-61), 3) := by decide +kernel
theorem dX5_letHourPass_78 : decode cX5_letHourPass 78 = .ok (.aload_n 0, 1) := by decide +kernel
theorem dX5_letHourPass_79 : decode cX5_letHourPass 79 = .ok (.dup, 1) := by decide +kernel
theorem dX5_letHourPass_80 : decode cX5_letHourPass 80 = .ok (.getfield 35, 3) := by decide +kernel
theorem dX5_letHourPass_83 : decode cX5_letHourPass 83 = .ok (.iload_n 1, 1) := by decide +kernel
theorem dX5_letHourPass_84 : decode cX5_letHourPass 84 = .ok (.iadd, 1) := by decide +kernel
theorem dX5_letHourPass_85 : decode cX5_letHourPass 85 = .ok (.putfield 35, 3) := by decide +kernel
theorem dX5_letHourPass_88 : decode cX5_letHourPass 88 = .ok (.iload_n 1, 1) := by decide +kernel
theorem dX5_letHourPass_89 : decode cX5_letHourPass 89 = .ok (.ireturn, 1) := by decide +kernel
set_option maxRecDepth 100000 in
set_option maxHeartbeats 4000000 in
theorem C_X5_letHourPass (l : Launch) (E : gE) (x : gX) {o : Nat} (ho : gOk o) {M : gM} {r : Int32} {M' : gM} (hf : f_X5_letHourPass o M = some (r, M')) : gM0 l E yX5_letHourPass (.code yX5_letHourPass cX5_letHourPass 3 (some .int)) (gR 2 46) M x [.ref (E.2.1 o)] (some (.int r)) M' := by
  refine gMet (by decide +kernel) (Nat.le_of_ble_eq_true rfl) ?_
  intro p e s m args below meth c H locs ls Q hC hl hI kr kv
  replace hC : gC p s m args c cX5_letHourPass 3 RX5 E := hC
  replace hl : lv_has ls 3 [(0, .ref (E.2.1 o))] := hl
  have hx := hC.1
  have hb := hC.2.1
  have L14 : ∀ (n : Nat) (v2 : Int32) (v1 : Int32) (M : gM), f_X5_letHourPass_L14 o n v2 v1 M = some (r, M') → ∀ (H : Heap) (locs : List Loc) (ls : Array Slot), gI E s M x H locs → lv_has ls 3 [(2, .int v2), (1, .int v1), (0, .ref (E.2.1 o))] → W p l e (gR 2 46) s m args below meth c H locs 0 0 Q (F0 m 14 ls []) := by
    intro  n
    induction n with
    | zero => intro v2 v1 M hf; rw [f_X5_letHourPass_L14] at hf; cases hf
    | succ n ih =>
      intro v2 v1 M hf H locs ls hI hl
      rw [f_X5_letHourPass_L14] at hf
      refine lv_iload_n hx hb dX5_letHourPass_14 rfl (lv_at hl 0 rfl) ?_
      refine lv_iconst (v := 3) hx hb dX5_letHourPass_15 (by decide) ?_
      refine lv_icmp_ge (tgt := 78) hx hb dX5_letHourPass_16 rfl (fun h2 => ?_) (fun h2 => ?_)
      · replace hf := gif h2 hf
        refine lv_aload_n hx hb dX5_letHourPass_78 rfl (lv_at hl 2 rfl) ?_
        refine lv_dup hx hb dX5_letHourPass_79 rfl ?_
        refine gt_X5_X5_fees hC hI ho dX5_letHourPass_80 ?_
        refine lv_iload_n hx hb dX5_letHourPass_83 rfl (lv_at hl 1 rfl) ?_
        refine lv_iadd hx hb dX5_letHourPass_84 ?_
        obtain ⟨M3, eM3, hf⟩ := glet hf
        refine pt_X5_X5_fees hC hI ho dX5_letHourPass_85 (fun H locs hI => ?_)
        replace hI := g_mem eM3 hI
        refine lv_iload_n hx hb dX5_letHourPass_88 rfl (lv_at hl 1 rfl) ?_
        exact kr _ _ _ _ _ _ (grw hf) hI ⟨.int, rfl, rfl⟩ dX5_letHourPass_89
      · replace hf := gifn h2 hf
        refine lv_aload_n hx hb dX5_letHourPass_19 rfl (lv_at hl 2 rfl) ?_
        refine gt_X5_X5_locks hC hI ho dX5_letHourPass_20 ?_
        refine lv_iload_n hx hb dX5_letHourPass_23 rfl (lv_at hl 0 rfl) ?_
        obtain ⟨h4, hf⟩ := gifN hf
        refine g_iald hC hI (k := v2.toNatClampNeg) (gIA_11 ho) h4 rfl dX5_letHourPass_24 ?_
        refine lv_if_le (tgt := 38) hx hb dX5_letHourPass_25 rfl (fun h5 => ?_) (fun h5 => ?_)
        · replace hf := gif h5 hf
          refine lv_aload_n hx hb dX5_letHourPass_38 rfl (lv_at hl 2 rfl) ?_
          refine lv_iload_n hx hb dX5_letHourPass_39 rfl (lv_at hl 0 rfl) ?_
          obtain ⟨r6, hr7, hf⟩ := gbind hf
          have hr7 := C_X5_hasShip l E x ho hr7
          refine g_callVi (rest := []) hC hI hr7 Y_X5_hasShip V_X5_hasShip w251 (rcv_X5 hC hI ho) ⟨rfl, rfl⟩ ⟨Nat.le_of_ble_eq_true rfl, Nat.le_of_ble_eq_true rfl⟩ rfl hl.1 rfl (Nat.le_of_ble_eq_true rfl) dX5_letHourPass_40 ⟨Nat.le_of_ble_eq_true rfl, Nat.le_of_ble_eq_true rfl⟩ (fun H locs hI => ?_)
          refine lv_if_eq (tgt := 72) hx hb dX5_letHourPass_43 rfl (fun h8 => ?_) (fun h8 => ?_)
          · replace hf := gif h8 hf
            refine lv_iinc (k := 0) (v := v2 + 1) (lv' := [(2, .int (v2 + 1)), (1, .int v1), (0, .ref (E.2.1 o))]) hx hb dX5_letHourPass_72 hl rfl rfl (by decide) rfl (fun ls hl => ?_)
            refine lv_goto (tgt := 14) hx hb dX5_letHourPass_75 rfl ?_
            exact ih (v2 + 1) v1 M hf _ _ _ hI (lv_sub hl [0, 1, 2] rfl)
          · replace hf := gifn h8 hf
            refine lv_aload_n hx hb dX5_letHourPass_46 rfl (lv_at hl 2 rfl) ?_
            refine gt_X5_X5_dueHours hC hI ho dX5_letHourPass_47 ?_
            refine lv_iload_n hx hb dX5_letHourPass_50 rfl (lv_at hl 0 rfl) ?_
            obtain ⟨h9, hf⟩ := gifN hf
            refine g_iald hC hI (k := v2.toNatClampNeg) (gIA_9 ho) h9 rfl dX5_letHourPass_51 ?_
            refine lv_aload_n hx hb dX5_letHourPass_52 rfl (lv_at hl 2 rfl) ?_
            refine gt_X5_X5_hour hC hI ho dX5_letHourPass_53 ?_
            refine lv_icmp_ge (tgt := 72) hx hb dX5_letHourPass_56 rfl (fun h10 => ?_) (fun h10 => ?_)
            · replace hf := gif h10 hf
              refine lv_iinc (k := 0) (v := v2 + 1) (lv' := [(2, .int (v2 + 1)), (1, .int v1), (0, .ref (E.2.1 o))]) hx hb dX5_letHourPass_72 hl rfl rfl (by decide) rfl (fun ls hl => ?_)
              refine lv_goto (tgt := 14) hx hb dX5_letHourPass_75 rfl ?_
              exact ih (v2 + 1) v1 M hf _ _ _ hI (lv_sub hl [0, 1, 2] rfl)
            · replace hf := gifn h10 hf
              refine lv_iload_n hx hb dX5_letHourPass_59 rfl (lv_at hl 1 rfl) ?_
              refine lv_aload_n hx hb dX5_letHourPass_60 rfl (lv_at hl 2 rfl) ?_
              refine gt_X5_X5_cargo hC hI ho dX5_letHourPass_61 ?_
              refine lv_iload_n hx hb dX5_letHourPass_64 rfl (lv_at hl 0 rfl) ?_
              obtain ⟨r11, hr12, hf⟩ := gbind hf
              have hr12 := C_X0_loadOf l E x ho hr12
              refine g_callVi (rest := [.int v1]) hC hI hr12 Y_X0_loadOf V_X0_loadOf w515 (rcv_X0 hC hI ho) ⟨rfl, rfl⟩ ⟨Nat.le_of_ble_eq_true rfl, Nat.le_of_ble_eq_true rfl⟩ rfl hl.1 rfl (Nat.le_of_ble_eq_true rfl) dX5_letHourPass_65 ⟨Nat.le_of_ble_eq_true rfl, Nat.le_of_ble_eq_true rfl⟩ (fun H locs hI => ?_)
              refine lv_iconst (v := 1) hx hb dX5_letHourPass_68 (by decide) ?_
              refine lv_iadd hx hb dX5_letHourPass_69 ?_
              refine lv_iadd hx hb dX5_letHourPass_70 ?_
              obtain ⟨z13, ez13, hf⟩ := glet hf
              refine g_top ez13 ?_
              refine lv_istore_n (lv' := [(1, .int z13), (2, .int v2), (0, .ref (E.2.1 o))]) hx hb dX5_letHourPass_71 rfl hl (by decide) rfl (fun ls hl => ?_)
              refine lv_iinc (k := 1) (v := v2 + 1) (lv' := [(2, .int (v2 + 1)), (1, .int z13), (0, .ref (E.2.1 o))]) hx hb dX5_letHourPass_72 hl rfl rfl (by decide) rfl (fun ls hl => ?_)
              refine lv_goto (tgt := 14) hx hb dX5_letHourPass_75 rfl ?_
              exact ih (v2 + 1) z13 M hf _ _ _ hI (lv_sub hl [0, 1, 2] rfl)
        · replace hf := gifn h5 hf
          refine lv_aload_n hx hb dX5_letHourPass_28 rfl (lv_at hl 2 rfl) ?_
          refine gt_X5_X5_locks hC hI ho dX5_letHourPass_29 ?_
          refine lv_iload_n hx hb dX5_letHourPass_32 rfl (lv_at hl 0 rfl) ?_
          refine lv_dup2_11 hx hb dX5_letHourPass_33 rfl rfl ?_
          obtain ⟨h14, hf⟩ := gifN hf
          refine g_iald hC hI (k := v2.toNatClampNeg) (gIA_11 ho) h14 rfl dX5_letHourPass_34 ?_
          refine lv_iconst (v := 1) hx hb dX5_letHourPass_35 (by decide) ?_
          refine lv_isub hx hb dX5_letHourPass_36 ?_
          obtain ⟨h15, hf⟩ := gifN hf
          obtain ⟨M16, eM16, hf⟩ := glet hf
          refine g_iast hC hI (k := v2.toNatClampNeg) (gIA_11 ho) h15 rfl dX5_letHourPass_37 (fun H locs hI => ?_)
          replace hI := g_mem eM16 hI
          refine lv_aload_n hx hb dX5_letHourPass_38 rfl (lv_at hl 2 rfl) ?_
          refine lv_iload_n hx hb dX5_letHourPass_39 rfl (lv_at hl 0 rfl) ?_
          obtain ⟨r17, hr18, hf⟩ := gbind hf
          have hr18 := C_X5_hasShip l E x ho hr18
          refine g_callVi (rest := []) hC hI hr18 Y_X5_hasShip V_X5_hasShip w251 (rcv_X5 hC hI ho) ⟨rfl, rfl⟩ ⟨Nat.le_of_ble_eq_true rfl, Nat.le_of_ble_eq_true rfl⟩ rfl hl.1 rfl (Nat.le_of_ble_eq_true rfl) dX5_letHourPass_40 ⟨Nat.le_of_ble_eq_true rfl, Nat.le_of_ble_eq_true rfl⟩ (fun H locs hI => ?_)
          refine lv_if_eq (tgt := 72) hx hb dX5_letHourPass_43 rfl (fun h19 => ?_) (fun h19 => ?_)
          · replace hf := gif h19 hf
            refine lv_iinc (k := 0) (v := v2 + 1) (lv' := [(2, .int (v2 + 1)), (1, .int v1), (0, .ref (E.2.1 o))]) hx hb dX5_letHourPass_72 hl rfl rfl (by decide) rfl (fun ls hl => ?_)
            refine lv_goto (tgt := 14) hx hb dX5_letHourPass_75 rfl ?_
            exact ih (v2 + 1) v1 M16 hf _ _ _ hI (lv_sub hl [0, 1, 2] rfl)
          · replace hf := gifn h19 hf
            refine lv_aload_n hx hb dX5_letHourPass_46 rfl (lv_at hl 2 rfl) ?_
            refine gt_X5_X5_dueHours hC hI ho dX5_letHourPass_47 ?_
            refine lv_iload_n hx hb dX5_letHourPass_50 rfl (lv_at hl 0 rfl) ?_
            obtain ⟨h20, hf⟩ := gifN hf
            refine g_iald hC hI (k := v2.toNatClampNeg) (gIA_9 ho) h20 rfl dX5_letHourPass_51 ?_
            refine lv_aload_n hx hb dX5_letHourPass_52 rfl (lv_at hl 2 rfl) ?_
            refine gt_X5_X5_hour hC hI ho dX5_letHourPass_53 ?_
            refine lv_icmp_ge (tgt := 72) hx hb dX5_letHourPass_56 rfl (fun h21 => ?_) (fun h21 => ?_)
            · replace hf := gif h21 hf
              refine lv_iinc (k := 0) (v := v2 + 1) (lv' := [(2, .int (v2 + 1)), (1, .int v1), (0, .ref (E.2.1 o))]) hx hb dX5_letHourPass_72 hl rfl rfl (by decide) rfl (fun ls hl => ?_)
              refine lv_goto (tgt := 14) hx hb dX5_letHourPass_75 rfl ?_
              exact ih (v2 + 1) v1 M16 hf _ _ _ hI (lv_sub hl [0, 1, 2] rfl)
            · replace hf := gifn h21 hf
              refine lv_iload_n hx hb dX5_letHourPass_59 rfl (lv_at hl 1 rfl) ?_
              refine lv_aload_n hx hb dX5_letHourPass_60 rfl (lv_at hl 2 rfl) ?_
              refine gt_X5_X5_cargo hC hI ho dX5_letHourPass_61 ?_
              refine lv_iload_n hx hb dX5_letHourPass_64 rfl (lv_at hl 0 rfl) ?_
              obtain ⟨r22, hr23, hf⟩ := gbind hf
              have hr23 := C_X0_loadOf l E x ho hr23
              refine g_callVi (rest := [.int v1]) hC hI hr23 Y_X0_loadOf V_X0_loadOf w515 (rcv_X0 hC hI ho) ⟨rfl, rfl⟩ ⟨Nat.le_of_ble_eq_true rfl, Nat.le_of_ble_eq_true rfl⟩ rfl hl.1 rfl (Nat.le_of_ble_eq_true rfl) dX5_letHourPass_65 ⟨Nat.le_of_ble_eq_true rfl, Nat.le_of_ble_eq_true rfl⟩ (fun H locs hI => ?_)
              refine lv_iconst (v := 1) hx hb dX5_letHourPass_68 (by decide) ?_
              refine lv_iadd hx hb dX5_letHourPass_69 ?_
              refine lv_iadd hx hb dX5_letHourPass_70 ?_
              obtain ⟨z24, ez24, hf⟩ := glet hf
              refine g_top ez24 ?_
              refine lv_istore_n (lv' := [(1, .int z24), (2, .int v2), (0, .ref (E.2.1 o))]) hx hb dX5_letHourPass_71 rfl hl (by decide) rfl (fun ls hl => ?_)
              refine lv_iinc (k := 1) (v := v2 + 1) (lv' := [(2, .int (v2 + 1)), (1, .int z24), (0, .ref (E.2.1 o))]) hx hb dX5_letHourPass_72 hl rfl rfl (by decide) rfl (fun ls hl => ?_)
              refine lv_goto (tgt := 14) hx hb dX5_letHourPass_75 rfl ?_
              exact ih (v2 + 1) z24 M16 hf _ _ _ hI (lv_sub hl [0, 1, 2] rfl)
  unfold f_X5_letHourPass at hf
  refine lv_iconst (v := 0) hx hb dX5_letHourPass_0 (by decide) ?_
  refine lv_istore_n (lv' := [(1, .int 0), (0, .ref (E.2.1 o))]) hx hb dX5_letHourPass_1 rfl hl (by decide) rfl (fun ls hl => ?_)
  refine lv_aload_n hx hb dX5_letHourPass_2 rfl (lv_at hl 1 rfl) ?_
  refine lv_dup hx hb dX5_letHourPass_3 rfl ?_
  refine gt_X5_X5_hour hC hI ho dX5_letHourPass_4 ?_
  refine lv_iconst (v := 1) hx hb dX5_letHourPass_7 (by decide) ?_
  refine lv_iadd hx hb dX5_letHourPass_8 ?_
  obtain ⟨M1, eM1, hf⟩ := glet hf
  refine pt_X5_X5_hour hC hI ho dX5_letHourPass_9 (fun H locs hI => ?_)
  replace hI := g_mem eM1 hI
  refine lv_iconst (v := 0) hx hb dX5_letHourPass_12 (by decide) ?_
  refine lv_istore_n (lv' := [(2, .int 0), (1, .int 0), (0, .ref (E.2.1 o))]) hx hb dX5_letHourPass_13 rfl hl (by decide) rfl (fun ls hl => ?_)
  exact L14 gF 0 0 M1 hf _ _ _ hI (lv_sub hl [0, 1, 2] rfl)
theorem dX5_letHoursPass_0 : decode cX5_letHoursPass 0 = .ok (.iconst 0, 1) := by decide +kernel
theorem dX5_letHoursPass_1 : decode cX5_letHoursPass 1 = .ok (.istore_n 2, 1) := by decide +kernel
theorem dX5_letHoursPass_2 : decode cX5_letHoursPass 2 = .ok (.iconst 0, 1) := by decide +kernel
theorem dX5_letHoursPass_3 : decode cX5_letHoursPass 3 = .ok (.istore_n 3, 1) := by decide +kernel
theorem dX5_letHoursPass_4 : decode cX5_letHoursPass 4 = .ok (.iload_n 3, 1) := by decide +kernel
theorem dX5_letHoursPass_5 : decode cX5_letHoursPass 5 = .ok (.iload_n 1, 1) := by decide +kernel
theorem dX5_letHoursPass_6 : decode cX5_letHoursPass 6 = .ok (.if_icmp .ge 16, 3) := by decide +kernel
theorem dX5_letHoursPass_9 : decode cX5_letHoursPass 9 = .ok (.iload_n 2, 1) := by decide +kernel
theorem dX5_letHoursPass_10 : decode cX5_letHoursPass 10 = .ok (.aload_n 0, 1) := by decide +kernel
theorem dX5_letHoursPass_11 : decode cX5_letHoursPass 11 = .ok (.invokevirtual 112, 3) := by decide +kernel
theorem dX5_letHoursPass_14 : decode cX5_letHoursPass 14 = .ok (.iadd, 1) := by decide +kernel
theorem dX5_letHoursPass_15 : decode cX5_letHoursPass 15 = .ok (.istore_n 2, 1) := by decide +kernel
theorem dX5_letHoursPass_16 : decode cX5_letHoursPass 16 = .ok (.iinc 3 1, 3) := by decide +kernel
theorem dX5_letHoursPass_19 : decode cX5_letHoursPass 19 = .ok (.goto (-15), 3) := by decide +kernel
theorem dX5_letHoursPass_22 : decode cX5_letHoursPass 22 = .ok (.iload_n 2, 1) := by decide +kernel
theorem dX5_letHoursPass_23 : decode cX5_letHoursPass 23 = .ok (.ireturn, 1) := by decide +kernel
set_option maxRecDepth 100000 in
set_option maxHeartbeats 4000000 in
theorem C_X5_letHoursPass (l : Launch) (E : gE) (x : gX) {o : Nat} (ho : gOk o) {v1 : Int32} {M : gM} {r : Int32} {M' : gM} (hf : f_X5_letHoursPass o v1 M = some (r, M')) : gM0 l E yX5_letHoursPass (.code yX5_letHoursPass cX5_letHoursPass 4 (some .int)) (gR 3 68) M x [.ref (E.2.1 o), .int v1] (some (.int r)) M' := by
  refine gMet (by decide +kernel) (Nat.le_of_ble_eq_true rfl) ?_
  intro p e s m args below meth c H locs ls Q hC hl hI kr kv
  replace hC : gC p s m args c cX5_letHoursPass 4 RX5 E := hC
  replace hl : lv_has ls 4 [(0, .ref (E.2.1 o)), (1, .int v1)] := hl
  have hx := hC.1
  have hb := hC.2.1
  have L4 : ∀ (v1 : Int32) (n : Nat) (v3 : Int32) (v2 : Int32) (M : gM), f_X5_letHoursPass_L4 o v1 n v3 v2 M = some (r, M') → ∀ (H : Heap) (locs : List Loc) (ls : Array Slot), gI E s M x H locs → lv_has ls 4 [(3, .int v3), (2, .int v2), (0, .ref (E.2.1 o)), (1, .int v1)] → W p l e (gR 3 68) s m args below meth c H locs 0 0 Q (F0 m 4 ls []) := by
    intro v1 n
    induction n with
    | zero => intro v3 v2 M hf; rw [f_X5_letHoursPass_L4] at hf; cases hf
    | succ n ih =>
      intro v3 v2 M hf H locs ls hI hl
      rw [f_X5_letHoursPass_L4] at hf
      refine lv_iload_n hx hb dX5_letHoursPass_4 rfl (lv_at hl 0 rfl) ?_
      refine lv_iload_n hx hb dX5_letHoursPass_5 rfl (lv_at hl 3 rfl) ?_
      refine lv_icmp_ge (tgt := 22) hx hb dX5_letHoursPass_6 rfl (fun h1 => ?_) (fun h1 => ?_)
      · replace hf := gif h1 hf
        refine lv_iload_n hx hb dX5_letHoursPass_22 rfl (lv_at hl 1 rfl) ?_
        exact kr _ _ _ _ _ _ (grw hf) hI ⟨.int, rfl, rfl⟩ dX5_letHoursPass_23
      · replace hf := gifn h1 hf
        refine lv_iload_n hx hb dX5_letHoursPass_9 rfl (lv_at hl 1 rfl) ?_
        refine lv_aload_n hx hb dX5_letHoursPass_10 rfl (lv_at hl 2 rfl) ?_
        obtain ⟨r2, hr3, hf⟩ := gbind hf
        have hr3 := C_X5_letHourPass l E x ho hr3
        refine g_callVi (rest := [.int v2]) hC hI hr3 Y_X5_letHourPass V_X5_letHourPass w549 (rcv_X5 hC hI ho) ⟨rfl, rfl⟩ ⟨Nat.le_of_ble_eq_true rfl, Nat.le_of_ble_eq_true rfl⟩ rfl hl.1 rfl (Nat.le_of_ble_eq_true rfl) dX5_letHoursPass_11 ⟨Nat.le_of_ble_eq_true rfl, Nat.le_of_ble_eq_true rfl⟩ (fun H locs hI => ?_)
        refine lv_iadd hx hb dX5_letHoursPass_14 ?_
        obtain ⟨z4, ez4, hf⟩ := glet hf
        refine g_top ez4 ?_
        refine lv_istore_n (lv' := [(2, .int z4), (3, .int v3), (0, .ref (E.2.1 o)), (1, .int v1)]) hx hb dX5_letHoursPass_15 rfl hl (by decide) rfl (fun ls hl => ?_)
        refine lv_iinc (k := 1) (v := v3 + 1) (lv' := [(3, .int (v3 + 1)), (2, .int z4), (0, .ref (E.2.1 o)), (1, .int v1)]) hx hb dX5_letHoursPass_16 hl rfl rfl (by decide) rfl (fun ls hl => ?_)
        refine lv_goto (tgt := 4) hx hb dX5_letHoursPass_19 rfl ?_
        exact ih (v3 + 1) z4 r2.2 hf _ _ _ hI (lv_sub hl [0, 1, 2, 3] rfl)
  unfold f_X5_letHoursPass at hf
  refine lv_iconst (v := 0) hx hb dX5_letHoursPass_0 (by decide) ?_
  refine lv_istore_n (lv' := [(2, .int 0), (0, .ref (E.2.1 o)), (1, .int v1)]) hx hb dX5_letHoursPass_1 rfl hl (by decide) rfl (fun ls hl => ?_)
  refine lv_iconst (v := 0) hx hb dX5_letHoursPass_2 (by decide) ?_
  refine lv_istore_n (lv' := [(3, .int 0), (2, .int 0), (0, .ref (E.2.1 o)), (1, .int v1)]) hx hb dX5_letHoursPass_3 rfl hl (by decide) rfl (fun ls hl => ?_)
  exact L4 v1 gF 0 0 M hf _ _ _ hI (lv_sub hl [0, 1, 2, 3] rfl)
theorem dX6_pass_0 : decode cX6_pass 0 = .ok (.iload_n 1, 1) := by decide +kernel
theorem dX6_pass_1 : decode cX6_pass 1 = .ok (.invokestatic 123, 3) := by decide +kernel
theorem dX6_pass_4 : decode cX6_pass 4 = .ok (.invokestatic 65, 3) := by decide +kernel
theorem dX6_pass_7 : decode cX6_pass 7 = .ok (.aload_n 0, 1) := by decide +kernel
theorem dX6_pass_8 : decode cX6_pass 8 = .ok (.getfield 29, 3) := by decide +kernel
theorem dX6_pass_11 : decode cX6_pass 11 = .ok (.aload_n 0, 1) := by decide +kernel
theorem dX6_pass_12 : decode cX6_pass 12 = .ok (.getfield 10, 3) := by decide +kernel
theorem dX6_pass_15 : decode cX6_pass 15 = .ok (.invokevirtual 69, 3) := by decide +kernel
theorem dX6_pass_18 : decode cX6_pass 18 = .ok (.aload_n 0, 1) := by decide +kernel
theorem dX6_pass_19 : decode cX6_pass 19 = .ok (.getfield 10, 3) := by decide +kernel
theorem dX6_pass_22 : decode cX6_pass 22 = .ok (.iload_n 1, 1) := by decide +kernel
theorem dX6_pass_23 : decode cX6_pass 23 = .ok (.invokevirtual 126, 3) := by decide +kernel
theorem dX6_pass_26 : decode cX6_pass 26 = .ok (.ireturn, 1) := by decide +kernel
set_option maxRecDepth 100000 in
set_option maxHeartbeats 4000000 in
theorem C_X6_pass (l : Launch) (hst : l.stackTraces = false) (E : gE) (x : gX) {v1 : Int32} {M : gM} {oc : String ⊕ Int32} {M' : gM} (hf : f_X6_pass v1 M = some (oc, M')) : gX0 l E yX6_pass (.code yX6_pass cX6_pass 2 (some .int)) (gRX 7 124 1 6) M x [.ref (E.2.1 132), .int v1] (gO oc) M' 1 6 := by
  refine gMetX hst (by decide +kernel) (Nat.le_of_ble_eq_true rfl) ?_
  intro p e s m args below meth c H locs ls Q hC hl hI kr kv kx kt kd kf
  replace hC : gC p s m args c cX6_pass 2 RX6 E := hC
  replace hl : lv_has ls 2 [(0, .ref (E.2.1 132)), (1, .int v1)] := hl
  have hx := hC.1
  have hb := hC.2.1
  unfold f_X6_pass at hf
  refine lv_iload_n hx hb dX6_pass_0 rfl (lv_at hl 1 rfl) ?_
  obtain ⟨r1, hr2, hf⟩ := gbind hf
  have hr2 := C_X6_passingFault l E x  hr2
  refine g_callSi (rest := []) hC hI hr2 Y_X6_passingFault S_X6_passingFault w542 ⟨rfl, rfl⟩ ⟨Nat.le_of_ble_eq_true rfl, Nat.le_of_ble_eq_true rfl⟩ rfl hl.1 rfl (Nat.le_of_ble_eq_true rfl) dX6_pass_1 ⟨Nat.le_of_ble_eq_true rfl, Nat.le_of_ble_eq_true rfl⟩ (fun H locs hI => ?_)
  rcases gseq hf with ⟨er, Mr, hr4, hf⟩ | ⟨_, M5, hr4, hf⟩
  · replace hr4 := C_X6_raise l hst E x  hr4
    exact g_xSx (rest := []) hC hI hr4 Y_X6_raise S_X6_raise w255 ⟨rfl, rfl⟩ ⟨Nat.le_of_ble_eq_true rfl, Nat.le_of_ble_eq_true rfl⟩ rfl hl.1 rfl (Nat.le_of_ble_eq_true rfl) dX6_pass_4 ⟨Nat.le_of_ble_eq_true rfl, Nat.le_of_ble_eq_true rfl⟩ (fun ce q H locs hI h1 h2 h3 => kx _ _ _ _ _ _ _ _ _ _ _ (gtx hf) hI h1 h2 h3 ⟨Nat.le_of_ble_eq_true rfl, Nat.le_of_ble_eq_true rfl⟩)
  replace hr4 := C_X6_raise l hst E x  hr4
  refine g_xSv (rest := []) hC hI hr4 Y_X6_raise S_X6_raise w255 ⟨rfl, rfl⟩ ⟨Nat.le_of_ble_eq_true rfl, Nat.le_of_ble_eq_true rfl⟩ rfl hl.1 rfl (Nat.le_of_ble_eq_true rfl) dX6_pass_4 ⟨Nat.le_of_ble_eq_true rfl, Nat.le_of_ble_eq_true rfl⟩ (fun H locs hI => ?_)
  refine lv_aload_n hx hb dX6_pass_7 rfl (lv_at hl 0 rfl) ?_
  refine gt_X6_X6_history hC hI dX6_pass_8 ?_
  refine lv_aload_n hx hb dX6_pass_11 rfl (lv_at hl 0 rfl) ?_
  refine gt_X6_X6_now hC hI dX6_pass_12 ?_
  obtain ⟨r6, hr7, hf⟩ := gbind hf
  have hr7 := C_X1_push l E x gOk_0 hr7
  refine g_callVv (rest := []) hC hI hr7 Y_X1_push V_X1_push w377 (rcv_X1 hC hI) ⟨rfl, rfl⟩ ⟨Nat.le_of_ble_eq_true rfl, Nat.le_of_ble_eq_true rfl⟩ rfl hl.1 rfl (Nat.le_of_ble_eq_true rfl) dX6_pass_15 ⟨Nat.le_of_ble_eq_true rfl, Nat.le_of_ble_eq_true rfl⟩ (fun H locs hI => ?_)
  refine lv_aload_n hx hb dX6_pass_18 rfl (lv_at hl 0 rfl) ?_
  refine gt_X6_X6_now hC hI dX6_pass_19 ?_
  refine lv_iload_n hx hb dX6_pass_22 rfl (lv_at hl 1 rfl) ?_
  obtain ⟨r8, hr9, hf⟩ := gbind hf
  have hr9 := C_X5_letHoursPass l E x gOk_0 hr9
  refine g_callVi (rest := []) hC hI hr9 Y_X5_letHoursPass V_X5_letHoursPass w545 (rcv_X5 hC hI gOk_0) ⟨rfl, rfl⟩ ⟨Nat.le_of_ble_eq_true rfl, Nat.le_of_ble_eq_true rfl⟩ rfl hl.1 rfl (Nat.le_of_ble_eq_true rfl) dX6_pass_23 ⟨Nat.le_of_ble_eq_true rfl, Nat.le_of_ble_eq_true rfl⟩ (fun H locs hI => ?_)
  exact kr _ _ _ _ _ _ _ _ (gre hf) hI ⟨.int, rfl, rfl⟩ ⟨Nat.le_of_ble_eq_true rfl, Nat.le_of_ble_eq_true rfl⟩ dX6_pass_26
theorem dX6_hour_0 : decode cX6_hour 0 = .ok (.aload_n 0, 1) := by decide +kernel
theorem dX6_hour_1 : decode cX6_hour 1 = .ok (.getfield 10, 3) := by decide +kernel
theorem dX6_hour_4 : decode cX6_hour 4 = .ok (.getfield 129, 3) := by decide +kernel
theorem dX6_hour_7 : decode cX6_hour 7 = .ok (.ireturn, 1) := by decide +kernel
set_option maxRecDepth 100000 in
set_option maxHeartbeats 4000000 in
theorem C_X6_hour (l : Launch) (E : gE) (x : gX) {M : gM} {r : Int32} (hf : f_X6_hour M = some r) : gM0 l E yX6_hour (.code yX6_hour cX6_hour 1 (some .int)) (gR 0 0) M x [.ref (E.2.1 132)] (some (.int r)) M := by
  refine gMet (by decide +kernel) (Nat.le_of_ble_eq_true rfl) ?_
  intro p e s m args below meth c H locs ls Q hC hl hI kr kv
  replace hC : gC p s m args c cX6_hour 1 RX6 E := hC
  replace hl : lv_has ls 1 [(0, .ref (E.2.1 132))] := hl
  have hx := hC.1
  have hb := hC.2.1
  unfold f_X6_hour at hf
  refine lv_aload_n hx hb dX6_hour_0 rfl (lv_at hl 0 rfl) ?_
  refine gt_X6_X6_now hC hI dX6_hour_1 ?_
  refine gt_X6_X5_hour hC hI gOk_0 dX6_hour_4 ?_
  exact kr _ _ _ _ _ _ (gri hf) hI ⟨.int, rfl, rfl⟩ dX6_hour_7
theorem dX6_tide_0 : decode cX6_tide 0 = .ok (.aload_n 0, 1) := by decide +kernel
theorem dX6_tide_1 : decode cX6_tide 1 = .ok (.getfield 10, 3) := by decide +kernel
theorem dX6_tide_4 : decode cX6_tide 4 = .ok (.getfield 129, 3) := by decide +kernel
theorem dX6_tide_7 : decode cX6_tide 7 = .ok (.invokestatic 132, 3) := by decide +kernel
theorem dX6_tide_10 : decode cX6_tide 10 = .ok (.ireturn, 1) := by decide +kernel
set_option maxRecDepth 100000 in
set_option maxHeartbeats 4000000 in
theorem C_X6_tide (l : Launch) (E : gE) (x : gX) {M : gM} {r : Int32} (hf : f_X6_tide M = some r) : gM0 l E yX6_tide (.code yX6_tide cX6_tide 1 (some .int)) (gR 2 43) M x [.ref (E.2.1 132)] (some (.int r)) M := by
  refine gMet (by decide +kernel) (Nat.le_of_ble_eq_true rfl) ?_
  intro p e s m args below meth c H locs ls Q hC hl hI kr kv
  replace hC : gC p s m args c cX6_tide 1 RX6 E := hC
  replace hl : lv_has ls 1 [(0, .ref (E.2.1 132))] := hl
  have hx := hC.1
  have hb := hC.2.1
  unfold f_X6_tide at hf
  refine lv_aload_n hx hb dX6_tide_0 rfl (lv_at hl 0 rfl) ?_
  refine gt_X6_X6_now hC hI dX6_tide_1 ?_
  refine gt_X6_X5_hour hC hI gOk_0 dX6_tide_4 ?_
  obtain ⟨r1, hr2, hf⟩ := gbind hf
  have hr2 := C_X6_tideAt l E x  hr2
  refine g_callSi (rest := []) hC hI hr2 Y_X6_tideAt S_X6_tideAt w557 ⟨rfl, rfl⟩ ⟨Nat.le_of_ble_eq_true rfl, Nat.le_of_ble_eq_true rfl⟩ rfl hl.1 rfl (Nat.le_of_ble_eq_true rfl) dX6_tide_7 ⟨Nat.le_of_ble_eq_true rfl, Nat.le_of_ble_eq_true rfl⟩ (fun H locs hI => ?_)
  exact kr _ _ _ _ _ _ (gri hf) hI ⟨.int, rfl, rfl⟩ dX6_tide_10
theorem dX6_shipCount_0 : decode cX6_shipCount 0 = .ok (.aload_n 0, 1) := by decide +kernel
theorem dX6_shipCount_1 : decode cX6_shipCount 1 = .ok (.getfield 10, 3) := by decide +kernel
theorem dX6_shipCount_4 : decode cX6_shipCount 4 = .ok (.invokevirtual 77, 3) := by decide +kernel
theorem dX6_shipCount_7 : decode cX6_shipCount 7 = .ok (.ireturn, 1) := by decide +kernel
set_option maxRecDepth 100000 in
set_option maxHeartbeats 4000000 in
theorem C_X6_shipCount (l : Launch) (E : gE) (x : gX) {M : gM} {r : Int32} (hf : f_X6_shipCount M = some r) : gM0 l E yX6_shipCount (.code yX6_shipCount cX6_shipCount 1 (some .int)) (gR 3 63) M x [.ref (E.2.1 132)] (some (.int r)) M := by
  refine gMet (by decide +kernel) (Nat.le_of_ble_eq_true rfl) ?_
  intro p e s m args below meth c H locs ls Q hC hl hI kr kv
  replace hC : gC p s m args c cX6_shipCount 1 RX6 E := hC
  replace hl : lv_has ls 1 [(0, .ref (E.2.1 132))] := hl
  have hx := hC.1
  have hb := hC.2.1
  unfold f_X6_shipCount at hf
  refine lv_aload_n hx hb dX6_shipCount_0 rfl (lv_at hl 0 rfl) ?_
  refine gt_X6_X6_now hC hI dX6_shipCount_1 ?_
  obtain ⟨r1, hr2, hf⟩ := gbind hf
  have hr2 := C_X5_ships l E x gOk_0 hr2
  refine g_callVi (rest := []) hC hI hr2 Y_X5_ships V_X5_ships w534 (rcv_X5 hC hI gOk_0) ⟨rfl, rfl⟩ ⟨Nat.le_of_ble_eq_true rfl, Nat.le_of_ble_eq_true rfl⟩ rfl hl.1 rfl (Nat.le_of_ble_eq_true rfl) dX6_shipCount_4 ⟨Nat.le_of_ble_eq_true rfl, Nat.le_of_ble_eq_true rfl⟩ (fun H locs hI => ?_)
  exact kr _ _ _ _ _ _ (gri hf) hI ⟨.int, rfl, rfl⟩ dX6_shipCount_7
theorem dX6_requireBerth_0 : decode cX6_requireBerth 0 = .ok (.iload_n 0, 1) := by decide +kernel
theorem dX6_requireBerth_1 : decode cX6_requireBerth 1 = .ok (.invokestatic 363, 3) := by decide +kernel
theorem dX6_requireBerth_4 : decode cX6_requireBerth 4 = .ok (.ifCond .eq 7, 3) := by decide +kernel
theorem dX6_requireBerth_7 : decode cX6_requireBerth 7 = .ok (.iconst 0, 1) := by decide +kernel
theorem dX6_requireBerth_8 : decode cX6_requireBerth 8 = .ok (.goto 4, 3) := by decide +kernel
theorem dX6_requireBerth_11 : decode cX6_requireBerth 11 = .ok (.iconst 1, 1) := by decide +kernel
theorem dX6_requireBerth_12 : decode cX6_requireBerth 12 = .ok (.invokestatic 65, 3) := by decide +kernel
theorem dX6_requireBerth_15 : decode cX6_requireBerth 15 = .ok (.return_, 1) := by decide +kernel
set_option maxRecDepth 100000 in
set_option maxHeartbeats 4000000 in
theorem C_X6_requireBerth (l : Launch) (hst : l.stackTraces = false) (E : gE) (x : gX) {v0 : Int32} {M : gM} {oc : String ⊕ Unit} {M' : gM} (hf : f_X6_requireBerth v0 M = some (oc, M')) : gX0 l E yX6_requireBerth (.code yX6_requireBerth cX6_requireBerth 1 none) (gRX 7 110 1 6) M x [.int v0] (gOv oc) M' 1 6 := by
  refine gMetX hst (by decide +kernel) (Nat.le_of_ble_eq_true rfl) ?_
  intro p e s m args below meth c H locs ls Q hC hl hI kr kv kx kt kd kf
  replace hC : gC p s m args c cX6_requireBerth 1 RX6 E := hC
  replace hl : lv_has ls 1 [(0, .int v0)] := hl
  have hx := hC.1
  have hb := hC.2.1
  unfold f_X6_requireBerth at hf
  refine lv_iload_n hx hb dX6_requireBerth_0 rfl (lv_at hl 0 rfl) ?_
  obtain ⟨r1, hr2, hf⟩ := gbind hf
  have hr2 := C_X6_isBerth l E x  hr2
  refine g_callSi (rest := []) hC hI hr2 Y_X6_isBerth S_X6_isBerth w569 ⟨rfl, rfl⟩ ⟨Nat.le_of_ble_eq_true rfl, Nat.le_of_ble_eq_true rfl⟩ rfl hl.1 rfl (Nat.le_of_ble_eq_true rfl) dX6_requireBerth_1 ⟨Nat.le_of_ble_eq_true rfl, Nat.le_of_ble_eq_true rfl⟩ (fun H locs hI => ?_)
  refine lv_if_eq (tgt := 11) hx hb dX6_requireBerth_4 rfl (fun h3 => ?_) (fun h3 => ?_)
  · replace hf := gif h3 hf
    refine lv_iconst (v := 1) hx hb dX6_requireBerth_11 (by decide) ?_
    rcases gseq hf with ⟨er, Mr, hr5, hf⟩ | ⟨_, M6, hr5, hf⟩
    · replace hr5 := C_X6_raise l hst E x  hr5
      exact g_xSx (rest := []) hC hI hr5 Y_X6_raise S_X6_raise w255 ⟨rfl, rfl⟩ ⟨Nat.le_of_ble_eq_true rfl, Nat.le_of_ble_eq_true rfl⟩ rfl hl.1 rfl (Nat.le_of_ble_eq_true rfl) dX6_requireBerth_12 ⟨Nat.le_of_ble_eq_true rfl, Nat.le_of_ble_eq_true rfl⟩ (fun ce q H locs hI h1 h2 h3 => kx _ _ _ _ _ _ _ _ _ _ _ (gtxv hf) hI h1 h2 h3 ⟨Nat.le_of_ble_eq_true rfl, Nat.le_of_ble_eq_true rfl⟩)
    replace hr5 := C_X6_raise l hst E x  hr5
    refine g_xSv (rest := []) hC hI hr5 Y_X6_raise S_X6_raise w255 ⟨rfl, rfl⟩ ⟨Nat.le_of_ble_eq_true rfl, Nat.le_of_ble_eq_true rfl⟩ rfl hl.1 rfl (Nat.le_of_ble_eq_true rfl) dX6_requireBerth_12 ⟨Nat.le_of_ble_eq_true rfl, Nat.le_of_ble_eq_true rfl⟩ (fun H locs hI => ?_)
    exact kv _ _ _ _ _ _ _ (grev hf) hI rfl ⟨Nat.le_of_ble_eq_true rfl, Nat.le_of_ble_eq_true rfl⟩ dX6_requireBerth_15
  · replace hf := gifn h3 hf
    refine lv_iconst (v := 0) hx hb dX6_requireBerth_7 (by decide) ?_
    refine lv_goto (tgt := 12) hx hb dX6_requireBerth_8 rfl ?_
    rcases gseq hf with ⟨er, Mr, hr8, hf⟩ | ⟨_, M9, hr8, hf⟩
    · replace hr8 := C_X6_raise l hst E x  hr8
      exact g_xSx (rest := []) hC hI hr8 Y_X6_raise S_X6_raise w255 ⟨rfl, rfl⟩ ⟨Nat.le_of_ble_eq_true rfl, Nat.le_of_ble_eq_true rfl⟩ rfl hl.1 rfl (Nat.le_of_ble_eq_true rfl) dX6_requireBerth_12 ⟨Nat.le_of_ble_eq_true rfl, Nat.le_of_ble_eq_true rfl⟩ (fun ce q H locs hI h1 h2 h3 => kx _ _ _ _ _ _ _ _ _ _ _ (gtxv hf) hI h1 h2 h3 ⟨Nat.le_of_ble_eq_true rfl, Nat.le_of_ble_eq_true rfl⟩)
    replace hr8 := C_X6_raise l hst E x  hr8
    refine g_xSv (rest := []) hC hI hr8 Y_X6_raise S_X6_raise w255 ⟨rfl, rfl⟩ ⟨Nat.le_of_ble_eq_true rfl, Nat.le_of_ble_eq_true rfl⟩ rfl hl.1 rfl (Nat.le_of_ble_eq_true rfl) dX6_requireBerth_12 ⟨Nat.le_of_ble_eq_true rfl, Nat.le_of_ble_eq_true rfl⟩ (fun H locs hI => ?_)
    exact kv _ _ _ _ _ _ _ (grev hf) hI rfl ⟨Nat.le_of_ble_eq_true rfl, Nat.le_of_ble_eq_true rfl⟩ dX6_requireBerth_15
theorem dX6_isMoored_0 : decode cX6_isMoored 0 = .ok (.iload_n 1, 1) := by decide +kernel
theorem dX6_isMoored_1 : decode cX6_isMoored 1 = .ok (.invokestatic 135, 3) := by decide +kernel
theorem dX6_isMoored_4 : decode cX6_isMoored 4 = .ok (.aload_n 0, 1) := by decide +kernel
theorem dX6_isMoored_5 : decode cX6_isMoored 5 = .ok (.getfield 10, 3) := by decide +kernel
theorem dX6_isMoored_8 : decode cX6_isMoored 8 = .ok (.iload_n 1, 1) := by decide +kernel
theorem dX6_isMoored_9 : decode cX6_isMoored 9 = .ok (.invokevirtual 138, 3) := by decide +kernel
theorem dX6_isMoored_12 : decode cX6_isMoored 12 = .ok (.ireturn, 1) := by decide +kernel
set_option maxRecDepth 100000 in
set_option maxHeartbeats 4000000 in
theorem C_X6_isMoored (l : Launch) (hst : l.stackTraces = false) (E : gE) (x : gX) {v1 : Int32} {M : gM} {oc : String ⊕ Bool} {M' : gM} (hf : f_X6_isMoored v1 M = some (oc, M')) : gX0 l E yX6_isMoored (.code yX6_isMoored cX6_isMoored 2 (some .boolean)) (gRX 8 130 1 6) M x [.ref (E.2.1 132), .int v1] (gOb oc) M' 1 6 := by
  refine gMetX hst (by decide +kernel) (Nat.le_of_ble_eq_true rfl) ?_
  intro p e s m args below meth c H locs ls Q hC hl hI kr kv kx kt kd kf
  replace hC : gC p s m args c cX6_isMoored 2 RX6 E := hC
  replace hl : lv_has ls 2 [(0, .ref (E.2.1 132)), (1, .int v1)] := hl
  have hx := hC.1
  have hb := hC.2.1
  unfold f_X6_isMoored at hf
  refine lv_iload_n hx hb dX6_isMoored_0 rfl (lv_at hl 1 rfl) ?_
  rcases gseq hf with ⟨er, Mr, hr2, hf⟩ | ⟨_, M3, hr2, hf⟩
  · replace hr2 := C_X6_requireBerth l hst E x  hr2
    exact g_xSx (rest := []) hC hI hr2 Y_X6_requireBerth S_X6_requireBerth w566 ⟨rfl, rfl⟩ ⟨Nat.le_of_ble_eq_true rfl, Nat.le_of_ble_eq_true rfl⟩ rfl hl.1 rfl (Nat.le_of_ble_eq_true rfl) dX6_isMoored_1 ⟨Nat.le_of_ble_eq_true rfl, Nat.le_of_ble_eq_true rfl⟩ (fun ce q H locs hI h1 h2 h3 => kx _ _ _ _ _ _ _ _ _ _ _ (gtxb hf) hI h1 h2 h3 ⟨Nat.le_of_ble_eq_true rfl, Nat.le_of_ble_eq_true rfl⟩)
  replace hr2 := C_X6_requireBerth l hst E x  hr2
  refine g_xSv (rest := []) hC hI hr2 Y_X6_requireBerth S_X6_requireBerth w566 ⟨rfl, rfl⟩ ⟨Nat.le_of_ble_eq_true rfl, Nat.le_of_ble_eq_true rfl⟩ rfl hl.1 rfl (Nat.le_of_ble_eq_true rfl) dX6_isMoored_1 ⟨Nat.le_of_ble_eq_true rfl, Nat.le_of_ble_eq_true rfl⟩ (fun H locs hI => ?_)
  refine lv_aload_n hx hb dX6_isMoored_4 rfl (lv_at hl 0 rfl) ?_
  refine gt_X6_X6_now hC hI dX6_isMoored_5 ?_
  refine lv_iload_n hx hb dX6_isMoored_8 rfl (lv_at hl 1 rfl) ?_
  obtain ⟨r4, hr5, hf⟩ := gbind hf
  have hr5 := C_X5_hasShip l E x gOk_0 hr5
  refine g_callVi (rest := []) hC hI hr5 Y_X5_hasShip V_X5_hasShip w570 (rcv_X5 hC hI gOk_0) ⟨rfl, rfl⟩ ⟨Nat.le_of_ble_eq_true rfl, Nat.le_of_ble_eq_true rfl⟩ rfl hl.1 rfl (Nat.le_of_ble_eq_true rfl) dX6_isMoored_9 ⟨Nat.le_of_ble_eq_true rfl, Nat.le_of_ble_eq_true rfl⟩ (fun H locs hI => ?_)
  exact kr _ _ _ _ _ _ _ _ (greb hf) hI ⟨.boolean, rfl, gb_nar _⟩ ⟨Nat.le_of_ble_eq_true rfl, Nat.le_of_ble_eq_true rfl⟩ dX6_isMoored_12
theorem dX6_requireShip_0 : decode cX6_requireShip 0 = .ok (.iload_n 1, 1) := by decide +kernel
theorem dX6_requireShip_1 : decode cX6_requireShip 1 = .ok (.invokestatic 135, 3) := by decide +kernel
theorem dX6_requireShip_4 : decode cX6_requireShip 4 = .ok (.aload_n 0, 1) := by decide +kernel
theorem dX6_requireShip_5 : decode cX6_requireShip 5 = .ok (.getfield 10, 3) := by decide +kernel
theorem dX6_requireShip_8 : decode cX6_requireShip 8 = .ok (.iload_n 1, 1) := by decide +kernel
theorem dX6_requireShip_9 : decode cX6_requireShip 9 = .ok (.invokevirtual 138, 3) := by decide +kernel
theorem dX6_requireShip_12 : decode cX6_requireShip 12 = .ok (.ifCond .eq 7, 3) := by decide +kernel
theorem dX6_requireShip_15 : decode cX6_requireShip 15 = .ok (.iconst 0, 1) := by decide +kernel
theorem dX6_requireShip_16 : decode cX6_requireShip 16 = .ok (.goto 4, 3) := by decide +kernel
theorem dX6_requireShip_19 : decode cX6_requireShip 19 = .ok (.iconst 4, 1) := by decide +kernel
theorem dX6_requireShip_20 : decode cX6_requireShip 20 = .ok (.invokestatic 65, 3) := by decide +kernel
theorem dX6_requireShip_23 : decode cX6_requireShip 23 = .ok (.return_, 1) := by decide +kernel
set_option maxRecDepth 100000 in
set_option maxHeartbeats 4000000 in
theorem C_X6_requireShip (l : Launch) (hst : l.stackTraces = false) (E : gE) (x : gX) {v1 : Int32} {M : gM} {oc : String ⊕ Unit} {M' : gM} (hf : f_X6_requireShip v1 M = some (oc, M')) : gX0 l E yX6_requireShip (.code yX6_requireShip cX6_requireShip 2 none) (gRX 8 130 2 12) M x [.ref (E.2.1 132), .int v1] (gOv oc) M' 2 12 := by
  refine gMetX hst (by decide +kernel) (Nat.le_of_ble_eq_true rfl) ?_
  intro p e s m args below meth c H locs ls Q hC hl hI kr kv kx kt kd kf
  replace hC : gC p s m args c cX6_requireShip 2 RX6 E := hC
  replace hl : lv_has ls 2 [(0, .ref (E.2.1 132)), (1, .int v1)] := hl
  have hx := hC.1
  have hb := hC.2.1
  unfold f_X6_requireShip at hf
  refine lv_iload_n hx hb dX6_requireShip_0 rfl (lv_at hl 1 rfl) ?_
  rcases gseq hf with ⟨er, Mr, hr2, hf⟩ | ⟨_, M3, hr2, hf⟩
  · replace hr2 := C_X6_requireBerth l hst E x  hr2
    exact g_xSx (rest := []) hC hI hr2 Y_X6_requireBerth S_X6_requireBerth w566 ⟨rfl, rfl⟩ ⟨Nat.le_of_ble_eq_true rfl, Nat.le_of_ble_eq_true rfl⟩ rfl hl.1 rfl (Nat.le_of_ble_eq_true rfl) dX6_requireShip_1 ⟨Nat.le_of_ble_eq_true rfl, Nat.le_of_ble_eq_true rfl⟩ (fun ce q H locs hI h1 h2 h3 => kx _ _ _ _ _ _ _ _ _ _ _ (gtxv hf) hI h1 h2 h3 ⟨Nat.le_of_ble_eq_true rfl, Nat.le_of_ble_eq_true rfl⟩)
  replace hr2 := C_X6_requireBerth l hst E x  hr2
  refine g_xSv (rest := []) hC hI hr2 Y_X6_requireBerth S_X6_requireBerth w566 ⟨rfl, rfl⟩ ⟨Nat.le_of_ble_eq_true rfl, Nat.le_of_ble_eq_true rfl⟩ rfl hl.1 rfl (Nat.le_of_ble_eq_true rfl) dX6_requireShip_1 ⟨Nat.le_of_ble_eq_true rfl, Nat.le_of_ble_eq_true rfl⟩ (fun H locs hI => ?_)
  refine lv_aload_n hx hb dX6_requireShip_4 rfl (lv_at hl 0 rfl) ?_
  refine gt_X6_X6_now hC hI dX6_requireShip_5 ?_
  refine lv_iload_n hx hb dX6_requireShip_8 rfl (lv_at hl 1 rfl) ?_
  obtain ⟨r4, hr5, hf⟩ := gbind hf
  have hr5 := C_X5_hasShip l E x gOk_0 hr5
  refine g_callVi (rest := []) hC hI hr5 Y_X5_hasShip V_X5_hasShip w570 (rcv_X5 hC hI gOk_0) ⟨rfl, rfl⟩ ⟨Nat.le_of_ble_eq_true rfl, Nat.le_of_ble_eq_true rfl⟩ rfl hl.1 rfl (Nat.le_of_ble_eq_true rfl) dX6_requireShip_9 ⟨Nat.le_of_ble_eq_true rfl, Nat.le_of_ble_eq_true rfl⟩ (fun H locs hI => ?_)
  refine lv_if_eq (tgt := 19) hx hb dX6_requireShip_12 rfl (fun h6 => ?_) (fun h6 => ?_)
  · replace hf := gif h6 hf
    refine lv_iconst (v := 4) hx hb dX6_requireShip_19 (by decide) ?_
    rcases gseq hf with ⟨er, Mr, hr8, hf⟩ | ⟨_, M9, hr8, hf⟩
    · replace hr8 := C_X6_raise l hst E x  hr8
      exact g_xSx (rest := []) hC hI hr8 Y_X6_raise S_X6_raise w255 ⟨rfl, rfl⟩ ⟨Nat.le_of_ble_eq_true rfl, Nat.le_of_ble_eq_true rfl⟩ rfl hl.1 rfl (Nat.le_of_ble_eq_true rfl) dX6_requireShip_20 ⟨Nat.le_of_ble_eq_true rfl, Nat.le_of_ble_eq_true rfl⟩ (fun ce q H locs hI h1 h2 h3 => kx _ _ _ _ _ _ _ _ _ _ _ (gtxv hf) hI h1 h2 h3 ⟨Nat.le_of_ble_eq_true rfl, Nat.le_of_ble_eq_true rfl⟩)
    replace hr8 := C_X6_raise l hst E x  hr8
    refine g_xSv (rest := []) hC hI hr8 Y_X6_raise S_X6_raise w255 ⟨rfl, rfl⟩ ⟨Nat.le_of_ble_eq_true rfl, Nat.le_of_ble_eq_true rfl⟩ rfl hl.1 rfl (Nat.le_of_ble_eq_true rfl) dX6_requireShip_20 ⟨Nat.le_of_ble_eq_true rfl, Nat.le_of_ble_eq_true rfl⟩ (fun H locs hI => ?_)
    exact kv _ _ _ _ _ _ _ (grev hf) hI rfl ⟨Nat.le_of_ble_eq_true rfl, Nat.le_of_ble_eq_true rfl⟩ dX6_requireShip_23
  · replace hf := gifn h6 hf
    refine lv_iconst (v := 0) hx hb dX6_requireShip_15 (by decide) ?_
    refine lv_goto (tgt := 20) hx hb dX6_requireShip_16 rfl ?_
    rcases gseq hf with ⟨er, Mr, hr11, hf⟩ | ⟨_, M12, hr11, hf⟩
    · replace hr11 := C_X6_raise l hst E x  hr11
      exact g_xSx (rest := []) hC hI hr11 Y_X6_raise S_X6_raise w255 ⟨rfl, rfl⟩ ⟨Nat.le_of_ble_eq_true rfl, Nat.le_of_ble_eq_true rfl⟩ rfl hl.1 rfl (Nat.le_of_ble_eq_true rfl) dX6_requireShip_20 ⟨Nat.le_of_ble_eq_true rfl, Nat.le_of_ble_eq_true rfl⟩ (fun ce q H locs hI h1 h2 h3 => kx _ _ _ _ _ _ _ _ _ _ _ (gtxv hf) hI h1 h2 h3 ⟨Nat.le_of_ble_eq_true rfl, Nat.le_of_ble_eq_true rfl⟩)
    replace hr11 := C_X6_raise l hst E x  hr11
    refine g_xSv (rest := []) hC hI hr11 Y_X6_raise S_X6_raise w255 ⟨rfl, rfl⟩ ⟨Nat.le_of_ble_eq_true rfl, Nat.le_of_ble_eq_true rfl⟩ rfl hl.1 rfl (Nat.le_of_ble_eq_true rfl) dX6_requireShip_20 ⟨Nat.le_of_ble_eq_true rfl, Nat.le_of_ble_eq_true rfl⟩ (fun H locs hI => ?_)
    exact kv _ _ _ _ _ _ _ (grev hf) hI rfl ⟨Nat.le_of_ble_eq_true rfl, Nat.le_of_ble_eq_true rfl⟩ dX6_requireShip_23
theorem dX6_draught_0 : decode cX6_draught 0 = .ok (.aload_n 0, 1) := by decide +kernel
theorem dX6_draught_1 : decode cX6_draught 1 = .ok (.iload_n 1, 1) := by decide +kernel
theorem dX6_draught_2 : decode cX6_draught 2 = .ok (.invokevirtual 142, 3) := by decide +kernel
theorem dX6_draught_5 : decode cX6_draught 5 = .ok (.aload_n 0, 1) := by decide +kernel
theorem dX6_draught_6 : decode cX6_draught 6 = .ok (.getfield 10, 3) := by decide +kernel
theorem dX6_draught_9 : decode cX6_draught 9 = .ok (.getfield 145, 3) := by decide +kernel
theorem dX6_draught_12 : decode cX6_draught 12 = .ok (.iload_n 1, 1) := by decide +kernel
theorem dX6_draught_13 : decode cX6_draught 13 = .ok (.iaload, 1) := by decide +kernel
theorem dX6_draught_14 : decode cX6_draught 14 = .ok (.ireturn, 1) := by decide +kernel
set_option maxRecDepth 100000 in
set_option maxHeartbeats 4000000 in
theorem C_X6_draught (l : Launch) (hst : l.stackTraces = false) (E : gE) (x : gX) {v1 : Int32} {M : gM} {oc : String ⊕ Int32} {M' : gM} (hf : f_X6_draught v1 M = some (oc, M')) : gX0 l E yX6_draught (.code yX6_draught cX6_draught 2 (some .int)) (gRX 9 151 2 12) M x [.ref (E.2.1 132), .int v1] (gO oc) M' 2 12 := by
  refine gMetX hst (by decide +kernel) (Nat.le_of_ble_eq_true rfl) ?_
  intro p e s m args below meth c H locs ls Q hC hl hI kr kv kx kt kd kf
  replace hC : gC p s m args c cX6_draught 2 RX6 E := hC
  replace hl : lv_has ls 2 [(0, .ref (E.2.1 132)), (1, .int v1)] := hl
  have hx := hC.1
  have hb := hC.2.1
  unfold f_X6_draught at hf
  refine lv_aload_n hx hb dX6_draught_0 rfl (lv_at hl 0 rfl) ?_
  refine lv_iload_n hx hb dX6_draught_1 rfl (lv_at hl 1 rfl) ?_
  rcases gseq hf with ⟨er, Mr, hr2, hf⟩ | ⟨_, M3, hr2, hf⟩
  · replace hr2 := C_X6_requireShip l hst E x  hr2
    exact g_xVx (rest := []) hC hI hr2 Y_X6_requireShip V_X6_requireShip w575 (rcv_X6 hC hI) ⟨rfl, rfl⟩ ⟨Nat.le_of_ble_eq_true rfl, Nat.le_of_ble_eq_true rfl⟩ rfl hl.1 rfl (Nat.le_of_ble_eq_true rfl) dX6_draught_2 ⟨Nat.le_of_ble_eq_true rfl, Nat.le_of_ble_eq_true rfl⟩ (fun ce q H locs hI h1 h2 h3 => kx _ _ _ _ _ _ _ _ _ _ _ (gtx hf) hI h1 h2 h3 ⟨Nat.le_of_ble_eq_true rfl, Nat.le_of_ble_eq_true rfl⟩)
  replace hr2 := C_X6_requireShip l hst E x  hr2
  refine g_xVv (rest := []) hC hI hr2 Y_X6_requireShip V_X6_requireShip w575 (rcv_X6 hC hI) ⟨rfl, rfl⟩ ⟨Nat.le_of_ble_eq_true rfl, Nat.le_of_ble_eq_true rfl⟩ rfl hl.1 rfl (Nat.le_of_ble_eq_true rfl) dX6_draught_2 ⟨Nat.le_of_ble_eq_true rfl, Nat.le_of_ble_eq_true rfl⟩ (fun H locs hI => ?_)
  refine lv_aload_n hx hb dX6_draught_5 rfl (lv_at hl 0 rfl) ?_
  refine gt_X6_X6_now hC hI dX6_draught_6 ?_
  refine gt_X6_X5_draughts hC hI gOk_0 dX6_draught_9 ?_
  refine lv_iload_n hx hb dX6_draught_12 rfl (lv_at hl 1 rfl) ?_
  obtain ⟨h4, hf⟩ := gifN hf
  refine g_iald hC hI (k := v1.toNatClampNeg) (gIA_8 gOk_0) h4 rfl dX6_draught_13 ?_
  exact kr _ _ _ _ _ _ _ _ (gre hf) hI ⟨.int, rfl, rfl⟩ ⟨Nat.le_of_ble_eq_true rfl, Nat.le_of_ble_eq_true rfl⟩ dX6_draught_14
theorem dX6_dueHour_0 : decode cX6_dueHour 0 = .ok (.aload_n 0, 1) := by decide +kernel
theorem dX6_dueHour_1 : decode cX6_dueHour 1 = .ok (.iload_n 1, 1) := by decide +kernel
theorem dX6_dueHour_2 : decode cX6_dueHour 2 = .ok (.invokevirtual 142, 3) := by decide +kernel
theorem dX6_dueHour_5 : decode cX6_dueHour 5 = .ok (.aload_n 0, 1) := by decide +kernel
theorem dX6_dueHour_6 : decode cX6_dueHour 6 = .ok (.getfield 10, 3) := by decide +kernel
theorem dX6_dueHour_9 : decode cX6_dueHour 9 = .ok (.getfield 149, 3) := by decide +kernel
theorem dX6_dueHour_12 : decode cX6_dueHour 12 = .ok (.iload_n 1, 1) := by decide +kernel
theorem dX6_dueHour_13 : decode cX6_dueHour 13 = .ok (.iaload, 1) := by decide +kernel
theorem dX6_dueHour_14 : decode cX6_dueHour 14 = .ok (.ireturn, 1) := by decide +kernel
set_option maxRecDepth 100000 in
set_option maxHeartbeats 4000000 in
theorem C_X6_dueHour (l : Launch) (hst : l.stackTraces = false) (E : gE) (x : gX) {v1 : Int32} {M : gM} {oc : String ⊕ Int32} {M' : gM} (hf : f_X6_dueHour v1 M = some (oc, M')) : gX0 l E yX6_dueHour (.code yX6_dueHour cX6_dueHour 2 (some .int)) (gRX 9 151 2 12) M x [.ref (E.2.1 132), .int v1] (gO oc) M' 2 12 := by
  refine gMetX hst (by decide +kernel) (Nat.le_of_ble_eq_true rfl) ?_
  intro p e s m args below meth c H locs ls Q hC hl hI kr kv kx kt kd kf
  replace hC : gC p s m args c cX6_dueHour 2 RX6 E := hC
  replace hl : lv_has ls 2 [(0, .ref (E.2.1 132)), (1, .int v1)] := hl
  have hx := hC.1
  have hb := hC.2.1
  unfold f_X6_dueHour at hf
  refine lv_aload_n hx hb dX6_dueHour_0 rfl (lv_at hl 0 rfl) ?_
  refine lv_iload_n hx hb dX6_dueHour_1 rfl (lv_at hl 1 rfl) ?_
  rcases gseq hf with ⟨er, Mr, hr2, hf⟩ | ⟨_, M3, hr2, hf⟩
  · replace hr2 := C_X6_requireShip l hst E x  hr2
    exact g_xVx (rest := []) hC hI hr2 Y_X6_requireShip V_X6_requireShip w575 (rcv_X6 hC hI) ⟨rfl, rfl⟩ ⟨Nat.le_of_ble_eq_true rfl, Nat.le_of_ble_eq_true rfl⟩ rfl hl.1 rfl (Nat.le_of_ble_eq_true rfl) dX6_dueHour_2 ⟨Nat.le_of_ble_eq_true rfl, Nat.le_of_ble_eq_true rfl⟩ (fun ce q H locs hI h1 h2 h3 => kx _ _ _ _ _ _ _ _ _ _ _ (gtx hf) hI h1 h2 h3 ⟨Nat.le_of_ble_eq_true rfl, Nat.le_of_ble_eq_true rfl⟩)
  replace hr2 := C_X6_requireShip l hst E x  hr2
  refine g_xVv (rest := []) hC hI hr2 Y_X6_requireShip V_X6_requireShip w575 (rcv_X6 hC hI) ⟨rfl, rfl⟩ ⟨Nat.le_of_ble_eq_true rfl, Nat.le_of_ble_eq_true rfl⟩ rfl hl.1 rfl (Nat.le_of_ble_eq_true rfl) dX6_dueHour_2 ⟨Nat.le_of_ble_eq_true rfl, Nat.le_of_ble_eq_true rfl⟩ (fun H locs hI => ?_)
  refine lv_aload_n hx hb dX6_dueHour_5 rfl (lv_at hl 0 rfl) ?_
  refine gt_X6_X6_now hC hI dX6_dueHour_6 ?_
  refine gt_X6_X5_dueHours hC hI gOk_0 dX6_dueHour_9 ?_
  refine lv_iload_n hx hb dX6_dueHour_12 rfl (lv_at hl 1 rfl) ?_
  obtain ⟨h4, hf⟩ := gifN hf
  refine g_iald hC hI (k := v1.toNatClampNeg) (gIA_9 gOk_0) h4 rfl dX6_dueHour_13 ?_
  exact kr _ _ _ _ _ _ _ _ (gre hf) hI ⟨.int, rfl, rfl⟩ ⟨Nat.le_of_ble_eq_true rfl, Nat.le_of_ble_eq_true rfl⟩ dX6_dueHour_14
theorem dX6_floats_0 : decode cX6_floats 0 = .ok (.aload_n 0, 1) := by decide +kernel
theorem dX6_floats_1 : decode cX6_floats 1 = .ok (.iload_n 1, 1) := by decide +kernel
theorem dX6_floats_2 : decode cX6_floats 2 = .ok (.invokevirtual 142, 3) := by decide +kernel
theorem dX6_floats_5 : decode cX6_floats 5 = .ok (.aload_n 0, 1) := by decide +kernel
theorem dX6_floats_6 : decode cX6_floats 6 = .ok (.getfield 10, 3) := by decide +kernel
theorem dX6_floats_9 : decode cX6_floats 9 = .ok (.iload_n 1, 1) := by decide +kernel
theorem dX6_floats_10 : decode cX6_floats 10 = .ok (.iconst 0, 1) := by decide +kernel
theorem dX6_floats_11 : decode cX6_floats 11 = .ok (.invokevirtual 152, 3) := by decide +kernel
theorem dX6_floats_14 : decode cX6_floats 14 = .ok (.ireturn, 1) := by decide +kernel
set_option maxRecDepth 100000 in
set_option maxHeartbeats 4000000 in
theorem C_X6_floats (l : Launch) (hst : l.stackTraces = false) (E : gE) (x : gX) {v1 : Int32} {M : gM} {oc : String ⊕ Bool} {M' : gM} (hf : f_X6_floats v1 M = some (oc, M')) : gX0 l E yX6_floats (.code yX6_floats cX6_floats 2 (some .boolean)) (gRX 9 151 2 12) M x [.ref (E.2.1 132), .int v1] (gOb oc) M' 2 12 := by
  refine gMetX hst (by decide +kernel) (Nat.le_of_ble_eq_true rfl) ?_
  intro p e s m args below meth c H locs ls Q hC hl hI kr kv kx kt kd kf
  replace hC : gC p s m args c cX6_floats 2 RX6 E := hC
  replace hl : lv_has ls 2 [(0, .ref (E.2.1 132)), (1, .int v1)] := hl
  have hx := hC.1
  have hb := hC.2.1
  unfold f_X6_floats at hf
  refine lv_aload_n hx hb dX6_floats_0 rfl (lv_at hl 0 rfl) ?_
  refine lv_iload_n hx hb dX6_floats_1 rfl (lv_at hl 1 rfl) ?_
  rcases gseq hf with ⟨er, Mr, hr2, hf⟩ | ⟨_, M3, hr2, hf⟩
  · replace hr2 := C_X6_requireShip l hst E x  hr2
    exact g_xVx (rest := []) hC hI hr2 Y_X6_requireShip V_X6_requireShip w575 (rcv_X6 hC hI) ⟨rfl, rfl⟩ ⟨Nat.le_of_ble_eq_true rfl, Nat.le_of_ble_eq_true rfl⟩ rfl hl.1 rfl (Nat.le_of_ble_eq_true rfl) dX6_floats_2 ⟨Nat.le_of_ble_eq_true rfl, Nat.le_of_ble_eq_true rfl⟩ (fun ce q H locs hI h1 h2 h3 => kx _ _ _ _ _ _ _ _ _ _ _ (gtxb hf) hI h1 h2 h3 ⟨Nat.le_of_ble_eq_true rfl, Nat.le_of_ble_eq_true rfl⟩)
  replace hr2 := C_X6_requireShip l hst E x  hr2
  refine g_xVv (rest := []) hC hI hr2 Y_X6_requireShip V_X6_requireShip w575 (rcv_X6 hC hI) ⟨rfl, rfl⟩ ⟨Nat.le_of_ble_eq_true rfl, Nat.le_of_ble_eq_true rfl⟩ rfl hl.1 rfl (Nat.le_of_ble_eq_true rfl) dX6_floats_2 ⟨Nat.le_of_ble_eq_true rfl, Nat.le_of_ble_eq_true rfl⟩ (fun H locs hI => ?_)
  refine lv_aload_n hx hb dX6_floats_5 rfl (lv_at hl 0 rfl) ?_
  refine gt_X6_X6_now hC hI dX6_floats_6 ?_
  refine lv_iload_n hx hb dX6_floats_9 rfl (lv_at hl 1 rfl) ?_
  refine lv_iconst (v := 0) hx hb dX6_floats_10 (by decide) ?_
  obtain ⟨r4, hr5, hf⟩ := gbind hf
  have hr5 := C_X5_floatsAfter l E x gOk_0 hr5
  refine g_callVi (rest := []) hC hI hr5 Y_X5_floatsAfter V_X5_floatsAfter w579 (rcv_X5 hC hI gOk_0) ⟨rfl, rfl⟩ ⟨Nat.le_of_ble_eq_true rfl, Nat.le_of_ble_eq_true rfl⟩ rfl hl.1 rfl (Nat.le_of_ble_eq_true rfl) dX6_floats_11 ⟨Nat.le_of_ble_eq_true rfl, Nat.le_of_ble_eq_true rfl⟩ (fun H locs hI => ?_)
  exact kr _ _ _ _ _ _ _ _ (greb hf) hI ⟨.boolean, rfl, gb_nar _⟩ ⟨Nat.le_of_ble_eq_true rfl, Nat.le_of_ble_eq_true rfl⟩ dX6_floats_14
theorem dX5_waitHourByHour_0 : decode cX5_waitHourByHour 0 = .ok (.iconst 0, 1) := by decide +kernel
theorem dX5_waitHourByHour_1 : decode cX5_waitHourByHour 1 = .ok (.istore_n 2, 1) := by decide +kernel
theorem dX5_waitHourByHour_2 : decode cX5_waitHourByHour 2 = .ok (.iload_n 2, 1) := by decide +kernel
theorem dX5_waitHourByHour_3 : decode cX5_waitHourByHour 3 = .ok (.bipush 12, 2) := by decide +kernel
theorem dX5_waitHourByHour_5 : decode cX5_waitHourByHour 5 = .ok (.if_icmp .ge 18, 3) := by decide +kernel
theorem dX5_waitHourByHour_8 : decode cX5_waitHourByHour 8 = .ok (.aload_n 0, 1) := by decide +kernel
theorem dX5_waitHourByHour_9 : decode cX5_waitHourByHour 9 = .ok (.iload_n 1, 1) := by decide +kernel
theorem dX5_waitHourByHour_10 : decode cX5_waitHourByHour 10 = .ok (.iload_n 2, 1) := by decide +kernel
theorem dX5_waitHourByHour_11 : decode cX5_waitHourByHour 11 = .ok (.invokevirtual 108, 3) := by decide +kernel
theorem dX5_waitHourByHour_14 : decode cX5_waitHourByHour 14 = .ok (.ifCond .ne 9, 3) := by decide +kernel
theorem dX5_waitHourByHour_17 : decode cX5_waitHourByHour 17 = .ok (.iinc 2 1, 3) := by decide +kernel
theorem dX5_waitHourByHour_20 : decode cX5_waitHourByHour 20 = .ok (.goto (-18), 3) := by decide +kernel
theorem dX5_waitHourByHour_23 : decode cX5_waitHourByHour 23 = .ok (.iload_n 2, 1) := by decide +kernel
theorem dX5_waitHourByHour_24 : decode cX5_waitHourByHour 24 = .ok (.ireturn, 1) := by decide +kernel
set_option maxRecDepth 100000 in
set_option maxHeartbeats 4000000 in
theorem C_X5_waitHourByHour (l : Launch) (E : gE) (x : gX) {o : Nat} (ho : gOk o) {v1 : Int32} {M : gM} {r : Int32} (hf : f_X5_waitHourByHour o v1 M = some r) : gM0 l E yX5_waitHourByHour (.code yX5_waitHourByHour cX5_waitHourByHour 3 (some .int)) (gR 3 65) M x [.ref (E.2.1 o), .int v1] (some (.int r)) M := by
  refine gMet (by decide +kernel) (Nat.le_of_ble_eq_true rfl) ?_
  intro p e s m args below meth c H locs ls Q hC hl hI kr kv
  replace hC : gC p s m args c cX5_waitHourByHour 3 RX5 E := hC
  replace hl : lv_has ls 3 [(0, .ref (E.2.1 o)), (1, .int v1)] := hl
  have hx := hC.1
  have hb := hC.2.1
  have L2 : ∀ (v1 : Int32) (n : Nat) (v2 : Int32), f_X5_waitHourByHour_L2 o M v1 n v2 = some r → ∀ (H : Heap) (locs : List Loc) (ls : Array Slot), gI E s M x H locs → lv_has ls 3 [(2, .int v2), (0, .ref (E.2.1 o)), (1, .int v1)] → W p l e (gR 3 65) s m args below meth c H locs 0 0 Q (F0 m 2 ls []) := by
    intro v1 n
    induction n with
    | zero => intro v2 hf; rw [f_X5_waitHourByHour_L2] at hf; cases hf
    | succ n ih =>
      intro v2 hf H locs ls hI hl
      rw [f_X5_waitHourByHour_L2] at hf
      refine lv_iload_n hx hb dX5_waitHourByHour_2 rfl (lv_at hl 0 rfl) ?_
      refine lv_bipush (v := 12) hx hb dX5_waitHourByHour_3 (by decide) ?_
      refine lv_icmp_ge (tgt := 23) hx hb dX5_waitHourByHour_5 rfl (fun h1 => ?_) (fun h1 => ?_)
      · replace hf := gif h1 hf
        refine lv_iload_n hx hb dX5_waitHourByHour_23 rfl (lv_at hl 0 rfl) ?_
        exact kr _ _ _ _ _ _ (gri hf) hI ⟨.int, rfl, rfl⟩ dX5_waitHourByHour_24
      · replace hf := gifn h1 hf
        refine lv_aload_n hx hb dX5_waitHourByHour_8 rfl (lv_at hl 1 rfl) ?_
        refine lv_iload_n hx hb dX5_waitHourByHour_9 rfl (lv_at hl 2 rfl) ?_
        refine lv_iload_n hx hb dX5_waitHourByHour_10 rfl (lv_at hl 0 rfl) ?_
        obtain ⟨r2, hr3, hf⟩ := gbind hf
        have hr3 := C_X5_floatsAfter l E x ho hr3
        refine g_callVi (rest := []) hC hI hr3 Y_X5_floatsAfter V_X5_floatsAfter w520 (rcv_X5 hC hI ho) ⟨rfl, rfl⟩ ⟨Nat.le_of_ble_eq_true rfl, Nat.le_of_ble_eq_true rfl⟩ rfl hl.1 rfl (Nat.le_of_ble_eq_true rfl) dX5_waitHourByHour_11 ⟨Nat.le_of_ble_eq_true rfl, Nat.le_of_ble_eq_true rfl⟩ (fun H locs hI => ?_)
        refine lv_if_ne (tgt := 23) hx hb dX5_waitHourByHour_14 rfl (fun h4 => ?_) (fun h4 => ?_)
        · replace hf := gifn h4 hf
          refine lv_iload_n hx hb dX5_waitHourByHour_23 rfl (lv_at hl 0 rfl) ?_
          exact kr _ _ _ _ _ _ (gri hf) hI ⟨.int, rfl, rfl⟩ dX5_waitHourByHour_24
        · replace hf := gif h4 hf
          refine lv_iinc (k := 0) (v := v2 + 1) (lv' := [(2, .int (v2 + 1)), (0, .ref (E.2.1 o)), (1, .int v1)]) hx hb dX5_waitHourByHour_17 hl rfl rfl (by decide) rfl (fun ls hl => ?_)
          refine lv_goto (tgt := 2) hx hb dX5_waitHourByHour_20 rfl ?_
          exact ih (v2 + 1) hf _ _ _ hI (lv_sub hl [0, 1, 2] rfl)
  unfold f_X5_waitHourByHour at hf
  refine lv_iconst (v := 0) hx hb dX5_waitHourByHour_0 (by decide) ?_
  refine lv_istore_n (lv' := [(2, .int 0), (0, .ref (E.2.1 o)), (1, .int v1)]) hx hb dX5_waitHourByHour_1 rfl hl (by decide) rfl (fun ls hl => ?_)
  exact L2 v1 gF 0 hf _ _ _ hI (lv_sub hl [0, 1, 2] rfl)
theorem dX6_hoursUntilFloating_0 : decode cX6_hoursUntilFloating 0 = .ok (.aload_n 0, 1) := by decide +kernel
theorem dX6_hoursUntilFloating_1 : decode cX6_hoursUntilFloating 1 = .ok (.iload_n 1, 1) := by decide +kernel
theorem dX6_hoursUntilFloating_2 : decode cX6_hoursUntilFloating 2 = .ok (.invokevirtual 142, 3) := by decide +kernel
theorem dX6_hoursUntilFloating_5 : decode cX6_hoursUntilFloating 5 = .ok (.aload_n 0, 1) := by decide +kernel
theorem dX6_hoursUntilFloating_6 : decode cX6_hoursUntilFloating 6 = .ok (.getfield 10, 3) := by decide +kernel
theorem dX6_hoursUntilFloating_9 : decode cX6_hoursUntilFloating 9 = .ok (.iload_n 1, 1) := by decide +kernel
theorem dX6_hoursUntilFloating_10 : decode cX6_hoursUntilFloating 10 = .ok (.invokevirtual 156, 3) := by decide +kernel
theorem dX6_hoursUntilFloating_13 : decode cX6_hoursUntilFloating 13 = .ok (.ireturn, 1) := by decide +kernel
set_option maxRecDepth 100000 in
set_option maxHeartbeats 4000000 in
theorem C_X6_hoursUntilFloating (l : Launch) (hst : l.stackTraces = false) (E : gE) (x : gX) {v1 : Int32} {M : gM} {oc : String ⊕ Int32} {M' : gM} (hf : f_X6_hoursUntilFloating v1 M = some (oc, M')) : gX0 l E yX6_hoursUntilFloating (.code yX6_hoursUntilFloating cX6_hoursUntilFloating 2 (some .int)) (gRX 9 151 2 12) M x [.ref (E.2.1 132), .int v1] (gO oc) M' 2 12 := by
  refine gMetX hst (by decide +kernel) (Nat.le_of_ble_eq_true rfl) ?_
  intro p e s m args below meth c H locs ls Q hC hl hI kr kv kx kt kd kf
  replace hC : gC p s m args c cX6_hoursUntilFloating 2 RX6 E := hC
  replace hl : lv_has ls 2 [(0, .ref (E.2.1 132)), (1, .int v1)] := hl
  have hx := hC.1
  have hb := hC.2.1
  unfold f_X6_hoursUntilFloating at hf
  refine lv_aload_n hx hb dX6_hoursUntilFloating_0 rfl (lv_at hl 0 rfl) ?_
  refine lv_iload_n hx hb dX6_hoursUntilFloating_1 rfl (lv_at hl 1 rfl) ?_
  rcases gseq hf with ⟨er, Mr, hr2, hf⟩ | ⟨_, M3, hr2, hf⟩
  · replace hr2 := C_X6_requireShip l hst E x  hr2
    exact g_xVx (rest := []) hC hI hr2 Y_X6_requireShip V_X6_requireShip w575 (rcv_X6 hC hI) ⟨rfl, rfl⟩ ⟨Nat.le_of_ble_eq_true rfl, Nat.le_of_ble_eq_true rfl⟩ rfl hl.1 rfl (Nat.le_of_ble_eq_true rfl) dX6_hoursUntilFloating_2 ⟨Nat.le_of_ble_eq_true rfl, Nat.le_of_ble_eq_true rfl⟩ (fun ce q H locs hI h1 h2 h3 => kx _ _ _ _ _ _ _ _ _ _ _ (gtx hf) hI h1 h2 h3 ⟨Nat.le_of_ble_eq_true rfl, Nat.le_of_ble_eq_true rfl⟩)
  replace hr2 := C_X6_requireShip l hst E x  hr2
  refine g_xVv (rest := []) hC hI hr2 Y_X6_requireShip V_X6_requireShip w575 (rcv_X6 hC hI) ⟨rfl, rfl⟩ ⟨Nat.le_of_ble_eq_true rfl, Nat.le_of_ble_eq_true rfl⟩ rfl hl.1 rfl (Nat.le_of_ble_eq_true rfl) dX6_hoursUntilFloating_2 ⟨Nat.le_of_ble_eq_true rfl, Nat.le_of_ble_eq_true rfl⟩ (fun H locs hI => ?_)
  refine lv_aload_n hx hb dX6_hoursUntilFloating_5 rfl (lv_at hl 0 rfl) ?_
  refine gt_X6_X6_now hC hI dX6_hoursUntilFloating_6 ?_
  refine lv_iload_n hx hb dX6_hoursUntilFloating_9 rfl (lv_at hl 1 rfl) ?_
  obtain ⟨r4, hr5, hf⟩ := gbind hf
  have hr5 := C_X5_waitHourByHour l E x gOk_0 hr5
  refine g_callVi (rest := []) hC hI hr5 Y_X5_waitHourByHour V_X5_waitHourByHour w584 (rcv_X5 hC hI gOk_0) ⟨rfl, rfl⟩ ⟨Nat.le_of_ble_eq_true rfl, Nat.le_of_ble_eq_true rfl⟩ rfl hl.1 rfl (Nat.le_of_ble_eq_true rfl) dX6_hoursUntilFloating_10 ⟨Nat.le_of_ble_eq_true rfl, Nat.le_of_ble_eq_true rfl⟩ (fun H locs hI => ?_)
  exact kr _ _ _ _ _ _ _ _ (gre hf) hI ⟨.int, rfl, rfl⟩ ⟨Nat.le_of_ble_eq_true rfl, Nat.le_of_ble_eq_true rfl⟩ dX6_hoursUntilFloating_13
theorem dX5_waitByTide_0 : decode cX5_waitByTide 0 = .ok (.aload_n 0, 1) := by decide +kernel
theorem dX5_waitByTide_1 : decode cX5_waitByTide 1 = .ok (.iload_n 1, 1) := by decide +kernel
theorem dX5_waitByTide_2 : decode cX5_waitByTide 2 = .ok (.invokevirtual 64, 3) := by decide +kernel
theorem dX5_waitByTide_5 : decode cX5_waitByTide 5 = .ok (.ifCond .eq 14, 3) := by decide +kernel
theorem dX5_waitByTide_8 : decode cX5_waitByTide 8 = .ok (.aload_n 0, 1) := by decide +kernel
theorem dX5_waitByTide_9 : decode cX5_waitByTide 9 = .ok (.getfield 18, 3) := by decide +kernel
theorem dX5_waitByTide_12 : decode cX5_waitByTide 12 = .ok (.iload_n 1, 1) := by decide +kernel
theorem dX5_waitByTide_13 : decode cX5_waitByTide 13 = .ok (.iaload, 1) := by decide +kernel
theorem dX5_waitByTide_14 : decode cX5_waitByTide 14 = .ok (.iconst 4, 1) := by decide +kernel
theorem dX5_waitByTide_15 : decode cX5_waitByTide 15 = .ok (.isub, 1) := by decide +kernel
theorem dX5_waitByTide_16 : decode cX5_waitByTide 16 = .ok (.goto 4, 3) := by decide +kernel
theorem dX5_waitByTide_19 : decode cX5_waitByTide 19 = .ok (.iconst 0, 1) := by decide +kernel
theorem dX5_waitByTide_20 : decode cX5_waitByTide 20 = .ok (.istore_n 2, 1) := by decide +kernel
theorem dX5_waitByTide_21 : decode cX5_waitByTide 21 = .ok (.aload_n 0, 1) := by decide +kernel
theorem dX5_waitByTide_22 : decode cX5_waitByTide 22 = .ok (.getfield 31, 3) := by decide +kernel
theorem dX5_waitByTide_25 : decode cX5_waitByTide 25 = .ok (.bipush 12, 2) := by decide +kernel
theorem dX5_waitByTide_27 : decode cX5_waitByTide 27 = .ok (.invokestatic 119, 3) := by decide +kernel
theorem dX5_waitByTide_30 : decode cX5_waitByTide 30 = .ok (.istore_n 3, 1) := by decide +kernel
theorem dX5_waitByTide_31 : decode cX5_waitByTide 31 = .ok (.iload_n 2, 1) := by decide +kernel
theorem dX5_waitByTide_32 : decode cX5_waitByTide 32 = .ok (.ifCond .gt 5, 3) := by decide +kernel
theorem dX5_waitByTide_35 : decode cX5_waitByTide 35 = .ok (.iconst 0, 1) := by decide +kernel
theorem dX5_waitByTide_36 : decode cX5_waitByTide 36 = .ok (.ireturn, 1) := by decide +kernel
theorem dX5_waitByTide_37 : decode cX5_waitByTide 37 = .ok (.iload_n 3, 1) := by decide +kernel
theorem dX5_waitByTide_38 : decode cX5_waitByTide 38 = .ok (.iload_n 2, 1) := by decide +kernel
theorem dX5_waitByTide_39 : decode cX5_waitByTide 39 = .ok (.if_icmp .ge 7, 3) := by decide +kernel
theorem dX5_waitByTide_42 : decode cX5_waitByTide 42 = .ok (.iload_n 2, 1) := by decide +kernel
theorem dX5_waitByTide_43 : decode cX5_waitByTide 43 = .ok (.iload_n 3, 1) := by decide +kernel
theorem dX5_waitByTide_44 : decode cX5_waitByTide 44 = .ok (.isub, 1) := by decide +kernel
theorem dX5_waitByTide_45 : decode cX5_waitByTide 45 = .ok (.ireturn, 1) := by decide +kernel
theorem dX5_waitByTide_46 : decode cX5_waitByTide 46 = .ok (.iload_n 3, 1) := by decide +kernel
theorem dX5_waitByTide_47 : decode cX5_waitByTide 47 = .ok (.bipush 12, 2) := by decide +kernel
theorem dX5_waitByTide_49 : decode cX5_waitByTide 49 = .ok (.iload_n 2, 1) := by decide +kernel
theorem dX5_waitByTide_50 : decode cX5_waitByTide 50 = .ok (.isub, 1) := by decide +kernel
theorem dX5_waitByTide_51 : decode cX5_waitByTide 51 = .ok (.if_icmp .gt 7, 3) := by decide +kernel
theorem dX5_waitByTide_54 : decode cX5_waitByTide 54 = .ok (.iconst 0, 1) := by decide +kernel
theorem dX5_waitByTide_55 : decode cX5_waitByTide 55 = .ok (.goto 9, 3) := by decide +kernel
theorem dX5_waitByTide_58 : decode cX5_waitByTide 58 = .ok (.bipush 12, 2) := by decide +kernel
theorem dX5_waitByTide_60 : decode cX5_waitByTide 60 = .ok (.iload_n 3, 1) := by decide +kernel
theorem dX5_waitByTide_61 : decode cX5_waitByTide 61 = .ok (.isub, 1) := by decide +kernel
theorem dX5_waitByTide_62 : decode cX5_waitByTide 62 = .ok (.iload_n 2, 1) := by decide +kernel
theorem dX5_waitByTide_63 : decode cX5_waitByTide 63 = .ok (.iadd, 1) := by decide +kernel
theorem dX5_waitByTide_64 : decode cX5_waitByTide 64 = .ok (.ireturn, 1) := by decide +kernel
set_option maxRecDepth 100000 in
set_option maxHeartbeats 4000000 in
theorem C_X5_waitByTide (l : Launch) (E : gE) (x : gX) {o : Nat} (ho : gOk o) {v1 : Int32} {M : gM} {r : Int32} (hf : f_X5_waitByTide o v1 M = some r) : gM0 l E yX5_waitByTide (.code yX5_waitByTide cX5_waitByTide 4 (some .int)) (gR 2 41) M x [.ref (E.2.1 o), .int v1] (some (.int r)) M := by
  refine gMet (by decide +kernel) (Nat.le_of_ble_eq_true rfl) ?_
  intro p e s m args below meth c H locs ls Q hC hl hI kr kv
  replace hC : gC p s m args c cX5_waitByTide 4 RX5 E := hC
  replace hl : lv_has ls 4 [(0, .ref (E.2.1 o)), (1, .int v1)] := hl
  have hx := hC.1
  have hb := hC.2.1
  unfold f_X5_waitByTide at hf
  refine lv_aload_n hx hb dX5_waitByTide_0 rfl (lv_at hl 0 rfl) ?_
  refine lv_iload_n hx hb dX5_waitByTide_1 rfl (lv_at hl 1 rfl) ?_
  obtain ⟨r1, hr2, hf⟩ := gbind hf
  have hr2 := C_X5_hasShip l E x ho hr2
  refine g_callVi (rest := []) hC hI hr2 Y_X5_hasShip V_X5_hasShip w251 (rcv_X5 hC hI ho) ⟨rfl, rfl⟩ ⟨Nat.le_of_ble_eq_true rfl, Nat.le_of_ble_eq_true rfl⟩ rfl hl.1 rfl (Nat.le_of_ble_eq_true rfl) dX5_waitByTide_2 ⟨Nat.le_of_ble_eq_true rfl, Nat.le_of_ble_eq_true rfl⟩ (fun H locs hI => ?_)
  refine lv_if_eq (tgt := 19) hx hb dX5_waitByTide_5 rfl (fun h3 => ?_) (fun h3 => ?_)
  · replace hf := gif h3 hf
    refine lv_iconst (v := 0) hx hb dX5_waitByTide_19 (by decide) ?_
    refine lv_istore_n (lv' := [(2, .int 0), (0, .ref (E.2.1 o)), (1, .int v1)]) hx hb dX5_waitByTide_20 rfl hl (by decide) rfl (fun ls hl => ?_)
    refine lv_aload_n hx hb dX5_waitByTide_21 rfl (lv_at hl 1 rfl) ?_
    refine gt_X5_X5_hour hC hI ho dX5_waitByTide_22 ?_
    refine lv_bipush (v := 12) hx hb dX5_waitByTide_25 (by decide) ?_
    obtain ⟨r4, hr5, hf⟩ := gbind hf
    have hr5 := C_J9_floorMod_7cf53 l E x  hr5
    refine g_callSi (rest := []) hC hI hr5 Y_J9_floorMod_7cf53 S_J9_floorMod_7cf53 w596 ⟨rfl, rfl⟩ ⟨Nat.le_of_ble_eq_true rfl, Nat.le_of_ble_eq_true rfl⟩ rfl hl.1 rfl (Nat.le_of_ble_eq_true rfl) dX5_waitByTide_27 ⟨Nat.le_of_ble_eq_true rfl, Nat.le_of_ble_eq_true rfl⟩ (fun H locs hI => ?_)
    refine lv_istore_n (lv' := [(3, .int r4), (2, .int 0), (0, .ref (E.2.1 o)), (1, .int v1)]) hx hb dX5_waitByTide_30 rfl hl (by decide) rfl (fun ls hl => ?_)
    refine lv_iload_n hx hb dX5_waitByTide_31 rfl (lv_at hl 1 rfl) ?_
    refine lv_if_gt (tgt := 37) hx hb dX5_waitByTide_32 rfl (fun h6 => absurd h6 (by decide)) (fun h6 => ?_)
    refine lv_iconst (v := 0) hx hb dX5_waitByTide_35 (by decide) ?_
    exact kr _ _ _ _ _ _ (gri hf) hI ⟨.int, rfl, rfl⟩ dX5_waitByTide_36
  · replace hf := gifn h3 hf
    refine lv_aload_n hx hb dX5_waitByTide_8 rfl (lv_at hl 0 rfl) ?_
    refine gt_X5_X5_draughts hC hI ho dX5_waitByTide_9 ?_
    refine lv_iload_n hx hb dX5_waitByTide_12 rfl (lv_at hl 1 rfl) ?_
    obtain ⟨h7, hf⟩ := gifN hf
    refine g_iald hC hI (k := v1.toNatClampNeg) (gIA_8 ho) h7 rfl dX5_waitByTide_13 ?_
    refine lv_iconst (v := 4) hx hb dX5_waitByTide_14 (by decide) ?_
    refine lv_isub hx hb dX5_waitByTide_15 ?_
    refine lv_goto (tgt := 20) hx hb dX5_waitByTide_16 rfl ?_
    obtain ⟨z8, ez8, hf⟩ := glet hf
    refine g_top ez8 ?_
    refine lv_istore_n (lv' := [(2, .int z8), (0, .ref (E.2.1 o)), (1, .int v1)]) hx hb dX5_waitByTide_20 rfl hl (by decide) rfl (fun ls hl => ?_)
    refine lv_aload_n hx hb dX5_waitByTide_21 rfl (lv_at hl 1 rfl) ?_
    refine gt_X5_X5_hour hC hI ho dX5_waitByTide_22 ?_
    refine lv_bipush (v := 12) hx hb dX5_waitByTide_25 (by decide) ?_
    obtain ⟨r9, hr10, hf⟩ := gbind hf
    have hr10 := C_J9_floorMod_7cf53 l E x  hr10
    refine g_callSi (rest := []) hC hI hr10 Y_J9_floorMod_7cf53 S_J9_floorMod_7cf53 w596 ⟨rfl, rfl⟩ ⟨Nat.le_of_ble_eq_true rfl, Nat.le_of_ble_eq_true rfl⟩ rfl hl.1 rfl (Nat.le_of_ble_eq_true rfl) dX5_waitByTide_27 ⟨Nat.le_of_ble_eq_true rfl, Nat.le_of_ble_eq_true rfl⟩ (fun H locs hI => ?_)
    refine lv_istore_n (lv' := [(3, .int r9), (2, .int z8), (0, .ref (E.2.1 o)), (1, .int v1)]) hx hb dX5_waitByTide_30 rfl hl (by decide) rfl (fun ls hl => ?_)
    refine lv_iload_n hx hb dX5_waitByTide_31 rfl (lv_at hl 1 rfl) ?_
    refine lv_if_gt (tgt := 37) hx hb dX5_waitByTide_32 rfl (fun h11 => ?_) (fun h11 => ?_)
    · replace hf := gif h11 hf
      refine lv_iload_n hx hb dX5_waitByTide_37 rfl (lv_at hl 0 rfl) ?_
      refine lv_iload_n hx hb dX5_waitByTide_38 rfl (lv_at hl 1 rfl) ?_
      refine lv_icmp_ge (tgt := 46) hx hb dX5_waitByTide_39 rfl (fun h12 => ?_) (fun h12 => ?_)
      · replace hf := gif h12 hf
        refine lv_iload_n hx hb dX5_waitByTide_46 rfl (lv_at hl 0 rfl) ?_
        refine lv_bipush (v := 12) hx hb dX5_waitByTide_47 (by decide) ?_
        refine lv_iload_n hx hb dX5_waitByTide_49 rfl (lv_at hl 1 rfl) ?_
        refine lv_isub hx hb dX5_waitByTide_50 ?_
        refine lv_icmp_gt (tgt := 58) hx hb dX5_waitByTide_51 rfl (fun h13 => ?_) (fun h13 => ?_)
        · replace hf := gif h13 hf
          refine lv_bipush (v := 12) hx hb dX5_waitByTide_58 (by decide) ?_
          refine lv_iload_n hx hb dX5_waitByTide_60 rfl (lv_at hl 0 rfl) ?_
          refine lv_isub hx hb dX5_waitByTide_61 ?_
          refine lv_iload_n hx hb dX5_waitByTide_62 rfl (lv_at hl 1 rfl) ?_
          refine lv_iadd hx hb dX5_waitByTide_63 ?_
          exact kr _ _ _ _ _ _ (gri hf) hI ⟨.int, rfl, rfl⟩ dX5_waitByTide_64
        · replace hf := gifn h13 hf
          refine lv_iconst (v := 0) hx hb dX5_waitByTide_54 (by decide) ?_
          refine lv_goto (tgt := 64) hx hb dX5_waitByTide_55 rfl ?_
          exact kr _ _ _ _ _ _ (gri hf) hI ⟨.int, rfl, rfl⟩ dX5_waitByTide_64
      · replace hf := gifn h12 hf
        refine lv_iload_n hx hb dX5_waitByTide_42 rfl (lv_at hl 1 rfl) ?_
        refine lv_iload_n hx hb dX5_waitByTide_43 rfl (lv_at hl 0 rfl) ?_
        refine lv_isub hx hb dX5_waitByTide_44 ?_
        exact kr _ _ _ _ _ _ (gri hf) hI ⟨.int, rfl, rfl⟩ dX5_waitByTide_45
    · replace hf := gifn h11 hf
      refine lv_iconst (v := 0) hx hb dX5_waitByTide_35 (by decide) ?_
      exact kr _ _ _ _ _ _ (gri hf) hI ⟨.int, rfl, rfl⟩ dX5_waitByTide_36
theorem dX6_hoursUntilFloatingByTide_0 : decode cX6_hoursUntilFloatingByTide 0 = .ok (.aload_n 0, 1) := by decide +kernel
theorem dX6_hoursUntilFloatingByTide_1 : decode cX6_hoursUntilFloatingByTide 1 = .ok (.iload_n 1, 1) := by decide +kernel
theorem dX6_hoursUntilFloatingByTide_2 : decode cX6_hoursUntilFloatingByTide 2 = .ok (.invokevirtual 142, 3) := by decide +kernel
theorem dX6_hoursUntilFloatingByTide_5 : decode cX6_hoursUntilFloatingByTide 5 = .ok (.aload_n 0, 1) := by decide +kernel
theorem dX6_hoursUntilFloatingByTide_6 : decode cX6_hoursUntilFloatingByTide 6 = .ok (.getfield 10, 3) := by decide +kernel
theorem dX6_hoursUntilFloatingByTide_9 : decode cX6_hoursUntilFloatingByTide 9 = .ok (.iload_n 1, 1) := by decide +kernel
theorem dX6_hoursUntilFloatingByTide_10 : decode cX6_hoursUntilFloatingByTide 10 = .ok (.invokevirtual 159, 3) := by decide +kernel
theorem dX6_hoursUntilFloatingByTide_13 : decode cX6_hoursUntilFloatingByTide 13 = .ok (.ireturn, 1) := by decide +kernel
set_option maxRecDepth 100000 in
set_option maxHeartbeats 4000000 in
theorem C_X6_hoursUntilFloatingByTide (l : Launch) (hst : l.stackTraces = false) (E : gE) (x : gX) {v1 : Int32} {M : gM} {oc : String ⊕ Int32} {M' : gM} (hf : f_X6_hoursUntilFloatingByTide v1 M = some (oc, M')) : gX0 l E yX6_hoursUntilFloatingByTide (.code yX6_hoursUntilFloatingByTide cX6_hoursUntilFloatingByTide 2 (some .int)) (gRX 9 151 2 12) M x [.ref (E.2.1 132), .int v1] (gO oc) M' 2 12 := by
  refine gMetX hst (by decide +kernel) (Nat.le_of_ble_eq_true rfl) ?_
  intro p e s m args below meth c H locs ls Q hC hl hI kr kv kx kt kd kf
  replace hC : gC p s m args c cX6_hoursUntilFloatingByTide 2 RX6 E := hC
  replace hl : lv_has ls 2 [(0, .ref (E.2.1 132)), (1, .int v1)] := hl
  have hx := hC.1
  have hb := hC.2.1
  unfold f_X6_hoursUntilFloatingByTide at hf
  refine lv_aload_n hx hb dX6_hoursUntilFloatingByTide_0 rfl (lv_at hl 0 rfl) ?_
  refine lv_iload_n hx hb dX6_hoursUntilFloatingByTide_1 rfl (lv_at hl 1 rfl) ?_
  rcases gseq hf with ⟨er, Mr, hr2, hf⟩ | ⟨_, M3, hr2, hf⟩
  · replace hr2 := C_X6_requireShip l hst E x  hr2
    exact g_xVx (rest := []) hC hI hr2 Y_X6_requireShip V_X6_requireShip w575 (rcv_X6 hC hI) ⟨rfl, rfl⟩ ⟨Nat.le_of_ble_eq_true rfl, Nat.le_of_ble_eq_true rfl⟩ rfl hl.1 rfl (Nat.le_of_ble_eq_true rfl) dX6_hoursUntilFloatingByTide_2 ⟨Nat.le_of_ble_eq_true rfl, Nat.le_of_ble_eq_true rfl⟩ (fun ce q H locs hI h1 h2 h3 => kx _ _ _ _ _ _ _ _ _ _ _ (gtx hf) hI h1 h2 h3 ⟨Nat.le_of_ble_eq_true rfl, Nat.le_of_ble_eq_true rfl⟩)
  replace hr2 := C_X6_requireShip l hst E x  hr2
  refine g_xVv (rest := []) hC hI hr2 Y_X6_requireShip V_X6_requireShip w575 (rcv_X6 hC hI) ⟨rfl, rfl⟩ ⟨Nat.le_of_ble_eq_true rfl, Nat.le_of_ble_eq_true rfl⟩ rfl hl.1 rfl (Nat.le_of_ble_eq_true rfl) dX6_hoursUntilFloatingByTide_2 ⟨Nat.le_of_ble_eq_true rfl, Nat.le_of_ble_eq_true rfl⟩ (fun H locs hI => ?_)
  refine lv_aload_n hx hb dX6_hoursUntilFloatingByTide_5 rfl (lv_at hl 0 rfl) ?_
  refine gt_X6_X6_now hC hI dX6_hoursUntilFloatingByTide_6 ?_
  refine lv_iload_n hx hb dX6_hoursUntilFloatingByTide_9 rfl (lv_at hl 1 rfl) ?_
  obtain ⟨r4, hr5, hf⟩ := gbind hf
  have hr5 := C_X5_waitByTide l E x gOk_0 hr5
  refine g_callVi (rest := []) hC hI hr5 Y_X5_waitByTide V_X5_waitByTide w592 (rcv_X5 hC hI gOk_0) ⟨rfl, rfl⟩ ⟨Nat.le_of_ble_eq_true rfl, Nat.le_of_ble_eq_true rfl⟩ rfl hl.1 rfl (Nat.le_of_ble_eq_true rfl) dX6_hoursUntilFloatingByTide_10 ⟨Nat.le_of_ble_eq_true rfl, Nat.le_of_ble_eq_true rfl⟩ (fun H locs hI => ?_)
  exact kr _ _ _ _ _ _ _ _ (gre hf) hI ⟨.int, rfl, rfl⟩ ⟨Nat.le_of_ble_eq_true rfl, Nat.le_of_ble_eq_true rfl⟩ dX6_hoursUntilFloatingByTide_13
theorem dX5_dueAt_0 : decode cX5_dueAt 0 = .ok (.iload_n 1, 1) := by decide +kernel
theorem dX5_dueAt_1 : decode cX5_dueAt 1 = .ok (.invokestatic 60, 3) := by decide +kernel
theorem dX5_dueAt_4 : decode cX5_dueAt 4 = .ok (.ifCond .eq 12, 3) := by decide +kernel
theorem dX5_dueAt_7 : decode cX5_dueAt 7 = .ok (.aload_n 0, 1) := by decide +kernel
theorem dX5_dueAt_8 : decode cX5_dueAt 8 = .ok (.getfield 22, 3) := by decide +kernel
theorem dX5_dueAt_11 : decode cX5_dueAt 11 = .ok (.iload_n 1, 1) := by decide +kernel
theorem dX5_dueAt_12 : decode cX5_dueAt 12 = .ok (.iaload, 1) := by decide +kernel
theorem dX5_dueAt_13 : decode cX5_dueAt 13 = .ok (.goto 4, 3) := by decide +kernel
theorem dX5_dueAt_16 : decode cX5_dueAt 16 = .ok (.iconst 0, 1) := by decide +kernel
theorem dX5_dueAt_17 : decode cX5_dueAt 17 = .ok (.ireturn, 1) := by decide +kernel
set_option maxRecDepth 100000 in
set_option maxHeartbeats 4000000 in
theorem C_X5_dueAt (l : Launch) (E : gE) (x : gX) {o : Nat} (ho : gOk o) {v1 : Int32} {M : gM} {r : Int32} (hf : f_X5_dueAt o v1 M = some r) : gM0 l E yX5_dueAt (.code yX5_dueAt cX5_dueAt 2 (some .int)) (gR 1 20) M x [.ref (E.2.1 o), .int v1] (some (.int r)) M := by
  refine gMet (by decide +kernel) (Nat.le_of_ble_eq_true rfl) ?_
  intro p e s m args below meth c H locs ls Q hC hl hI kr kv
  replace hC : gC p s m args c cX5_dueAt 2 RX5 E := hC
  replace hl : lv_has ls 2 [(0, .ref (E.2.1 o)), (1, .int v1)] := hl
  have hx := hC.1
  have hb := hC.2.1
  unfold f_X5_dueAt at hf
  refine lv_iload_n hx hb dX5_dueAt_0 rfl (lv_at hl 1 rfl) ?_
  obtain ⟨r1, hr2, hf⟩ := gbind hf
  have hr2 := C_X6_isBerth l E x  hr2
  refine g_callSNi (rest := []) hC hI hr2 Y_X6_isBerth S_X6_isBerth (List.mem_of_getElem? (i := 6) rfl) ⟨rfl, rfl⟩ ⟨Nat.le_of_ble_eq_true rfl, Nat.le_of_ble_eq_true rfl⟩ rfl hl.1 rfl (Nat.le_of_ble_eq_true rfl) dX5_dueAt_1 ⟨Nat.le_of_ble_eq_true rfl, Nat.le_of_ble_eq_true rfl⟩ (fun H locs hI => ?_)
  refine lv_if_eq (tgt := 16) hx hb dX5_dueAt_4 rfl (fun h3 => ?_) (fun h3 => ?_)
  · replace hf := gif h3 hf
    refine lv_iconst (v := 0) hx hb dX5_dueAt_16 (by decide) ?_
    exact kr _ _ _ _ _ _ (gri hf) hI ⟨.int, rfl, rfl⟩ dX5_dueAt_17
  · replace hf := gifn h3 hf
    refine lv_aload_n hx hb dX5_dueAt_7 rfl (lv_at hl 0 rfl) ?_
    refine gt_X5_X5_dueHours hC hI ho dX5_dueAt_8 ?_
    refine lv_iload_n hx hb dX5_dueAt_11 rfl (lv_at hl 1 rfl) ?_
    obtain ⟨h4, hf⟩ := gifN hf
    refine g_iald hC hI (k := v1.toNatClampNeg) (gIA_9 ho) h4 rfl dX5_dueAt_12 ?_
    refine lv_goto (tgt := 17) hx hb dX5_dueAt_13 rfl ?_
    exact kr _ _ _ _ _ _ (gri hf) hI ⟨.int, rfl, rfl⟩ dX5_dueAt_17
theorem dX5_isMoreUrgent_0 : decode cX5_isMoreUrgent 0 = .ok (.aload_n 0, 1) := by decide +kernel
theorem dX5_isMoreUrgent_1 : decode cX5_isMoreUrgent 1 = .ok (.iload_n 1, 1) := by decide +kernel
theorem dX5_isMoreUrgent_2 : decode cX5_isMoreUrgent 2 = .ok (.invokevirtual 127, 3) := by decide +kernel
theorem dX5_isMoreUrgent_5 : decode cX5_isMoreUrgent 5 = .ok (.aload_n 0, 1) := by decide +kernel
theorem dX5_isMoreUrgent_6 : decode cX5_isMoreUrgent 6 = .ok (.iload_n 2, 1) := by decide +kernel
theorem dX5_isMoreUrgent_7 : decode cX5_isMoreUrgent 7 = .ok (.invokevirtual 127, 3) := by decide +kernel
theorem dX5_isMoreUrgent_10 : decode cX5_isMoreUrgent 10 = .ok (.if_icmp .eq 22, 3) := by decide +kernel
theorem dX5_isMoreUrgent_13 : decode cX5_isMoreUrgent 13 = .ok (.aload_n 0, 1) := by decide +kernel
theorem dX5_isMoreUrgent_14 : decode cX5_isMoreUrgent 14 = .ok (.iload_n 1, 1) := by decide +kernel
theorem dX5_isMoreUrgent_15 : decode cX5_isMoreUrgent 15 = .ok (.invokevirtual 127, 3) := by decide +kernel
theorem dX5_isMoreUrgent_18 : decode cX5_isMoreUrgent 18 = .ok (.aload_n 0, 1) := by decide +kernel
theorem dX5_isMoreUrgent_19 : decode cX5_isMoreUrgent 19 = .ok (.iload_n 2, 1) := by decide +kernel
theorem dX5_isMoreUrgent_20 : decode cX5_isMoreUrgent 20 = .ok (.invokevirtual 127, 3) := by decide +kernel
theorem dX5_isMoreUrgent_23 : decode cX5_isMoreUrgent 23 = .ok (.if_icmp .ge 7, 3) := by decide +kernel
theorem dX5_isMoreUrgent_26 : decode cX5_isMoreUrgent 26 = .ok (.iconst 1, 1) := by decide +kernel
theorem dX5_isMoreUrgent_27 : decode cX5_isMoreUrgent 27 = .ok (.goto 4, 3) := by decide +kernel
theorem dX5_isMoreUrgent_30 : decode cX5_isMoreUrgent 30 = .ok (.iconst 0, 1) := by decide +kernel
theorem dX5_isMoreUrgent_31 : decode cX5_isMoreUrgent 31 = .ok (.ireturn, 1) := by decide +kernel
theorem dX5_isMoreUrgent_32 : decode cX5_isMoreUrgent 32 = .ok (.aload_n 0, 1) := by decide +kernel
theorem dX5_isMoreUrgent_33 : decode cX5_isMoreUrgent 33 = .ok (.getfield 12, 3) := by decide +kernel
theorem dX5_isMoreUrgent_36 : decode cX5_isMoreUrgent 36 = .ok (.iload_n 1, 1) := by decide +kernel
theorem dX5_isMoreUrgent_37 : decode cX5_isMoreUrgent 37 = .ok (.invokevirtual 105, 3) := by decide +kernel
theorem dX5_isMoreUrgent_40 : decode cX5_isMoreUrgent 40 = .ok (.aload_n 0, 1) := by decide +kernel
theorem dX5_isMoreUrgent_41 : decode cX5_isMoreUrgent 41 = .ok (.getfield 12, 3) := by decide +kernel
theorem dX5_isMoreUrgent_44 : decode cX5_isMoreUrgent 44 = .ok (.iload_n 2, 1) := by decide +kernel
theorem dX5_isMoreUrgent_45 : decode cX5_isMoreUrgent 45 = .ok (.invokevirtual 105, 3) := by decide +kernel
theorem dX5_isMoreUrgent_48 : decode cX5_isMoreUrgent 48 = .ok (.if_icmp .le 7, 3) := by decide +kernel
theorem dX5_isMoreUrgent_51 : decode cX5_isMoreUrgent 51 = .ok (.iconst 1, 1) := by decide +kernel
theorem dX5_isMoreUrgent_52 : decode cX5_isMoreUrgent 52 = .ok (.goto 4, 3) := by decide +kernel
theorem dX5_isMoreUrgent_55 : decode cX5_isMoreUrgent 55 = .ok (.iconst 0, 1) := by decide +kernel
theorem dX5_isMoreUrgent_56 : decode cX5_isMoreUrgent 56 = .ok (.ireturn, 1) := by decide +kernel
set_option maxRecDepth 100000 in
set_option maxHeartbeats 4000000 in
theorem C_X5_isMoreUrgent (l : Launch) (E : gE) (x : gX) {o : Nat} (ho : gOk o) {v1 v2 : Int32} {M : gM} {r : Bool} (hf : f_X5_isMoreUrgent o v1 v2 M = some r) : gM0 l E yX5_isMoreUrgent (.code yX5_isMoreUrgent cX5_isMoreUrgent 3 (some .boolean)) (gR 2 46) M x [.ref (E.2.1 o), .int v1, .int v2] (some (.int (gb r))) M := by
  refine gMet (by decide +kernel) (Nat.le_of_ble_eq_true rfl) ?_
  intro p e s m args below meth c H locs ls Q hC hl hI kr kv
  replace hC : gC p s m args c cX5_isMoreUrgent 3 RX5 E := hC
  replace hl : lv_has ls 3 [(0, .ref (E.2.1 o)), (1, .int v1), (2, .int v2)] := hl
  have hx := hC.1
  have hb := hC.2.1
  unfold f_X5_isMoreUrgent at hf
  refine lv_aload_n hx hb dX5_isMoreUrgent_0 rfl (lv_at hl 0 rfl) ?_
  refine lv_iload_n hx hb dX5_isMoreUrgent_1 rfl (lv_at hl 1 rfl) ?_
  obtain ⟨r1, hr2, hf⟩ := gbind hf
  have hr2 := C_X5_dueAt l E x ho hr2
  refine g_callVi (rest := []) hC hI hr2 Y_X5_dueAt V_X5_dueAt w609 (rcv_X5 hC hI ho) ⟨rfl, rfl⟩ ⟨Nat.le_of_ble_eq_true rfl, Nat.le_of_ble_eq_true rfl⟩ rfl hl.1 rfl (Nat.le_of_ble_eq_true rfl) dX5_isMoreUrgent_2 ⟨Nat.le_of_ble_eq_true rfl, Nat.le_of_ble_eq_true rfl⟩ (fun H locs hI => ?_)
  refine lv_aload_n hx hb dX5_isMoreUrgent_5 rfl (lv_at hl 0 rfl) ?_
  refine lv_iload_n hx hb dX5_isMoreUrgent_6 rfl (lv_at hl 2 rfl) ?_
  obtain ⟨r3, hr4, hf⟩ := gbind hf
  have hr4 := C_X5_dueAt l E x ho hr4
  refine g_callVi (rest := [.int r1]) hC hI hr4 Y_X5_dueAt V_X5_dueAt w609 (rcv_X5 hC hI ho) ⟨rfl, rfl⟩ ⟨Nat.le_of_ble_eq_true rfl, Nat.le_of_ble_eq_true rfl⟩ rfl hl.1 rfl (Nat.le_of_ble_eq_true rfl) dX5_isMoreUrgent_7 ⟨Nat.le_of_ble_eq_true rfl, Nat.le_of_ble_eq_true rfl⟩ (fun H locs hI => ?_)
  refine lv_icmp_eq (tgt := 32) hx hb dX5_isMoreUrgent_10 rfl (fun h5 => ?_) (fun h5 => ?_)
  · replace hf := gif h5 hf
    refine lv_aload_n hx hb dX5_isMoreUrgent_32 rfl (lv_at hl 0 rfl) ?_
    refine gt_X5_X5_cargo hC hI ho dX5_isMoreUrgent_33 ?_
    refine lv_iload_n hx hb dX5_isMoreUrgent_36 rfl (lv_at hl 1 rfl) ?_
    obtain ⟨r6, hr7, hf⟩ := gbind hf
    have hr7 := C_X0_loadOf l E x ho hr7
    refine g_callVi (rest := []) hC hI hr7 Y_X0_loadOf V_X0_loadOf w515 (rcv_X0 hC hI ho) ⟨rfl, rfl⟩ ⟨Nat.le_of_ble_eq_true rfl, Nat.le_of_ble_eq_true rfl⟩ rfl hl.1 rfl (Nat.le_of_ble_eq_true rfl) dX5_isMoreUrgent_37 ⟨Nat.le_of_ble_eq_true rfl, Nat.le_of_ble_eq_true rfl⟩ (fun H locs hI => ?_)
    refine lv_aload_n hx hb dX5_isMoreUrgent_40 rfl (lv_at hl 0 rfl) ?_
    refine gt_X5_X5_cargo hC hI ho dX5_isMoreUrgent_41 ?_
    refine lv_iload_n hx hb dX5_isMoreUrgent_44 rfl (lv_at hl 2 rfl) ?_
    obtain ⟨r8, hr9, hf⟩ := gbind hf
    have hr9 := C_X0_loadOf l E x ho hr9
    refine g_callVi (rest := [.int r6]) hC hI hr9 Y_X0_loadOf V_X0_loadOf w515 (rcv_X0 hC hI ho) ⟨rfl, rfl⟩ ⟨Nat.le_of_ble_eq_true rfl, Nat.le_of_ble_eq_true rfl⟩ rfl hl.1 rfl (Nat.le_of_ble_eq_true rfl) dX5_isMoreUrgent_45 ⟨Nat.le_of_ble_eq_true rfl, Nat.le_of_ble_eq_true rfl⟩ (fun H locs hI => ?_)
    refine lv_icmp_le (tgt := 55) hx hb dX5_isMoreUrgent_48 rfl (fun h10 => ?_) (fun h10 => ?_)
    · replace hf := gif h10 hf
      refine lv_iconst (v := 0) hx hb dX5_isMoreUrgent_55 (by decide) ?_
      exact kr _ _ _ _ _ _ (grb0 hf) hI ⟨.boolean, rfl, rfl⟩ dX5_isMoreUrgent_56
    · replace hf := gifn h10 hf
      refine lv_iconst (v := 1) hx hb dX5_isMoreUrgent_51 (by decide) ?_
      refine lv_goto (tgt := 56) hx hb dX5_isMoreUrgent_52 rfl ?_
      exact kr _ _ _ _ _ _ (grb1 hf) hI ⟨.boolean, rfl, rfl⟩ dX5_isMoreUrgent_56
  · replace hf := gifn h5 hf
    refine lv_aload_n hx hb dX5_isMoreUrgent_13 rfl (lv_at hl 0 rfl) ?_
    refine lv_iload_n hx hb dX5_isMoreUrgent_14 rfl (lv_at hl 1 rfl) ?_
    obtain ⟨r11, hr12, hf⟩ := gbind hf
    have hr12 := C_X5_dueAt l E x ho hr12
    refine g_callVi (rest := []) hC hI hr12 Y_X5_dueAt V_X5_dueAt w609 (rcv_X5 hC hI ho) ⟨rfl, rfl⟩ ⟨Nat.le_of_ble_eq_true rfl, Nat.le_of_ble_eq_true rfl⟩ rfl hl.1 rfl (Nat.le_of_ble_eq_true rfl) dX5_isMoreUrgent_15 ⟨Nat.le_of_ble_eq_true rfl, Nat.le_of_ble_eq_true rfl⟩ (fun H locs hI => ?_)
    refine lv_aload_n hx hb dX5_isMoreUrgent_18 rfl (lv_at hl 0 rfl) ?_
    refine lv_iload_n hx hb dX5_isMoreUrgent_19 rfl (lv_at hl 2 rfl) ?_
    obtain ⟨r13, hr14, hf⟩ := gbind hf
    have hr14 := C_X5_dueAt l E x ho hr14
    refine g_callVi (rest := [.int r11]) hC hI hr14 Y_X5_dueAt V_X5_dueAt w609 (rcv_X5 hC hI ho) ⟨rfl, rfl⟩ ⟨Nat.le_of_ble_eq_true rfl, Nat.le_of_ble_eq_true rfl⟩ rfl hl.1 rfl (Nat.le_of_ble_eq_true rfl) dX5_isMoreUrgent_20 ⟨Nat.le_of_ble_eq_true rfl, Nat.le_of_ble_eq_true rfl⟩ (fun H locs hI => ?_)
    refine lv_icmp_ge (tgt := 30) hx hb dX5_isMoreUrgent_23 rfl (fun h15 => ?_) (fun h15 => ?_)
    · replace hf := gif h15 hf
      refine lv_iconst (v := 0) hx hb dX5_isMoreUrgent_30 (by decide) ?_
      exact kr _ _ _ _ _ _ (grb0 hf) hI ⟨.boolean, rfl, rfl⟩ dX5_isMoreUrgent_31
    · replace hf := gifn h15 hf
      refine lv_iconst (v := 1) hx hb dX5_isMoreUrgent_26 (by decide) ?_
      refine lv_goto (tgt := 31) hx hb dX5_isMoreUrgent_27 rfl ?_
      exact kr _ _ _ _ _ _ (grb1 hf) hI ⟨.boolean, rfl, rfl⟩ dX5_isMoreUrgent_31
theorem dX5_urgentBerth_0 : decode cX5_urgentBerth 0 = .ok (.iconst (-1), 1) := by decide +kernel
theorem dX5_urgentBerth_1 : decode cX5_urgentBerth 1 = .ok (.istore_n 1, 1) := by decide +kernel
theorem dX5_urgentBerth_2 : decode cX5_urgentBerth 2 = .ok (.iconst 0, 1) := by decide +kernel
theorem dX5_urgentBerth_3 : decode cX5_urgentBerth 3 = .ok (.istore_n 2, 1) := by decide +kernel
theorem dX5_urgentBerth_4 : decode cX5_urgentBerth 4 = .ok (.iload_n 2, 1) := by decide +kernel
theorem dX5_urgentBerth_5 : decode cX5_urgentBerth 5 = .ok (.iconst 3, 1) := by decide +kernel
theorem dX5_urgentBerth_6 : decode cX5_urgentBerth 6 = .ok (.if_icmp .ge 33, 3) := by decide +kernel
theorem dX5_urgentBerth_9 : decode cX5_urgentBerth 9 = .ok (.aload_n 0, 1) := by decide +kernel
theorem dX5_urgentBerth_10 : decode cX5_urgentBerth 10 = .ok (.iload_n 2, 1) := by decide +kernel
theorem dX5_urgentBerth_11 : decode cX5_urgentBerth 11 = .ok (.invokevirtual 64, 3) := by decide +kernel
theorem dX5_urgentBerth_14 : decode cX5_urgentBerth 14 = .ok (.ifCond .eq 19, 3) := by decide +kernel
theorem dX5_urgentBerth_17 : decode cX5_urgentBerth 17 = .ok (.iload_n 1, 1) := by decide +kernel
theorem dX5_urgentBerth_18 : decode cX5_urgentBerth 18 = .ok (.iconst (-1), 1) := by decide +kernel
theorem dX5_urgentBerth_19 : decode cX5_urgentBerth 19 = .ok (.if_icmp .eq 12, 3) := by decide +kernel
theorem dX5_urgentBerth_22 : decode cX5_urgentBerth 22 = .ok (.aload_n 0, 1) := by decide +kernel
theorem dX5_urgentBerth_23 : decode cX5_urgentBerth 23 = .ok (.iload_n 2, 1) := by decide +kernel
theorem dX5_urgentBerth_24 : decode cX5_urgentBerth 24 = .ok (.iload_n 1, 1) := by decide +kernel
theorem dX5_urgentBerth_25 : decode cX5_urgentBerth 25 = .ok (.invokevirtual 124, 3) := by decide +kernel
theorem dX5_urgentBerth_28 : decode cX5_urgentBerth 28 = .ok (.ifCond .eq 5, 3) := by decide +kernel
theorem dX5_urgentBerth_31 : decode cX5_urgentBerth 31 = .ok (.iload_n 2, 1) := by decide +kernel
theorem dX5_urgentBerth_32 : decode cX5_urgentBerth 32 = .ok (.istore_n 1, 1) := by decide +kernel
theorem dX5_urgentBerth_33 : decode cX5_urgentBerth 33 = .ok (.iinc 2 1, 3) := by decide +kernel
theorem dX5_urgentBerth_36 : decode cX5_urgentBerth 36 = .ok (.goto (-32), 3) := by decide +kernel
theorem dX5_urgentBerth_39 : decode cX5_urgentBerth 39 = .ok (.iload_n 1, 1) := by decide +kernel
theorem dX5_urgentBerth_40 : decode cX5_urgentBerth 40 = .ok (.ireturn, 1) := by decide +kernel
set_option maxRecDepth 100000 in
set_option maxHeartbeats 4000000 in
theorem C_X5_urgentBerth (l : Launch) (E : gE) (x : gX) {o : Nat} (ho : gOk o) {M : gM} {r : Int32} (hf : f_X5_urgentBerth o M = some r) : gM0 l E yX5_urgentBerth (.code yX5_urgentBerth cX5_urgentBerth 3 (some .int)) (gR 3 68) M x [.ref (E.2.1 o)] (some (.int r)) M := by
  refine gMet (by decide +kernel) (Nat.le_of_ble_eq_true rfl) ?_
  intro p e s m args below meth c H locs ls Q hC hl hI kr kv
  replace hC : gC p s m args c cX5_urgentBerth 3 RX5 E := hC
  replace hl : lv_has ls 3 [(0, .ref (E.2.1 o))] := hl
  have hx := hC.1
  have hb := hC.2.1
  have L4 : ∀ (n : Nat) (v2 : Int32) (v1 : Int32), f_X5_urgentBerth_L4 o M n v2 v1 = some r → ∀ (H : Heap) (locs : List Loc) (ls : Array Slot), gI E s M x H locs → lv_has ls 3 [(2, .int v2), (1, .int v1), (0, .ref (E.2.1 o))] → W p l e (gR 3 68) s m args below meth c H locs 0 0 Q (F0 m 4 ls []) := by
    intro  n
    induction n with
    | zero => intro v2 v1 hf; rw [f_X5_urgentBerth_L4] at hf; cases hf
    | succ n ih =>
      intro v2 v1 hf H locs ls hI hl
      rw [f_X5_urgentBerth_L4] at hf
      refine lv_iload_n hx hb dX5_urgentBerth_4 rfl (lv_at hl 0 rfl) ?_
      refine lv_iconst (v := 3) hx hb dX5_urgentBerth_5 (by decide) ?_
      refine lv_icmp_ge (tgt := 39) hx hb dX5_urgentBerth_6 rfl (fun h1 => ?_) (fun h1 => ?_)
      · replace hf := gif h1 hf
        refine lv_iload_n hx hb dX5_urgentBerth_39 rfl (lv_at hl 1 rfl) ?_
        exact kr _ _ _ _ _ _ (gri hf) hI ⟨.int, rfl, rfl⟩ dX5_urgentBerth_40
      · replace hf := gifn h1 hf
        refine lv_aload_n hx hb dX5_urgentBerth_9 rfl (lv_at hl 2 rfl) ?_
        refine lv_iload_n hx hb dX5_urgentBerth_10 rfl (lv_at hl 0 rfl) ?_
        obtain ⟨r2, hr3, hf⟩ := gbind hf
        have hr3 := C_X5_hasShip l E x ho hr3
        refine g_callVi (rest := []) hC hI hr3 Y_X5_hasShip V_X5_hasShip w251 (rcv_X5 hC hI ho) ⟨rfl, rfl⟩ ⟨Nat.le_of_ble_eq_true rfl, Nat.le_of_ble_eq_true rfl⟩ rfl hl.1 rfl (Nat.le_of_ble_eq_true rfl) dX5_urgentBerth_11 ⟨Nat.le_of_ble_eq_true rfl, Nat.le_of_ble_eq_true rfl⟩ (fun H locs hI => ?_)
        refine lv_if_eq (tgt := 33) hx hb dX5_urgentBerth_14 rfl (fun h4 => ?_) (fun h4 => ?_)
        · replace hf := gif h4 hf
          refine lv_iinc (k := 0) (v := v2 + 1) (lv' := [(2, .int (v2 + 1)), (1, .int v1), (0, .ref (E.2.1 o))]) hx hb dX5_urgentBerth_33 hl rfl rfl (by decide) rfl (fun ls hl => ?_)
          refine lv_goto (tgt := 4) hx hb dX5_urgentBerth_36 rfl ?_
          exact ih (v2 + 1) v1 hf _ _ _ hI (lv_sub hl [0, 1, 2] rfl)
        · replace hf := gifn h4 hf
          refine lv_iload_n hx hb dX5_urgentBerth_17 rfl (lv_at hl 1 rfl) ?_
          refine lv_iconst (v := (-1)) hx hb dX5_urgentBerth_18 (by decide) ?_
          refine lv_icmp_eq (tgt := 31) hx hb dX5_urgentBerth_19 rfl (fun h5 => ?_) (fun h5 => ?_)
          · replace hf := gif h5 hf
            refine lv_iload_n hx hb dX5_urgentBerth_31 rfl (lv_at hl 0 rfl) ?_
            refine lv_istore_n (lv' := [(1, .int v2), (2, .int v2), (0, .ref (E.2.1 o))]) hx hb dX5_urgentBerth_32 rfl hl (by decide) rfl (fun ls hl => ?_)
            refine lv_iinc (k := 1) (v := v2 + 1) (lv' := [(2, .int (v2 + 1)), (1, .int v2), (0, .ref (E.2.1 o))]) hx hb dX5_urgentBerth_33 hl rfl rfl (by decide) rfl (fun ls hl => ?_)
            refine lv_goto (tgt := 4) hx hb dX5_urgentBerth_36 rfl ?_
            exact ih (v2 + 1) v2 hf _ _ _ hI (lv_sub hl [0, 1, 2] rfl)
          · replace hf := gifn h5 hf
            refine lv_aload_n hx hb dX5_urgentBerth_22 rfl (lv_at hl 2 rfl) ?_
            refine lv_iload_n hx hb dX5_urgentBerth_23 rfl (lv_at hl 0 rfl) ?_
            refine lv_iload_n hx hb dX5_urgentBerth_24 rfl (lv_at hl 1 rfl) ?_
            obtain ⟨r6, hr7, hf⟩ := gbind hf
            have hr7 := C_X5_isMoreUrgent l E x ho hr7
            refine g_callVi (rest := []) hC hI hr7 Y_X5_isMoreUrgent V_X5_isMoreUrgent w605 (rcv_X5 hC hI ho) ⟨rfl, rfl⟩ ⟨Nat.le_of_ble_eq_true rfl, Nat.le_of_ble_eq_true rfl⟩ rfl hl.1 rfl (Nat.le_of_ble_eq_true rfl) dX5_urgentBerth_25 ⟨Nat.le_of_ble_eq_true rfl, Nat.le_of_ble_eq_true rfl⟩ (fun H locs hI => ?_)
            refine lv_if_eq (tgt := 33) hx hb dX5_urgentBerth_28 rfl (fun h8 => ?_) (fun h8 => ?_)
            · replace hf := gif h8 hf
              refine lv_iinc (k := 0) (v := v2 + 1) (lv' := [(2, .int (v2 + 1)), (1, .int v1), (0, .ref (E.2.1 o))]) hx hb dX5_urgentBerth_33 hl rfl rfl (by decide) rfl (fun ls hl => ?_)
              refine lv_goto (tgt := 4) hx hb dX5_urgentBerth_36 rfl ?_
              exact ih (v2 + 1) v1 hf _ _ _ hI (lv_sub hl [0, 1, 2] rfl)
            · replace hf := gifn h8 hf
              refine lv_iload_n hx hb dX5_urgentBerth_31 rfl (lv_at hl 0 rfl) ?_
              refine lv_istore_n (lv' := [(1, .int v2), (2, .int v2), (0, .ref (E.2.1 o))]) hx hb dX5_urgentBerth_32 rfl hl (by decide) rfl (fun ls hl => ?_)
              refine lv_iinc (k := 1) (v := v2 + 1) (lv' := [(2, .int (v2 + 1)), (1, .int v2), (0, .ref (E.2.1 o))]) hx hb dX5_urgentBerth_33 hl rfl rfl (by decide) rfl (fun ls hl => ?_)
              refine lv_goto (tgt := 4) hx hb dX5_urgentBerth_36 rfl ?_
              exact ih (v2 + 1) v2 hf _ _ _ hI (lv_sub hl [0, 1, 2] rfl)
  unfold f_X5_urgentBerth at hf
  refine lv_iconst (v := (-1)) hx hb dX5_urgentBerth_0 (by decide) ?_
  refine lv_istore_n (lv' := [(1, .int (-1)), (0, .ref (E.2.1 o))]) hx hb dX5_urgentBerth_1 rfl hl (by decide) rfl (fun ls hl => ?_)
  refine lv_iconst (v := 0) hx hb dX5_urgentBerth_2 (by decide) ?_
  refine lv_istore_n (lv' := [(2, .int 0), (1, .int (-1)), (0, .ref (E.2.1 o))]) hx hb dX5_urgentBerth_3 rfl hl (by decide) rfl (fun ls hl => ?_)
  exact L4 gF 0 (-1) hf _ _ _ hI (lv_sub hl [0, 1, 2] rfl)
theorem dX6_mostUrgent_0 : decode cX6_mostUrgent 0 = .ok (.aload_n 0, 1) := by decide +kernel
theorem dX6_mostUrgent_1 : decode cX6_mostUrgent 1 = .ok (.getfield 10, 3) := by decide +kernel
theorem dX6_mostUrgent_4 : decode cX6_mostUrgent 4 = .ok (.invokevirtual 162, 3) := by decide +kernel
theorem dX6_mostUrgent_7 : decode cX6_mostUrgent 7 = .ok (.istore_n 1, 1) := by decide +kernel
theorem dX6_mostUrgent_8 : decode cX6_mostUrgent 8 = .ok (.iload_n 1, 1) := by decide +kernel
theorem dX6_mostUrgent_9 : decode cX6_mostUrgent 9 = .ok (.iconst (-1), 1) := by decide +kernel
theorem dX6_mostUrgent_10 : decode cX6_mostUrgent 10 = .ok (.if_icmp .ne 13, 3) := by decide +kernel
theorem dX6_mostUrgent_13 : decode cX6_mostUrgent 13 = .ok (.new 165, 3) := by decide +kernel
theorem dX6_mostUrgent_16 : decode cX6_mostUrgent 16 = .ok (.dup, 1) := by decide +kernel
theorem dX6_mostUrgent_17 : decode cX6_mostUrgent 17 = .ok (.ldc 167, 2) := by decide +kernel
theorem dX6_mostUrgent_19 : decode cX6_mostUrgent 19 = .ok (.invokespecial 169, 3) := by decide +kernel
theorem dX6_mostUrgent_22 : decode cX6_mostUrgent 22 = .ok (.athrow, 1) := by decide +kernel
theorem dX6_mostUrgent_23 : decode cX6_mostUrgent 23 = .ok (.iload_n 1, 1) := by decide +kernel
theorem dX6_mostUrgent_24 : decode cX6_mostUrgent 24 = .ok (.ireturn, 1) := by decide +kernel
set_option maxRecDepth 100000 in
set_option maxHeartbeats 4000000 in
theorem C_X6_mostUrgent (l : Launch) (hst : l.stackTraces = false) (E : gE) (x : gX) {M : gM} {oc : String ⊕ Int32} {M' : gM} (hf : f_X6_mostUrgent M = some (oc, M')) : gX0 l E yX6_mostUrgent (.code yX6_mostUrgent cX6_mostUrgent 2 (some .int)) (gRX 6 90 1 6) M x [.ref (E.2.1 132)] (gO oc) M' 1 6 := by
  refine gMetX hst (by decide +kernel) (Nat.le_of_ble_eq_true rfl) ?_
  intro p e s m args below meth c H locs ls Q hC hl hI kr kv kx kt kd kf
  replace hC : gC p s m args c cX6_mostUrgent 2 RX6 E := hC
  replace hl : lv_has ls 2 [(0, .ref (E.2.1 132))] := hl
  have hx := hC.1
  have hb := hC.2.1
  unfold f_X6_mostUrgent at hf
  refine lv_aload_n hx hb dX6_mostUrgent_0 rfl (lv_at hl 0 rfl) ?_
  refine gt_X6_X6_now hC hI dX6_mostUrgent_1 ?_
  obtain ⟨r1, hr2, hf⟩ := gbind hf
  have hr2 := C_X5_urgentBerth l E x gOk_0 hr2
  refine g_callVi (rest := []) hC hI hr2 Y_X5_urgentBerth V_X5_urgentBerth w601 (rcv_X5 hC hI gOk_0) ⟨rfl, rfl⟩ ⟨Nat.le_of_ble_eq_true rfl, Nat.le_of_ble_eq_true rfl⟩ rfl hl.1 rfl (Nat.le_of_ble_eq_true rfl) dX6_mostUrgent_4 ⟨Nat.le_of_ble_eq_true rfl, Nat.le_of_ble_eq_true rfl⟩ (fun H locs hI => ?_)
  refine lv_istore_n (lv' := [(1, .int r1), (0, .ref (E.2.1 132))]) hx hb dX6_mostUrgent_7 rfl hl (by decide) rfl (fun ls hl => ?_)
  refine lv_iload_n hx hb dX6_mostUrgent_8 rfl (lv_at hl 0 rfl) ?_
  refine lv_iconst (v := (-1)) hx hb dX6_mostUrgent_9 (by decide) ?_
  refine lv_icmp_ne (tgt := 23) hx hb dX6_mostUrgent_10 rfl (fun h3 => ?_) (fun h3 => ?_)
  · replace hf := gifn h3 hf
    refine lv_iload_n hx hb dX6_mostUrgent_23 rfl (lv_at hl 0 rfl) ?_
    exact kr _ _ _ _ _ _ _ _ (gre hf) hI ⟨.int, rfl, rfl⟩ ⟨Nat.le_of_ble_eq_true rfl, Nat.le_of_ble_eq_true rfl⟩ dX6_mostUrgent_24
  · replace hf := gif h3 hf
    exact kt _ _ _ _ _ _ _ _ "java/util/NoSuchElementException" "no ship is moored" 165 167 169 (gtx hf) hI hl.1 rfl gTh_165_169 (by decide +kernel) ⟨Nat.le_of_ble_eq_true rfl, Nat.le_of_ble_eq_true rfl⟩ ⟨Nat.le_of_ble_eq_true rfl, Nat.le_of_ble_eq_true rfl⟩ ⟨dX6_mostUrgent_13, dX6_mostUrgent_16, Or.inr ⟨dX6_mostUrgent_17, dX6_mostUrgent_19, dX6_mostUrgent_22⟩⟩
theorem dX6_canLeave_0 : decode cX6_canLeave 0 = .ok (.iload_n 1, 1) := by decide +kernel
theorem dX6_canLeave_1 : decode cX6_canLeave 1 = .ok (.invokestatic 135, 3) := by decide +kernel
theorem dX6_canLeave_4 : decode cX6_canLeave 4 = .ok (.aload_n 0, 1) := by decide +kernel
theorem dX6_canLeave_5 : decode cX6_canLeave 5 = .ok (.getfield 10, 3) := by decide +kernel
theorem dX6_canLeave_8 : decode cX6_canLeave 8 = .ok (.iload_n 1, 1) := by decide +kernel
theorem dX6_canLeave_9 : decode cX6_canLeave 9 = .ok (.invokevirtual 117, 3) := by decide +kernel
theorem dX6_canLeave_12 : decode cX6_canLeave 12 = .ok (.ifCond .ne 7, 3) := by decide +kernel
theorem dX6_canLeave_15 : decode cX6_canLeave 15 = .ok (.iconst 1, 1) := by decide +kernel
theorem dX6_canLeave_16 : decode cX6_canLeave 16 = .ok (.goto 4, 3) := by decide +kernel
theorem dX6_canLeave_19 : decode cX6_canLeave 19 = .ok (.iconst 0, 1) := by decide +kernel
theorem dX6_canLeave_20 : decode cX6_canLeave 20 = .ok (.ireturn, 1) := by decide +kernel
set_option maxRecDepth 100000 in
set_option maxHeartbeats 4000000 in
theorem C_X6_canLeave (l : Launch) (hst : l.stackTraces = false) (E : gE) (x : gX) {v1 : Int32} {M : gM} {oc : String ⊕ Bool} {M' : gM} (hf : f_X6_canLeave v1 M = some (oc, M')) : gX0 l E yX6_canLeave (.code yX6_canLeave cX6_canLeave 2 (some .boolean)) (gRX 8 130 1 6) M x [.ref (E.2.1 132), .int v1] (gOb oc) M' 1 6 := by
  refine gMetX hst (by decide +kernel) (Nat.le_of_ble_eq_true rfl) ?_
  intro p e s m args below meth c H locs ls Q hC hl hI kr kv kx kt kd kf
  replace hC : gC p s m args c cX6_canLeave 2 RX6 E := hC
  replace hl : lv_has ls 2 [(0, .ref (E.2.1 132)), (1, .int v1)] := hl
  have hx := hC.1
  have hb := hC.2.1
  unfold f_X6_canLeave at hf
  refine lv_iload_n hx hb dX6_canLeave_0 rfl (lv_at hl 1 rfl) ?_
  rcases gseq hf with ⟨er, Mr, hr2, hf⟩ | ⟨_, M3, hr2, hf⟩
  · replace hr2 := C_X6_requireBerth l hst E x  hr2
    exact g_xSx (rest := []) hC hI hr2 Y_X6_requireBerth S_X6_requireBerth w566 ⟨rfl, rfl⟩ ⟨Nat.le_of_ble_eq_true rfl, Nat.le_of_ble_eq_true rfl⟩ rfl hl.1 rfl (Nat.le_of_ble_eq_true rfl) dX6_canLeave_1 ⟨Nat.le_of_ble_eq_true rfl, Nat.le_of_ble_eq_true rfl⟩ (fun ce q H locs hI h1 h2 h3 => kx _ _ _ _ _ _ _ _ _ _ _ (gtxb hf) hI h1 h2 h3 ⟨Nat.le_of_ble_eq_true rfl, Nat.le_of_ble_eq_true rfl⟩)
  replace hr2 := C_X6_requireBerth l hst E x  hr2
  refine g_xSv (rest := []) hC hI hr2 Y_X6_requireBerth S_X6_requireBerth w566 ⟨rfl, rfl⟩ ⟨Nat.le_of_ble_eq_true rfl, Nat.le_of_ble_eq_true rfl⟩ rfl hl.1 rfl (Nat.le_of_ble_eq_true rfl) dX6_canLeave_1 ⟨Nat.le_of_ble_eq_true rfl, Nat.le_of_ble_eq_true rfl⟩ (fun H locs hI => ?_)
  refine lv_aload_n hx hb dX6_canLeave_4 rfl (lv_at hl 0 rfl) ?_
  refine gt_X6_X6_now hC hI dX6_canLeave_5 ?_
  refine lv_iload_n hx hb dX6_canLeave_8 rfl (lv_at hl 1 rfl) ?_
  obtain ⟨r4, hr5, hf⟩ := gbind hf
  have hr5 := C_X5_leavingFault l E x gOk_0 hr5
  refine g_callVi (rest := []) hC hI hr5 Y_X5_leavingFault V_X5_leavingFault w511 (rcv_X5 hC hI gOk_0) ⟨rfl, rfl⟩ ⟨Nat.le_of_ble_eq_true rfl, Nat.le_of_ble_eq_true rfl⟩ rfl hl.1 rfl (Nat.le_of_ble_eq_true rfl) dX6_canLeave_9 ⟨Nat.le_of_ble_eq_true rfl, Nat.le_of_ble_eq_true rfl⟩ (fun H locs hI => ?_)
  refine lv_if_ne (tgt := 19) hx hb dX6_canLeave_12 rfl (fun h6 => ?_) (fun h6 => ?_)
  · replace hf := gifn h6 hf
    refine lv_iconst (v := 0) hx hb dX6_canLeave_19 (by decide) ?_
    exact kr _ _ _ _ _ _ _ _ (greb0 hf) hI ⟨.boolean, rfl, rfl⟩ ⟨Nat.le_of_ble_eq_true rfl, Nat.le_of_ble_eq_true rfl⟩ dX6_canLeave_20
  · replace hf := gif h6 hf
    refine lv_iconst (v := 1) hx hb dX6_canLeave_15 (by decide) ?_
    refine lv_goto (tgt := 20) hx hb dX6_canLeave_16 rfl ?_
    exact kr _ _ _ _ _ _ _ _ (greb1 hf) hI ⟨.boolean, rfl, rfl⟩ ⟨Nat.le_of_ble_eq_true rfl, Nat.le_of_ble_eq_true rfl⟩ dX6_canLeave_20
theorem dX6_lockedHours_0 : decode cX6_lockedHours 0 = .ok (.iload_n 1, 1) := by decide +kernel
theorem dX6_lockedHours_1 : decode cX6_lockedHours 1 = .ok (.invokestatic 135, 3) := by decide +kernel
theorem dX6_lockedHours_4 : decode cX6_lockedHours 4 = .ok (.aload_n 0, 1) := by decide +kernel
theorem dX6_lockedHours_5 : decode cX6_lockedHours 5 = .ok (.getfield 10, 3) := by decide +kernel
theorem dX6_lockedHours_8 : decode cX6_lockedHours 8 = .ok (.getfield 172, 3) := by decide +kernel
theorem dX6_lockedHours_11 : decode cX6_lockedHours 11 = .ok (.iload_n 1, 1) := by decide +kernel
theorem dX6_lockedHours_12 : decode cX6_lockedHours 12 = .ok (.iaload, 1) := by decide +kernel
theorem dX6_lockedHours_13 : decode cX6_lockedHours 13 = .ok (.ireturn, 1) := by decide +kernel
set_option maxRecDepth 100000 in
set_option maxHeartbeats 4000000 in
theorem C_X6_lockedHours (l : Launch) (hst : l.stackTraces = false) (E : gE) (x : gX) {v1 : Int32} {M : gM} {oc : String ⊕ Int32} {M' : gM} (hf : f_X6_lockedHours v1 M = some (oc, M')) : gX0 l E yX6_lockedHours (.code yX6_lockedHours cX6_lockedHours 2 (some .int)) (gRX 8 130 1 6) M x [.ref (E.2.1 132), .int v1] (gO oc) M' 1 6 := by
  refine gMetX hst (by decide +kernel) (Nat.le_of_ble_eq_true rfl) ?_
  intro p e s m args below meth c H locs ls Q hC hl hI kr kv kx kt kd kf
  replace hC : gC p s m args c cX6_lockedHours 2 RX6 E := hC
  replace hl : lv_has ls 2 [(0, .ref (E.2.1 132)), (1, .int v1)] := hl
  have hx := hC.1
  have hb := hC.2.1
  unfold f_X6_lockedHours at hf
  refine lv_iload_n hx hb dX6_lockedHours_0 rfl (lv_at hl 1 rfl) ?_
  rcases gseq hf with ⟨er, Mr, hr2, hf⟩ | ⟨_, M3, hr2, hf⟩
  · replace hr2 := C_X6_requireBerth l hst E x  hr2
    exact g_xSx (rest := []) hC hI hr2 Y_X6_requireBerth S_X6_requireBerth w566 ⟨rfl, rfl⟩ ⟨Nat.le_of_ble_eq_true rfl, Nat.le_of_ble_eq_true rfl⟩ rfl hl.1 rfl (Nat.le_of_ble_eq_true rfl) dX6_lockedHours_1 ⟨Nat.le_of_ble_eq_true rfl, Nat.le_of_ble_eq_true rfl⟩ (fun ce q H locs hI h1 h2 h3 => kx _ _ _ _ _ _ _ _ _ _ _ (gtx hf) hI h1 h2 h3 ⟨Nat.le_of_ble_eq_true rfl, Nat.le_of_ble_eq_true rfl⟩)
  replace hr2 := C_X6_requireBerth l hst E x  hr2
  refine g_xSv (rest := []) hC hI hr2 Y_X6_requireBerth S_X6_requireBerth w566 ⟨rfl, rfl⟩ ⟨Nat.le_of_ble_eq_true rfl, Nat.le_of_ble_eq_true rfl⟩ rfl hl.1 rfl (Nat.le_of_ble_eq_true rfl) dX6_lockedHours_1 ⟨Nat.le_of_ble_eq_true rfl, Nat.le_of_ble_eq_true rfl⟩ (fun H locs hI => ?_)
  refine lv_aload_n hx hb dX6_lockedHours_4 rfl (lv_at hl 0 rfl) ?_
  refine gt_X6_X6_now hC hI dX6_lockedHours_5 ?_
  refine gt_X6_X5_locks hC hI gOk_0 dX6_lockedHours_8 ?_
  refine lv_iload_n hx hb dX6_lockedHours_11 rfl (lv_at hl 1 rfl) ?_
  obtain ⟨h4, hf⟩ := gifN hf
  refine g_iald hC hI (k := v1.toNatClampNeg) (gIA_11 gOk_0) h4 rfl dX6_lockedHours_12 ?_
  exact kr _ _ _ _ _ _ _ _ (gre hf) hI ⟨.int, rfl, rfl⟩ ⟨Nat.le_of_ble_eq_true rfl, Nat.le_of_ble_eq_true rfl⟩ dX6_lockedHours_13
theorem dX6_wrongAnswers_0 : decode cX6_wrongAnswers 0 = .ok (.iload_n 1, 1) := by decide +kernel
theorem dX6_wrongAnswers_1 : decode cX6_wrongAnswers 1 = .ok (.invokestatic 135, 3) := by decide +kernel
theorem dX6_wrongAnswers_4 : decode cX6_wrongAnswers 4 = .ok (.aload_n 0, 1) := by decide +kernel
theorem dX6_wrongAnswers_5 : decode cX6_wrongAnswers 5 = .ok (.getfield 10, 3) := by decide +kernel
theorem dX6_wrongAnswers_8 : decode cX6_wrongAnswers 8 = .ok (.getfield 175, 3) := by decide +kernel
theorem dX6_wrongAnswers_11 : decode cX6_wrongAnswers 11 = .ok (.iload_n 1, 1) := by decide +kernel
theorem dX6_wrongAnswers_12 : decode cX6_wrongAnswers 12 = .ok (.iaload, 1) := by decide +kernel
theorem dX6_wrongAnswers_13 : decode cX6_wrongAnswers 13 = .ok (.ireturn, 1) := by decide +kernel
set_option maxRecDepth 100000 in
set_option maxHeartbeats 4000000 in
theorem C_X6_wrongAnswers (l : Launch) (hst : l.stackTraces = false) (E : gE) (x : gX) {v1 : Int32} {M : gM} {oc : String ⊕ Int32} {M' : gM} (hf : f_X6_wrongAnswers v1 M = some (oc, M')) : gX0 l E yX6_wrongAnswers (.code yX6_wrongAnswers cX6_wrongAnswers 2 (some .int)) (gRX 8 130 1 6) M x [.ref (E.2.1 132), .int v1] (gO oc) M' 1 6 := by
  refine gMetX hst (by decide +kernel) (Nat.le_of_ble_eq_true rfl) ?_
  intro p e s m args below meth c H locs ls Q hC hl hI kr kv kx kt kd kf
  replace hC : gC p s m args c cX6_wrongAnswers 2 RX6 E := hC
  replace hl : lv_has ls 2 [(0, .ref (E.2.1 132)), (1, .int v1)] := hl
  have hx := hC.1
  have hb := hC.2.1
  unfold f_X6_wrongAnswers at hf
  refine lv_iload_n hx hb dX6_wrongAnswers_0 rfl (lv_at hl 1 rfl) ?_
  rcases gseq hf with ⟨er, Mr, hr2, hf⟩ | ⟨_, M3, hr2, hf⟩
  · replace hr2 := C_X6_requireBerth l hst E x  hr2
    exact g_xSx (rest := []) hC hI hr2 Y_X6_requireBerth S_X6_requireBerth w566 ⟨rfl, rfl⟩ ⟨Nat.le_of_ble_eq_true rfl, Nat.le_of_ble_eq_true rfl⟩ rfl hl.1 rfl (Nat.le_of_ble_eq_true rfl) dX6_wrongAnswers_1 ⟨Nat.le_of_ble_eq_true rfl, Nat.le_of_ble_eq_true rfl⟩ (fun ce q H locs hI h1 h2 h3 => kx _ _ _ _ _ _ _ _ _ _ _ (gtx hf) hI h1 h2 h3 ⟨Nat.le_of_ble_eq_true rfl, Nat.le_of_ble_eq_true rfl⟩)
  replace hr2 := C_X6_requireBerth l hst E x  hr2
  refine g_xSv (rest := []) hC hI hr2 Y_X6_requireBerth S_X6_requireBerth w566 ⟨rfl, rfl⟩ ⟨Nat.le_of_ble_eq_true rfl, Nat.le_of_ble_eq_true rfl⟩ rfl hl.1 rfl (Nat.le_of_ble_eq_true rfl) dX6_wrongAnswers_1 ⟨Nat.le_of_ble_eq_true rfl, Nat.le_of_ble_eq_true rfl⟩ (fun H locs hI => ?_)
  refine lv_aload_n hx hb dX6_wrongAnswers_4 rfl (lv_at hl 0 rfl) ?_
  refine gt_X6_X6_now hC hI dX6_wrongAnswers_5 ?_
  refine gt_X6_X5_wrongs hC hI gOk_0 dX6_wrongAnswers_8 ?_
  refine lv_iload_n hx hb dX6_wrongAnswers_11 rfl (lv_at hl 1 rfl) ?_
  obtain ⟨h4, hf⟩ := gifN hf
  refine g_iald hC hI (k := v1.toNatClampNeg) (gIA_10 gOk_0) h4 rfl dX6_wrongAnswers_12 ?_
  exact kr _ _ _ _ _ _ _ _ (gre hf) hI ⟨.int, rfl, rfl⟩ ⟨Nat.le_of_ble_eq_true rfl, Nat.le_of_ble_eq_true rfl⟩ dX6_wrongAnswers_13
theorem dX6_requireStack_0 : decode cX6_requireStack 0 = .ok (.iload_n 2, 1) := by decide +kernel
theorem dX6_requireStack_1 : decode cX6_requireStack 1 = .ok (.invokestatic 366, 3) := by decide +kernel
theorem dX6_requireStack_4 : decode cX6_requireStack 4 = .ok (.ifCond .eq 7, 3) := by decide +kernel
theorem dX6_requireStack_7 : decode cX6_requireStack 7 = .ok (.iconst 0, 1) := by decide +kernel
theorem dX6_requireStack_8 : decode cX6_requireStack 8 = .ok (.goto 4, 3) := by decide +kernel
theorem dX6_requireStack_11 : decode cX6_requireStack 11 = .ok (.iconst 1, 1) := by decide +kernel
theorem dX6_requireStack_12 : decode cX6_requireStack 12 = .ok (.invokestatic 65, 3) := by decide +kernel
theorem dX6_requireStack_15 : decode cX6_requireStack 15 = .ok (.aload_n 0, 1) := by decide +kernel
theorem dX6_requireStack_16 : decode cX6_requireStack 16 = .ok (.iload_n 1, 1) := by decide +kernel
theorem dX6_requireStack_17 : decode cX6_requireStack 17 = .ok (.invokevirtual 142, 3) := by decide +kernel
theorem dX6_requireStack_20 : decode cX6_requireStack 20 = .ok (.return_, 1) := by decide +kernel
set_option maxRecDepth 100000 in
set_option maxHeartbeats 4000000 in
theorem C_X6_requireStack (l : Launch) (hst : l.stackTraces = false) (E : gE) (x : gX) {v1 v2 : Int32} {M : gM} {oc : String ⊕ Unit} {M' : gM} (hf : f_X6_requireStack v1 v2 M = some (oc, M')) : gX0 l E yX6_requireStack (.code yX6_requireStack cX6_requireStack 3 none) (gRX 9 151 3 18) M x [.ref (E.2.1 132), .int v1, .int v2] (gOv oc) M' 3 18 := by
  refine gMetX hst (by decide +kernel) (Nat.le_of_ble_eq_true rfl) ?_
  intro p e s m args below meth c H locs ls Q hC hl hI kr kv kx kt kd kf
  replace hC : gC p s m args c cX6_requireStack 3 RX6 E := hC
  replace hl : lv_has ls 3 [(0, .ref (E.2.1 132)), (1, .int v1), (2, .int v2)] := hl
  have hx := hC.1
  have hb := hC.2.1
  unfold f_X6_requireStack at hf
  refine lv_iload_n hx hb dX6_requireStack_0 rfl (lv_at hl 2 rfl) ?_
  obtain ⟨r1, hr2, hf⟩ := gbind hf
  have hr2 := C_X6_isStack l E x  hr2
  refine g_callSi (rest := []) hC hI hr2 Y_X6_isStack S_X6_isStack w634 ⟨rfl, rfl⟩ ⟨Nat.le_of_ble_eq_true rfl, Nat.le_of_ble_eq_true rfl⟩ rfl hl.1 rfl (Nat.le_of_ble_eq_true rfl) dX6_requireStack_1 ⟨Nat.le_of_ble_eq_true rfl, Nat.le_of_ble_eq_true rfl⟩ (fun H locs hI => ?_)
  refine lv_if_eq (tgt := 11) hx hb dX6_requireStack_4 rfl (fun h3 => ?_) (fun h3 => ?_)
  · replace hf := gif h3 hf
    refine lv_iconst (v := 1) hx hb dX6_requireStack_11 (by decide) ?_
    rcases gseq hf with ⟨er, Mr, hr5, hf⟩ | ⟨_, M6, hr5, hf⟩
    · replace hr5 := C_X6_raise l hst E x  hr5
      exact g_xSx (rest := []) hC hI hr5 Y_X6_raise S_X6_raise w255 ⟨rfl, rfl⟩ ⟨Nat.le_of_ble_eq_true rfl, Nat.le_of_ble_eq_true rfl⟩ rfl hl.1 rfl (Nat.le_of_ble_eq_true rfl) dX6_requireStack_12 ⟨Nat.le_of_ble_eq_true rfl, Nat.le_of_ble_eq_true rfl⟩ (fun ce q H locs hI h1 h2 h3 => kx _ _ _ _ _ _ _ _ _ _ _ (gtxv hf) hI h1 h2 h3 ⟨Nat.le_of_ble_eq_true rfl, Nat.le_of_ble_eq_true rfl⟩)
    replace hr5 := C_X6_raise l hst E x  hr5
    refine g_xSv (rest := []) hC hI hr5 Y_X6_raise S_X6_raise w255 ⟨rfl, rfl⟩ ⟨Nat.le_of_ble_eq_true rfl, Nat.le_of_ble_eq_true rfl⟩ rfl hl.1 rfl (Nat.le_of_ble_eq_true rfl) dX6_requireStack_12 ⟨Nat.le_of_ble_eq_true rfl, Nat.le_of_ble_eq_true rfl⟩ (fun H locs hI => ?_)
    refine lv_aload_n hx hb dX6_requireStack_15 rfl (lv_at hl 0 rfl) ?_
    refine lv_iload_n hx hb dX6_requireStack_16 rfl (lv_at hl 1 rfl) ?_
    rcases gseq hf with ⟨er, Mr, hr8, hf⟩ | ⟨_, M9, hr8, hf⟩
    · replace hr8 := C_X6_requireShip l hst E x  hr8
      exact g_xVx (rest := []) hC hI hr8 Y_X6_requireShip V_X6_requireShip w575 (rcv_X6 hC hI) ⟨rfl, rfl⟩ ⟨Nat.le_of_ble_eq_true rfl, Nat.le_of_ble_eq_true rfl⟩ rfl hl.1 rfl (Nat.le_of_ble_eq_true rfl) dX6_requireStack_17 ⟨Nat.le_of_ble_eq_true rfl, Nat.le_of_ble_eq_true rfl⟩ (fun ce q H locs hI h1 h2 h3 => kx _ _ _ _ _ _ _ _ _ _ _ (gtxv hf) hI h1 h2 h3 ⟨Nat.le_of_ble_eq_true rfl, Nat.le_of_ble_eq_true rfl⟩)
    replace hr8 := C_X6_requireShip l hst E x  hr8
    refine g_xVv (rest := []) hC hI hr8 Y_X6_requireShip V_X6_requireShip w575 (rcv_X6 hC hI) ⟨rfl, rfl⟩ ⟨Nat.le_of_ble_eq_true rfl, Nat.le_of_ble_eq_true rfl⟩ rfl hl.1 rfl (Nat.le_of_ble_eq_true rfl) dX6_requireStack_17 ⟨Nat.le_of_ble_eq_true rfl, Nat.le_of_ble_eq_true rfl⟩ (fun H locs hI => ?_)
    exact kv _ _ _ _ _ _ _ (grev hf) hI rfl ⟨Nat.le_of_ble_eq_true rfl, Nat.le_of_ble_eq_true rfl⟩ dX6_requireStack_20
  · replace hf := gifn h3 hf
    refine lv_iconst (v := 0) hx hb dX6_requireStack_7 (by decide) ?_
    refine lv_goto (tgt := 12) hx hb dX6_requireStack_8 rfl ?_
    rcases gseq hf with ⟨er, Mr, hr11, hf⟩ | ⟨_, M12, hr11, hf⟩
    · replace hr11 := C_X6_raise l hst E x  hr11
      exact g_xSx (rest := []) hC hI hr11 Y_X6_raise S_X6_raise w255 ⟨rfl, rfl⟩ ⟨Nat.le_of_ble_eq_true rfl, Nat.le_of_ble_eq_true rfl⟩ rfl hl.1 rfl (Nat.le_of_ble_eq_true rfl) dX6_requireStack_12 ⟨Nat.le_of_ble_eq_true rfl, Nat.le_of_ble_eq_true rfl⟩ (fun ce q H locs hI h1 h2 h3 => kx _ _ _ _ _ _ _ _ _ _ _ (gtxv hf) hI h1 h2 h3 ⟨Nat.le_of_ble_eq_true rfl, Nat.le_of_ble_eq_true rfl⟩)
    replace hr11 := C_X6_raise l hst E x  hr11
    refine g_xSv (rest := []) hC hI hr11 Y_X6_raise S_X6_raise w255 ⟨rfl, rfl⟩ ⟨Nat.le_of_ble_eq_true rfl, Nat.le_of_ble_eq_true rfl⟩ rfl hl.1 rfl (Nat.le_of_ble_eq_true rfl) dX6_requireStack_12 ⟨Nat.le_of_ble_eq_true rfl, Nat.le_of_ble_eq_true rfl⟩ (fun H locs hI => ?_)
    refine lv_aload_n hx hb dX6_requireStack_15 rfl (lv_at hl 0 rfl) ?_
    refine lv_iload_n hx hb dX6_requireStack_16 rfl (lv_at hl 1 rfl) ?_
    rcases gseq hf with ⟨er, Mr, hr14, hf⟩ | ⟨_, M15, hr14, hf⟩
    · replace hr14 := C_X6_requireShip l hst E x  hr14
      exact g_xVx (rest := []) hC hI hr14 Y_X6_requireShip V_X6_requireShip w575 (rcv_X6 hC hI) ⟨rfl, rfl⟩ ⟨Nat.le_of_ble_eq_true rfl, Nat.le_of_ble_eq_true rfl⟩ rfl hl.1 rfl (Nat.le_of_ble_eq_true rfl) dX6_requireStack_17 ⟨Nat.le_of_ble_eq_true rfl, Nat.le_of_ble_eq_true rfl⟩ (fun ce q H locs hI h1 h2 h3 => kx _ _ _ _ _ _ _ _ _ _ _ (gtxv hf) hI h1 h2 h3 ⟨Nat.le_of_ble_eq_true rfl, Nat.le_of_ble_eq_true rfl⟩)
    replace hr14 := C_X6_requireShip l hst E x  hr14
    refine g_xVv (rest := []) hC hI hr14 Y_X6_requireShip V_X6_requireShip w575 (rcv_X6 hC hI) ⟨rfl, rfl⟩ ⟨Nat.le_of_ble_eq_true rfl, Nat.le_of_ble_eq_true rfl⟩ rfl hl.1 rfl (Nat.le_of_ble_eq_true rfl) dX6_requireStack_17 ⟨Nat.le_of_ble_eq_true rfl, Nat.le_of_ble_eq_true rfl⟩ (fun H locs hI => ?_)
    exact kv _ _ _ _ _ _ _ (grev hf) hI rfl ⟨Nat.le_of_ble_eq_true rfl, Nat.le_of_ble_eq_true rfl⟩ dX6_requireStack_20
theorem dX6_stackHeight_0 : decode cX6_stackHeight 0 = .ok (.aload_n 0, 1) := by decide +kernel
theorem dX6_stackHeight_1 : decode cX6_stackHeight 1 = .ok (.iload_n 1, 1) := by decide +kernel
theorem dX6_stackHeight_2 : decode cX6_stackHeight 2 = .ok (.iload_n 2, 1) := by decide +kernel
theorem dX6_stackHeight_3 : decode cX6_stackHeight 3 = .ok (.invokevirtual 178, 3) := by decide +kernel
theorem dX6_stackHeight_6 : decode cX6_stackHeight 6 = .ok (.aload_n 0, 1) := by decide +kernel
theorem dX6_stackHeight_7 : decode cX6_stackHeight 7 = .ok (.getfield 10, 3) := by decide +kernel
theorem dX6_stackHeight_10 : decode cX6_stackHeight 10 = .ok (.getfield 108, 3) := by decide +kernel
theorem dX6_stackHeight_13 : decode cX6_stackHeight 13 = .ok (.iload_n 1, 1) := by decide +kernel
theorem dX6_stackHeight_14 : decode cX6_stackHeight 14 = .ok (.iload_n 2, 1) := by decide +kernel
theorem dX6_stackHeight_15 : decode cX6_stackHeight 15 = .ok (.invokestatic 182, 3) := by decide +kernel
theorem dX6_stackHeight_18 : decode cX6_stackHeight 18 = .ok (.invokevirtual 112, 3) := by decide +kernel
theorem dX6_stackHeight_21 : decode cX6_stackHeight 21 = .ok (.ireturn, 1) := by decide +kernel
set_option maxRecDepth 100000 in
set_option maxHeartbeats 4000000 in
theorem C_X6_stackHeight (l : Launch) (hst : l.stackTraces = false) (E : gE) (x : gX) {v1 v2 : Int32} {M : gM} {oc : String ⊕ Int32} {M' : gM} (hf : f_X6_stackHeight v1 v2 M = some (oc, M')) : gX0 l E yX6_stackHeight (.code yX6_stackHeight cX6_stackHeight 3 (some .int)) (gRX 10 173 3 18) M x [.ref (E.2.1 132), .int v1, .int v2] (gO oc) M' 3 18 := by
  refine gMetX hst (by decide +kernel) (Nat.le_of_ble_eq_true rfl) ?_
  intro p e s m args below meth c H locs ls Q hC hl hI kr kv kx kt kd kf
  replace hC : gC p s m args c cX6_stackHeight 3 RX6 E := hC
  replace hl : lv_has ls 3 [(0, .ref (E.2.1 132)), (1, .int v1), (2, .int v2)] := hl
  have hx := hC.1
  have hb := hC.2.1
  unfold f_X6_stackHeight at hf
  refine lv_aload_n hx hb dX6_stackHeight_0 rfl (lv_at hl 0 rfl) ?_
  refine lv_iload_n hx hb dX6_stackHeight_1 rfl (lv_at hl 1 rfl) ?_
  refine lv_iload_n hx hb dX6_stackHeight_2 rfl (lv_at hl 2 rfl) ?_
  rcases gseq hf with ⟨er, Mr, hr2, hf⟩ | ⟨_, M3, hr2, hf⟩
  · replace hr2 := C_X6_requireStack l hst E x  hr2
    exact g_xVx (rest := []) hC hI hr2 Y_X6_requireStack V_X6_requireStack w630 (rcv_X6 hC hI) ⟨rfl, rfl⟩ ⟨Nat.le_of_ble_eq_true rfl, Nat.le_of_ble_eq_true rfl⟩ rfl hl.1 rfl (Nat.le_of_ble_eq_true rfl) dX6_stackHeight_3 ⟨Nat.le_of_ble_eq_true rfl, Nat.le_of_ble_eq_true rfl⟩ (fun ce q H locs hI h1 h2 h3 => kx _ _ _ _ _ _ _ _ _ _ _ (gtx hf) hI h1 h2 h3 ⟨Nat.le_of_ble_eq_true rfl, Nat.le_of_ble_eq_true rfl⟩)
  replace hr2 := C_X6_requireStack l hst E x  hr2
  refine g_xVv (rest := []) hC hI hr2 Y_X6_requireStack V_X6_requireStack w630 (rcv_X6 hC hI) ⟨rfl, rfl⟩ ⟨Nat.le_of_ble_eq_true rfl, Nat.le_of_ble_eq_true rfl⟩ rfl hl.1 rfl (Nat.le_of_ble_eq_true rfl) dX6_stackHeight_3 ⟨Nat.le_of_ble_eq_true rfl, Nat.le_of_ble_eq_true rfl⟩ (fun H locs hI => ?_)
  refine lv_aload_n hx hb dX6_stackHeight_6 rfl (lv_at hl 0 rfl) ?_
  refine gt_X6_X6_now hC hI dX6_stackHeight_7 ?_
  refine gt_X6_X5_cargo hC hI gOk_0 dX6_stackHeight_10 ?_
  refine lv_iload_n hx hb dX6_stackHeight_13 rfl (lv_at hl 1 rfl) ?_
  refine lv_iload_n hx hb dX6_stackHeight_14 rfl (lv_at hl 2 rfl) ?_
  obtain ⟨r4, hr5, hf⟩ := gbind hf
  have hr5 := C_X6_pileOf l E x  hr5
  refine g_callSi (rest := [.ref (E.2.1 (0 + 1))]) hC hI hr5 Y_X6_pileOf S_X6_pileOf w635 ⟨rfl, rfl⟩ ⟨Nat.le_of_ble_eq_true rfl, Nat.le_of_ble_eq_true rfl⟩ rfl hl.1 rfl (Nat.le_of_ble_eq_true rfl) dX6_stackHeight_15 ⟨Nat.le_of_ble_eq_true rfl, Nat.le_of_ble_eq_true rfl⟩ (fun H locs hI => ?_)
  obtain ⟨r6, hr7, hf⟩ := gbind hf
  have hr7 := C_X0_height l E x gOk_0 hr7
  refine g_callVi (rest := []) hC hI hr7 Y_X0_height V_X0_height w506 (rcv_X0 hC hI gOk_0) ⟨rfl, rfl⟩ ⟨Nat.le_of_ble_eq_true rfl, Nat.le_of_ble_eq_true rfl⟩ rfl hl.1 rfl (Nat.le_of_ble_eq_true rfl) dX6_stackHeight_18 ⟨Nat.le_of_ble_eq_true rfl, Nat.le_of_ble_eq_true rfl⟩ (fun H locs hI => ?_)
  exact kr _ _ _ _ _ _ _ _ (gre hf) hI ⟨.int, rfl, rfl⟩ ⟨Nat.le_of_ble_eq_true rfl, Nat.le_of_ble_eq_true rfl⟩ dX6_stackHeight_21
theorem dX6_found_0 : decode cX6_found 0 = .ok (.iload_n 0, 1) := by decide +kernel
theorem dX6_found_1 : decode cX6_found 1 = .ok (.iconst (-1), 1) := by decide +kernel
theorem dX6_found_2 : decode cX6_found 2 = .ok (.if_icmp .ne 7, 3) := by decide +kernel
theorem dX6_found_5 : decode cX6_found 5 = .ok (.iconst 4, 1) := by decide +kernel
theorem dX6_found_6 : decode cX6_found 6 = .ok (.goto 4, 3) := by decide +kernel
theorem dX6_found_9 : decode cX6_found 9 = .ok (.iconst 0, 1) := by decide +kernel
theorem dX6_found_10 : decode cX6_found 10 = .ok (.invokestatic 65, 3) := by decide +kernel
theorem dX6_found_13 : decode cX6_found 13 = .ok (.iload_n 0, 1) := by decide +kernel
theorem dX6_found_14 : decode cX6_found 14 = .ok (.ireturn, 1) := by decide +kernel
set_option maxRecDepth 100000 in
set_option maxHeartbeats 4000000 in
theorem C_X6_found (l : Launch) (hst : l.stackTraces = false) (E : gE) (x : gX) {v0 : Int32} {M : gM} {oc : String ⊕ Int32} {M' : gM} (hf : f_X6_found v0 M = some (oc, M')) : gX0 l E yX6_found (.code yX6_found cX6_found 1 (some .int)) (gRX 7 110 1 6) M x [.int v0] (gO oc) M' 1 6 := by
  refine gMetX hst (by decide +kernel) (Nat.le_of_ble_eq_true rfl) ?_
  intro p e s m args below meth c H locs ls Q hC hl hI kr kv kx kt kd kf
  replace hC : gC p s m args c cX6_found 1 RX6 E := hC
  replace hl : lv_has ls 1 [(0, .int v0)] := hl
  have hx := hC.1
  have hb := hC.2.1
  unfold f_X6_found at hf
  refine lv_iload_n hx hb dX6_found_0 rfl (lv_at hl 0 rfl) ?_
  refine lv_iconst (v := (-1)) hx hb dX6_found_1 (by decide) ?_
  refine lv_icmp_ne (tgt := 9) hx hb dX6_found_2 rfl (fun h1 => ?_) (fun h1 => ?_)
  · replace hf := gifn h1 hf
    refine lv_iconst (v := 0) hx hb dX6_found_9 (by decide) ?_
    rcases gseq hf with ⟨er, Mr, hr3, hf⟩ | ⟨_, M4, hr3, hf⟩
    · replace hr3 := C_X6_raise l hst E x  hr3
      exact g_xSx (rest := []) hC hI hr3 Y_X6_raise S_X6_raise w255 ⟨rfl, rfl⟩ ⟨Nat.le_of_ble_eq_true rfl, Nat.le_of_ble_eq_true rfl⟩ rfl hl.1 rfl (Nat.le_of_ble_eq_true rfl) dX6_found_10 ⟨Nat.le_of_ble_eq_true rfl, Nat.le_of_ble_eq_true rfl⟩ (fun ce q H locs hI h1 h2 h3 => kx _ _ _ _ _ _ _ _ _ _ _ (gtx hf) hI h1 h2 h3 ⟨Nat.le_of_ble_eq_true rfl, Nat.le_of_ble_eq_true rfl⟩)
    replace hr3 := C_X6_raise l hst E x  hr3
    refine g_xSv (rest := []) hC hI hr3 Y_X6_raise S_X6_raise w255 ⟨rfl, rfl⟩ ⟨Nat.le_of_ble_eq_true rfl, Nat.le_of_ble_eq_true rfl⟩ rfl hl.1 rfl (Nat.le_of_ble_eq_true rfl) dX6_found_10 ⟨Nat.le_of_ble_eq_true rfl, Nat.le_of_ble_eq_true rfl⟩ (fun H locs hI => ?_)
    refine lv_iload_n hx hb dX6_found_13 rfl (lv_at hl 0 rfl) ?_
    exact kr _ _ _ _ _ _ _ _ (gre hf) hI ⟨.int, rfl, rfl⟩ ⟨Nat.le_of_ble_eq_true rfl, Nat.le_of_ble_eq_true rfl⟩ dX6_found_14
  · replace hf := gif h1 hf
    refine lv_iconst (v := 4) hx hb dX6_found_5 (by decide) ?_
    refine lv_goto (tgt := 10) hx hb dX6_found_6 rfl ?_
    rcases gseq hf with ⟨er, Mr, hr6, hf⟩ | ⟨_, M7, hr6, hf⟩
    · replace hr6 := C_X6_raise l hst E x  hr6
      exact g_xSx (rest := []) hC hI hr6 Y_X6_raise S_X6_raise w255 ⟨rfl, rfl⟩ ⟨Nat.le_of_ble_eq_true rfl, Nat.le_of_ble_eq_true rfl⟩ rfl hl.1 rfl (Nat.le_of_ble_eq_true rfl) dX6_found_10 ⟨Nat.le_of_ble_eq_true rfl, Nat.le_of_ble_eq_true rfl⟩ (fun ce q H locs hI h1 h2 h3 => kx _ _ _ _ _ _ _ _ _ _ _ (gtx hf) hI h1 h2 h3 ⟨Nat.le_of_ble_eq_true rfl, Nat.le_of_ble_eq_true rfl⟩)
    replace hr6 := C_X6_raise l hst E x  hr6
    refine g_xSv (rest := []) hC hI hr6 Y_X6_raise S_X6_raise w255 ⟨rfl, rfl⟩ ⟨Nat.le_of_ble_eq_true rfl, Nat.le_of_ble_eq_true rfl⟩ rfl hl.1 rfl (Nat.le_of_ble_eq_true rfl) dX6_found_10 ⟨Nat.le_of_ble_eq_true rfl, Nat.le_of_ble_eq_true rfl⟩ (fun H locs hI => ?_)
    refine lv_iload_n hx hb dX6_found_13 rfl (lv_at hl 0 rfl) ?_
    exact kr _ _ _ _ _ _ _ _ (gre hf) hI ⟨.int, rfl, rfl⟩ ⟨Nat.le_of_ble_eq_true rfl, Nat.le_of_ble_eq_true rfl⟩ dX6_found_14
theorem dX6_containerAt_0 : decode cX6_containerAt 0 = .ok (.aload_n 0, 1) := by decide +kernel
theorem dX6_containerAt_1 : decode cX6_containerAt 1 = .ok (.iload_n 1, 1) := by decide +kernel
theorem dX6_containerAt_2 : decode cX6_containerAt 2 = .ok (.iload_n 2, 1) := by decide +kernel
theorem dX6_containerAt_3 : decode cX6_containerAt 3 = .ok (.invokevirtual 178, 3) := by decide +kernel
theorem dX6_containerAt_6 : decode cX6_containerAt 6 = .ok (.aload_n 0, 1) := by decide +kernel
theorem dX6_containerAt_7 : decode cX6_containerAt 7 = .ok (.getfield 10, 3) := by decide +kernel
theorem dX6_containerAt_10 : decode cX6_containerAt 10 = .ok (.getfield 108, 3) := by decide +kernel
theorem dX6_containerAt_13 : decode cX6_containerAt 13 = .ok (.aload_n 0, 1) := by decide +kernel
theorem dX6_containerAt_14 : decode cX6_containerAt 14 = .ok (.getfield 10, 3) := by decide +kernel
theorem dX6_containerAt_17 : decode cX6_containerAt 17 = .ok (.getfield 108, 3) := by decide +kernel
theorem dX6_containerAt_20 : decode cX6_containerAt 20 = .ok (.iload_n 1, 1) := by decide +kernel
theorem dX6_containerAt_21 : decode cX6_containerAt 21 = .ok (.iload_n 2, 1) := by decide +kernel
theorem dX6_containerAt_22 : decode cX6_containerAt 22 = .ok (.invokestatic 182, 3) := by decide +kernel
theorem dX6_containerAt_25 : decode cX6_containerAt 25 = .ok (.iload_n 3, 1) := by decide +kernel
theorem dX6_containerAt_26 : decode cX6_containerAt 26 = .ok (.invokevirtual 186, 3) := by decide +kernel
theorem dX6_containerAt_29 : decode cX6_containerAt 29 = .ok (.invokestatic 189, 3) := by decide +kernel
theorem dX6_containerAt_32 : decode cX6_containerAt 32 = .ok (.invokevirtual 192, 3) := by decide +kernel
theorem dX6_containerAt_35 : decode cX6_containerAt 35 = .ok (.ireturn, 1) := by decide +kernel
set_option maxRecDepth 100000 in
set_option maxHeartbeats 4000000 in
theorem C_X6_containerAt (l : Launch) (hst : l.stackTraces = false) (E : gE) (x : gX) {v1 v2 v3 : Int32} {M : gM} {oc : String ⊕ Int32} {M' : gM} (hf : f_X6_containerAt v1 v2 v3 M = some (oc, M')) : gX0 l E yX6_containerAt (.code yX6_containerAt cX6_containerAt 4 (some .int)) (gRX 10 173 4 24) M x [.ref (E.2.1 132), .int v1, .int v2, .int v3] (gO oc) M' 4 24 := by
  refine gMetX hst (by decide +kernel) (Nat.le_of_ble_eq_true rfl) ?_
  intro p e s m args below meth c H locs ls Q hC hl hI kr kv kx kt kd kf
  replace hC : gC p s m args c cX6_containerAt 4 RX6 E := hC
  replace hl : lv_has ls 4 [(0, .ref (E.2.1 132)), (1, .int v1), (2, .int v2), (3, .int v3)] := hl
  have hx := hC.1
  have hb := hC.2.1
  unfold f_X6_containerAt at hf
  refine lv_aload_n hx hb dX6_containerAt_0 rfl (lv_at hl 0 rfl) ?_
  refine lv_iload_n hx hb dX6_containerAt_1 rfl (lv_at hl 1 rfl) ?_
  refine lv_iload_n hx hb dX6_containerAt_2 rfl (lv_at hl 2 rfl) ?_
  rcases gseq hf with ⟨er, Mr, hr2, hf⟩ | ⟨_, M3, hr2, hf⟩
  · replace hr2 := C_X6_requireStack l hst E x  hr2
    exact g_xVx (rest := []) hC hI hr2 Y_X6_requireStack V_X6_requireStack w630 (rcv_X6 hC hI) ⟨rfl, rfl⟩ ⟨Nat.le_of_ble_eq_true rfl, Nat.le_of_ble_eq_true rfl⟩ rfl hl.1 rfl (Nat.le_of_ble_eq_true rfl) dX6_containerAt_3 ⟨Nat.le_of_ble_eq_true rfl, Nat.le_of_ble_eq_true rfl⟩ (fun ce q H locs hI h1 h2 h3 => kx _ _ _ _ _ _ _ _ _ _ _ (gtx hf) hI h1 h2 h3 ⟨Nat.le_of_ble_eq_true rfl, Nat.le_of_ble_eq_true rfl⟩)
  replace hr2 := C_X6_requireStack l hst E x  hr2
  refine g_xVv (rest := []) hC hI hr2 Y_X6_requireStack V_X6_requireStack w630 (rcv_X6 hC hI) ⟨rfl, rfl⟩ ⟨Nat.le_of_ble_eq_true rfl, Nat.le_of_ble_eq_true rfl⟩ rfl hl.1 rfl (Nat.le_of_ble_eq_true rfl) dX6_containerAt_3 ⟨Nat.le_of_ble_eq_true rfl, Nat.le_of_ble_eq_true rfl⟩ (fun H locs hI => ?_)
  refine lv_aload_n hx hb dX6_containerAt_6 rfl (lv_at hl 0 rfl) ?_
  refine gt_X6_X6_now hC hI dX6_containerAt_7 ?_
  refine gt_X6_X5_cargo hC hI gOk_0 dX6_containerAt_10 ?_
  refine lv_aload_n hx hb dX6_containerAt_13 rfl (lv_at hl 0 rfl) ?_
  refine gt_X6_X6_now hC hI dX6_containerAt_14 ?_
  refine gt_X6_X5_cargo hC hI gOk_0 dX6_containerAt_17 ?_
  refine lv_iload_n hx hb dX6_containerAt_20 rfl (lv_at hl 1 rfl) ?_
  refine lv_iload_n hx hb dX6_containerAt_21 rfl (lv_at hl 2 rfl) ?_
  obtain ⟨r4, hr5, hf⟩ := gbind hf
  have hr5 := C_X6_pileOf l E x  hr5
  refine g_callSi (rest := [.ref (E.2.1 (0 + 1)), .ref (E.2.1 (0 + 1))]) hC hI hr5 Y_X6_pileOf S_X6_pileOf w635 ⟨rfl, rfl⟩ ⟨Nat.le_of_ble_eq_true rfl, Nat.le_of_ble_eq_true rfl⟩ rfl hl.1 rfl (Nat.le_of_ble_eq_true rfl) dX6_containerAt_22 ⟨Nat.le_of_ble_eq_true rfl, Nat.le_of_ble_eq_true rfl⟩ (fun H locs hI => ?_)
  refine lv_iload_n hx hb dX6_containerAt_25 rfl (lv_at hl 3 rfl) ?_
  obtain ⟨r6, hr7, hf⟩ := gbind hf
  have hr7 := C_X0_rowAt l E x gOk_0 hr7
  refine g_callVi (rest := [.ref (E.2.1 (0 + 1))]) hC hI hr7 Y_X0_rowAt V_X0_rowAt w786 (rcv_X0 hC hI gOk_0) ⟨rfl, rfl⟩ ⟨Nat.le_of_ble_eq_true rfl, Nat.le_of_ble_eq_true rfl⟩ rfl hl.1 rfl (Nat.le_of_ble_eq_true rfl) dX6_containerAt_26 ⟨Nat.le_of_ble_eq_true rfl, Nat.le_of_ble_eq_true rfl⟩ (fun H locs hI => ?_)
  rcases gseq hf with ⟨er, Mr, hr9, hf⟩ | ⟨r8, M10, hr9, hf⟩
  · replace hr9 := C_X6_found l hst E x  hr9
    exact g_xSx (rest := [.ref (E.2.1 (0 + 1))]) hC hI hr9 Y_X6_found S_X6_found w637 ⟨rfl, rfl⟩ ⟨Nat.le_of_ble_eq_true rfl, Nat.le_of_ble_eq_true rfl⟩ rfl hl.1 rfl (Nat.le_of_ble_eq_true rfl) dX6_containerAt_29 ⟨Nat.le_of_ble_eq_true rfl, Nat.le_of_ble_eq_true rfl⟩ (fun ce q H locs hI h1 h2 h3 => kx _ _ _ _ _ _ _ _ _ _ _ (gtx hf) hI h1 h2 h3 ⟨Nat.le_of_ble_eq_true rfl, Nat.le_of_ble_eq_true rfl⟩)
  replace hr9 := C_X6_found l hst E x  hr9
  refine g_xSi (rest := [.ref (E.2.1 (0 + 1))]) hC hI hr9 Y_X6_found S_X6_found w637 ⟨rfl, rfl⟩ ⟨Nat.le_of_ble_eq_true rfl, Nat.le_of_ble_eq_true rfl⟩ rfl hl.1 rfl (Nat.le_of_ble_eq_true rfl) dX6_containerAt_29 ⟨Nat.le_of_ble_eq_true rfl, Nat.le_of_ble_eq_true rfl⟩ (fun H locs hI => ?_)
  obtain ⟨r11, hr12, hf⟩ := gbind hf
  have hr12 := C_X0_id l E x gOk_0 hr12
  refine g_callVi (rest := []) hC hI hr12 Y_X0_id V_X0_id w640 (rcv_X0 hC hI gOk_0) ⟨rfl, rfl⟩ ⟨Nat.le_of_ble_eq_true rfl, Nat.le_of_ble_eq_true rfl⟩ rfl hl.1 rfl (Nat.le_of_ble_eq_true rfl) dX6_containerAt_32 ⟨Nat.le_of_ble_eq_true rfl, Nat.le_of_ble_eq_true rfl⟩ (fun H locs hI => ?_)
  exact kr _ _ _ _ _ _ _ _ (gre hf) hI ⟨.int, rfl, rfl⟩ ⟨Nat.le_of_ble_eq_true rfl, Nat.le_of_ble_eq_true rfl⟩ dX6_containerAt_35
theorem dX6_topOf_0 : decode cX6_topOf 0 = .ok (.aload_n 0, 1) := by decide +kernel
theorem dX6_topOf_1 : decode cX6_topOf 1 = .ok (.iload_n 1, 1) := by decide +kernel
theorem dX6_topOf_2 : decode cX6_topOf 2 = .ok (.iload_n 2, 1) := by decide +kernel
theorem dX6_topOf_3 : decode cX6_topOf 3 = .ok (.invokevirtual 178, 3) := by decide +kernel
theorem dX6_topOf_6 : decode cX6_topOf 6 = .ok (.aload_n 0, 1) := by decide +kernel
theorem dX6_topOf_7 : decode cX6_topOf 7 = .ok (.getfield 10, 3) := by decide +kernel
theorem dX6_topOf_10 : decode cX6_topOf 10 = .ok (.getfield 108, 3) := by decide +kernel
theorem dX6_topOf_13 : decode cX6_topOf 13 = .ok (.aload_n 0, 1) := by decide +kernel
theorem dX6_topOf_14 : decode cX6_topOf 14 = .ok (.getfield 10, 3) := by decide +kernel
theorem dX6_topOf_17 : decode cX6_topOf 17 = .ok (.getfield 108, 3) := by decide +kernel
theorem dX6_topOf_20 : decode cX6_topOf 20 = .ok (.iload_n 1, 1) := by decide +kernel
theorem dX6_topOf_21 : decode cX6_topOf 21 = .ok (.iload_n 2, 1) := by decide +kernel
theorem dX6_topOf_22 : decode cX6_topOf 22 = .ok (.invokestatic 182, 3) := by decide +kernel
theorem dX6_topOf_25 : decode cX6_topOf 25 = .ok (.invokevirtual 195, 3) := by decide +kernel
theorem dX6_topOf_28 : decode cX6_topOf 28 = .ok (.invokestatic 189, 3) := by decide +kernel
theorem dX6_topOf_31 : decode cX6_topOf 31 = .ok (.invokevirtual 192, 3) := by decide +kernel
theorem dX6_topOf_34 : decode cX6_topOf 34 = .ok (.ireturn, 1) := by decide +kernel
set_option maxRecDepth 100000 in
set_option maxHeartbeats 4000000 in
theorem C_X6_topOf (l : Launch) (hst : l.stackTraces = false) (E : gE) (x : gX) {v1 v2 : Int32} {M : gM} {oc : String ⊕ Int32} {M' : gM} (hf : f_X6_topOf v1 v2 M = some (oc, M')) : gX0 l E yX6_topOf (.code yX6_topOf cX6_topOf 3 (some .int)) (gRX 10 173 4 24) M x [.ref (E.2.1 132), .int v1, .int v2] (gO oc) M' 4 24 := by
  refine gMetX hst (by decide +kernel) (Nat.le_of_ble_eq_true rfl) ?_
  intro p e s m args below meth c H locs ls Q hC hl hI kr kv kx kt kd kf
  replace hC : gC p s m args c cX6_topOf 3 RX6 E := hC
  replace hl : lv_has ls 3 [(0, .ref (E.2.1 132)), (1, .int v1), (2, .int v2)] := hl
  have hx := hC.1
  have hb := hC.2.1
  unfold f_X6_topOf at hf
  refine lv_aload_n hx hb dX6_topOf_0 rfl (lv_at hl 0 rfl) ?_
  refine lv_iload_n hx hb dX6_topOf_1 rfl (lv_at hl 1 rfl) ?_
  refine lv_iload_n hx hb dX6_topOf_2 rfl (lv_at hl 2 rfl) ?_
  rcases gseq hf with ⟨er, Mr, hr2, hf⟩ | ⟨_, M3, hr2, hf⟩
  · replace hr2 := C_X6_requireStack l hst E x  hr2
    exact g_xVx (rest := []) hC hI hr2 Y_X6_requireStack V_X6_requireStack w630 (rcv_X6 hC hI) ⟨rfl, rfl⟩ ⟨Nat.le_of_ble_eq_true rfl, Nat.le_of_ble_eq_true rfl⟩ rfl hl.1 rfl (Nat.le_of_ble_eq_true rfl) dX6_topOf_3 ⟨Nat.le_of_ble_eq_true rfl, Nat.le_of_ble_eq_true rfl⟩ (fun ce q H locs hI h1 h2 h3 => kx _ _ _ _ _ _ _ _ _ _ _ (gtx hf) hI h1 h2 h3 ⟨Nat.le_of_ble_eq_true rfl, Nat.le_of_ble_eq_true rfl⟩)
  replace hr2 := C_X6_requireStack l hst E x  hr2
  refine g_xVv (rest := []) hC hI hr2 Y_X6_requireStack V_X6_requireStack w630 (rcv_X6 hC hI) ⟨rfl, rfl⟩ ⟨Nat.le_of_ble_eq_true rfl, Nat.le_of_ble_eq_true rfl⟩ rfl hl.1 rfl (Nat.le_of_ble_eq_true rfl) dX6_topOf_3 ⟨Nat.le_of_ble_eq_true rfl, Nat.le_of_ble_eq_true rfl⟩ (fun H locs hI => ?_)
  refine lv_aload_n hx hb dX6_topOf_6 rfl (lv_at hl 0 rfl) ?_
  refine gt_X6_X6_now hC hI dX6_topOf_7 ?_
  refine gt_X6_X5_cargo hC hI gOk_0 dX6_topOf_10 ?_
  refine lv_aload_n hx hb dX6_topOf_13 rfl (lv_at hl 0 rfl) ?_
  refine gt_X6_X6_now hC hI dX6_topOf_14 ?_
  refine gt_X6_X5_cargo hC hI gOk_0 dX6_topOf_17 ?_
  refine lv_iload_n hx hb dX6_topOf_20 rfl (lv_at hl 1 rfl) ?_
  refine lv_iload_n hx hb dX6_topOf_21 rfl (lv_at hl 2 rfl) ?_
  obtain ⟨r4, hr5, hf⟩ := gbind hf
  have hr5 := C_X6_pileOf l E x  hr5
  refine g_callSi (rest := [.ref (E.2.1 (0 + 1)), .ref (E.2.1 (0 + 1))]) hC hI hr5 Y_X6_pileOf S_X6_pileOf w635 ⟨rfl, rfl⟩ ⟨Nat.le_of_ble_eq_true rfl, Nat.le_of_ble_eq_true rfl⟩ rfl hl.1 rfl (Nat.le_of_ble_eq_true rfl) dX6_topOf_22 ⟨Nat.le_of_ble_eq_true rfl, Nat.le_of_ble_eq_true rfl⟩ (fun H locs hI => ?_)
  obtain ⟨r6, hr7, hf⟩ := gbind hf
  have hr7 := C_X0_topRow l E x gOk_0 hr7
  refine g_callVi (rest := [.ref (E.2.1 (0 + 1))]) hC hI hr7 Y_X0_topRow V_X0_topRow w636 (rcv_X0 hC hI gOk_0) ⟨rfl, rfl⟩ ⟨Nat.le_of_ble_eq_true rfl, Nat.le_of_ble_eq_true rfl⟩ rfl hl.1 rfl (Nat.le_of_ble_eq_true rfl) dX6_topOf_25 ⟨Nat.le_of_ble_eq_true rfl, Nat.le_of_ble_eq_true rfl⟩ (fun H locs hI => ?_)
  rcases gseq hf with ⟨er, Mr, hr9, hf⟩ | ⟨r8, M10, hr9, hf⟩
  · replace hr9 := C_X6_found l hst E x  hr9
    exact g_xSx (rest := [.ref (E.2.1 (0 + 1))]) hC hI hr9 Y_X6_found S_X6_found w637 ⟨rfl, rfl⟩ ⟨Nat.le_of_ble_eq_true rfl, Nat.le_of_ble_eq_true rfl⟩ rfl hl.1 rfl (Nat.le_of_ble_eq_true rfl) dX6_topOf_28 ⟨Nat.le_of_ble_eq_true rfl, Nat.le_of_ble_eq_true rfl⟩ (fun ce q H locs hI h1 h2 h3 => kx _ _ _ _ _ _ _ _ _ _ _ (gtx hf) hI h1 h2 h3 ⟨Nat.le_of_ble_eq_true rfl, Nat.le_of_ble_eq_true rfl⟩)
  replace hr9 := C_X6_found l hst E x  hr9
  refine g_xSi (rest := [.ref (E.2.1 (0 + 1))]) hC hI hr9 Y_X6_found S_X6_found w637 ⟨rfl, rfl⟩ ⟨Nat.le_of_ble_eq_true rfl, Nat.le_of_ble_eq_true rfl⟩ rfl hl.1 rfl (Nat.le_of_ble_eq_true rfl) dX6_topOf_28 ⟨Nat.le_of_ble_eq_true rfl, Nat.le_of_ble_eq_true rfl⟩ (fun H locs hI => ?_)
  obtain ⟨r11, hr12, hf⟩ := gbind hf
  have hr12 := C_X0_id l E x gOk_0 hr12
  refine g_callVi (rest := []) hC hI hr12 Y_X0_id V_X0_id w640 (rcv_X0 hC hI gOk_0) ⟨rfl, rfl⟩ ⟨Nat.le_of_ble_eq_true rfl, Nat.le_of_ble_eq_true rfl⟩ rfl hl.1 rfl (Nat.le_of_ble_eq_true rfl) dX6_topOf_31 ⟨Nat.le_of_ble_eq_true rfl, Nat.le_of_ble_eq_true rfl⟩ (fun H locs hI => ?_)
  exact kr _ _ _ _ _ _ _ _ (gre hf) hI ⟨.int, rfl, rfl⟩ ⟨Nat.le_of_ble_eq_true rfl, Nat.le_of_ble_eq_true rfl⟩ dX6_topOf_34
theorem dX6_containersOn_0 : decode cX6_containersOn 0 = .ok (.aload_n 0, 1) := by decide +kernel
theorem dX6_containersOn_1 : decode cX6_containersOn 1 = .ok (.iload_n 1, 1) := by decide +kernel
theorem dX6_containersOn_2 : decode cX6_containersOn 2 = .ok (.invokevirtual 142, 3) := by decide +kernel
theorem dX6_containersOn_5 : decode cX6_containersOn 5 = .ok (.aload_n 0, 1) := by decide +kernel
theorem dX6_containersOn_6 : decode cX6_containersOn 6 = .ok (.getfield 10, 3) := by decide +kernel
theorem dX6_containersOn_9 : decode cX6_containersOn 9 = .ok (.getfield 108, 3) := by decide +kernel
theorem dX6_containersOn_12 : decode cX6_containersOn 12 = .ok (.iload_n 1, 1) := by decide +kernel
theorem dX6_containersOn_13 : decode cX6_containersOn 13 = .ok (.invokevirtual 198, 3) := by decide +kernel
theorem dX6_containersOn_16 : decode cX6_containersOn 16 = .ok (.ireturn, 1) := by decide +kernel
set_option maxRecDepth 100000 in
set_option maxHeartbeats 4000000 in
theorem C_X6_containersOn (l : Launch) (hst : l.stackTraces = false) (E : gE) (x : gX) {v1 : Int32} {M : gM} {oc : String ⊕ Int32} {M' : gM} (hf : f_X6_containersOn v1 M = some (oc, M')) : gX0 l E yX6_containersOn (.code yX6_containersOn cX6_containersOn 2 (some .int)) (gRX 9 151 2 12) M x [.ref (E.2.1 132), .int v1] (gO oc) M' 2 12 := by
  refine gMetX hst (by decide +kernel) (Nat.le_of_ble_eq_true rfl) ?_
  intro p e s m args below meth c H locs ls Q hC hl hI kr kv kx kt kd kf
  replace hC : gC p s m args c cX6_containersOn 2 RX6 E := hC
  replace hl : lv_has ls 2 [(0, .ref (E.2.1 132)), (1, .int v1)] := hl
  have hx := hC.1
  have hb := hC.2.1
  unfold f_X6_containersOn at hf
  refine lv_aload_n hx hb dX6_containersOn_0 rfl (lv_at hl 0 rfl) ?_
  refine lv_iload_n hx hb dX6_containersOn_1 rfl (lv_at hl 1 rfl) ?_
  rcases gseq hf with ⟨er, Mr, hr2, hf⟩ | ⟨_, M3, hr2, hf⟩
  · replace hr2 := C_X6_requireShip l hst E x  hr2
    exact g_xVx (rest := []) hC hI hr2 Y_X6_requireShip V_X6_requireShip w575 (rcv_X6 hC hI) ⟨rfl, rfl⟩ ⟨Nat.le_of_ble_eq_true rfl, Nat.le_of_ble_eq_true rfl⟩ rfl hl.1 rfl (Nat.le_of_ble_eq_true rfl) dX6_containersOn_2 ⟨Nat.le_of_ble_eq_true rfl, Nat.le_of_ble_eq_true rfl⟩ (fun ce q H locs hI h1 h2 h3 => kx _ _ _ _ _ _ _ _ _ _ _ (gtx hf) hI h1 h2 h3 ⟨Nat.le_of_ble_eq_true rfl, Nat.le_of_ble_eq_true rfl⟩)
  replace hr2 := C_X6_requireShip l hst E x  hr2
  refine g_xVv (rest := []) hC hI hr2 Y_X6_requireShip V_X6_requireShip w575 (rcv_X6 hC hI) ⟨rfl, rfl⟩ ⟨Nat.le_of_ble_eq_true rfl, Nat.le_of_ble_eq_true rfl⟩ rfl hl.1 rfl (Nat.le_of_ble_eq_true rfl) dX6_containersOn_2 ⟨Nat.le_of_ble_eq_true rfl, Nat.le_of_ble_eq_true rfl⟩ (fun H locs hI => ?_)
  refine lv_aload_n hx hb dX6_containersOn_5 rfl (lv_at hl 0 rfl) ?_
  refine gt_X6_X6_now hC hI dX6_containersOn_6 ?_
  refine gt_X6_X5_cargo hC hI gOk_0 dX6_containersOn_9 ?_
  refine lv_iload_n hx hb dX6_containersOn_12 rfl (lv_at hl 1 rfl) ?_
  obtain ⟨r4, hr5, hf⟩ := gbind hf
  have hr5 := C_X0_loadOf l E x gOk_0 hr5
  refine g_callVi (rest := []) hC hI hr5 Y_X0_loadOf V_X0_loadOf w645 (rcv_X0 hC hI gOk_0) ⟨rfl, rfl⟩ ⟨Nat.le_of_ble_eq_true rfl, Nat.le_of_ble_eq_true rfl⟩ rfl hl.1 rfl (Nat.le_of_ble_eq_true rfl) dX6_containersOn_13 ⟨Nat.le_of_ble_eq_true rfl, Nat.le_of_ble_eq_true rfl⟩ (fun H locs hI => ?_)
  exact kr _ _ _ _ _ _ _ _ (gre hf) hI ⟨.int, rfl, rfl⟩ ⟨Nat.le_of_ble_eq_true rfl, Nat.le_of_ble_eq_true rfl⟩ dX6_containersOn_16
theorem dX0_weightByStacks_0 : decode cX0_weightByStacks 0 = .ok (.iconst 0, 1) := by decide +kernel
theorem dX0_weightByStacks_1 : decode cX0_weightByStacks 1 = .ok (.istore_n 2, 1) := by decide +kernel
theorem dX0_weightByStacks_2 : decode cX0_weightByStacks 2 = .ok (.iconst 0, 1) := by decide +kernel
theorem dX0_weightByStacks_3 : decode cX0_weightByStacks 3 = .ok (.istore_n 3, 1) := by decide +kernel
theorem dX0_weightByStacks_4 : decode cX0_weightByStacks 4 = .ok (.iload_n 3, 1) := by decide +kernel
theorem dX0_weightByStacks_5 : decode cX0_weightByStacks 5 = .ok (.iconst 4, 1) := by decide +kernel
theorem dX0_weightByStacks_6 : decode cX0_weightByStacks 6 = .ok (.if_icmp .ge 46, 3) := by decide +kernel
theorem dX0_weightByStacks_9 : decode cX0_weightByStacks 9 = .ok (.iload_n 1, 1) := by decide +kernel
theorem dX0_weightByStacks_10 : decode cX0_weightByStacks 10 = .ok (.iload_n 3, 1) := by decide +kernel
theorem dX0_weightByStacks_11 : decode cX0_weightByStacks 11 = .ok (.invokestatic 76, 3) := by decide +kernel
theorem dX0_weightByStacks_14 : decode cX0_weightByStacks 14 = .ok (.istore 4, 2) := by decide +kernel
theorem dX0_weightByStacks_16 : decode cX0_weightByStacks 16 = .ok (.iconst 0, 1) := by decide +kernel
theorem dX0_weightByStacks_17 : decode cX0_weightByStacks 17 = .ok (.istore 5, 2) := by decide +kernel
theorem dX0_weightByStacks_19 : decode cX0_weightByStacks 19 = .ok (.iload 5, 2) := by decide +kernel
theorem dX0_weightByStacks_21 : decode cX0_weightByStacks 21 = .ok (.iconst 5, 1) := by decide +kernel
theorem dX0_weightByStacks_22 : decode cX0_weightByStacks 22 = .ok (.if_icmp .ge 24, 3) := by decide +kernel
theorem dX0_weightByStacks_25 : decode cX0_weightByStacks 25 = .ok (.iload_n 2, 1) := by decide +kernel
theorem dX0_weightByStacks_26 : decode cX0_weightByStacks 26 = .ok (.aload_n 0, 1) := by decide +kernel
theorem dX0_weightByStacks_27 : decode cX0_weightByStacks 27 = .ok (.aload_n 0, 1) := by decide +kernel
theorem dX0_weightByStacks_28 : decode cX0_weightByStacks 28 = .ok (.iload 4, 2) := by decide +kernel
theorem dX0_weightByStacks_30 : decode cX0_weightByStacks 30 = .ok (.iload 5, 2) := by decide +kernel
theorem dX0_weightByStacks_32 : decode cX0_weightByStacks 32 = .ok (.invokevirtual 72, 3) := by decide +kernel
theorem dX0_weightByStacks_35 : decode cX0_weightByStacks 35 = .ok (.invokevirtual 63, 3) := by decide +kernel
theorem dX0_weightByStacks_38 : decode cX0_weightByStacks 38 = .ok (.iadd, 1) := by decide +kernel
theorem dX0_weightByStacks_39 : decode cX0_weightByStacks 39 = .ok (.istore_n 2, 1) := by decide +kernel
theorem dX0_weightByStacks_40 : decode cX0_weightByStacks 40 = .ok (.iinc 5 1, 3) := by decide +kernel
theorem dX0_weightByStacks_43 : decode cX0_weightByStacks 43 = .ok (.goto (-24), 3) := by decide +kernel
theorem dX0_weightByStacks_46 : decode cX0_weightByStacks 46 = .ok (.iinc 3 1, 3) := by decide +kernel
theorem dX0_weightByStacks_49 : decode cX0_weightByStacks 49 = .ok (.goto (-45), 3) := by decide +kernel
theorem dX0_weightByStacks_52 : decode cX0_weightByStacks 52 = .ok (.iload_n 2, 1) := by decide +kernel
theorem dX0_weightByStacks_53 : decode cX0_weightByStacks 53 = .ok (.ireturn, 1) := by decide +kernel
set_option maxRecDepth 100000 in
set_option maxHeartbeats 4000000 in
theorem C_X0_weightByStacks (l : Launch) (E : gE) (x : gX) {o : Nat} (ho : gOk o) {v1 : Int32} {M : gM} {r : Int32} (hf : f_X0_weightByStacks o v1 M = some r) : gM0 l E yX0_weightByStacks (.code yX0_weightByStacks cX0_weightByStacks 6 (some .int)) (gR 2 42) M x [.ref (E.2.1 (o + 1)), .int v1] (some (.int r)) M := by
  refine gMet (by decide +kernel) (Nat.le_of_ble_eq_true rfl) ?_
  intro p e s m args below meth c H locs ls Q hC hl hI kr kv
  replace hC : gC p s m args c cX0_weightByStacks 6 RX0 E := hC
  replace hl : lv_has ls 6 [(0, .ref (E.2.1 (o + 1))), (1, .int v1)] := hl
  have hx := hC.1
  have hb := hC.2.1
  have L19 : ∀ (v4 : Int32) (v3 : Int32) (v1 : Int32) (n : Nat) (v5 : Int32) (v2 : Int32) (q : Int32 × Int32), f_X0_weightByStacks_L19 o M v4 v3 v1 n v5 v2 = some q → ∀ (H : Heap) (locs : List Loc) (ls : Array Slot), gI E s M x H locs → lv_has ls 6 [(5, .int v5), (4, .int v4), (3, .int v3), (2, .int v2), (0, .ref (E.2.1 (o + 1))), (1, .int v1)] → (∀ (H : Heap) (locs : List Loc) (ls : Array Slot), gI E s M x H locs → lv_has ls 6 [(5, .int q.1), (4, .int v4), (3, .int v3), (2, .int q.2), (0, .ref (E.2.1 (o + 1))), (1, .int v1)] → W p l e (gR 2 42) s m args below meth c H locs 0 0 Q (F0 m 46 ls [])) → W p l e (gR 2 42) s m args below meth c H locs 0 0 Q (F0 m 19 ls []) := by
    intro v4 v3 v1 n
    induction n with
    | zero => intro v5 v2 q hf; rw [f_X0_weightByStacks_L19] at hf; cases hf
    | succ n ih =>
      intro v5 v2 q hf H locs ls hI hl hk
      rw [f_X0_weightByStacks_L19] at hf
      refine lv_iload hx hb dX0_weightByStacks_19 (lv_at hl 0 rfl) ?_
      refine lv_iconst (v := 5) hx hb dX0_weightByStacks_21 (by decide) ?_
      refine lv_icmp_ge (tgt := 46) hx hb dX0_weightByStacks_22 rfl (fun h4 => ?_) (fun h4 => ?_)
      · replace hf := gif h4 hf
        obtain rfl := Option.some.inj hf
        exact hk _ _ _ hI (lv_sub hl [0, 1, 2, 3, 4, 5] rfl)
      · replace hf := gifn h4 hf
        refine lv_iload_n hx hb dX0_weightByStacks_25 rfl (lv_at hl 3 rfl) ?_
        refine lv_aload_n hx hb dX0_weightByStacks_26 rfl (lv_at hl 4 rfl) ?_
        refine lv_aload_n hx hb dX0_weightByStacks_27 rfl (lv_at hl 4 rfl) ?_
        refine lv_iload hx hb dX0_weightByStacks_28 (lv_at hl 1 rfl) ?_
        refine lv_iload hx hb dX0_weightByStacks_30 (lv_at hl 0 rfl) ?_
        obtain ⟨r5, hr6, hf⟩ := gbind hf
        have hr6 := C_X0_rowAt l E x ho hr6
        refine g_callVi (rest := [.ref (E.2.1 (o + 1)), .int v2]) hC hI hr6 Y_X0_rowAt V_X0_rowAt w422 (rcv_X0 hC hI ho) ⟨rfl, rfl⟩ ⟨Nat.le_of_ble_eq_true rfl, Nat.le_of_ble_eq_true rfl⟩ rfl hl.1 rfl (Nat.le_of_ble_eq_true rfl) dX0_weightByStacks_32 ⟨Nat.le_of_ble_eq_true rfl, Nat.le_of_ble_eq_true rfl⟩ (fun H locs hI => ?_)
        obtain ⟨r7, hr8, hf⟩ := gbind hf
        have hr8 := C_X0_weight l E x ho hr8
        refine g_callVi (rest := [.int v2]) hC hI hr8 Y_X0_weight V_X0_weight w438 (rcv_X0 hC hI ho) ⟨rfl, rfl⟩ ⟨Nat.le_of_ble_eq_true rfl, Nat.le_of_ble_eq_true rfl⟩ rfl hl.1 rfl (Nat.le_of_ble_eq_true rfl) dX0_weightByStacks_35 ⟨Nat.le_of_ble_eq_true rfl, Nat.le_of_ble_eq_true rfl⟩ (fun H locs hI => ?_)
        refine lv_iadd hx hb dX0_weightByStacks_38 ?_
        obtain ⟨z9, ez9, hf⟩ := glet hf
        refine g_top ez9 ?_
        refine lv_istore_n (lv' := [(2, .int z9), (5, .int v5), (4, .int v4), (3, .int v3), (0, .ref (E.2.1 (o + 1))), (1, .int v1)]) hx hb dX0_weightByStacks_39 rfl hl (by decide) rfl (fun ls hl => ?_)
        refine lv_iinc (k := 1) (v := v5 + 1) (lv' := [(5, .int (v5 + 1)), (2, .int z9), (4, .int v4), (3, .int v3), (0, .ref (E.2.1 (o + 1))), (1, .int v1)]) hx hb dX0_weightByStacks_40 hl rfl rfl (by decide) rfl (fun ls hl => ?_)
        refine lv_goto (tgt := 19) hx hb dX0_weightByStacks_43 rfl ?_
        exact ih (v5 + 1) z9 _ hf _ _ _ hI (lv_sub hl [0, 2, 3, 1, 4, 5] rfl) hk
  have L4 : ∀ (v1 : Int32) (n : Nat) (v3 : Int32) (v2 : Int32), f_X0_weightByStacks_L4 o M v1 n v3 v2 = some r → ∀ (H : Heap) (locs : List Loc) (ls : Array Slot), gI E s M x H locs → lv_has ls 6 [(3, .int v3), (2, .int v2), (0, .ref (E.2.1 (o + 1))), (1, .int v1)] → W p l e (gR 2 42) s m args below meth c H locs 0 0 Q (F0 m 4 ls []) := by
    intro v1 n
    induction n with
    | zero => intro v3 v2 hf; rw [f_X0_weightByStacks_L4] at hf; cases hf
    | succ n ih =>
      intro v3 v2 hf H locs ls hI hl
      rw [f_X0_weightByStacks_L4] at hf
      refine lv_iload_n hx hb dX0_weightByStacks_4 rfl (lv_at hl 0 rfl) ?_
      refine lv_iconst (v := 4) hx hb dX0_weightByStacks_5 (by decide) ?_
      refine lv_icmp_ge (tgt := 52) hx hb dX0_weightByStacks_6 rfl (fun h1 => ?_) (fun h1 => ?_)
      · replace hf := gif h1 hf
        refine lv_iload_n hx hb dX0_weightByStacks_52 rfl (lv_at hl 1 rfl) ?_
        exact kr _ _ _ _ _ _ (gri hf) hI ⟨.int, rfl, rfl⟩ dX0_weightByStacks_53
      · replace hf := gifn h1 hf
        refine lv_iload_n hx hb dX0_weightByStacks_9 rfl (lv_at hl 3 rfl) ?_
        refine lv_iload_n hx hb dX0_weightByStacks_10 rfl (lv_at hl 0 rfl) ?_
        obtain ⟨r2, hr3, hf⟩ := gbind hf
        have hr3 := C_X6_pileOf l E x  hr3
        refine g_callSNi (rest := []) hC hI hr3 Y_X6_pileOf S_X6_pileOf (List.mem_of_getElem? (i := 9) rfl) ⟨rfl, rfl⟩ ⟨Nat.le_of_ble_eq_true rfl, Nat.le_of_ble_eq_true rfl⟩ rfl hl.1 rfl (Nat.le_of_ble_eq_true rfl) dX0_weightByStacks_11 ⟨Nat.le_of_ble_eq_true rfl, Nat.le_of_ble_eq_true rfl⟩ (fun H locs hI => ?_)
        refine lv_istore (lv' := [(4, .int r2), (3, .int v3), (2, .int v2), (0, .ref (E.2.1 (o + 1))), (1, .int v1)]) hx hb dX0_weightByStacks_14 hl (by decide) rfl (fun ls hl => ?_)
        refine lv_iconst (v := 0) hx hb dX0_weightByStacks_16 (by decide) ?_
        refine lv_istore (lv' := [(5, .int 0), (4, .int r2), (3, .int v3), (2, .int v2), (0, .ref (E.2.1 (o + 1))), (1, .int v1)]) hx hb dX0_weightByStacks_17 hl (by decide) rfl (fun ls hl => ?_)
        obtain ⟨q10, hq10, hf⟩ := gbind hf
        refine L19 r2 v3 v1 gF 0 v2 q10 hq10 _ _ _ hI (lv_sub hl [0, 1, 2, 3, 4, 5] rfl) (fun H locs ls hI hl => ?_)
        try simp only at hI hl
        refine lv_iinc (k := 2) (v := v3 + 1) (lv' := [(3, .int (v3 + 1)), (5, .int q10.1), (4, .int r2), (2, .int q10.2), (0, .ref (E.2.1 (o + 1))), (1, .int v1)]) hx hb dX0_weightByStacks_46 hl rfl rfl (by decide) rfl (fun ls hl => ?_)
        refine lv_goto (tgt := 4) hx hb dX0_weightByStacks_49 rfl ?_
        exact ih (v3 + 1) q10.2 hf _ _ _ hI (lv_sub hl [0, 3, 4, 5] rfl)
  unfold f_X0_weightByStacks at hf
  refine lv_iconst (v := 0) hx hb dX0_weightByStacks_0 (by decide) ?_
  refine lv_istore_n (lv' := [(2, .int 0), (0, .ref (E.2.1 (o + 1))), (1, .int v1)]) hx hb dX0_weightByStacks_1 rfl hl (by decide) rfl (fun ls hl => ?_)
  refine lv_iconst (v := 0) hx hb dX0_weightByStacks_2 (by decide) ?_
  refine lv_istore_n (lv' := [(3, .int 0), (2, .int 0), (0, .ref (E.2.1 (o + 1))), (1, .int v1)]) hx hb dX0_weightByStacks_3 rfl hl (by decide) rfl (fun ls hl => ?_)
  exact L4 v1 gF 0 0 hf _ _ _ hI (lv_sub hl [0, 1, 2, 3] rfl)
theorem dX6_weightOn_0 : decode cX6_weightOn 0 = .ok (.aload_n 0, 1) := by decide +kernel
theorem dX6_weightOn_1 : decode cX6_weightOn 1 = .ok (.iload_n 1, 1) := by decide +kernel
theorem dX6_weightOn_2 : decode cX6_weightOn 2 = .ok (.invokevirtual 142, 3) := by decide +kernel
theorem dX6_weightOn_5 : decode cX6_weightOn 5 = .ok (.aload_n 0, 1) := by decide +kernel
theorem dX6_weightOn_6 : decode cX6_weightOn 6 = .ok (.getfield 10, 3) := by decide +kernel
theorem dX6_weightOn_9 : decode cX6_weightOn 9 = .ok (.getfield 108, 3) := by decide +kernel
theorem dX6_weightOn_12 : decode cX6_weightOn 12 = .ok (.iload_n 1, 1) := by decide +kernel
theorem dX6_weightOn_13 : decode cX6_weightOn 13 = .ok (.invokevirtual 201, 3) := by decide +kernel
theorem dX6_weightOn_16 : decode cX6_weightOn 16 = .ok (.ireturn, 1) := by decide +kernel
set_option maxRecDepth 100000 in
set_option maxHeartbeats 4000000 in
theorem C_X6_weightOn (l : Launch) (hst : l.stackTraces = false) (E : gE) (x : gX) {v1 : Int32} {M : gM} {oc : String ⊕ Int32} {M' : gM} (hf : f_X6_weightOn v1 M = some (oc, M')) : gX0 l E yX6_weightOn (.code yX6_weightOn cX6_weightOn 2 (some .int)) (gRX 9 151 2 12) M x [.ref (E.2.1 132), .int v1] (gO oc) M' 2 12 := by
  refine gMetX hst (by decide +kernel) (Nat.le_of_ble_eq_true rfl) ?_
  intro p e s m args below meth c H locs ls Q hC hl hI kr kv kx kt kd kf
  replace hC : gC p s m args c cX6_weightOn 2 RX6 E := hC
  replace hl : lv_has ls 2 [(0, .ref (E.2.1 132)), (1, .int v1)] := hl
  have hx := hC.1
  have hb := hC.2.1
  unfold f_X6_weightOn at hf
  refine lv_aload_n hx hb dX6_weightOn_0 rfl (lv_at hl 0 rfl) ?_
  refine lv_iload_n hx hb dX6_weightOn_1 rfl (lv_at hl 1 rfl) ?_
  rcases gseq hf with ⟨er, Mr, hr2, hf⟩ | ⟨_, M3, hr2, hf⟩
  · replace hr2 := C_X6_requireShip l hst E x  hr2
    exact g_xVx (rest := []) hC hI hr2 Y_X6_requireShip V_X6_requireShip w575 (rcv_X6 hC hI) ⟨rfl, rfl⟩ ⟨Nat.le_of_ble_eq_true rfl, Nat.le_of_ble_eq_true rfl⟩ rfl hl.1 rfl (Nat.le_of_ble_eq_true rfl) dX6_weightOn_2 ⟨Nat.le_of_ble_eq_true rfl, Nat.le_of_ble_eq_true rfl⟩ (fun ce q H locs hI h1 h2 h3 => kx _ _ _ _ _ _ _ _ _ _ _ (gtx hf) hI h1 h2 h3 ⟨Nat.le_of_ble_eq_true rfl, Nat.le_of_ble_eq_true rfl⟩)
  replace hr2 := C_X6_requireShip l hst E x  hr2
  refine g_xVv (rest := []) hC hI hr2 Y_X6_requireShip V_X6_requireShip w575 (rcv_X6 hC hI) ⟨rfl, rfl⟩ ⟨Nat.le_of_ble_eq_true rfl, Nat.le_of_ble_eq_true rfl⟩ rfl hl.1 rfl (Nat.le_of_ble_eq_true rfl) dX6_weightOn_2 ⟨Nat.le_of_ble_eq_true rfl, Nat.le_of_ble_eq_true rfl⟩ (fun H locs hI => ?_)
  refine lv_aload_n hx hb dX6_weightOn_5 rfl (lv_at hl 0 rfl) ?_
  refine gt_X6_X6_now hC hI dX6_weightOn_6 ?_
  refine gt_X6_X5_cargo hC hI gOk_0 dX6_weightOn_9 ?_
  refine lv_iload_n hx hb dX6_weightOn_12 rfl (lv_at hl 1 rfl) ?_
  obtain ⟨r4, hr5, hf⟩ := gbind hf
  have hr5 := C_X0_weightByStacks l E x gOk_0 hr5
  refine g_callVi (rest := []) hC hI hr5 Y_X0_weightByStacks V_X0_weightByStacks w650 (rcv_X0 hC hI gOk_0) ⟨rfl, rfl⟩ ⟨Nat.le_of_ble_eq_true rfl, Nat.le_of_ble_eq_true rfl⟩ rfl hl.1 rfl (Nat.le_of_ble_eq_true rfl) dX6_weightOn_13 ⟨Nat.le_of_ble_eq_true rfl, Nat.le_of_ble_eq_true rfl⟩ (fun H locs hI => ?_)
  exact kr _ _ _ _ _ _ _ _ (gre hf) hI ⟨.int, rfl, rfl⟩ ⟨Nat.le_of_ble_eq_true rfl, Nat.le_of_ble_eq_true rfl⟩ dX6_weightOn_16
theorem dX0_isAt_0 : decode cX0_isAt 0 = .ok (.aload_n 0, 1) := by decide +kernel
theorem dX0_isAt_1 : decode cX0_isAt 1 = .ok (.iload_n 1, 1) := by decide +kernel
theorem dX0_isAt_2 : decode cX0_isAt 2 = .ok (.invokevirtual 44, 3) := by decide +kernel
theorem dX0_isAt_5 : decode cX0_isAt 5 = .ok (.ifCond .eq 30, 3) := by decide +kernel
theorem dX0_isAt_8 : decode cX0_isAt 8 = .ok (.aload_n 0, 1) := by decide +kernel
theorem dX0_isAt_9 : decode cX0_isAt 9 = .ok (.getfield 21, 3) := by decide +kernel
theorem dX0_isAt_12 : decode cX0_isAt 12 = .ok (.iload_n 1, 1) := by decide +kernel
theorem dX0_isAt_13 : decode cX0_isAt 13 = .ok (.iaload, 1) := by decide +kernel
theorem dX0_isAt_14 : decode cX0_isAt 14 = .ok (.bipush 12, 2) := by decide +kernel
theorem dX0_isAt_16 : decode cX0_isAt 16 = .ok (.if_icmp .eq 19, 3) := by decide +kernel
theorem dX0_isAt_19 : decode cX0_isAt 19 = .ok (.aload_n 0, 1) := by decide +kernel
theorem dX0_isAt_20 : decode cX0_isAt 20 = .ok (.getfield 21, 3) := by decide +kernel
theorem dX0_isAt_23 : decode cX0_isAt 23 = .ok (.iload_n 1, 1) := by decide +kernel
theorem dX0_isAt_24 : decode cX0_isAt 24 = .ok (.iaload, 1) := by decide +kernel
theorem dX0_isAt_25 : decode cX0_isAt 25 = .ok (.iconst 4, 1) := by decide +kernel
theorem dX0_isAt_26 : decode cX0_isAt 26 = .ok (.idiv, 1) := by decide +kernel
theorem dX0_isAt_27 : decode cX0_isAt 27 = .ok (.iload_n 2, 1) := by decide +kernel
theorem dX0_isAt_28 : decode cX0_isAt 28 = .ok (.if_icmp .ne 7, 3) := by decide +kernel
theorem dX0_isAt_31 : decode cX0_isAt 31 = .ok (.iconst 1, 1) := by decide +kernel
theorem dX0_isAt_32 : decode cX0_isAt 32 = .ok (.goto 4, 3) := by decide +kernel
theorem dX0_isAt_35 : decode cX0_isAt 35 = .ok (.iconst 0, 1) := by decide +kernel
theorem dX0_isAt_36 : decode cX0_isAt 36 = .ok (.ireturn, 1) := by decide +kernel
set_option maxRecDepth 100000 in
set_option maxHeartbeats 4000000 in
theorem C_X0_isAt (l : Launch) (E : gE) (x : gX) {o : Nat} (ho : gOk o) {v1 v2 : Int32} {M : gM} {r : Bool} (hf : f_X0_isAt o v1 v2 M = some r) : gM0 l E yX0_isAt (.code yX0_isAt cX0_isAt 3 (some .boolean)) (gR 1 21) M x [.ref (E.2.1 (o + 1)), .int v1, .int v2] (some (.int (gb r))) M := by
  refine gMet (by decide +kernel) (Nat.le_of_ble_eq_true rfl) ?_
  intro p e s m args below meth c H locs ls Q hC hl hI kr kv
  replace hC : gC p s m args c cX0_isAt 3 RX0 E := hC
  replace hl : lv_has ls 3 [(0, .ref (E.2.1 (o + 1))), (1, .int v1), (2, .int v2)] := hl
  have hx := hC.1
  have hb := hC.2.1
  unfold f_X0_isAt at hf
  refine lv_aload_n hx hb dX0_isAt_0 rfl (lv_at hl 0 rfl) ?_
  refine lv_iload_n hx hb dX0_isAt_1 rfl (lv_at hl 1 rfl) ?_
  obtain ⟨r1, hr2, hf⟩ := gbind hf
  have hr2 := C_X0_hasRow l E x ho hr2
  refine g_callVi (rest := []) hC hI hr2 Y_X0_hasRow V_X0_hasRow w434 (rcv_X0 hC hI ho) ⟨rfl, rfl⟩ ⟨Nat.le_of_ble_eq_true rfl, Nat.le_of_ble_eq_true rfl⟩ rfl hl.1 rfl (Nat.le_of_ble_eq_true rfl) dX0_isAt_2 ⟨Nat.le_of_ble_eq_true rfl, Nat.le_of_ble_eq_true rfl⟩ (fun H locs hI => ?_)
  refine lv_if_eq (tgt := 35) hx hb dX0_isAt_5 rfl (fun h3 => ?_) (fun h3 => ?_)
  · replace hf := gif h3 hf
    refine lv_iconst (v := 0) hx hb dX0_isAt_35 (by decide) ?_
    exact kr _ _ _ _ _ _ (grb0 hf) hI ⟨.boolean, rfl, rfl⟩ dX0_isAt_36
  · replace hf := gifn h3 hf
    refine lv_aload_n hx hb dX0_isAt_8 rfl (lv_at hl 0 rfl) ?_
    refine gt_X0_X0_piles hC hI ho dX0_isAt_9 ?_
    refine lv_iload_n hx hb dX0_isAt_12 rfl (lv_at hl 1 rfl) ?_
    obtain ⟨h4, hf⟩ := gifN hf
    refine g_iald hC hI (k := v1.toNatClampNeg) (gIA_5 ho) h4 rfl dX0_isAt_13 ?_
    refine lv_bipush (v := 12) hx hb dX0_isAt_14 (by decide) ?_
    refine lv_icmp_eq (tgt := 35) hx hb dX0_isAt_16 rfl (fun h5 => ?_) (fun h5 => ?_)
    · replace hf := gif h5 hf
      refine lv_iconst (v := 0) hx hb dX0_isAt_35 (by decide) ?_
      exact kr _ _ _ _ _ _ (grb0 hf) hI ⟨.boolean, rfl, rfl⟩ dX0_isAt_36
    · replace hf := gifn h5 hf
      refine lv_aload_n hx hb dX0_isAt_19 rfl (lv_at hl 0 rfl) ?_
      refine gt_X0_X0_piles hC hI ho dX0_isAt_20 ?_
      refine lv_iload_n hx hb dX0_isAt_23 rfl (lv_at hl 1 rfl) ?_
      obtain ⟨h6, hf⟩ := gifN hf
      refine g_iald hC hI (k := v1.toNatClampNeg) (gIA_5 ho) h6 rfl dX0_isAt_24 ?_
      refine lv_iconst (v := 4) hx hb dX0_isAt_25 (by decide) ?_
      refine lv_idiv hx hb dX0_isAt_26 (by decide) ?_
      refine lv_iload_n hx hb dX0_isAt_27 rfl (lv_at hl 2 rfl) ?_
      refine lv_icmp_ne (tgt := 35) hx hb dX0_isAt_28 rfl (fun h7 => ?_) (fun h7 => ?_)
      · replace hf := gifn h7 hf
        refine lv_iconst (v := 0) hx hb dX0_isAt_35 (by decide) ?_
        exact kr _ _ _ _ _ _ (grb0 hf) hI ⟨.boolean, rfl, rfl⟩ dX0_isAt_36
      · replace hf := gif h7 hf
        refine lv_iconst (v := 1) hx hb dX0_isAt_31 (by decide) ?_
        refine lv_goto (tgt := 36) hx hb dX0_isAt_32 rfl ?_
        exact kr _ _ _ _ _ _ (grb1 hf) hI ⟨.boolean, rfl, rfl⟩ dX0_isAt_36
theorem dX0_weightByIds_0 : decode cX0_weightByIds 0 = .ok (.iconst 0, 1) := by decide +kernel
theorem dX0_weightByIds_1 : decode cX0_weightByIds 1 = .ok (.istore_n 2, 1) := by decide +kernel
theorem dX0_weightByIds_2 : decode cX0_weightByIds 2 = .ok (.iconst 0, 1) := by decide +kernel
theorem dX0_weightByIds_3 : decode cX0_weightByIds 3 = .ok (.istore_n 3, 1) := by decide +kernel
theorem dX0_weightByIds_4 : decode cX0_weightByIds 4 = .ok (.iload_n 3, 1) := by decide +kernel
theorem dX0_weightByIds_5 : decode cX0_weightByIds 5 = .ok (.aload_n 0, 1) := by decide +kernel
theorem dX0_weightByIds_6 : decode cX0_weightByIds 6 = .ok (.getfield 30, 3) := by decide +kernel
theorem dX0_weightByIds_9 : decode cX0_weightByIds 9 = .ok (.if_icmp .ge 26, 3) := by decide +kernel
theorem dX0_weightByIds_12 : decode cX0_weightByIds 12 = .ok (.aload_n 0, 1) := by decide +kernel
theorem dX0_weightByIds_13 : decode cX0_weightByIds 13 = .ok (.iload_n 3, 1) := by decide +kernel
theorem dX0_weightByIds_14 : decode cX0_weightByIds 14 = .ok (.iload_n 1, 1) := by decide +kernel
theorem dX0_weightByIds_15 : decode cX0_weightByIds 15 = .ok (.invokevirtual 79, 3) := by decide +kernel
theorem dX0_weightByIds_18 : decode cX0_weightByIds 18 = .ok (.ifCond .eq 11, 3) := by decide +kernel
theorem dX0_weightByIds_21 : decode cX0_weightByIds 21 = .ok (.iload_n 2, 1) := by decide +kernel
theorem dX0_weightByIds_22 : decode cX0_weightByIds 22 = .ok (.aload_n 0, 1) := by decide +kernel
theorem dX0_weightByIds_23 : decode cX0_weightByIds 23 = .ok (.iload_n 3, 1) := by decide +kernel
theorem dX0_weightByIds_24 : decode cX0_weightByIds 24 = .ok (.invokevirtual 63, 3) := by decide +kernel
theorem dX0_weightByIds_27 : decode cX0_weightByIds 27 = .ok (.iadd, 1) := by decide +kernel
theorem dX0_weightByIds_28 : decode cX0_weightByIds 28 = .ok (.istore_n 2, 1) := by decide +kernel
theorem dX0_weightByIds_29 : decode cX0_weightByIds 29 = .ok (.iinc 3 1, 3) := by decide +kernel
theorem dX0_weightByIds_32 : decode cX0_weightByIds 32 = .ok (.goto (-28), 3) := by decide +kernel
theorem dX0_weightByIds_35 : decode cX0_weightByIds 35 = .ok (.iload_n 2, 1) := by decide +kernel
theorem dX0_weightByIds_36 : decode cX0_weightByIds 36 = .ok (.ireturn, 1) := by decide +kernel
set_option maxRecDepth 100000 in
set_option maxHeartbeats 4000000 in
theorem C_X0_weightByIds (l : Launch) (E : gE) (x : gX) {o : Nat} (ho : gOk o) {v1 : Int32} {M : gM} {r : Int32} (hf : f_X0_weightByIds o v1 M = some r) : gM0 l E yX0_weightByIds (.code yX0_weightByIds cX0_weightByIds 4 (some .int)) (gR 2 43) M x [.ref (E.2.1 (o + 1)), .int v1] (some (.int r)) M := by
  refine gMet (by decide +kernel) (Nat.le_of_ble_eq_true rfl) ?_
  intro p e s m args below meth c H locs ls Q hC hl hI kr kv
  replace hC : gC p s m args c cX0_weightByIds 4 RX0 E := hC
  replace hl : lv_has ls 4 [(0, .ref (E.2.1 (o + 1))), (1, .int v1)] := hl
  have hx := hC.1
  have hb := hC.2.1
  have L4 : ∀ (v1 : Int32) (n : Nat) (v3 : Int32) (v2 : Int32), f_X0_weightByIds_L4 o M v1 n v3 v2 = some r → ∀ (H : Heap) (locs : List Loc) (ls : Array Slot), gI E s M x H locs → lv_has ls 4 [(3, .int v3), (2, .int v2), (0, .ref (E.2.1 (o + 1))), (1, .int v1)] → W p l e (gR 2 43) s m args below meth c H locs 0 0 Q (F0 m 4 ls []) := by
    intro v1 n
    induction n with
    | zero => intro v3 v2 hf; rw [f_X0_weightByIds_L4] at hf; cases hf
    | succ n ih =>
      intro v3 v2 hf H locs ls hI hl
      rw [f_X0_weightByIds_L4] at hf
      refine lv_iload_n hx hb dX0_weightByIds_4 rfl (lv_at hl 0 rfl) ?_
      refine lv_aload_n hx hb dX0_weightByIds_5 rfl (lv_at hl 2 rfl) ?_
      refine gt_X0_X0_count hC hI ho dX0_weightByIds_6 ?_
      refine lv_icmp_ge (tgt := 35) hx hb dX0_weightByIds_9 rfl (fun h1 => ?_) (fun h1 => ?_)
      · replace hf := gif h1 hf
        refine lv_iload_n hx hb dX0_weightByIds_35 rfl (lv_at hl 1 rfl) ?_
        exact kr _ _ _ _ _ _ (gri hf) hI ⟨.int, rfl, rfl⟩ dX0_weightByIds_36
      · replace hf := gifn h1 hf
        refine lv_aload_n hx hb dX0_weightByIds_12 rfl (lv_at hl 2 rfl) ?_
        refine lv_iload_n hx hb dX0_weightByIds_13 rfl (lv_at hl 0 rfl) ?_
        refine lv_iload_n hx hb dX0_weightByIds_14 rfl (lv_at hl 3 rfl) ?_
        obtain ⟨r2, hr3, hf⟩ := gbind hf
        have hr3 := C_X0_isAt l E x ho hr3
        refine g_callVi (rest := []) hC hI hr3 Y_X0_isAt V_X0_isAt w662 (rcv_X0 hC hI ho) ⟨rfl, rfl⟩ ⟨Nat.le_of_ble_eq_true rfl, Nat.le_of_ble_eq_true rfl⟩ rfl hl.1 rfl (Nat.le_of_ble_eq_true rfl) dX0_weightByIds_15 ⟨Nat.le_of_ble_eq_true rfl, Nat.le_of_ble_eq_true rfl⟩ (fun H locs hI => ?_)
        refine lv_if_eq (tgt := 29) hx hb dX0_weightByIds_18 rfl (fun h4 => ?_) (fun h4 => ?_)
        · replace hf := gif h4 hf
          refine lv_iinc (k := 0) (v := v3 + 1) (lv' := [(3, .int (v3 + 1)), (2, .int v2), (0, .ref (E.2.1 (o + 1))), (1, .int v1)]) hx hb dX0_weightByIds_29 hl rfl rfl (by decide) rfl (fun ls hl => ?_)
          refine lv_goto (tgt := 4) hx hb dX0_weightByIds_32 rfl ?_
          exact ih (v3 + 1) v2 hf _ _ _ hI (lv_sub hl [0, 1, 2, 3] rfl)
        · replace hf := gifn h4 hf
          refine lv_iload_n hx hb dX0_weightByIds_21 rfl (lv_at hl 1 rfl) ?_
          refine lv_aload_n hx hb dX0_weightByIds_22 rfl (lv_at hl 2 rfl) ?_
          refine lv_iload_n hx hb dX0_weightByIds_23 rfl (lv_at hl 0 rfl) ?_
          obtain ⟨r5, hr6, hf⟩ := gbind hf
          have hr6 := C_X0_weight l E x ho hr6
          refine g_callVi (rest := [.int v2]) hC hI hr6 Y_X0_weight V_X0_weight w438 (rcv_X0 hC hI ho) ⟨rfl, rfl⟩ ⟨Nat.le_of_ble_eq_true rfl, Nat.le_of_ble_eq_true rfl⟩ rfl hl.1 rfl (Nat.le_of_ble_eq_true rfl) dX0_weightByIds_24 ⟨Nat.le_of_ble_eq_true rfl, Nat.le_of_ble_eq_true rfl⟩ (fun H locs hI => ?_)
          refine lv_iadd hx hb dX0_weightByIds_27 ?_
          obtain ⟨z7, ez7, hf⟩ := glet hf
          refine g_top ez7 ?_
          refine lv_istore_n (lv' := [(2, .int z7), (3, .int v3), (0, .ref (E.2.1 (o + 1))), (1, .int v1)]) hx hb dX0_weightByIds_28 rfl hl (by decide) rfl (fun ls hl => ?_)
          refine lv_iinc (k := 1) (v := v3 + 1) (lv' := [(3, .int (v3 + 1)), (2, .int z7), (0, .ref (E.2.1 (o + 1))), (1, .int v1)]) hx hb dX0_weightByIds_29 hl rfl rfl (by decide) rfl (fun ls hl => ?_)
          refine lv_goto (tgt := 4) hx hb dX0_weightByIds_32 rfl ?_
          exact ih (v3 + 1) z7 hf _ _ _ hI (lv_sub hl [0, 1, 2, 3] rfl)
  unfold f_X0_weightByIds at hf
  refine lv_iconst (v := 0) hx hb dX0_weightByIds_0 (by decide) ?_
  refine lv_istore_n (lv' := [(2, .int 0), (0, .ref (E.2.1 (o + 1))), (1, .int v1)]) hx hb dX0_weightByIds_1 rfl hl (by decide) rfl (fun ls hl => ?_)
  refine lv_iconst (v := 0) hx hb dX0_weightByIds_2 (by decide) ?_
  refine lv_istore_n (lv' := [(3, .int 0), (2, .int 0), (0, .ref (E.2.1 (o + 1))), (1, .int v1)]) hx hb dX0_weightByIds_3 rfl hl (by decide) rfl (fun ls hl => ?_)
  exact L4 v1 gF 0 0 hf _ _ _ hI (lv_sub hl [0, 1, 2, 3] rfl)
theorem dX6_weightOnByContainers_0 : decode cX6_weightOnByContainers 0 = .ok (.aload_n 0, 1) := by decide +kernel
theorem dX6_weightOnByContainers_1 : decode cX6_weightOnByContainers 1 = .ok (.iload_n 1, 1) := by decide +kernel
theorem dX6_weightOnByContainers_2 : decode cX6_weightOnByContainers 2 = .ok (.invokevirtual 142, 3) := by decide +kernel
theorem dX6_weightOnByContainers_5 : decode cX6_weightOnByContainers 5 = .ok (.aload_n 0, 1) := by decide +kernel
theorem dX6_weightOnByContainers_6 : decode cX6_weightOnByContainers 6 = .ok (.getfield 10, 3) := by decide +kernel
theorem dX6_weightOnByContainers_9 : decode cX6_weightOnByContainers 9 = .ok (.getfield 108, 3) := by decide +kernel
theorem dX6_weightOnByContainers_12 : decode cX6_weightOnByContainers 12 = .ok (.iload_n 1, 1) := by decide +kernel
theorem dX6_weightOnByContainers_13 : decode cX6_weightOnByContainers 13 = .ok (.invokevirtual 204, 3) := by decide +kernel
theorem dX6_weightOnByContainers_16 : decode cX6_weightOnByContainers 16 = .ok (.ireturn, 1) := by decide +kernel
set_option maxRecDepth 100000 in
set_option maxHeartbeats 4000000 in
theorem C_X6_weightOnByContainers (l : Launch) (hst : l.stackTraces = false) (E : gE) (x : gX) {v1 : Int32} {M : gM} {oc : String ⊕ Int32} {M' : gM} (hf : f_X6_weightOnByContainers v1 M = some (oc, M')) : gX0 l E yX6_weightOnByContainers (.code yX6_weightOnByContainers cX6_weightOnByContainers 2 (some .int)) (gRX 9 151 2 12) M x [.ref (E.2.1 132), .int v1] (gO oc) M' 2 12 := by
  refine gMetX hst (by decide +kernel) (Nat.le_of_ble_eq_true rfl) ?_
  intro p e s m args below meth c H locs ls Q hC hl hI kr kv kx kt kd kf
  replace hC : gC p s m args c cX6_weightOnByContainers 2 RX6 E := hC
  replace hl : lv_has ls 2 [(0, .ref (E.2.1 132)), (1, .int v1)] := hl
  have hx := hC.1
  have hb := hC.2.1
  unfold f_X6_weightOnByContainers at hf
  refine lv_aload_n hx hb dX6_weightOnByContainers_0 rfl (lv_at hl 0 rfl) ?_
  refine lv_iload_n hx hb dX6_weightOnByContainers_1 rfl (lv_at hl 1 rfl) ?_
  rcases gseq hf with ⟨er, Mr, hr2, hf⟩ | ⟨_, M3, hr2, hf⟩
  · replace hr2 := C_X6_requireShip l hst E x  hr2
    exact g_xVx (rest := []) hC hI hr2 Y_X6_requireShip V_X6_requireShip w575 (rcv_X6 hC hI) ⟨rfl, rfl⟩ ⟨Nat.le_of_ble_eq_true rfl, Nat.le_of_ble_eq_true rfl⟩ rfl hl.1 rfl (Nat.le_of_ble_eq_true rfl) dX6_weightOnByContainers_2 ⟨Nat.le_of_ble_eq_true rfl, Nat.le_of_ble_eq_true rfl⟩ (fun ce q H locs hI h1 h2 h3 => kx _ _ _ _ _ _ _ _ _ _ _ (gtx hf) hI h1 h2 h3 ⟨Nat.le_of_ble_eq_true rfl, Nat.le_of_ble_eq_true rfl⟩)
  replace hr2 := C_X6_requireShip l hst E x  hr2
  refine g_xVv (rest := []) hC hI hr2 Y_X6_requireShip V_X6_requireShip w575 (rcv_X6 hC hI) ⟨rfl, rfl⟩ ⟨Nat.le_of_ble_eq_true rfl, Nat.le_of_ble_eq_true rfl⟩ rfl hl.1 rfl (Nat.le_of_ble_eq_true rfl) dX6_weightOnByContainers_2 ⟨Nat.le_of_ble_eq_true rfl, Nat.le_of_ble_eq_true rfl⟩ (fun H locs hI => ?_)
  refine lv_aload_n hx hb dX6_weightOnByContainers_5 rfl (lv_at hl 0 rfl) ?_
  refine gt_X6_X6_now hC hI dX6_weightOnByContainers_6 ?_
  refine gt_X6_X5_cargo hC hI gOk_0 dX6_weightOnByContainers_9 ?_
  refine lv_iload_n hx hb dX6_weightOnByContainers_12 rfl (lv_at hl 1 rfl) ?_
  obtain ⟨r4, hr5, hf⟩ := gbind hf
  have hr5 := C_X0_weightByIds l E x gOk_0 hr5
  refine g_callVi (rest := []) hC hI hr5 Y_X0_weightByIds V_X0_weightByIds w658 (rcv_X0 hC hI gOk_0) ⟨rfl, rfl⟩ ⟨Nat.le_of_ble_eq_true rfl, Nat.le_of_ble_eq_true rfl⟩ rfl hl.1 rfl (Nat.le_of_ble_eq_true rfl) dX6_weightOnByContainers_13 ⟨Nat.le_of_ble_eq_true rfl, Nat.le_of_ble_eq_true rfl⟩ (fun H locs hI => ?_)
  exact kr _ _ _ _ _ _ _ _ (gre hf) hI ⟨.int, rfl, rfl⟩ ⟨Nat.le_of_ble_eq_true rfl, Nat.le_of_ble_eq_true rfl⟩ dX6_weightOnByContainers_16
theorem dX6_isInYard_0 : decode cX6_isInYard 0 = .ok (.aload_n 0, 1) := by decide +kernel
theorem dX6_isInYard_1 : decode cX6_isInYard 1 = .ok (.getfield 10, 3) := by decide +kernel
theorem dX6_isInYard_4 : decode cX6_isInYard 4 = .ok (.getfield 108, 3) := by decide +kernel
theorem dX6_isInYard_7 : decode cX6_isInYard 7 = .ok (.iload_n 1, 1) := by decide +kernel
theorem dX6_isInYard_8 : decode cX6_isInYard 8 = .ok (.invokevirtual 210, 3) := by decide +kernel
theorem dX6_isInYard_11 : decode cX6_isInYard 11 = .ok (.iconst (-1), 1) := by decide +kernel
theorem dX6_isInYard_12 : decode cX6_isInYard 12 = .ok (.if_icmp .eq 7, 3) := by decide +kernel
theorem dX6_isInYard_15 : decode cX6_isInYard 15 = .ok (.iconst 1, 1) := by decide +kernel
theorem dX6_isInYard_16 : decode cX6_isInYard 16 = .ok (.goto 4, 3) := by decide +kernel
theorem dX6_isInYard_19 : decode cX6_isInYard 19 = .ok (.iconst 0, 1) := by decide +kernel
theorem dX6_isInYard_20 : decode cX6_isInYard 20 = .ok (.ireturn, 1) := by decide +kernel
set_option maxRecDepth 100000 in
set_option maxHeartbeats 4000000 in
theorem C_X6_isInYard (l : Launch) (E : gE) (x : gX) {v1 : Int32} {M : gM} {r : Bool} (hf : f_X6_isInYard v1 M = some r) : gM0 l E yX6_isInYard (.code yX6_isInYard cX6_isInYard 2 (some .boolean)) (gR 3 64) M x [.ref (E.2.1 132), .int v1] (some (.int (gb r))) M := by
  refine gMet (by decide +kernel) (Nat.le_of_ble_eq_true rfl) ?_
  intro p e s m args below meth c H locs ls Q hC hl hI kr kv
  replace hC : gC p s m args c cX6_isInYard 2 RX6 E := hC
  replace hl : lv_has ls 2 [(0, .ref (E.2.1 132)), (1, .int v1)] := hl
  have hx := hC.1
  have hb := hC.2.1
  unfold f_X6_isInYard at hf
  refine lv_aload_n hx hb dX6_isInYard_0 rfl (lv_at hl 0 rfl) ?_
  refine gt_X6_X6_now hC hI dX6_isInYard_1 ?_
  refine gt_X6_X5_cargo hC hI gOk_0 dX6_isInYard_4 ?_
  refine lv_iload_n hx hb dX6_isInYard_7 rfl (lv_at hl 1 rfl) ?_
  obtain ⟨r1, hr2, hf⟩ := gbind hf
  have hr2 := C_X0_yardRowOf l E x gOk_0 hr2
  refine g_callVi (rest := []) hC hI hr2 Y_X0_yardRowOf V_X0_yardRowOf w670 (rcv_X0 hC hI gOk_0) ⟨rfl, rfl⟩ ⟨Nat.le_of_ble_eq_true rfl, Nat.le_of_ble_eq_true rfl⟩ rfl hl.1 rfl (Nat.le_of_ble_eq_true rfl) dX6_isInYard_8 ⟨Nat.le_of_ble_eq_true rfl, Nat.le_of_ble_eq_true rfl⟩ (fun H locs hI => ?_)
  refine lv_iconst (v := (-1)) hx hb dX6_isInYard_11 (by decide) ?_
  refine lv_icmp_eq (tgt := 19) hx hb dX6_isInYard_12 rfl (fun h3 => ?_) (fun h3 => ?_)
  · replace hf := gif h3 hf
    refine lv_iconst (v := 0) hx hb dX6_isInYard_19 (by decide) ?_
    exact kr _ _ _ _ _ _ (grb0 hf) hI ⟨.boolean, rfl, rfl⟩ dX6_isInYard_20
  · replace hf := gifn h3 hf
    refine lv_iconst (v := 1) hx hb dX6_isInYard_15 (by decide) ?_
    refine lv_goto (tgt := 20) hx hb dX6_isInYard_16 rfl ?_
    exact kr _ _ _ _ _ _ (grb1 hf) hI ⟨.boolean, rfl, rfl⟩ dX6_isInYard_20
theorem dX6_weightOf_0 : decode cX6_weightOf 0 = .ok (.aload_n 0, 1) := by decide +kernel
theorem dX6_weightOf_1 : decode cX6_weightOf 1 = .ok (.getfield 10, 3) := by decide +kernel
theorem dX6_weightOf_4 : decode cX6_weightOf 4 = .ok (.getfield 108, 3) := by decide +kernel
theorem dX6_weightOf_7 : decode cX6_weightOf 7 = .ok (.aload_n 0, 1) := by decide +kernel
theorem dX6_weightOf_8 : decode cX6_weightOf 8 = .ok (.getfield 10, 3) := by decide +kernel
theorem dX6_weightOf_11 : decode cX6_weightOf 11 = .ok (.getfield 108, 3) := by decide +kernel
theorem dX6_weightOf_14 : decode cX6_weightOf 14 = .ok (.iload_n 1, 1) := by decide +kernel
theorem dX6_weightOf_15 : decode cX6_weightOf 15 = .ok (.invokevirtual 213, 3) := by decide +kernel
theorem dX6_weightOf_18 : decode cX6_weightOf 18 = .ok (.invokestatic 189, 3) := by decide +kernel
theorem dX6_weightOf_21 : decode cX6_weightOf 21 = .ok (.invokevirtual 216, 3) := by decide +kernel
theorem dX6_weightOf_24 : decode cX6_weightOf 24 = .ok (.ireturn, 1) := by decide +kernel
set_option maxRecDepth 100000 in
set_option maxHeartbeats 4000000 in
theorem C_X6_weightOf (l : Launch) (hst : l.stackTraces = false) (E : gE) (x : gX) {v1 : Int32} {M : gM} {oc : String ⊕ Int32} {M' : gM} (hf : f_X6_weightOf v1 M = some (oc, M')) : gX0 l E yX6_weightOf (.code yX6_weightOf cX6_weightOf 2 (some .int)) (gRX 8 130 1 6) M x [.ref (E.2.1 132), .int v1] (gO oc) M' 1 6 := by
  refine gMetX hst (by decide +kernel) (Nat.le_of_ble_eq_true rfl) ?_
  intro p e s m args below meth c H locs ls Q hC hl hI kr kv kx kt kd kf
  replace hC : gC p s m args c cX6_weightOf 2 RX6 E := hC
  replace hl : lv_has ls 2 [(0, .ref (E.2.1 132)), (1, .int v1)] := hl
  have hx := hC.1
  have hb := hC.2.1
  unfold f_X6_weightOf at hf
  refine lv_aload_n hx hb dX6_weightOf_0 rfl (lv_at hl 0 rfl) ?_
  refine gt_X6_X6_now hC hI dX6_weightOf_1 ?_
  refine gt_X6_X5_cargo hC hI gOk_0 dX6_weightOf_4 ?_
  refine lv_aload_n hx hb dX6_weightOf_7 rfl (lv_at hl 0 rfl) ?_
  refine gt_X6_X6_now hC hI dX6_weightOf_8 ?_
  refine gt_X6_X5_cargo hC hI gOk_0 dX6_weightOf_11 ?_
  refine lv_iload_n hx hb dX6_weightOf_14 rfl (lv_at hl 1 rfl) ?_
  obtain ⟨r1, hr2, hf⟩ := gbind hf
  have hr2 := C_X0_rowOf l E x gOk_0 hr2
  refine g_callVi (rest := [.ref (E.2.1 (0 + 1))]) hC hI hr2 Y_X0_rowOf V_X0_rowOf w675 (rcv_X0 hC hI gOk_0) ⟨rfl, rfl⟩ ⟨Nat.le_of_ble_eq_true rfl, Nat.le_of_ble_eq_true rfl⟩ rfl hl.1 rfl (Nat.le_of_ble_eq_true rfl) dX6_weightOf_15 ⟨Nat.le_of_ble_eq_true rfl, Nat.le_of_ble_eq_true rfl⟩ (fun H locs hI => ?_)
  rcases gseq hf with ⟨er, Mr, hr4, hf⟩ | ⟨r3, M5, hr4, hf⟩
  · replace hr4 := C_X6_found l hst E x  hr4
    exact g_xSx (rest := [.ref (E.2.1 (0 + 1))]) hC hI hr4 Y_X6_found S_X6_found w637 ⟨rfl, rfl⟩ ⟨Nat.le_of_ble_eq_true rfl, Nat.le_of_ble_eq_true rfl⟩ rfl hl.1 rfl (Nat.le_of_ble_eq_true rfl) dX6_weightOf_18 ⟨Nat.le_of_ble_eq_true rfl, Nat.le_of_ble_eq_true rfl⟩ (fun ce q H locs hI h1 h2 h3 => kx _ _ _ _ _ _ _ _ _ _ _ (gtx hf) hI h1 h2 h3 ⟨Nat.le_of_ble_eq_true rfl, Nat.le_of_ble_eq_true rfl⟩)
  replace hr4 := C_X6_found l hst E x  hr4
  refine g_xSi (rest := [.ref (E.2.1 (0 + 1))]) hC hI hr4 Y_X6_found S_X6_found w637 ⟨rfl, rfl⟩ ⟨Nat.le_of_ble_eq_true rfl, Nat.le_of_ble_eq_true rfl⟩ rfl hl.1 rfl (Nat.le_of_ble_eq_true rfl) dX6_weightOf_18 ⟨Nat.le_of_ble_eq_true rfl, Nat.le_of_ble_eq_true rfl⟩ (fun H locs hI => ?_)
  obtain ⟨r6, hr7, hf⟩ := gbind hf
  have hr7 := C_X0_weight l E x gOk_0 hr7
  refine g_callVi (rest := []) hC hI hr7 Y_X0_weight V_X0_weight w1167 (rcv_X0 hC hI gOk_0) ⟨rfl, rfl⟩ ⟨Nat.le_of_ble_eq_true rfl, Nat.le_of_ble_eq_true rfl⟩ rfl hl.1 rfl (Nat.le_of_ble_eq_true rfl) dX6_weightOf_21 ⟨Nat.le_of_ble_eq_true rfl, Nat.le_of_ble_eq_true rfl⟩ (fun H locs hI => ?_)
  exact kr _ _ _ _ _ _ _ _ (gre hf) hI ⟨.int, rfl, rfl⟩ ⟨Nat.le_of_ble_eq_true rfl, Nat.le_of_ble_eq_true rfl⟩ dX6_weightOf_24
theorem dX6_keyOf_0 : decode cX6_keyOf 0 = .ok (.aload_n 0, 1) := by decide +kernel
theorem dX6_keyOf_1 : decode cX6_keyOf 1 = .ok (.getfield 10, 3) := by decide +kernel
theorem dX6_keyOf_4 : decode cX6_keyOf 4 = .ok (.getfield 108, 3) := by decide +kernel
theorem dX6_keyOf_7 : decode cX6_keyOf 7 = .ok (.aload_n 0, 1) := by decide +kernel
theorem dX6_keyOf_8 : decode cX6_keyOf 8 = .ok (.getfield 10, 3) := by decide +kernel
theorem dX6_keyOf_11 : decode cX6_keyOf 11 = .ok (.getfield 108, 3) := by decide +kernel
theorem dX6_keyOf_14 : decode cX6_keyOf 14 = .ok (.iload_n 1, 1) := by decide +kernel
theorem dX6_keyOf_15 : decode cX6_keyOf 15 = .ok (.invokevirtual 213, 3) := by decide +kernel
theorem dX6_keyOf_18 : decode cX6_keyOf 18 = .ok (.invokestatic 189, 3) := by decide +kernel
theorem dX6_keyOf_21 : decode cX6_keyOf 21 = .ok (.invokevirtual 219, 3) := by decide +kernel
theorem dX6_keyOf_24 : decode cX6_keyOf 24 = .ok (.ireturn, 1) := by decide +kernel
set_option maxRecDepth 100000 in
set_option maxHeartbeats 4000000 in
theorem C_X6_keyOf (l : Launch) (hst : l.stackTraces = false) (E : gE) (x : gX) {v1 : Int32} {M : gM} {oc : String ⊕ Int32} {M' : gM} (hf : f_X6_keyOf v1 M = some (oc, M')) : gX0 l E yX6_keyOf (.code yX6_keyOf cX6_keyOf 2 (some .int)) (gRX 8 130 1 6) M x [.ref (E.2.1 132), .int v1] (gO oc) M' 1 6 := by
  refine gMetX hst (by decide +kernel) (Nat.le_of_ble_eq_true rfl) ?_
  intro p e s m args below meth c H locs ls Q hC hl hI kr kv kx kt kd kf
  replace hC : gC p s m args c cX6_keyOf 2 RX6 E := hC
  replace hl : lv_has ls 2 [(0, .ref (E.2.1 132)), (1, .int v1)] := hl
  have hx := hC.1
  have hb := hC.2.1
  unfold f_X6_keyOf at hf
  refine lv_aload_n hx hb dX6_keyOf_0 rfl (lv_at hl 0 rfl) ?_
  refine gt_X6_X6_now hC hI dX6_keyOf_1 ?_
  refine gt_X6_X5_cargo hC hI gOk_0 dX6_keyOf_4 ?_
  refine lv_aload_n hx hb dX6_keyOf_7 rfl (lv_at hl 0 rfl) ?_
  refine gt_X6_X6_now hC hI dX6_keyOf_8 ?_
  refine gt_X6_X5_cargo hC hI gOk_0 dX6_keyOf_11 ?_
  refine lv_iload_n hx hb dX6_keyOf_14 rfl (lv_at hl 1 rfl) ?_
  obtain ⟨r1, hr2, hf⟩ := gbind hf
  have hr2 := C_X0_rowOf l E x gOk_0 hr2
  refine g_callVi (rest := [.ref (E.2.1 (0 + 1))]) hC hI hr2 Y_X0_rowOf V_X0_rowOf w675 (rcv_X0 hC hI gOk_0) ⟨rfl, rfl⟩ ⟨Nat.le_of_ble_eq_true rfl, Nat.le_of_ble_eq_true rfl⟩ rfl hl.1 rfl (Nat.le_of_ble_eq_true rfl) dX6_keyOf_15 ⟨Nat.le_of_ble_eq_true rfl, Nat.le_of_ble_eq_true rfl⟩ (fun H locs hI => ?_)
  rcases gseq hf with ⟨er, Mr, hr4, hf⟩ | ⟨r3, M5, hr4, hf⟩
  · replace hr4 := C_X6_found l hst E x  hr4
    exact g_xSx (rest := [.ref (E.2.1 (0 + 1))]) hC hI hr4 Y_X6_found S_X6_found w637 ⟨rfl, rfl⟩ ⟨Nat.le_of_ble_eq_true rfl, Nat.le_of_ble_eq_true rfl⟩ rfl hl.1 rfl (Nat.le_of_ble_eq_true rfl) dX6_keyOf_18 ⟨Nat.le_of_ble_eq_true rfl, Nat.le_of_ble_eq_true rfl⟩ (fun ce q H locs hI h1 h2 h3 => kx _ _ _ _ _ _ _ _ _ _ _ (gtx hf) hI h1 h2 h3 ⟨Nat.le_of_ble_eq_true rfl, Nat.le_of_ble_eq_true rfl⟩)
  replace hr4 := C_X6_found l hst E x  hr4
  refine g_xSi (rest := [.ref (E.2.1 (0 + 1))]) hC hI hr4 Y_X6_found S_X6_found w637 ⟨rfl, rfl⟩ ⟨Nat.le_of_ble_eq_true rfl, Nat.le_of_ble_eq_true rfl⟩ rfl hl.1 rfl (Nat.le_of_ble_eq_true rfl) dX6_keyOf_18 ⟨Nat.le_of_ble_eq_true rfl, Nat.le_of_ble_eq_true rfl⟩ (fun H locs hI => ?_)
  obtain ⟨r6, hr7, hf⟩ := gbind hf
  have hr7 := C_X0_key l E x gOk_0 hr7
  refine g_callVi (rest := []) hC hI hr7 Y_X0_key V_X0_key w1172 (rcv_X0 hC hI gOk_0) ⟨rfl, rfl⟩ ⟨Nat.le_of_ble_eq_true rfl, Nat.le_of_ble_eq_true rfl⟩ rfl hl.1 rfl (Nat.le_of_ble_eq_true rfl) dX6_keyOf_21 ⟨Nat.le_of_ble_eq_true rfl, Nat.le_of_ble_eq_true rfl⟩ (fun H locs hI => ?_)
  exact kr _ _ _ _ _ _ _ _ (gre hf) hI ⟨.int, rfl, rfl⟩ ⟨Nat.le_of_ble_eq_true rfl, Nat.le_of_ble_eq_true rfl⟩ dX6_keyOf_24
theorem dX6_answerOf_0 : decode cX6_answerOf 0 = .ok (.aload_n 0, 1) := by decide +kernel
theorem dX6_answerOf_1 : decode cX6_answerOf 1 = .ok (.getfield 10, 3) := by decide +kernel
theorem dX6_answerOf_4 : decode cX6_answerOf 4 = .ok (.getfield 108, 3) := by decide +kernel
theorem dX6_answerOf_7 : decode cX6_answerOf 7 = .ok (.aload_n 0, 1) := by decide +kernel
theorem dX6_answerOf_8 : decode cX6_answerOf 8 = .ok (.getfield 10, 3) := by decide +kernel
theorem dX6_answerOf_11 : decode cX6_answerOf 11 = .ok (.getfield 108, 3) := by decide +kernel
theorem dX6_answerOf_14 : decode cX6_answerOf 14 = .ok (.iload_n 1, 1) := by decide +kernel
theorem dX6_answerOf_15 : decode cX6_answerOf 15 = .ok (.invokevirtual 213, 3) := by decide +kernel
theorem dX6_answerOf_18 : decode cX6_answerOf 18 = .ok (.invokestatic 189, 3) := by decide +kernel
theorem dX6_answerOf_21 : decode cX6_answerOf 21 = .ok (.invokevirtual 222, 3) := by decide +kernel
theorem dX6_answerOf_24 : decode cX6_answerOf 24 = .ok (.ireturn, 1) := by decide +kernel
set_option maxRecDepth 100000 in
set_option maxHeartbeats 4000000 in
theorem C_X6_answerOf (l : Launch) (hst : l.stackTraces = false) (E : gE) (x : gX) {v1 : Int32} {M : gM} {oc : String ⊕ Int32} {M' : gM} (hf : f_X6_answerOf v1 M = some (oc, M')) : gX0 l E yX6_answerOf (.code yX6_answerOf cX6_answerOf 2 (some .int)) (gRX 8 130 1 6) M x [.ref (E.2.1 132), .int v1] (gO oc) M' 1 6 := by
  refine gMetX hst (by decide +kernel) (Nat.le_of_ble_eq_true rfl) ?_
  intro p e s m args below meth c H locs ls Q hC hl hI kr kv kx kt kd kf
  replace hC : gC p s m args c cX6_answerOf 2 RX6 E := hC
  replace hl : lv_has ls 2 [(0, .ref (E.2.1 132)), (1, .int v1)] := hl
  have hx := hC.1
  have hb := hC.2.1
  unfold f_X6_answerOf at hf
  refine lv_aload_n hx hb dX6_answerOf_0 rfl (lv_at hl 0 rfl) ?_
  refine gt_X6_X6_now hC hI dX6_answerOf_1 ?_
  refine gt_X6_X5_cargo hC hI gOk_0 dX6_answerOf_4 ?_
  refine lv_aload_n hx hb dX6_answerOf_7 rfl (lv_at hl 0 rfl) ?_
  refine gt_X6_X6_now hC hI dX6_answerOf_8 ?_
  refine gt_X6_X5_cargo hC hI gOk_0 dX6_answerOf_11 ?_
  refine lv_iload_n hx hb dX6_answerOf_14 rfl (lv_at hl 1 rfl) ?_
  obtain ⟨r1, hr2, hf⟩ := gbind hf
  have hr2 := C_X0_rowOf l E x gOk_0 hr2
  refine g_callVi (rest := [.ref (E.2.1 (0 + 1))]) hC hI hr2 Y_X0_rowOf V_X0_rowOf w675 (rcv_X0 hC hI gOk_0) ⟨rfl, rfl⟩ ⟨Nat.le_of_ble_eq_true rfl, Nat.le_of_ble_eq_true rfl⟩ rfl hl.1 rfl (Nat.le_of_ble_eq_true rfl) dX6_answerOf_15 ⟨Nat.le_of_ble_eq_true rfl, Nat.le_of_ble_eq_true rfl⟩ (fun H locs hI => ?_)
  rcases gseq hf with ⟨er, Mr, hr4, hf⟩ | ⟨r3, M5, hr4, hf⟩
  · replace hr4 := C_X6_found l hst E x  hr4
    exact g_xSx (rest := [.ref (E.2.1 (0 + 1))]) hC hI hr4 Y_X6_found S_X6_found w637 ⟨rfl, rfl⟩ ⟨Nat.le_of_ble_eq_true rfl, Nat.le_of_ble_eq_true rfl⟩ rfl hl.1 rfl (Nat.le_of_ble_eq_true rfl) dX6_answerOf_18 ⟨Nat.le_of_ble_eq_true rfl, Nat.le_of_ble_eq_true rfl⟩ (fun ce q H locs hI h1 h2 h3 => kx _ _ _ _ _ _ _ _ _ _ _ (gtx hf) hI h1 h2 h3 ⟨Nat.le_of_ble_eq_true rfl, Nat.le_of_ble_eq_true rfl⟩)
  replace hr4 := C_X6_found l hst E x  hr4
  refine g_xSi (rest := [.ref (E.2.1 (0 + 1))]) hC hI hr4 Y_X6_found S_X6_found w637 ⟨rfl, rfl⟩ ⟨Nat.le_of_ble_eq_true rfl, Nat.le_of_ble_eq_true rfl⟩ rfl hl.1 rfl (Nat.le_of_ble_eq_true rfl) dX6_answerOf_18 ⟨Nat.le_of_ble_eq_true rfl, Nat.le_of_ble_eq_true rfl⟩ (fun H locs hI => ?_)
  obtain ⟨r6, hr7, hf⟩ := gbind hf
  have hr7 := C_X0_answer l E x gOk_0 hr7
  refine g_callVi (rest := []) hC hI hr7 Y_X0_answer V_X0_answer w676 (rcv_X0 hC hI gOk_0) ⟨rfl, rfl⟩ ⟨Nat.le_of_ble_eq_true rfl, Nat.le_of_ble_eq_true rfl⟩ rfl hl.1 rfl (Nat.le_of_ble_eq_true rfl) dX6_answerOf_21 ⟨Nat.le_of_ble_eq_true rfl, Nat.le_of_ble_eq_true rfl⟩ (fun H locs hI => ?_)
  exact kr _ _ _ _ _ _ _ _ (gre hf) hI ⟨.int, rfl, rfl⟩ ⟨Nat.le_of_ble_eq_true rfl, Nat.le_of_ble_eq_true rfl⟩ dX6_answerOf_24
theorem dX0_shipRowOf_0 : decode cX0_shipRowOf 0 = .ok (.aload_n 0, 1) := by decide +kernel
theorem dX0_shipRowOf_1 : decode cX0_shipRowOf 1 = .ok (.iload_n 1, 1) := by decide +kernel
theorem dX0_shipRowOf_2 : decode cX0_shipRowOf 2 = .ok (.invokevirtual 66, 3) := by decide +kernel
theorem dX0_shipRowOf_5 : decode cX0_shipRowOf 5 = .ok (.istore_n 2, 1) := by decide +kernel
theorem dX0_shipRowOf_6 : decode cX0_shipRowOf 6 = .ok (.aload_n 0, 1) := by decide +kernel
theorem dX0_shipRowOf_7 : decode cX0_shipRowOf 7 = .ok (.iload_n 2, 1) := by decide +kernel
theorem dX0_shipRowOf_8 : decode cX0_shipRowOf 8 = .ok (.invokevirtual 69, 3) := by decide +kernel
theorem dX0_shipRowOf_11 : decode cX0_shipRowOf 11 = .ok (.bipush 12, 2) := by decide +kernel
theorem dX0_shipRowOf_13 : decode cX0_shipRowOf 13 = .ok (.if_icmp .ne 7, 3) := by decide +kernel
theorem dX0_shipRowOf_16 : decode cX0_shipRowOf 16 = .ok (.iconst (-1), 1) := by decide +kernel
theorem dX0_shipRowOf_17 : decode cX0_shipRowOf 17 = .ok (.goto 4, 3) := by decide +kernel
theorem dX0_shipRowOf_20 : decode cX0_shipRowOf 20 = .ok (.iload_n 2, 1) := by decide +kernel
theorem dX0_shipRowOf_21 : decode cX0_shipRowOf 21 = .ok (.ireturn, 1) := by decide +kernel
set_option maxRecDepth 100000 in
set_option maxHeartbeats 4000000 in
theorem C_X0_shipRowOf (l : Launch) (E : gE) (x : gX) {o : Nat} (ho : gOk o) {v1 : Int32} {M : gM} {r : Int32} (hf : f_X0_shipRowOf o v1 M = some r) : gM0 l E yX0_shipRowOf (.code yX0_shipRowOf cX0_shipRowOf 3 (some .int)) (gR 2 42) M x [.ref (E.2.1 (o + 1)), .int v1] (some (.int r)) M := by
  refine gMet (by decide +kernel) (Nat.le_of_ble_eq_true rfl) ?_
  intro p e s m args below meth c H locs ls Q hC hl hI kr kv
  replace hC : gC p s m args c cX0_shipRowOf 3 RX0 E := hC
  replace hl : lv_has ls 3 [(0, .ref (E.2.1 (o + 1))), (1, .int v1)] := hl
  have hx := hC.1
  have hb := hC.2.1
  unfold f_X0_shipRowOf at hf
  refine lv_aload_n hx hb dX0_shipRowOf_0 rfl (lv_at hl 0 rfl) ?_
  refine lv_iload_n hx hb dX0_shipRowOf_1 rfl (lv_at hl 1 rfl) ?_
  obtain ⟨r1, hr2, hf⟩ := gbind hf
  have hr2 := C_X0_rowOf l E x ho hr2
  refine g_callVi (rest := []) hC hI hr2 Y_X0_rowOf V_X0_rowOf w478 (rcv_X0 hC hI ho) ⟨rfl, rfl⟩ ⟨Nat.le_of_ble_eq_true rfl, Nat.le_of_ble_eq_true rfl⟩ rfl hl.1 rfl (Nat.le_of_ble_eq_true rfl) dX0_shipRowOf_2 ⟨Nat.le_of_ble_eq_true rfl, Nat.le_of_ble_eq_true rfl⟩ (fun H locs hI => ?_)
  refine lv_istore_n (lv' := [(2, .int r1), (0, .ref (E.2.1 (o + 1))), (1, .int v1)]) hx hb dX0_shipRowOf_5 rfl hl (by decide) rfl (fun ls hl => ?_)
  refine lv_aload_n hx hb dX0_shipRowOf_6 rfl (lv_at hl 1 rfl) ?_
  refine lv_iload_n hx hb dX0_shipRowOf_7 rfl (lv_at hl 0 rfl) ?_
  obtain ⟨r3, hr4, hf⟩ := gbind hf
  have hr4 := C_X0_pile l E x ho hr4
  refine g_callVi (rest := []) hC hI hr4 Y_X0_pile V_X0_pile w482 (rcv_X0 hC hI ho) ⟨rfl, rfl⟩ ⟨Nat.le_of_ble_eq_true rfl, Nat.le_of_ble_eq_true rfl⟩ rfl hl.1 rfl (Nat.le_of_ble_eq_true rfl) dX0_shipRowOf_8 ⟨Nat.le_of_ble_eq_true rfl, Nat.le_of_ble_eq_true rfl⟩ (fun H locs hI => ?_)
  refine lv_bipush (v := 12) hx hb dX0_shipRowOf_11 (by decide) ?_
  refine lv_icmp_ne (tgt := 20) hx hb dX0_shipRowOf_13 rfl (fun h5 => ?_) (fun h5 => ?_)
  · replace hf := gifn h5 hf
    refine lv_iload_n hx hb dX0_shipRowOf_20 rfl (lv_at hl 0 rfl) ?_
    exact kr _ _ _ _ _ _ (gri hf) hI ⟨.int, rfl, rfl⟩ dX0_shipRowOf_21
  · replace hf := gif h5 hf
    refine lv_iconst (v := (-1)) hx hb dX0_shipRowOf_16 (by decide) ?_
    refine lv_goto (tgt := 21) hx hb dX0_shipRowOf_17 rfl ?_
    exact kr _ _ _ _ _ _ (gri hf) hI ⟨.int, rfl, rfl⟩ dX0_shipRowOf_21
theorem dX6_berthOf_0 : decode cX6_berthOf 0 = .ok (.aload_n 0, 1) := by decide +kernel
theorem dX6_berthOf_1 : decode cX6_berthOf 1 = .ok (.getfield 10, 3) := by decide +kernel
theorem dX6_berthOf_4 : decode cX6_berthOf 4 = .ok (.getfield 108, 3) := by decide +kernel
theorem dX6_berthOf_7 : decode cX6_berthOf 7 = .ok (.aload_n 0, 1) := by decide +kernel
theorem dX6_berthOf_8 : decode cX6_berthOf 8 = .ok (.getfield 10, 3) := by decide +kernel
theorem dX6_berthOf_11 : decode cX6_berthOf 11 = .ok (.getfield 108, 3) := by decide +kernel
theorem dX6_berthOf_14 : decode cX6_berthOf 14 = .ok (.iload_n 1, 1) := by decide +kernel
theorem dX6_berthOf_15 : decode cX6_berthOf 15 = .ok (.invokevirtual 207, 3) := by decide +kernel
theorem dX6_berthOf_18 : decode cX6_berthOf 18 = .ok (.invokestatic 189, 3) := by decide +kernel
theorem dX6_berthOf_21 : decode cX6_berthOf 21 = .ok (.invokevirtual 225, 3) := by decide +kernel
theorem dX6_berthOf_24 : decode cX6_berthOf 24 = .ok (.iconst 4, 1) := by decide +kernel
theorem dX6_berthOf_25 : decode cX6_berthOf 25 = .ok (.idiv, 1) := by decide +kernel
theorem dX6_berthOf_26 : decode cX6_berthOf 26 = .ok (.ireturn, 1) := by decide +kernel
set_option maxRecDepth 100000 in
set_option maxHeartbeats 4000000 in
theorem C_X6_berthOf (l : Launch) (hst : l.stackTraces = false) (E : gE) (x : gX) {v1 : Int32} {M : gM} {oc : String ⊕ Int32} {M' : gM} (hf : f_X6_berthOf v1 M = some (oc, M')) : gX0 l E yX6_berthOf (.code yX6_berthOf cX6_berthOf 2 (some .int)) (gRX 8 130 1 6) M x [.ref (E.2.1 132), .int v1] (gO oc) M' 1 6 := by
  refine gMetX hst (by decide +kernel) (Nat.le_of_ble_eq_true rfl) ?_
  intro p e s m args below meth c H locs ls Q hC hl hI kr kv kx kt kd kf
  replace hC : gC p s m args c cX6_berthOf 2 RX6 E := hC
  replace hl : lv_has ls 2 [(0, .ref (E.2.1 132)), (1, .int v1)] := hl
  have hx := hC.1
  have hb := hC.2.1
  unfold f_X6_berthOf at hf
  refine lv_aload_n hx hb dX6_berthOf_0 rfl (lv_at hl 0 rfl) ?_
  refine gt_X6_X6_now hC hI dX6_berthOf_1 ?_
  refine gt_X6_X5_cargo hC hI gOk_0 dX6_berthOf_4 ?_
  refine lv_aload_n hx hb dX6_berthOf_7 rfl (lv_at hl 0 rfl) ?_
  refine gt_X6_X6_now hC hI dX6_berthOf_8 ?_
  refine gt_X6_X5_cargo hC hI gOk_0 dX6_berthOf_11 ?_
  refine lv_iload_n hx hb dX6_berthOf_14 rfl (lv_at hl 1 rfl) ?_
  obtain ⟨r1, hr2, hf⟩ := gbind hf
  have hr2 := C_X0_shipRowOf l E x gOk_0 hr2
  refine g_callVi (rest := [.ref (E.2.1 (0 + 1))]) hC hI hr2 Y_X0_shipRowOf V_X0_shipRowOf w681 (rcv_X0 hC hI gOk_0) ⟨rfl, rfl⟩ ⟨Nat.le_of_ble_eq_true rfl, Nat.le_of_ble_eq_true rfl⟩ rfl hl.1 rfl (Nat.le_of_ble_eq_true rfl) dX6_berthOf_15 ⟨Nat.le_of_ble_eq_true rfl, Nat.le_of_ble_eq_true rfl⟩ (fun H locs hI => ?_)
  rcases gseq hf with ⟨er, Mr, hr4, hf⟩ | ⟨r3, M5, hr4, hf⟩
  · replace hr4 := C_X6_found l hst E x  hr4
    exact g_xSx (rest := [.ref (E.2.1 (0 + 1))]) hC hI hr4 Y_X6_found S_X6_found w637 ⟨rfl, rfl⟩ ⟨Nat.le_of_ble_eq_true rfl, Nat.le_of_ble_eq_true rfl⟩ rfl hl.1 rfl (Nat.le_of_ble_eq_true rfl) dX6_berthOf_18 ⟨Nat.le_of_ble_eq_true rfl, Nat.le_of_ble_eq_true rfl⟩ (fun ce q H locs hI h1 h2 h3 => kx _ _ _ _ _ _ _ _ _ _ _ (gtx hf) hI h1 h2 h3 ⟨Nat.le_of_ble_eq_true rfl, Nat.le_of_ble_eq_true rfl⟩)
  replace hr4 := C_X6_found l hst E x  hr4
  refine g_xSi (rest := [.ref (E.2.1 (0 + 1))]) hC hI hr4 Y_X6_found S_X6_found w637 ⟨rfl, rfl⟩ ⟨Nat.le_of_ble_eq_true rfl, Nat.le_of_ble_eq_true rfl⟩ rfl hl.1 rfl (Nat.le_of_ble_eq_true rfl) dX6_berthOf_18 ⟨Nat.le_of_ble_eq_true rfl, Nat.le_of_ble_eq_true rfl⟩ (fun H locs hI => ?_)
  obtain ⟨r6, hr7, hf⟩ := gbind hf
  have hr7 := C_X0_pile l E x gOk_0 hr7
  refine g_callVi (rest := []) hC hI hr7 Y_X0_pile V_X0_pile w1133 (rcv_X0 hC hI gOk_0) ⟨rfl, rfl⟩ ⟨Nat.le_of_ble_eq_true rfl, Nat.le_of_ble_eq_true rfl⟩ rfl hl.1 rfl (Nat.le_of_ble_eq_true rfl) dX6_berthOf_21 ⟨Nat.le_of_ble_eq_true rfl, Nat.le_of_ble_eq_true rfl⟩ (fun H locs hI => ?_)
  refine lv_iconst (v := 4) hx hb dX6_berthOf_24 (by decide) ?_
  refine lv_idiv hx hb dX6_berthOf_25 (by decide) ?_
  exact kr _ _ _ _ _ _ _ _ (gre hf) hI ⟨.int, rfl, rfl⟩ ⟨Nat.le_of_ble_eq_true rfl, Nat.le_of_ble_eq_true rfl⟩ dX6_berthOf_26
theorem dX0_countAbove_0 : decode cX0_countAbove 0 = .ok (.iconst 0, 1) := by decide +kernel
theorem dX0_countAbove_1 : decode cX0_countAbove 1 = .ok (.istore_n 2, 1) := by decide +kernel
theorem dX0_countAbove_2 : decode cX0_countAbove 2 = .ok (.iconst 0, 1) := by decide +kernel
theorem dX0_countAbove_3 : decode cX0_countAbove 3 = .ok (.istore_n 3, 1) := by decide +kernel
theorem dX0_countAbove_4 : decode cX0_countAbove 4 = .ok (.iload_n 3, 1) := by decide +kernel
theorem dX0_countAbove_5 : decode cX0_countAbove 5 = .ok (.aload_n 0, 1) := by decide +kernel
theorem dX0_countAbove_6 : decode cX0_countAbove 6 = .ok (.getfield 30, 3) := by decide +kernel
theorem dX0_countAbove_9 : decode cX0_countAbove 9 = .ok (.if_icmp .ge 21, 3) := by decide +kernel
theorem dX0_countAbove_12 : decode cX0_countAbove 12 = .ok (.aload_n 0, 1) := by decide +kernel
theorem dX0_countAbove_13 : decode cX0_countAbove 13 = .ok (.iload_n 3, 1) := by decide +kernel
theorem dX0_countAbove_14 : decode cX0_countAbove 14 = .ok (.iload_n 1, 1) := by decide +kernel
theorem dX0_countAbove_15 : decode cX0_countAbove 15 = .ok (.invokevirtual 48, 3) := by decide +kernel
theorem dX0_countAbove_18 : decode cX0_countAbove 18 = .ok (.ifCond .eq 6, 3) := by decide +kernel
theorem dX0_countAbove_21 : decode cX0_countAbove 21 = .ok (.iinc 2 1, 3) := by decide +kernel
theorem dX0_countAbove_24 : decode cX0_countAbove 24 = .ok (.iinc 3 1, 3) := by decide +kernel
theorem dX0_countAbove_27 : decode cX0_countAbove 27 = .ok (.goto (-23), 3) := by decide +kernel
theorem dX0_countAbove_30 : decode cX0_countAbove 30 = .ok (.iload_n 2, 1) := by decide +kernel
theorem dX0_countAbove_31 : decode cX0_countAbove 31 = .ok (.ireturn, 1) := by decide +kernel
set_option maxRecDepth 100000 in
set_option maxHeartbeats 4000000 in
theorem C_X0_countAbove (l : Launch) (E : gE) (x : gX) {o : Nat} (ho : gOk o) {v1 : Int32} {M : gM} {r : Int32} (hf : f_X0_countAbove o v1 M = some r) : gM0 l E yX0_countAbove (.code yX0_countAbove cX0_countAbove 4 (some .int)) (gR 2 43) M x [.ref (E.2.1 (o + 1)), .int v1] (some (.int r)) M := by
  refine gMet (by decide +kernel) (Nat.le_of_ble_eq_true rfl) ?_
  intro p e s m args below meth c H locs ls Q hC hl hI kr kv
  replace hC : gC p s m args c cX0_countAbove 4 RX0 E := hC
  replace hl : lv_has ls 4 [(0, .ref (E.2.1 (o + 1))), (1, .int v1)] := hl
  have hx := hC.1
  have hb := hC.2.1
  have L4 : ∀ (v1 : Int32) (n : Nat) (v3 : Int32) (v2 : Int32), f_X0_countAbove_L4 o M v1 n v3 v2 = some r → ∀ (H : Heap) (locs : List Loc) (ls : Array Slot), gI E s M x H locs → lv_has ls 4 [(3, .int v3), (2, .int v2), (0, .ref (E.2.1 (o + 1))), (1, .int v1)] → W p l e (gR 2 43) s m args below meth c H locs 0 0 Q (F0 m 4 ls []) := by
    intro v1 n
    induction n with
    | zero => intro v3 v2 hf; rw [f_X0_countAbove_L4] at hf; cases hf
    | succ n ih =>
      intro v3 v2 hf H locs ls hI hl
      rw [f_X0_countAbove_L4] at hf
      refine lv_iload_n hx hb dX0_countAbove_4 rfl (lv_at hl 0 rfl) ?_
      refine lv_aload_n hx hb dX0_countAbove_5 rfl (lv_at hl 2 rfl) ?_
      refine gt_X0_X0_count hC hI ho dX0_countAbove_6 ?_
      refine lv_icmp_ge (tgt := 30) hx hb dX0_countAbove_9 rfl (fun h1 => ?_) (fun h1 => ?_)
      · replace hf := gif h1 hf
        refine lv_iload_n hx hb dX0_countAbove_30 rfl (lv_at hl 1 rfl) ?_
        exact kr _ _ _ _ _ _ (gri hf) hI ⟨.int, rfl, rfl⟩ dX0_countAbove_31
      · replace hf := gifn h1 hf
        refine lv_aload_n hx hb dX0_countAbove_12 rfl (lv_at hl 2 rfl) ?_
        refine lv_iload_n hx hb dX0_countAbove_13 rfl (lv_at hl 0 rfl) ?_
        refine lv_iload_n hx hb dX0_countAbove_14 rfl (lv_at hl 3 rfl) ?_
        obtain ⟨r2, hr3, hf⟩ := gbind hf
        have hr3 := C_X0_isAbove l E x ho hr3
        refine g_callVi (rest := []) hC hI hr3 Y_X0_isAbove V_X0_isAbove w494 (rcv_X0 hC hI ho) ⟨rfl, rfl⟩ ⟨Nat.le_of_ble_eq_true rfl, Nat.le_of_ble_eq_true rfl⟩ rfl hl.1 rfl (Nat.le_of_ble_eq_true rfl) dX0_countAbove_15 ⟨Nat.le_of_ble_eq_true rfl, Nat.le_of_ble_eq_true rfl⟩ (fun H locs hI => ?_)
        refine lv_if_eq (tgt := 24) hx hb dX0_countAbove_18 rfl (fun h4 => ?_) (fun h4 => ?_)
        · replace hf := gif h4 hf
          refine lv_iinc (k := 0) (v := v3 + 1) (lv' := [(3, .int (v3 + 1)), (2, .int v2), (0, .ref (E.2.1 (o + 1))), (1, .int v1)]) hx hb dX0_countAbove_24 hl rfl rfl (by decide) rfl (fun ls hl => ?_)
          refine lv_goto (tgt := 4) hx hb dX0_countAbove_27 rfl ?_
          exact ih (v3 + 1) v2 hf _ _ _ hI (lv_sub hl [0, 1, 2, 3] rfl)
        · replace hf := gifn h4 hf
          refine lv_iinc (k := 1) (v := v2 + 1) (lv' := [(2, .int (v2 + 1)), (3, .int v3), (0, .ref (E.2.1 (o + 1))), (1, .int v1)]) hx hb dX0_countAbove_21 hl rfl rfl (by decide) rfl (fun ls hl => ?_)
          refine lv_iinc (k := 1) (v := v3 + 1) (lv' := [(3, .int (v3 + 1)), (2, .int (v2 + 1)), (0, .ref (E.2.1 (o + 1))), (1, .int v1)]) hx hb dX0_countAbove_24 hl rfl rfl (by decide) rfl (fun ls hl => ?_)
          refine lv_goto (tgt := 4) hx hb dX0_countAbove_27 rfl ?_
          exact ih (v3 + 1) (v2 + 1) hf _ _ _ hI (lv_sub hl [0, 1, 2, 3] rfl)
  unfold f_X0_countAbove at hf
  refine lv_iconst (v := 0) hx hb dX0_countAbove_0 (by decide) ?_
  refine lv_istore_n (lv' := [(2, .int 0), (0, .ref (E.2.1 (o + 1))), (1, .int v1)]) hx hb dX0_countAbove_1 rfl hl (by decide) rfl (fun ls hl => ?_)
  refine lv_iconst (v := 0) hx hb dX0_countAbove_2 (by decide) ?_
  refine lv_istore_n (lv' := [(3, .int 0), (2, .int 0), (0, .ref (E.2.1 (o + 1))), (1, .int v1)]) hx hb dX0_countAbove_3 rfl hl (by decide) rfl (fun ls hl => ?_)
  exact L4 v1 gF 0 0 hf _ _ _ hI (lv_sub hl [0, 1, 2, 3] rfl)
