theorem dX5_hasShip_0 : decode cX5_hasShip 0 = .ok (.iload_n 1, 1) := by decide +kernel
theorem dX5_hasShip_1 : decode cX5_hasShip 1 = .ok (.invokestatic 60, 3) := by decide +kernel
theorem dX5_hasShip_4 : decode cX5_hasShip 4 = .ok (.ifCond .eq 16, 3) := by decide +kernel
theorem dX5_hasShip_7 : decode cX5_hasShip 7 = .ok (.aload_n 0, 1) := by decide +kernel
theorem dX5_hasShip_8 : decode cX5_hasShip 8 = .ok (.getfield 18, 3) := by decide +kernel
theorem dX5_hasShip_11 : decode cX5_hasShip 11 = .ok (.iload_n 1, 1) := by decide +kernel
theorem dX5_hasShip_12 : decode cX5_hasShip 12 = .ok (.iaload, 1) := by decide +kernel
theorem dX5_hasShip_13 : decode cX5_hasShip 13 = .ok (.ifCond .eq 7, 3) := by decide +kernel
theorem dX5_hasShip_16 : decode cX5_hasShip 16 = .ok (.iconst 1, 1) := by decide +kernel
theorem dX5_hasShip_17 : decode cX5_hasShip 17 = .ok (.goto 4, 3) := by decide +kernel
theorem dX5_hasShip_20 : decode cX5_hasShip 20 = .ok (.iconst 0, 1) := by decide +kernel
theorem dX5_hasShip_21 : decode cX5_hasShip 21 = .ok (.ireturn, 1) := by decide +kernel
set_option maxRecDepth 100000 in
set_option maxHeartbeats 4000000 in
theorem C_X5_hasShip (l : Launch) (E : gE) (x : gX) {o : Nat} (ho : gOk o) {v1 : Int32} {M : gM} {r : Bool} (hf : f_X5_hasShip o v1 M = some r) : gM0 l E yX5_hasShip (.code yX5_hasShip cX5_hasShip 2 (some .boolean)) (gR 1 20) M x [.ref (E.2.1 o), .int v1] (some (.int (gb r))) M := by
  refine gMet (by decide +kernel) (Nat.le_of_ble_eq_true rfl) ?_
  intro p e s m args below meth c H locs ls Q hC hl hI kr kv
  replace hC : gC p s m args c cX5_hasShip 2 RX5 E := hC
  replace hl : lv_has ls 2 [(0, .ref (E.2.1 o)), (1, .int v1)] := hl
  have hx := hC.1
  have hb := hC.2.1
  unfold f_X5_hasShip at hf
  refine lv_iload_n hx hb dX5_hasShip_0 rfl (lv_at hl 1 rfl) ?_
  obtain ⟨r1, hr2, hf⟩ := gbind hf
  have hr2 := C_X6_isBerth l E x  hr2
  refine g_callSNi (rest := []) hC hI hr2 Y_X6_isBerth S_X6_isBerth (List.mem_of_getElem? (i := 6) rfl) ⟨rfl, rfl⟩ ⟨Nat.le_of_ble_eq_true rfl, Nat.le_of_ble_eq_true rfl⟩ rfl hl.1 rfl (Nat.le_of_ble_eq_true rfl) dX5_hasShip_1 ⟨Nat.zero_le _, Nat.zero_le _⟩ (fun H locs hI => ?_)
  refine lv_if_eq (tgt := 20) hx hb dX5_hasShip_4 rfl (fun h3 => ?_) (fun h3 => ?_)
  · replace hf := gif h3 hf
    refine lv_iconst (v := 0) hx hb dX5_hasShip_20 (by decide) ?_
    exact kr _ _ _ _ _ _ (grb0 hf) hI ⟨.boolean, rfl, rfl⟩ dX5_hasShip_21
  · replace hf := gifn h3 hf
    refine lv_aload_n hx hb dX5_hasShip_7 rfl (lv_at hl 0 rfl) ?_
    refine gt_X5_X5_draughts hC hI ho dX5_hasShip_8 ?_
    refine lv_iload_n hx hb dX5_hasShip_11 rfl (lv_at hl 1 rfl) ?_
    obtain ⟨h4, hf⟩ := gifN hf
    refine g_iald hC hI (k := v1.toNatClampNeg) (gIA_8 ho) h4 rfl dX5_hasShip_12 ?_
    refine lv_if_eq (tgt := 20) hx hb dX5_hasShip_13 rfl (fun h5 => ?_) (fun h5 => ?_)
    · replace hf := gif h5 hf
      refine lv_iconst (v := 0) hx hb dX5_hasShip_20 (by decide) ?_
      exact kr _ _ _ _ _ _ (grb0 hf) hI ⟨.boolean, rfl, rfl⟩ dX5_hasShip_21
    · replace hf := gifn h5 hf
      refine lv_iconst (v := 1) hx hb dX5_hasShip_16 (by decide) ?_
      refine lv_goto (tgt := 21) hx hb dX5_hasShip_17 rfl ?_
      exact kr _ _ _ _ _ _ (grb1 hf) hI ⟨.boolean, rfl, rfl⟩ dX5_hasShip_21
theorem dX5_mooringFault_0 : decode cX5_mooringFault 0 = .ok (.iload_n 1, 1) := by decide +kernel
theorem dX5_mooringFault_1 : decode cX5_mooringFault 1 = .ok (.invokestatic 60, 3) := by decide +kernel
theorem dX5_mooringFault_4 : decode cX5_mooringFault 4 = .ok (.ifCond .ne 5, 3) := by decide +kernel
theorem dX5_mooringFault_7 : decode cX5_mooringFault 7 = .ok (.iconst 1, 1) := by decide +kernel
theorem dX5_mooringFault_8 : decode cX5_mooringFault 8 = .ok (.ireturn, 1) := by decide +kernel
theorem dX5_mooringFault_9 : decode cX5_mooringFault 9 = .ok (.iload_n 2, 1) := by decide +kernel
theorem dX5_mooringFault_10 : decode cX5_mooringFault 10 = .ok (.iconst 1, 1) := by decide +kernel
theorem dX5_mooringFault_11 : decode cX5_mooringFault 11 = .ok (.if_icmp .lt 29, 3) := by decide +kernel
theorem dX5_mooringFault_14 : decode cX5_mooringFault 14 = .ok (.iload_n 2, 1) := by decide +kernel
theorem dX5_mooringFault_15 : decode cX5_mooringFault 15 = .ok (.bipush 9, 2) := by decide +kernel
theorem dX5_mooringFault_17 : decode cX5_mooringFault 17 = .ok (.if_icmp .gt 23, 3) := by decide +kernel
theorem dX5_mooringFault_20 : decode cX5_mooringFault 20 = .ok (.iload_n 3, 1) := by decide +kernel
theorem dX5_mooringFault_21 : decode cX5_mooringFault 21 = .ok (.aload_n 0, 1) := by decide +kernel
theorem dX5_mooringFault_22 : decode cX5_mooringFault 22 = .ok (.getfield 31, 3) := by decide +kernel
theorem dX5_mooringFault_25 : decode cX5_mooringFault 25 = .ok (.if_icmp .lt 15, 3) := by decide +kernel
theorem dX5_mooringFault_28 : decode cX5_mooringFault 28 = .ok (.iload_n 3, 1) := by decide +kernel
theorem dX5_mooringFault_29 : decode cX5_mooringFault 29 = .ok (.aload_n 0, 1) := by decide +kernel
theorem dX5_mooringFault_30 : decode cX5_mooringFault 30 = .ok (.getfield 31, 3) := by decide +kernel
theorem dX5_mooringFault_33 : decode cX5_mooringFault 33 = .ok (.isub, 1) := by decide +kernel
theorem dX5_mooringFault_34 : decode cX5_mooringFault 34 = .ok (.sipush 999, 3) := by decide +kernel
theorem dX5_mooringFault_37 : decode cX5_mooringFault 37 = .ok (.if_icmp .le 5, 3) := by decide +kernel
theorem dX5_mooringFault_40 : decode cX5_mooringFault 40 = .ok (.iconst 2, 1) := by decide +kernel
theorem dX5_mooringFault_41 : decode cX5_mooringFault 41 = .ok (.ireturn, 1) := by decide +kernel
theorem dX5_mooringFault_42 : decode cX5_mooringFault 42 = .ok (.aload_n 0, 1) := by decide +kernel
theorem dX5_mooringFault_43 : decode cX5_mooringFault 43 = .ok (.iload_n 1, 1) := by decide +kernel
theorem dX5_mooringFault_44 : decode cX5_mooringFault 44 = .ok (.invokevirtual 64, 3) := by decide +kernel
theorem dX5_mooringFault_47 : decode cX5_mooringFault 47 = .ok (.ifCond .eq 7, 3) := by decide +kernel
theorem dX5_mooringFault_50 : decode cX5_mooringFault 50 = .ok (.iconst 3, 1) := by decide +kernel
theorem dX5_mooringFault_51 : decode cX5_mooringFault 51 = .ok (.goto 4, 3) := by decide +kernel
theorem dX5_mooringFault_54 : decode cX5_mooringFault 54 = .ok (.iconst 0, 1) := by decide +kernel
theorem dX5_mooringFault_55 : decode cX5_mooringFault 55 = .ok (.ireturn, 1) := by decide +kernel
set_option maxRecDepth 100000 in
set_option maxHeartbeats 4000000 in
theorem C_X5_mooringFault (l : Launch) (E : gE) (x : gX) {o : Nat} (ho : gOk o) {v1 v2 v3 : Int32} {M : gM} {r : Int32} (hf : f_X5_mooringFault o v1 v2 v3 M = some r) : gM0 l E yX5_mooringFault (.code yX5_mooringFault cX5_mooringFault 4 (some .int)) (gR 2 41) M x [.ref (E.2.1 o), .int v1, .int v2, .int v3] (some (.int r)) M := by
  refine gMet (by decide +kernel) (Nat.le_of_ble_eq_true rfl) ?_
  intro p e s m args below meth c H locs ls Q hC hl hI kr kv
  replace hC : gC p s m args c cX5_mooringFault 4 RX5 E := hC
  replace hl : lv_has ls 4 [(0, .ref (E.2.1 o)), (1, .int v1), (2, .int v2), (3, .int v3)] := hl
  have hx := hC.1
  have hb := hC.2.1
  unfold f_X5_mooringFault at hf
  refine lv_iload_n hx hb dX5_mooringFault_0 rfl (lv_at hl 1 rfl) ?_
  obtain ⟨r1, hr2, hf⟩ := gbind hf
  have hr2 := C_X6_isBerth l E x  hr2
  refine g_callSNi (rest := []) hC hI hr2 Y_X6_isBerth S_X6_isBerth (List.mem_of_getElem? (i := 6) rfl) ⟨rfl, rfl⟩ ⟨Nat.le_of_ble_eq_true rfl, Nat.le_of_ble_eq_true rfl⟩ rfl hl.1 rfl (Nat.le_of_ble_eq_true rfl) dX5_mooringFault_1 ⟨Nat.zero_le _, Nat.zero_le _⟩ (fun H locs hI => ?_)
  refine lv_if_ne (tgt := 9) hx hb dX5_mooringFault_4 rfl (fun h3 => ?_) (fun h3 => ?_)
  · replace hf := gifn h3 hf
    refine lv_iload_n hx hb dX5_mooringFault_9 rfl (lv_at hl 2 rfl) ?_
    refine lv_iconst (v := 1) hx hb dX5_mooringFault_10 (by decide) ?_
    refine lv_icmp_lt (tgt := 40) hx hb dX5_mooringFault_11 rfl (fun h4 => ?_) (fun h4 => ?_)
    · replace hf := gif h4 hf
      refine lv_iconst (v := 2) hx hb dX5_mooringFault_40 (by decide) ?_
      exact kr _ _ _ _ _ _ (gri hf) hI ⟨.int, rfl, rfl⟩ dX5_mooringFault_41
    · replace hf := gifn h4 hf
      refine lv_iload_n hx hb dX5_mooringFault_14 rfl (lv_at hl 2 rfl) ?_
      refine lv_bipush (v := 9) hx hb dX5_mooringFault_15 (by decide) ?_
      refine lv_icmp_gt (tgt := 40) hx hb dX5_mooringFault_17 rfl (fun h5 => ?_) (fun h5 => ?_)
      · replace hf := gif h5 hf
        refine lv_iconst (v := 2) hx hb dX5_mooringFault_40 (by decide) ?_
        exact kr _ _ _ _ _ _ (gri hf) hI ⟨.int, rfl, rfl⟩ dX5_mooringFault_41
      · replace hf := gifn h5 hf
        refine lv_iload_n hx hb dX5_mooringFault_20 rfl (lv_at hl 3 rfl) ?_
        refine lv_aload_n hx hb dX5_mooringFault_21 rfl (lv_at hl 0 rfl) ?_
        refine gt_X5_X5_hour hC hI ho dX5_mooringFault_22 ?_
        refine lv_icmp_lt (tgt := 40) hx hb dX5_mooringFault_25 rfl (fun h6 => ?_) (fun h6 => ?_)
        · replace hf := gif h6 hf
          refine lv_iconst (v := 2) hx hb dX5_mooringFault_40 (by decide) ?_
          exact kr _ _ _ _ _ _ (gri hf) hI ⟨.int, rfl, rfl⟩ dX5_mooringFault_41
        · replace hf := gifn h6 hf
          refine lv_iload_n hx hb dX5_mooringFault_28 rfl (lv_at hl 3 rfl) ?_
          refine lv_aload_n hx hb dX5_mooringFault_29 rfl (lv_at hl 0 rfl) ?_
          refine gt_X5_X5_hour hC hI ho dX5_mooringFault_30 ?_
          refine lv_isub hx hb dX5_mooringFault_33 ?_
          refine lv_sipush (v := 999) hx hb dX5_mooringFault_34 (by decide) ?_
          refine lv_icmp_le (tgt := 42) hx hb dX5_mooringFault_37 rfl (fun h7 => ?_) (fun h7 => ?_)
          · replace hf := gif h7 hf
            refine lv_aload_n hx hb dX5_mooringFault_42 rfl (lv_at hl 0 rfl) ?_
            refine lv_iload_n hx hb dX5_mooringFault_43 rfl (lv_at hl 1 rfl) ?_
            obtain ⟨r8, hr9, hf⟩ := gbind hf
            have hr9 := C_X5_hasShip l E x ho hr9
            refine g_callVi (rest := []) hC hI hr9 Y_X5_hasShip V_X5_hasShip w244 (rcv_X5 hC hI ho) ⟨rfl, rfl⟩ ⟨Nat.le_of_ble_eq_true rfl, Nat.le_of_ble_eq_true rfl⟩ rfl hl.1 rfl (Nat.le_of_ble_eq_true rfl) dX5_mooringFault_44 ⟨Nat.zero_le _, Nat.zero_le _⟩ (fun H locs hI => ?_)
            refine lv_if_eq (tgt := 54) hx hb dX5_mooringFault_47 rfl (fun h10 => ?_) (fun h10 => ?_)
            · replace hf := gif h10 hf
              refine lv_iconst (v := 0) hx hb dX5_mooringFault_54 (by decide) ?_
              exact kr _ _ _ _ _ _ (gri hf) hI ⟨.int, rfl, rfl⟩ dX5_mooringFault_55
            · replace hf := gifn h10 hf
              refine lv_iconst (v := 3) hx hb dX5_mooringFault_50 (by decide) ?_
              refine lv_goto (tgt := 55) hx hb dX5_mooringFault_51 rfl ?_
              exact kr _ _ _ _ _ _ (gri hf) hI ⟨.int, rfl, rfl⟩ dX5_mooringFault_55
          · replace hf := gifn h7 hf
            refine lv_iconst (v := 2) hx hb dX5_mooringFault_40 (by decide) ?_
            exact kr _ _ _ _ _ _ (gri hf) hI ⟨.int, rfl, rfl⟩ dX5_mooringFault_41
  · replace hf := gif h3 hf
    refine lv_iconst (v := 1) hx hb dX5_mooringFault_7 (by decide) ?_
    exact kr _ _ _ _ _ _ (gri hf) hI ⟨.int, rfl, rfl⟩ dX5_mooringFault_8
theorem dX5_stowingFault_0 : decode cX5_stowingFault 0 = .ok (.iload_n 1, 1) := by decide +kernel
theorem dX5_stowingFault_1 : decode cX5_stowingFault 1 = .ok (.invokestatic 60, 3) := by decide +kernel
theorem dX5_stowingFault_4 : decode cX5_stowingFault 4 = .ok (.ifCond .eq 10, 3) := by decide +kernel
theorem dX5_stowingFault_7 : decode cX5_stowingFault 7 = .ok (.iload_n 2, 1) := by decide +kernel
theorem dX5_stowingFault_8 : decode cX5_stowingFault 8 = .ok (.invokestatic 67, 3) := by decide +kernel
theorem dX5_stowingFault_11 : decode cX5_stowingFault 11 = .ok (.ifCond .ne 5, 3) := by decide +kernel
theorem dX5_stowingFault_14 : decode cX5_stowingFault 14 = .ok (.iconst 1, 1) := by decide +kernel
theorem dX5_stowingFault_15 : decode cX5_stowingFault 15 = .ok (.ireturn, 1) := by decide +kernel
theorem dX5_stowingFault_16 : decode cX5_stowingFault 16 = .ok (.iload_n 3, 1) := by decide +kernel
theorem dX5_stowingFault_17 : decode cX5_stowingFault 17 = .ok (.iconst 1, 1) := by decide +kernel
theorem dX5_stowingFault_18 : decode cX5_stowingFault 18 = .ok (.if_icmp .lt 21, 3) := by decide +kernel
theorem dX5_stowingFault_21 : decode cX5_stowingFault 21 = .ok (.iload_n 3, 1) := by decide +kernel
theorem dX5_stowingFault_22 : decode cX5_stowingFault 22 = .ok (.bipush 30, 2) := by decide +kernel
theorem dX5_stowingFault_24 : decode cX5_stowingFault 24 = .ok (.if_icmp .gt 15, 3) := by decide +kernel
theorem dX5_stowingFault_27 : decode cX5_stowingFault 27 = .ok (.iload 4, 2) := by decide +kernel
theorem dX5_stowingFault_29 : decode cX5_stowingFault 29 = .ok (.ifCond .lt 10, 3) := by decide +kernel
theorem dX5_stowingFault_32 : decode cX5_stowingFault 32 = .ok (.iload 4, 2) := by decide +kernel
theorem dX5_stowingFault_34 : decode cX5_stowingFault 34 = .ok (.bipush 99, 2) := by decide +kernel
theorem dX5_stowingFault_36 : decode cX5_stowingFault 36 = .ok (.if_icmp .le 5, 3) := by decide +kernel
theorem dX5_stowingFault_39 : decode cX5_stowingFault 39 = .ok (.iconst 2, 1) := by decide +kernel
theorem dX5_stowingFault_40 : decode cX5_stowingFault 40 = .ok (.ireturn, 1) := by decide +kernel
theorem dX5_stowingFault_41 : decode cX5_stowingFault 41 = .ok (.aload_n 0, 1) := by decide +kernel
theorem dX5_stowingFault_42 : decode cX5_stowingFault 42 = .ok (.getfield 12, 3) := by decide +kernel
theorem dX5_stowingFault_45 : decode cX5_stowingFault 45 = .ok (.iload_n 1, 1) := by decide +kernel
theorem dX5_stowingFault_46 : decode cX5_stowingFault 46 = .ok (.iload_n 2, 1) := by decide +kernel
theorem dX5_stowingFault_47 : decode cX5_stowingFault 47 = .ok (.invokestatic 70, 3) := by decide +kernel
theorem dX5_stowingFault_50 : decode cX5_stowingFault 50 = .ok (.invokevirtual 74, 3) := by decide +kernel
theorem dX5_stowingFault_53 : decode cX5_stowingFault 53 = .ok (.iconst 5, 1) := by decide +kernel
theorem dX5_stowingFault_54 : decode cX5_stowingFault 54 = .ok (.if_icmp .lt 7, 3) := by decide +kernel
theorem dX5_stowingFault_57 : decode cX5_stowingFault 57 = .ok (.iconst 1, 1) := by decide +kernel
theorem dX5_stowingFault_58 : decode cX5_stowingFault 58 = .ok (.goto 4, 3) := by decide +kernel
theorem dX5_stowingFault_61 : decode cX5_stowingFault 61 = .ok (.iconst 0, 1) := by decide +kernel
theorem dX5_stowingFault_62 : decode cX5_stowingFault 62 = .ok (.istore 5, 2) := by decide +kernel
theorem dX5_stowingFault_64 : decode cX5_stowingFault 64 = .ok (.aload_n 0, 1) := by decide +kernel
theorem dX5_stowingFault_65 : decode cX5_stowingFault 65 = .ok (.iload_n 1, 1) := by decide +kernel
theorem dX5_stowingFault_66 : decode cX5_stowingFault 66 = .ok (.invokevirtual 64, 3) := by decide +kernel
theorem dX5_stowingFault_69 : decode cX5_stowingFault 69 = .ok (.ifCond .eq 8, 3) := by decide +kernel
theorem dX5_stowingFault_72 : decode cX5_stowingFault 72 = .ok (.iload 5, 2) := by decide +kernel
theorem dX5_stowingFault_74 : decode cX5_stowingFault 74 = .ok (.ifCond .eq 7, 3) := by decide +kernel
theorem dX5_stowingFault_77 : decode cX5_stowingFault 77 = .ok (.iconst 3, 1) := by decide +kernel
theorem dX5_stowingFault_78 : decode cX5_stowingFault 78 = .ok (.goto 4, 3) := by decide +kernel
theorem dX5_stowingFault_81 : decode cX5_stowingFault 81 = .ok (.iconst 0, 1) := by decide +kernel
theorem dX5_stowingFault_82 : decode cX5_stowingFault 82 = .ok (.ireturn, 1) := by decide +kernel
set_option maxRecDepth 100000 in
set_option maxHeartbeats 4000000 in
theorem C_X5_stowingFault (l : Launch) (E : gE) (x : gX) {o : Nat} (ho : gOk o) {v1 v2 v3 v4 : Int32} {M : gM} {r : Int32} (hf : f_X5_stowingFault o v1 v2 v3 v4 M = some r) : gM0 l E yX5_stowingFault (.code yX5_stowingFault cX5_stowingFault 6 (some .int)) (gR 2 41) M x [.ref (E.2.1 o), .int v1, .int v2, .int v3, .int v4] (some (.int r)) M := by
  refine gMet (by decide +kernel) (Nat.le_of_ble_eq_true rfl) ?_
  intro p e s m args below meth c H locs ls Q hC hl hI kr kv
  replace hC : gC p s m args c cX5_stowingFault 6 RX5 E := hC
  replace hl : lv_has ls 6 [(0, .ref (E.2.1 o)), (1, .int v1), (2, .int v2), (3, .int v3), (4, .int v4)] := hl
  have hx := hC.1
  have hb := hC.2.1
  unfold f_X5_stowingFault at hf
  refine lv_iload_n hx hb dX5_stowingFault_0 rfl (lv_at hl 1 rfl) ?_
  obtain ⟨r1, hr2, hf⟩ := gbind hf
  have hr2 := C_X6_isBerth l E x  hr2
  refine g_callSNi (rest := []) hC hI hr2 Y_X6_isBerth S_X6_isBerth (List.mem_of_getElem? (i := 6) rfl) ⟨rfl, rfl⟩ ⟨Nat.le_of_ble_eq_true rfl, Nat.le_of_ble_eq_true rfl⟩ rfl hl.1 rfl (Nat.le_of_ble_eq_true rfl) dX5_stowingFault_1 ⟨Nat.zero_le _, Nat.zero_le _⟩ (fun H locs hI => ?_)
  refine lv_if_eq (tgt := 14) hx hb dX5_stowingFault_4 rfl (fun h3 => ?_) (fun h3 => ?_)
  · replace hf := gif h3 hf
    refine lv_iconst (v := 1) hx hb dX5_stowingFault_14 (by decide) ?_
    exact kr _ _ _ _ _ _ (gri hf) hI ⟨.int, rfl, rfl⟩ dX5_stowingFault_15
  · replace hf := gifn h3 hf
    refine lv_iload_n hx hb dX5_stowingFault_7 rfl (lv_at hl 2 rfl) ?_
    obtain ⟨r4, hr5, hf⟩ := gbind hf
    have hr5 := C_X6_isStack l E x  hr5
    refine g_callSNi (rest := []) hC hI hr5 Y_X6_isStack S_X6_isStack (List.mem_of_getElem? (i := 9) rfl) ⟨rfl, rfl⟩ ⟨Nat.le_of_ble_eq_true rfl, Nat.le_of_ble_eq_true rfl⟩ rfl hl.1 rfl (Nat.le_of_ble_eq_true rfl) dX5_stowingFault_8 ⟨Nat.zero_le _, Nat.zero_le _⟩ (fun H locs hI => ?_)
    refine lv_if_ne (tgt := 16) hx hb dX5_stowingFault_11 rfl (fun h6 => ?_) (fun h6 => ?_)
    · replace hf := gifn h6 hf
      refine lv_iload_n hx hb dX5_stowingFault_16 rfl (lv_at hl 3 rfl) ?_
      refine lv_iconst (v := 1) hx hb dX5_stowingFault_17 (by decide) ?_
      refine lv_icmp_lt (tgt := 39) hx hb dX5_stowingFault_18 rfl (fun h7 => ?_) (fun h7 => ?_)
      · replace hf := gif h7 hf
        refine lv_iconst (v := 2) hx hb dX5_stowingFault_39 (by decide) ?_
        exact kr _ _ _ _ _ _ (gri hf) hI ⟨.int, rfl, rfl⟩ dX5_stowingFault_40
      · replace hf := gifn h7 hf
        refine lv_iload_n hx hb dX5_stowingFault_21 rfl (lv_at hl 3 rfl) ?_
        refine lv_bipush (v := 30) hx hb dX5_stowingFault_22 (by decide) ?_
        refine lv_icmp_gt (tgt := 39) hx hb dX5_stowingFault_24 rfl (fun h8 => ?_) (fun h8 => ?_)
        · replace hf := gif h8 hf
          refine lv_iconst (v := 2) hx hb dX5_stowingFault_39 (by decide) ?_
          exact kr _ _ _ _ _ _ (gri hf) hI ⟨.int, rfl, rfl⟩ dX5_stowingFault_40
        · replace hf := gifn h8 hf
          refine lv_iload hx hb dX5_stowingFault_27 (lv_at hl 4 rfl) ?_
          refine lv_if_lt (tgt := 39) hx hb dX5_stowingFault_29 rfl (fun h9 => ?_) (fun h9 => ?_)
          · replace hf := gif h9 hf
            refine lv_iconst (v := 2) hx hb dX5_stowingFault_39 (by decide) ?_
            exact kr _ _ _ _ _ _ (gri hf) hI ⟨.int, rfl, rfl⟩ dX5_stowingFault_40
          · replace hf := gifn h9 hf
            refine lv_iload hx hb dX5_stowingFault_32 (lv_at hl 4 rfl) ?_
            refine lv_bipush (v := 99) hx hb dX5_stowingFault_34 (by decide) ?_
            refine lv_icmp_le (tgt := 41) hx hb dX5_stowingFault_36 rfl (fun h10 => ?_) (fun h10 => ?_)
            · replace hf := gif h10 hf
              refine lv_aload_n hx hb dX5_stowingFault_41 rfl (lv_at hl 0 rfl) ?_
              refine gt_X5_X5_cargo hC hI ho dX5_stowingFault_42 ?_
              refine lv_iload_n hx hb dX5_stowingFault_45 rfl (lv_at hl 1 rfl) ?_
              refine lv_iload_n hx hb dX5_stowingFault_46 rfl (lv_at hl 2 rfl) ?_
              obtain ⟨r11, hr12, hf⟩ := gbind hf
              have hr12 := C_X6_pileOf l E x  hr12
              refine g_callSNi (rest := [.ref (E.2.1 (o + 1))]) hC hI hr12 Y_X6_pileOf S_X6_pileOf (List.mem_of_getElem? (i := 10) rfl) ⟨rfl, rfl⟩ ⟨Nat.le_of_ble_eq_true rfl, Nat.le_of_ble_eq_true rfl⟩ rfl hl.1 rfl (Nat.le_of_ble_eq_true rfl) dX5_stowingFault_47 ⟨Nat.zero_le _, Nat.zero_le _⟩ (fun H locs hI => ?_)
              obtain ⟨r13, hr14, hf⟩ := gbind hf
              have hr14 := C_X0_height l E x ho hr14
              refine g_callVi (rest := []) hC hI hr14 Y_X0_height V_X0_height w621 (rcv_X0 hC hI ho) ⟨rfl, rfl⟩ ⟨Nat.le_of_ble_eq_true rfl, Nat.le_of_ble_eq_true rfl⟩ rfl hl.1 rfl (Nat.le_of_ble_eq_true rfl) dX5_stowingFault_50 ⟨Nat.zero_le _, Nat.zero_le _⟩ (fun H locs hI => ?_)
              refine lv_iconst (v := 5) hx hb dX5_stowingFault_53 (by decide) ?_
              refine lv_icmp_lt (tgt := 61) hx hb dX5_stowingFault_54 rfl (fun h15 => ?_) (fun h15 => ?_)
              · replace hf := gif h15 hf
                refine lv_iconst (v := 0) hx hb dX5_stowingFault_61 (by decide) ?_
                refine lv_istore (lv' := [(5, .int 0), (0, .ref (E.2.1 o)), (1, .int v1), (2, .int v2), (3, .int v3), (4, .int v4)]) hx hb dX5_stowingFault_62 hl (by decide) rfl (fun ls hl => ?_)
                refine lv_aload_n hx hb dX5_stowingFault_64 rfl (lv_at hl 1 rfl) ?_
                refine lv_iload_n hx hb dX5_stowingFault_65 rfl (lv_at hl 2 rfl) ?_
                obtain ⟨r16, hr17, hf⟩ := gbind hf
                have hr17 := C_X5_hasShip l E x ho hr17
                refine g_callVi (rest := []) hC hI hr17 Y_X5_hasShip V_X5_hasShip w244 (rcv_X5 hC hI ho) ⟨rfl, rfl⟩ ⟨Nat.le_of_ble_eq_true rfl, Nat.le_of_ble_eq_true rfl⟩ rfl hl.1 rfl (Nat.le_of_ble_eq_true rfl) dX5_stowingFault_66 ⟨Nat.zero_le _, Nat.zero_le _⟩ (fun H locs hI => ?_)
                refine lv_if_eq (tgt := 77) hx hb dX5_stowingFault_69 rfl (fun h18 => ?_) (fun h18 => ?_)
                · replace hf := gif h18 hf
                  refine lv_iconst (v := 3) hx hb dX5_stowingFault_77 (by decide) ?_
                  refine lv_goto (tgt := 82) hx hb dX5_stowingFault_78 rfl ?_
                  exact kr _ _ _ _ _ _ (gri hf) hI ⟨.int, rfl, rfl⟩ dX5_stowingFault_82
                · replace hf := gifn h18 hf
                  refine lv_iload hx hb dX5_stowingFault_72 (lv_at hl 0 rfl) ?_
                  refine lv_if_eq (tgt := 81) hx hb dX5_stowingFault_74 rfl (fun h19 => ?_) (fun h19 => absurd (by decide) h19)
                  refine lv_iconst (v := 0) hx hb dX5_stowingFault_81 (by decide) ?_
                  exact kr _ _ _ _ _ _ (gri hf) hI ⟨.int, rfl, rfl⟩ dX5_stowingFault_82
              · replace hf := gifn h15 hf
                refine lv_iconst (v := 1) hx hb dX5_stowingFault_57 (by decide) ?_
                refine lv_goto (tgt := 62) hx hb dX5_stowingFault_58 rfl ?_
                refine lv_istore (lv' := [(5, .int 1), (0, .ref (E.2.1 o)), (1, .int v1), (2, .int v2), (3, .int v3), (4, .int v4)]) hx hb dX5_stowingFault_62 hl (by decide) rfl (fun ls hl => ?_)
                refine lv_aload_n hx hb dX5_stowingFault_64 rfl (lv_at hl 1 rfl) ?_
                refine lv_iload_n hx hb dX5_stowingFault_65 rfl (lv_at hl 2 rfl) ?_
                obtain ⟨r20, hr21, hf⟩ := gbind hf
                have hr21 := C_X5_hasShip l E x ho hr21
                refine g_callVi (rest := []) hC hI hr21 Y_X5_hasShip V_X5_hasShip w244 (rcv_X5 hC hI ho) ⟨rfl, rfl⟩ ⟨Nat.le_of_ble_eq_true rfl, Nat.le_of_ble_eq_true rfl⟩ rfl hl.1 rfl (Nat.le_of_ble_eq_true rfl) dX5_stowingFault_66 ⟨Nat.zero_le _, Nat.zero_le _⟩ (fun H locs hI => ?_)
                refine lv_if_eq (tgt := 77) hx hb dX5_stowingFault_69 rfl (fun h22 => ?_) (fun h22 => ?_)
                · replace hf := gif h22 hf
                  refine lv_iconst (v := 3) hx hb dX5_stowingFault_77 (by decide) ?_
                  refine lv_goto (tgt := 82) hx hb dX5_stowingFault_78 rfl ?_
                  exact kr _ _ _ _ _ _ (gri hf) hI ⟨.int, rfl, rfl⟩ dX5_stowingFault_82
                · replace hf := gifn h22 hf
                  refine lv_iload hx hb dX5_stowingFault_72 (lv_at hl 0 rfl) ?_
                  refine lv_if_eq (tgt := 81) hx hb dX5_stowingFault_74 rfl (fun h23 => absurd h23 (by decide)) (fun h23 => ?_)
                  refine lv_iconst (v := 3) hx hb dX5_stowingFault_77 (by decide) ?_
                  refine lv_goto (tgt := 82) hx hb dX5_stowingFault_78 rfl ?_
                  exact kr _ _ _ _ _ _ (gri hf) hI ⟨.int, rfl, rfl⟩ dX5_stowingFault_82
            · replace hf := gifn h10 hf
              refine lv_iconst (v := 2) hx hb dX5_stowingFault_39 (by decide) ?_
              exact kr _ _ _ _ _ _ (gri hf) hI ⟨.int, rfl, rfl⟩ dX5_stowingFault_40
    · replace hf := gif h6 hf
      refine lv_iconst (v := 1) hx hb dX5_stowingFault_14 (by decide) ?_
      exact kr _ _ _ _ _ _ (gri hf) hI ⟨.int, rfl, rfl⟩ dX5_stowingFault_15
theorem dX5_clearingFault_0 : decode cX5_clearingFault 0 = .ok (.iload_n 1, 1) := by decide +kernel
theorem dX5_clearingFault_1 : decode cX5_clearingFault 1 = .ok (.invokestatic 60, 3) := by decide +kernel
theorem dX5_clearingFault_4 : decode cX5_clearingFault 4 = .ok (.ifCond .eq 10, 3) := by decide +kernel
theorem dX5_clearingFault_7 : decode cX5_clearingFault 7 = .ok (.iload_n 2, 1) := by decide +kernel
theorem dX5_clearingFault_8 : decode cX5_clearingFault 8 = .ok (.invokestatic 67, 3) := by decide +kernel
theorem dX5_clearingFault_11 : decode cX5_clearingFault 11 = .ok (.ifCond .ne 5, 3) := by decide +kernel
theorem dX5_clearingFault_14 : decode cX5_clearingFault 14 = .ok (.iconst 1, 1) := by decide +kernel
theorem dX5_clearingFault_15 : decode cX5_clearingFault 15 = .ok (.ireturn, 1) := by decide +kernel
theorem dX5_clearingFault_16 : decode cX5_clearingFault 16 = .ok (.iload_n 3, 1) := by decide +kernel
theorem dX5_clearingFault_17 : decode cX5_clearingFault 17 = .ok (.ifCond .lt 9, 3) := by decide +kernel
theorem dX5_clearingFault_20 : decode cX5_clearingFault 20 = .ok (.iload_n 3, 1) := by decide +kernel
theorem dX5_clearingFault_21 : decode cX5_clearingFault 21 = .ok (.bipush 9, 2) := by decide +kernel
theorem dX5_clearingFault_23 : decode cX5_clearingFault 23 = .ok (.if_icmp .le 5, 3) := by decide +kernel
theorem dX5_clearingFault_26 : decode cX5_clearingFault 26 = .ok (.iconst 2, 1) := by decide +kernel
theorem dX5_clearingFault_27 : decode cX5_clearingFault 27 = .ok (.ireturn, 1) := by decide +kernel
theorem dX5_clearingFault_28 : decode cX5_clearingFault 28 = .ok (.aload_n 0, 1) := by decide +kernel
theorem dX5_clearingFault_29 : decode cX5_clearingFault 29 = .ok (.getfield 12, 3) := by decide +kernel
theorem dX5_clearingFault_32 : decode cX5_clearingFault 32 = .ok (.iload_n 1, 1) := by decide +kernel
theorem dX5_clearingFault_33 : decode cX5_clearingFault 33 = .ok (.iload_n 2, 1) := by decide +kernel
theorem dX5_clearingFault_34 : decode cX5_clearingFault 34 = .ok (.invokestatic 70, 3) := by decide +kernel
theorem dX5_clearingFault_37 : decode cX5_clearingFault 37 = .ok (.invokevirtual 74, 3) := by decide +kernel
theorem dX5_clearingFault_40 : decode cX5_clearingFault 40 = .ok (.ifCond .ne 7, 3) := by decide +kernel
theorem dX5_clearingFault_43 : decode cX5_clearingFault 43 = .ok (.iconst 1, 1) := by decide +kernel
theorem dX5_clearingFault_44 : decode cX5_clearingFault 44 = .ok (.goto 4, 3) := by decide +kernel
theorem dX5_clearingFault_47 : decode cX5_clearingFault 47 = .ok (.iconst 0, 1) := by decide +kernel
theorem dX5_clearingFault_48 : decode cX5_clearingFault 48 = .ok (.istore 4, 2) := by decide +kernel
theorem dX5_clearingFault_50 : decode cX5_clearingFault 50 = .ok (.aload_n 0, 1) := by decide +kernel
theorem dX5_clearingFault_51 : decode cX5_clearingFault 51 = .ok (.getfield 12, 3) := by decide +kernel
theorem dX5_clearingFault_54 : decode cX5_clearingFault 54 = .ok (.bipush 12, 2) := by decide +kernel
theorem dX5_clearingFault_56 : decode cX5_clearingFault 56 = .ok (.invokevirtual 74, 3) := by decide +kernel
theorem dX5_clearingFault_59 : decode cX5_clearingFault 59 = .ok (.bipush 15, 2) := by decide +kernel
theorem dX5_clearingFault_61 : decode cX5_clearingFault 61 = .ok (.if_icmp .lt 7, 3) := by decide +kernel
theorem dX5_clearingFault_64 : decode cX5_clearingFault 64 = .ok (.iconst 1, 1) := by decide +kernel
theorem dX5_clearingFault_65 : decode cX5_clearingFault 65 = .ok (.goto 4, 3) := by decide +kernel
theorem dX5_clearingFault_68 : decode cX5_clearingFault 68 = .ok (.iconst 0, 1) := by decide +kernel
theorem dX5_clearingFault_69 : decode cX5_clearingFault 69 = .ok (.istore 5, 2) := by decide +kernel
theorem dX5_clearingFault_71 : decode cX5_clearingFault 71 = .ok (.aload_n 0, 1) := by decide +kernel
theorem dX5_clearingFault_72 : decode cX5_clearingFault 72 = .ok (.iload_n 1, 1) := by decide +kernel
theorem dX5_clearingFault_73 : decode cX5_clearingFault 73 = .ok (.invokevirtual 64, 3) := by decide +kernel
theorem dX5_clearingFault_76 : decode cX5_clearingFault 76 = .ok (.ifCond .eq 22, 3) := by decide +kernel
theorem dX5_clearingFault_79 : decode cX5_clearingFault 79 = .ok (.aload_n 0, 1) := by decide +kernel
theorem dX5_clearingFault_80 : decode cX5_clearingFault 80 = .ok (.getfield 28, 3) := by decide +kernel
theorem dX5_clearingFault_83 : decode cX5_clearingFault 83 = .ok (.iload_n 1, 1) := by decide +kernel
theorem dX5_clearingFault_84 : decode cX5_clearingFault 84 = .ok (.iaload, 1) := by decide +kernel
theorem dX5_clearingFault_85 : decode cX5_clearingFault 85 = .ok (.ifCond .gt 13, 3) := by decide +kernel
theorem dX5_clearingFault_88 : decode cX5_clearingFault 88 = .ok (.iload 4, 2) := by decide +kernel
theorem dX5_clearingFault_90 : decode cX5_clearingFault 90 = .ok (.ifCond .ne 8, 3) := by decide +kernel
theorem dX5_clearingFault_93 : decode cX5_clearingFault 93 = .ok (.iload 5, 2) := by decide +kernel
theorem dX5_clearingFault_95 : decode cX5_clearingFault 95 = .ok (.ifCond .eq 7, 3) := by decide +kernel
theorem dX5_clearingFault_98 : decode cX5_clearingFault 98 = .ok (.iconst 3, 1) := by decide +kernel
theorem dX5_clearingFault_99 : decode cX5_clearingFault 99 = .ok (.goto 4, 3) := by decide +kernel
theorem dX5_clearingFault_102 : decode cX5_clearingFault 102 = .ok (.iconst 0, 1) := by decide +kernel
theorem dX5_clearingFault_103 : decode cX5_clearingFault 103 = .ok (.ireturn, 1) := by decide +kernel
set_option maxRecDepth 100000 in
set_option maxHeartbeats 4000000 in
theorem C_X5_clearingFault (l : Launch) (E : gE) (x : gX) {o : Nat} (ho : gOk o) {v1 v2 v3 : Int32} {M : gM} {r : Int32} (hf : f_X5_clearingFault o v1 v2 v3 M = some r) : gM0 l E yX5_clearingFault (.code yX5_clearingFault cX5_clearingFault 6 (some .int)) (gR 2 41) M x [.ref (E.2.1 o), .int v1, .int v2, .int v3] (some (.int r)) M := by
  refine gMet (by decide +kernel) (Nat.le_of_ble_eq_true rfl) ?_
  intro p e s m args below meth c H locs ls Q hC hl hI kr kv
  replace hC : gC p s m args c cX5_clearingFault 6 RX5 E := hC
  replace hl : lv_has ls 6 [(0, .ref (E.2.1 o)), (1, .int v1), (2, .int v2), (3, .int v3)] := hl
  have hx := hC.1
  have hb := hC.2.1
  unfold f_X5_clearingFault at hf
  refine lv_iload_n hx hb dX5_clearingFault_0 rfl (lv_at hl 1 rfl) ?_
  obtain ⟨r1, hr2, hf⟩ := gbind hf
  have hr2 := C_X6_isBerth l E x  hr2
  refine g_callSNi (rest := []) hC hI hr2 Y_X6_isBerth S_X6_isBerth (List.mem_of_getElem? (i := 6) rfl) ⟨rfl, rfl⟩ ⟨Nat.le_of_ble_eq_true rfl, Nat.le_of_ble_eq_true rfl⟩ rfl hl.1 rfl (Nat.le_of_ble_eq_true rfl) dX5_clearingFault_1 ⟨Nat.zero_le _, Nat.zero_le _⟩ (fun H locs hI => ?_)
  refine lv_if_eq (tgt := 14) hx hb dX5_clearingFault_4 rfl (fun h3 => ?_) (fun h3 => ?_)
  · replace hf := gif h3 hf
    refine lv_iconst (v := 1) hx hb dX5_clearingFault_14 (by decide) ?_
    exact kr _ _ _ _ _ _ (gri hf) hI ⟨.int, rfl, rfl⟩ dX5_clearingFault_15
  · replace hf := gifn h3 hf
    refine lv_iload_n hx hb dX5_clearingFault_7 rfl (lv_at hl 2 rfl) ?_
    obtain ⟨r4, hr5, hf⟩ := gbind hf
    have hr5 := C_X6_isStack l E x  hr5
    refine g_callSNi (rest := []) hC hI hr5 Y_X6_isStack S_X6_isStack (List.mem_of_getElem? (i := 9) rfl) ⟨rfl, rfl⟩ ⟨Nat.le_of_ble_eq_true rfl, Nat.le_of_ble_eq_true rfl⟩ rfl hl.1 rfl (Nat.le_of_ble_eq_true rfl) dX5_clearingFault_8 ⟨Nat.zero_le _, Nat.zero_le _⟩ (fun H locs hI => ?_)
    refine lv_if_ne (tgt := 16) hx hb dX5_clearingFault_11 rfl (fun h6 => ?_) (fun h6 => ?_)
    · replace hf := gifn h6 hf
      refine lv_iload_n hx hb dX5_clearingFault_16 rfl (lv_at hl 3 rfl) ?_
      refine lv_if_lt (tgt := 26) hx hb dX5_clearingFault_17 rfl (fun h7 => ?_) (fun h7 => ?_)
      · replace hf := gif h7 hf
        refine lv_iconst (v := 2) hx hb dX5_clearingFault_26 (by decide) ?_
        exact kr _ _ _ _ _ _ (gri hf) hI ⟨.int, rfl, rfl⟩ dX5_clearingFault_27
      · replace hf := gifn h7 hf
        refine lv_iload_n hx hb dX5_clearingFault_20 rfl (lv_at hl 3 rfl) ?_
        refine lv_bipush (v := 9) hx hb dX5_clearingFault_21 (by decide) ?_
        refine lv_icmp_le (tgt := 28) hx hb dX5_clearingFault_23 rfl (fun h8 => ?_) (fun h8 => ?_)
        · replace hf := gif h8 hf
          refine lv_aload_n hx hb dX5_clearingFault_28 rfl (lv_at hl 0 rfl) ?_
          refine gt_X5_X5_cargo hC hI ho dX5_clearingFault_29 ?_
          refine lv_iload_n hx hb dX5_clearingFault_32 rfl (lv_at hl 1 rfl) ?_
          refine lv_iload_n hx hb dX5_clearingFault_33 rfl (lv_at hl 2 rfl) ?_
          obtain ⟨r9, hr10, hf⟩ := gbind hf
          have hr10 := C_X6_pileOf l E x  hr10
          refine g_callSNi (rest := [.ref (E.2.1 (o + 1))]) hC hI hr10 Y_X6_pileOf S_X6_pileOf (List.mem_of_getElem? (i := 10) rfl) ⟨rfl, rfl⟩ ⟨Nat.le_of_ble_eq_true rfl, Nat.le_of_ble_eq_true rfl⟩ rfl hl.1 rfl (Nat.le_of_ble_eq_true rfl) dX5_clearingFault_34 ⟨Nat.zero_le _, Nat.zero_le _⟩ (fun H locs hI => ?_)
          obtain ⟨r11, hr12, hf⟩ := gbind hf
          have hr12 := C_X0_height l E x ho hr12
          refine g_callVi (rest := []) hC hI hr12 Y_X0_height V_X0_height w621 (rcv_X0 hC hI ho) ⟨rfl, rfl⟩ ⟨Nat.le_of_ble_eq_true rfl, Nat.le_of_ble_eq_true rfl⟩ rfl hl.1 rfl (Nat.le_of_ble_eq_true rfl) dX5_clearingFault_37 ⟨Nat.zero_le _, Nat.zero_le _⟩ (fun H locs hI => ?_)
          refine lv_if_ne (tgt := 47) hx hb dX5_clearingFault_40 rfl (fun h13 => ?_) (fun h13 => ?_)
          · replace hf := gifn h13 hf
            refine lv_iconst (v := 0) hx hb dX5_clearingFault_47 (by decide) ?_
            refine lv_istore (lv' := [(4, .int 0), (0, .ref (E.2.1 o)), (1, .int v1), (2, .int v2), (3, .int v3)]) hx hb dX5_clearingFault_48 hl (by decide) rfl (fun ls hl => ?_)
            refine lv_aload_n hx hb dX5_clearingFault_50 rfl (lv_at hl 1 rfl) ?_
            refine gt_X5_X5_cargo hC hI ho dX5_clearingFault_51 ?_
            refine lv_bipush (v := 12) hx hb dX5_clearingFault_54 (by decide) ?_
            obtain ⟨r14, hr15, hf⟩ := gbind hf
            have hr15 := C_X0_height l E x ho hr15
            refine g_callVi (rest := []) hC hI hr15 Y_X0_height V_X0_height w621 (rcv_X0 hC hI ho) ⟨rfl, rfl⟩ ⟨Nat.le_of_ble_eq_true rfl, Nat.le_of_ble_eq_true rfl⟩ rfl hl.1 rfl (Nat.le_of_ble_eq_true rfl) dX5_clearingFault_56 ⟨Nat.zero_le _, Nat.zero_le _⟩ (fun H locs hI => ?_)
            refine lv_bipush (v := 15) hx hb dX5_clearingFault_59 (by decide) ?_
            refine lv_icmp_lt (tgt := 68) hx hb dX5_clearingFault_61 rfl (fun h16 => ?_) (fun h16 => ?_)
            · replace hf := gif h16 hf
              refine lv_iconst (v := 0) hx hb dX5_clearingFault_68 (by decide) ?_
              refine lv_istore (lv' := [(5, .int 0), (4, .int 0), (0, .ref (E.2.1 o)), (1, .int v1), (2, .int v2), (3, .int v3)]) hx hb dX5_clearingFault_69 hl (by decide) rfl (fun ls hl => ?_)
              refine lv_aload_n hx hb dX5_clearingFault_71 rfl (lv_at hl 2 rfl) ?_
              refine lv_iload_n hx hb dX5_clearingFault_72 rfl (lv_at hl 3 rfl) ?_
              obtain ⟨r17, hr18, hf⟩ := gbind hf
              have hr18 := C_X5_hasShip l E x ho hr18
              refine g_callVi (rest := []) hC hI hr18 Y_X5_hasShip V_X5_hasShip w244 (rcv_X5 hC hI ho) ⟨rfl, rfl⟩ ⟨Nat.le_of_ble_eq_true rfl, Nat.le_of_ble_eq_true rfl⟩ rfl hl.1 rfl (Nat.le_of_ble_eq_true rfl) dX5_clearingFault_73 ⟨Nat.zero_le _, Nat.zero_le _⟩ (fun H locs hI => ?_)
              refine lv_if_eq (tgt := 98) hx hb dX5_clearingFault_76 rfl (fun h19 => ?_) (fun h19 => ?_)
              · replace hf := gif h19 hf
                refine lv_iconst (v := 3) hx hb dX5_clearingFault_98 (by decide) ?_
                refine lv_goto (tgt := 103) hx hb dX5_clearingFault_99 rfl ?_
                exact kr _ _ _ _ _ _ (gri hf) hI ⟨.int, rfl, rfl⟩ dX5_clearingFault_103
              · replace hf := gifn h19 hf
                refine lv_aload_n hx hb dX5_clearingFault_79 rfl (lv_at hl 2 rfl) ?_
                refine gt_X5_X5_locks hC hI ho dX5_clearingFault_80 ?_
                refine lv_iload_n hx hb dX5_clearingFault_83 rfl (lv_at hl 3 rfl) ?_
                obtain ⟨h20, hf⟩ := gifN hf
                refine g_iald hC hI (k := v1.toNatClampNeg) (gIA_11 ho) h20 rfl dX5_clearingFault_84 ?_
                refine lv_if_gt (tgt := 98) hx hb dX5_clearingFault_85 rfl (fun h21 => ?_) (fun h21 => ?_)
                · replace hf := gif h21 hf
                  refine lv_iconst (v := 3) hx hb dX5_clearingFault_98 (by decide) ?_
                  refine lv_goto (tgt := 103) hx hb dX5_clearingFault_99 rfl ?_
                  exact kr _ _ _ _ _ _ (gri hf) hI ⟨.int, rfl, rfl⟩ dX5_clearingFault_103
                · replace hf := gifn h21 hf
                  refine lv_iload hx hb dX5_clearingFault_88 (lv_at hl 1 rfl) ?_
                  refine lv_if_ne (tgt := 98) hx hb dX5_clearingFault_90 rfl (fun h22 => absurd (by decide) h22) (fun h22 => ?_)
                  refine lv_iload hx hb dX5_clearingFault_93 (lv_at hl 0 rfl) ?_
                  refine lv_if_eq (tgt := 102) hx hb dX5_clearingFault_95 rfl (fun h23 => ?_) (fun h23 => absurd (by decide) h23)
                  refine lv_iconst (v := 0) hx hb dX5_clearingFault_102 (by decide) ?_
                  exact kr _ _ _ _ _ _ (gri hf) hI ⟨.int, rfl, rfl⟩ dX5_clearingFault_103
            · replace hf := gifn h16 hf
              refine lv_iconst (v := 1) hx hb dX5_clearingFault_64 (by decide) ?_
              refine lv_goto (tgt := 69) hx hb dX5_clearingFault_65 rfl ?_
              refine lv_istore (lv' := [(5, .int 1), (4, .int 0), (0, .ref (E.2.1 o)), (1, .int v1), (2, .int v2), (3, .int v3)]) hx hb dX5_clearingFault_69 hl (by decide) rfl (fun ls hl => ?_)
              refine lv_aload_n hx hb dX5_clearingFault_71 rfl (lv_at hl 2 rfl) ?_
              refine lv_iload_n hx hb dX5_clearingFault_72 rfl (lv_at hl 3 rfl) ?_
              obtain ⟨r24, hr25, hf⟩ := gbind hf
              have hr25 := C_X5_hasShip l E x ho hr25
              refine g_callVi (rest := []) hC hI hr25 Y_X5_hasShip V_X5_hasShip w244 (rcv_X5 hC hI ho) ⟨rfl, rfl⟩ ⟨Nat.le_of_ble_eq_true rfl, Nat.le_of_ble_eq_true rfl⟩ rfl hl.1 rfl (Nat.le_of_ble_eq_true rfl) dX5_clearingFault_73 ⟨Nat.zero_le _, Nat.zero_le _⟩ (fun H locs hI => ?_)
              refine lv_if_eq (tgt := 98) hx hb dX5_clearingFault_76 rfl (fun h26 => ?_) (fun h26 => ?_)
              · replace hf := gif h26 hf
                refine lv_iconst (v := 3) hx hb dX5_clearingFault_98 (by decide) ?_
                refine lv_goto (tgt := 103) hx hb dX5_clearingFault_99 rfl ?_
                exact kr _ _ _ _ _ _ (gri hf) hI ⟨.int, rfl, rfl⟩ dX5_clearingFault_103
              · replace hf := gifn h26 hf
                refine lv_aload_n hx hb dX5_clearingFault_79 rfl (lv_at hl 2 rfl) ?_
                refine gt_X5_X5_locks hC hI ho dX5_clearingFault_80 ?_
                refine lv_iload_n hx hb dX5_clearingFault_83 rfl (lv_at hl 3 rfl) ?_
                obtain ⟨h27, hf⟩ := gifN hf
                refine g_iald hC hI (k := v1.toNatClampNeg) (gIA_11 ho) h27 rfl dX5_clearingFault_84 ?_
                refine lv_if_gt (tgt := 98) hx hb dX5_clearingFault_85 rfl (fun h28 => ?_) (fun h28 => ?_)
                · replace hf := gif h28 hf
                  refine lv_iconst (v := 3) hx hb dX5_clearingFault_98 (by decide) ?_
                  refine lv_goto (tgt := 103) hx hb dX5_clearingFault_99 rfl ?_
                  exact kr _ _ _ _ _ _ (gri hf) hI ⟨.int, rfl, rfl⟩ dX5_clearingFault_103
                · replace hf := gifn h28 hf
                  refine lv_iload hx hb dX5_clearingFault_88 (lv_at hl 1 rfl) ?_
                  refine lv_if_ne (tgt := 98) hx hb dX5_clearingFault_90 rfl (fun h29 => absurd (by decide) h29) (fun h29 => ?_)
                  refine lv_iload hx hb dX5_clearingFault_93 (lv_at hl 0 rfl) ?_
                  refine lv_if_eq (tgt := 102) hx hb dX5_clearingFault_95 rfl (fun h30 => absurd h30 (by decide)) (fun h30 => ?_)
                  refine lv_iconst (v := 3) hx hb dX5_clearingFault_98 (by decide) ?_
                  refine lv_goto (tgt := 103) hx hb dX5_clearingFault_99 rfl ?_
                  exact kr _ _ _ _ _ _ (gri hf) hI ⟨.int, rfl, rfl⟩ dX5_clearingFault_103
          · replace hf := gif h13 hf
            refine lv_iconst (v := 1) hx hb dX5_clearingFault_43 (by decide) ?_
            refine lv_goto (tgt := 48) hx hb dX5_clearingFault_44 rfl ?_
            refine lv_istore (lv' := [(4, .int 1), (0, .ref (E.2.1 o)), (1, .int v1), (2, .int v2), (3, .int v3)]) hx hb dX5_clearingFault_48 hl (by decide) rfl (fun ls hl => ?_)
            refine lv_aload_n hx hb dX5_clearingFault_50 rfl (lv_at hl 1 rfl) ?_
            refine gt_X5_X5_cargo hC hI ho dX5_clearingFault_51 ?_
            refine lv_bipush (v := 12) hx hb dX5_clearingFault_54 (by decide) ?_
            obtain ⟨r31, hr32, hf⟩ := gbind hf
            have hr32 := C_X0_height l E x ho hr32
            refine g_callVi (rest := []) hC hI hr32 Y_X0_height V_X0_height w621 (rcv_X0 hC hI ho) ⟨rfl, rfl⟩ ⟨Nat.le_of_ble_eq_true rfl, Nat.le_of_ble_eq_true rfl⟩ rfl hl.1 rfl (Nat.le_of_ble_eq_true rfl) dX5_clearingFault_56 ⟨Nat.zero_le _, Nat.zero_le _⟩ (fun H locs hI => ?_)
            refine lv_bipush (v := 15) hx hb dX5_clearingFault_59 (by decide) ?_
            refine lv_icmp_lt (tgt := 68) hx hb dX5_clearingFault_61 rfl (fun h33 => ?_) (fun h33 => ?_)
            · replace hf := gif h33 hf
              refine lv_iconst (v := 0) hx hb dX5_clearingFault_68 (by decide) ?_
              refine lv_istore (lv' := [(5, .int 0), (4, .int 1), (0, .ref (E.2.1 o)), (1, .int v1), (2, .int v2), (3, .int v3)]) hx hb dX5_clearingFault_69 hl (by decide) rfl (fun ls hl => ?_)
              refine lv_aload_n hx hb dX5_clearingFault_71 rfl (lv_at hl 2 rfl) ?_
              refine lv_iload_n hx hb dX5_clearingFault_72 rfl (lv_at hl 3 rfl) ?_
              obtain ⟨r34, hr35, hf⟩ := gbind hf
              have hr35 := C_X5_hasShip l E x ho hr35
              refine g_callVi (rest := []) hC hI hr35 Y_X5_hasShip V_X5_hasShip w244 (rcv_X5 hC hI ho) ⟨rfl, rfl⟩ ⟨Nat.le_of_ble_eq_true rfl, Nat.le_of_ble_eq_true rfl⟩ rfl hl.1 rfl (Nat.le_of_ble_eq_true rfl) dX5_clearingFault_73 ⟨Nat.zero_le _, Nat.zero_le _⟩ (fun H locs hI => ?_)
              refine lv_if_eq (tgt := 98) hx hb dX5_clearingFault_76 rfl (fun h36 => ?_) (fun h36 => ?_)
              · replace hf := gif h36 hf
                refine lv_iconst (v := 3) hx hb dX5_clearingFault_98 (by decide) ?_
                refine lv_goto (tgt := 103) hx hb dX5_clearingFault_99 rfl ?_
                exact kr _ _ _ _ _ _ (gri hf) hI ⟨.int, rfl, rfl⟩ dX5_clearingFault_103
              · replace hf := gifn h36 hf
                refine lv_aload_n hx hb dX5_clearingFault_79 rfl (lv_at hl 2 rfl) ?_
                refine gt_X5_X5_locks hC hI ho dX5_clearingFault_80 ?_
                refine lv_iload_n hx hb dX5_clearingFault_83 rfl (lv_at hl 3 rfl) ?_
                obtain ⟨h37, hf⟩ := gifN hf
                refine g_iald hC hI (k := v1.toNatClampNeg) (gIA_11 ho) h37 rfl dX5_clearingFault_84 ?_
                refine lv_if_gt (tgt := 98) hx hb dX5_clearingFault_85 rfl (fun h38 => ?_) (fun h38 => ?_)
                · replace hf := gif h38 hf
                  refine lv_iconst (v := 3) hx hb dX5_clearingFault_98 (by decide) ?_
                  refine lv_goto (tgt := 103) hx hb dX5_clearingFault_99 rfl ?_
                  exact kr _ _ _ _ _ _ (gri hf) hI ⟨.int, rfl, rfl⟩ dX5_clearingFault_103
                · replace hf := gifn h38 hf
                  refine lv_iload hx hb dX5_clearingFault_88 (lv_at hl 1 rfl) ?_
                  refine lv_if_ne (tgt := 98) hx hb dX5_clearingFault_90 rfl (fun h39 => ?_) (fun h39 => absurd h39 (by decide))
                  refine lv_iconst (v := 3) hx hb dX5_clearingFault_98 (by decide) ?_
                  refine lv_goto (tgt := 103) hx hb dX5_clearingFault_99 rfl ?_
                  exact kr _ _ _ _ _ _ (gri hf) hI ⟨.int, rfl, rfl⟩ dX5_clearingFault_103
            · replace hf := gifn h33 hf
              refine lv_iconst (v := 1) hx hb dX5_clearingFault_64 (by decide) ?_
              refine lv_goto (tgt := 69) hx hb dX5_clearingFault_65 rfl ?_
              refine lv_istore (lv' := [(5, .int 1), (4, .int 1), (0, .ref (E.2.1 o)), (1, .int v1), (2, .int v2), (3, .int v3)]) hx hb dX5_clearingFault_69 hl (by decide) rfl (fun ls hl => ?_)
              refine lv_aload_n hx hb dX5_clearingFault_71 rfl (lv_at hl 2 rfl) ?_
              refine lv_iload_n hx hb dX5_clearingFault_72 rfl (lv_at hl 3 rfl) ?_
              obtain ⟨r40, hr41, hf⟩ := gbind hf
              have hr41 := C_X5_hasShip l E x ho hr41
              refine g_callVi (rest := []) hC hI hr41 Y_X5_hasShip V_X5_hasShip w244 (rcv_X5 hC hI ho) ⟨rfl, rfl⟩ ⟨Nat.le_of_ble_eq_true rfl, Nat.le_of_ble_eq_true rfl⟩ rfl hl.1 rfl (Nat.le_of_ble_eq_true rfl) dX5_clearingFault_73 ⟨Nat.zero_le _, Nat.zero_le _⟩ (fun H locs hI => ?_)
              refine lv_if_eq (tgt := 98) hx hb dX5_clearingFault_76 rfl (fun h42 => ?_) (fun h42 => ?_)
              · replace hf := gif h42 hf
                refine lv_iconst (v := 3) hx hb dX5_clearingFault_98 (by decide) ?_
                refine lv_goto (tgt := 103) hx hb dX5_clearingFault_99 rfl ?_
                exact kr _ _ _ _ _ _ (gri hf) hI ⟨.int, rfl, rfl⟩ dX5_clearingFault_103
              · replace hf := gifn h42 hf
                refine lv_aload_n hx hb dX5_clearingFault_79 rfl (lv_at hl 2 rfl) ?_
                refine gt_X5_X5_locks hC hI ho dX5_clearingFault_80 ?_
                refine lv_iload_n hx hb dX5_clearingFault_83 rfl (lv_at hl 3 rfl) ?_
                obtain ⟨h43, hf⟩ := gifN hf
                refine g_iald hC hI (k := v1.toNatClampNeg) (gIA_11 ho) h43 rfl dX5_clearingFault_84 ?_
                refine lv_if_gt (tgt := 98) hx hb dX5_clearingFault_85 rfl (fun h44 => ?_) (fun h44 => ?_)
                · replace hf := gif h44 hf
                  refine lv_iconst (v := 3) hx hb dX5_clearingFault_98 (by decide) ?_
                  refine lv_goto (tgt := 103) hx hb dX5_clearingFault_99 rfl ?_
                  exact kr _ _ _ _ _ _ (gri hf) hI ⟨.int, rfl, rfl⟩ dX5_clearingFault_103
                · replace hf := gifn h44 hf
                  refine lv_iload hx hb dX5_clearingFault_88 (lv_at hl 1 rfl) ?_
                  refine lv_if_ne (tgt := 98) hx hb dX5_clearingFault_90 rfl (fun h45 => ?_) (fun h45 => absurd h45 (by decide))
                  refine lv_iconst (v := 3) hx hb dX5_clearingFault_98 (by decide) ?_
                  refine lv_goto (tgt := 103) hx hb dX5_clearingFault_99 rfl ?_
                  exact kr _ _ _ _ _ _ (gri hf) hI ⟨.int, rfl, rfl⟩ dX5_clearingFault_103
        · replace hf := gifn h8 hf
          refine lv_iconst (v := 2) hx hb dX5_clearingFault_26 (by decide) ?_
          exact kr _ _ _ _ _ _ (gri hf) hI ⟨.int, rfl, rfl⟩ dX5_clearingFault_27
    · replace hf := gif h6 hf
      refine lv_iconst (v := 1) hx hb dX5_clearingFault_14 (by decide) ?_
      exact kr _ _ _ _ _ _ (gri hf) hI ⟨.int, rfl, rfl⟩ dX5_clearingFault_15
theorem dX5_movingFault_0 : decode cX5_movingFault 0 = .ok (.iload_n 1, 1) := by decide +kernel
theorem dX5_movingFault_1 : decode cX5_movingFault 1 = .ok (.invokestatic 60, 3) := by decide +kernel
theorem dX5_movingFault_4 : decode cX5_movingFault 4 = .ok (.ifCond .eq 17, 3) := by decide +kernel
theorem dX5_movingFault_7 : decode cX5_movingFault 7 = .ok (.iload_n 2, 1) := by decide +kernel
theorem dX5_movingFault_8 : decode cX5_movingFault 8 = .ok (.invokestatic 67, 3) := by decide +kernel
theorem dX5_movingFault_11 : decode cX5_movingFault 11 = .ok (.ifCond .eq 10, 3) := by decide +kernel
theorem dX5_movingFault_14 : decode cX5_movingFault 14 = .ok (.iload_n 3, 1) := by decide +kernel
theorem dX5_movingFault_15 : decode cX5_movingFault 15 = .ok (.invokestatic 67, 3) := by decide +kernel
theorem dX5_movingFault_18 : decode cX5_movingFault 18 = .ok (.ifCond .ne 5, 3) := by decide +kernel
theorem dX5_movingFault_21 : decode cX5_movingFault 21 = .ok (.iconst 1, 1) := by decide +kernel
theorem dX5_movingFault_22 : decode cX5_movingFault 22 = .ok (.ireturn, 1) := by decide +kernel
theorem dX5_movingFault_23 : decode cX5_movingFault 23 = .ok (.iload_n 2, 1) := by decide +kernel
theorem dX5_movingFault_24 : decode cX5_movingFault 24 = .ok (.iload_n 3, 1) := by decide +kernel
theorem dX5_movingFault_25 : decode cX5_movingFault 25 = .ok (.if_icmp .ne 5, 3) := by decide +kernel
theorem dX5_movingFault_28 : decode cX5_movingFault 28 = .ok (.iconst 2, 1) := by decide +kernel
theorem dX5_movingFault_29 : decode cX5_movingFault 29 = .ok (.ireturn, 1) := by decide +kernel
theorem dX5_movingFault_30 : decode cX5_movingFault 30 = .ok (.aload_n 0, 1) := by decide +kernel
theorem dX5_movingFault_31 : decode cX5_movingFault 31 = .ok (.getfield 12, 3) := by decide +kernel
theorem dX5_movingFault_34 : decode cX5_movingFault 34 = .ok (.iload_n 1, 1) := by decide +kernel
theorem dX5_movingFault_35 : decode cX5_movingFault 35 = .ok (.iload_n 2, 1) := by decide +kernel
theorem dX5_movingFault_36 : decode cX5_movingFault 36 = .ok (.invokestatic 70, 3) := by decide +kernel
theorem dX5_movingFault_39 : decode cX5_movingFault 39 = .ok (.invokevirtual 74, 3) := by decide +kernel
theorem dX5_movingFault_42 : decode cX5_movingFault 42 = .ok (.ifCond .ne 7, 3) := by decide +kernel
theorem dX5_movingFault_45 : decode cX5_movingFault 45 = .ok (.iconst 1, 1) := by decide +kernel
theorem dX5_movingFault_46 : decode cX5_movingFault 46 = .ok (.goto 4, 3) := by decide +kernel
theorem dX5_movingFault_49 : decode cX5_movingFault 49 = .ok (.iconst 0, 1) := by decide +kernel
theorem dX5_movingFault_50 : decode cX5_movingFault 50 = .ok (.istore 4, 2) := by decide +kernel
theorem dX5_movingFault_52 : decode cX5_movingFault 52 = .ok (.aload_n 0, 1) := by decide +kernel
theorem dX5_movingFault_53 : decode cX5_movingFault 53 = .ok (.getfield 12, 3) := by decide +kernel
theorem dX5_movingFault_56 : decode cX5_movingFault 56 = .ok (.iload_n 1, 1) := by decide +kernel
theorem dX5_movingFault_57 : decode cX5_movingFault 57 = .ok (.iload_n 3, 1) := by decide +kernel
theorem dX5_movingFault_58 : decode cX5_movingFault 58 = .ok (.invokestatic 70, 3) := by decide +kernel
theorem dX5_movingFault_61 : decode cX5_movingFault 61 = .ok (.invokevirtual 74, 3) := by decide +kernel
theorem dX5_movingFault_64 : decode cX5_movingFault 64 = .ok (.iconst 5, 1) := by decide +kernel
theorem dX5_movingFault_65 : decode cX5_movingFault 65 = .ok (.if_icmp .lt 7, 3) := by decide +kernel
theorem dX5_movingFault_68 : decode cX5_movingFault 68 = .ok (.iconst 1, 1) := by decide +kernel
theorem dX5_movingFault_69 : decode cX5_movingFault 69 = .ok (.goto 4, 3) := by decide +kernel
theorem dX5_movingFault_72 : decode cX5_movingFault 72 = .ok (.iconst 0, 1) := by decide +kernel
theorem dX5_movingFault_73 : decode cX5_movingFault 73 = .ok (.istore 5, 2) := by decide +kernel
theorem dX5_movingFault_75 : decode cX5_movingFault 75 = .ok (.aload_n 0, 1) := by decide +kernel
theorem dX5_movingFault_76 : decode cX5_movingFault 76 = .ok (.iload_n 1, 1) := by decide +kernel
theorem dX5_movingFault_77 : decode cX5_movingFault 77 = .ok (.invokevirtual 64, 3) := by decide +kernel
theorem dX5_movingFault_80 : decode cX5_movingFault 80 = .ok (.ifCond .eq 13, 3) := by decide +kernel
theorem dX5_movingFault_83 : decode cX5_movingFault 83 = .ok (.iload 4, 2) := by decide +kernel
theorem dX5_movingFault_85 : decode cX5_movingFault 85 = .ok (.ifCond .ne 8, 3) := by decide +kernel
theorem dX5_movingFault_88 : decode cX5_movingFault 88 = .ok (.iload 5, 2) := by decide +kernel
theorem dX5_movingFault_90 : decode cX5_movingFault 90 = .ok (.ifCond .eq 7, 3) := by decide +kernel
theorem dX5_movingFault_93 : decode cX5_movingFault 93 = .ok (.iconst 3, 1) := by decide +kernel
theorem dX5_movingFault_94 : decode cX5_movingFault 94 = .ok (.goto 4, 3) := by decide +kernel
theorem dX5_movingFault_97 : decode cX5_movingFault 97 = .ok (.iconst 0, 1) := by decide +kernel
theorem dX5_movingFault_98 : decode cX5_movingFault 98 = .ok (.ireturn, 1) := by decide +kernel
set_option maxRecDepth 100000 in
set_option maxHeartbeats 4000000 in
theorem C_X5_movingFault (l : Launch) (E : gE) (x : gX) {o : Nat} (ho : gOk o) {v1 v2 v3 : Int32} {M : gM} {r : Int32} (hf : f_X5_movingFault o v1 v2 v3 M = some r) : gM0 l E yX5_movingFault (.code yX5_movingFault cX5_movingFault 6 (some .int)) (gR 2 41) M x [.ref (E.2.1 o), .int v1, .int v2, .int v3] (some (.int r)) M := by
  refine gMet (by decide +kernel) (Nat.le_of_ble_eq_true rfl) ?_
  intro p e s m args below meth c H locs ls Q hC hl hI kr kv
  replace hC : gC p s m args c cX5_movingFault 6 RX5 E := hC
  replace hl : lv_has ls 6 [(0, .ref (E.2.1 o)), (1, .int v1), (2, .int v2), (3, .int v3)] := hl
  have hx := hC.1
  have hb := hC.2.1
  unfold f_X5_movingFault at hf
  refine lv_iload_n hx hb dX5_movingFault_0 rfl (lv_at hl 1 rfl) ?_
  obtain ⟨r1, hr2, hf⟩ := gbind hf
  have hr2 := C_X6_isBerth l E x  hr2
  refine g_callSNi (rest := []) hC hI hr2 Y_X6_isBerth S_X6_isBerth (List.mem_of_getElem? (i := 6) rfl) ⟨rfl, rfl⟩ ⟨Nat.le_of_ble_eq_true rfl, Nat.le_of_ble_eq_true rfl⟩ rfl hl.1 rfl (Nat.le_of_ble_eq_true rfl) dX5_movingFault_1 ⟨Nat.zero_le _, Nat.zero_le _⟩ (fun H locs hI => ?_)
  refine lv_if_eq (tgt := 21) hx hb dX5_movingFault_4 rfl (fun h3 => ?_) (fun h3 => ?_)
  · replace hf := gif h3 hf
    refine lv_iconst (v := 1) hx hb dX5_movingFault_21 (by decide) ?_
    exact kr _ _ _ _ _ _ (gri hf) hI ⟨.int, rfl, rfl⟩ dX5_movingFault_22
  · replace hf := gifn h3 hf
    refine lv_iload_n hx hb dX5_movingFault_7 rfl (lv_at hl 2 rfl) ?_
    obtain ⟨r4, hr5, hf⟩ := gbind hf
    have hr5 := C_X6_isStack l E x  hr5
    refine g_callSNi (rest := []) hC hI hr5 Y_X6_isStack S_X6_isStack (List.mem_of_getElem? (i := 9) rfl) ⟨rfl, rfl⟩ ⟨Nat.le_of_ble_eq_true rfl, Nat.le_of_ble_eq_true rfl⟩ rfl hl.1 rfl (Nat.le_of_ble_eq_true rfl) dX5_movingFault_8 ⟨Nat.zero_le _, Nat.zero_le _⟩ (fun H locs hI => ?_)
    refine lv_if_eq (tgt := 21) hx hb dX5_movingFault_11 rfl (fun h6 => ?_) (fun h6 => ?_)
    · replace hf := gif h6 hf
      refine lv_iconst (v := 1) hx hb dX5_movingFault_21 (by decide) ?_
      exact kr _ _ _ _ _ _ (gri hf) hI ⟨.int, rfl, rfl⟩ dX5_movingFault_22
    · replace hf := gifn h6 hf
      refine lv_iload_n hx hb dX5_movingFault_14 rfl (lv_at hl 3 rfl) ?_
      obtain ⟨r7, hr8, hf⟩ := gbind hf
      have hr8 := C_X6_isStack l E x  hr8
      refine g_callSNi (rest := []) hC hI hr8 Y_X6_isStack S_X6_isStack (List.mem_of_getElem? (i := 9) rfl) ⟨rfl, rfl⟩ ⟨Nat.le_of_ble_eq_true rfl, Nat.le_of_ble_eq_true rfl⟩ rfl hl.1 rfl (Nat.le_of_ble_eq_true rfl) dX5_movingFault_15 ⟨Nat.zero_le _, Nat.zero_le _⟩ (fun H locs hI => ?_)
      refine lv_if_ne (tgt := 23) hx hb dX5_movingFault_18 rfl (fun h9 => ?_) (fun h9 => ?_)
      · replace hf := gifn h9 hf
        refine lv_iload_n hx hb dX5_movingFault_23 rfl (lv_at hl 2 rfl) ?_
        refine lv_iload_n hx hb dX5_movingFault_24 rfl (lv_at hl 3 rfl) ?_
        refine lv_icmp_ne (tgt := 30) hx hb dX5_movingFault_25 rfl (fun h10 => ?_) (fun h10 => ?_)
        · replace hf := gifn h10 hf
          refine lv_aload_n hx hb dX5_movingFault_30 rfl (lv_at hl 0 rfl) ?_
          refine gt_X5_X5_cargo hC hI ho dX5_movingFault_31 ?_
          refine lv_iload_n hx hb dX5_movingFault_34 rfl (lv_at hl 1 rfl) ?_
          refine lv_iload_n hx hb dX5_movingFault_35 rfl (lv_at hl 2 rfl) ?_
          obtain ⟨r11, hr12, hf⟩ := gbind hf
          have hr12 := C_X6_pileOf l E x  hr12
          refine g_callSNi (rest := [.ref (E.2.1 (o + 1))]) hC hI hr12 Y_X6_pileOf S_X6_pileOf (List.mem_of_getElem? (i := 10) rfl) ⟨rfl, rfl⟩ ⟨Nat.le_of_ble_eq_true rfl, Nat.le_of_ble_eq_true rfl⟩ rfl hl.1 rfl (Nat.le_of_ble_eq_true rfl) dX5_movingFault_36 ⟨Nat.zero_le _, Nat.zero_le _⟩ (fun H locs hI => ?_)
          obtain ⟨r13, hr14, hf⟩ := gbind hf
          have hr14 := C_X0_height l E x ho hr14
          refine g_callVi (rest := []) hC hI hr14 Y_X0_height V_X0_height w621 (rcv_X0 hC hI ho) ⟨rfl, rfl⟩ ⟨Nat.le_of_ble_eq_true rfl, Nat.le_of_ble_eq_true rfl⟩ rfl hl.1 rfl (Nat.le_of_ble_eq_true rfl) dX5_movingFault_39 ⟨Nat.zero_le _, Nat.zero_le _⟩ (fun H locs hI => ?_)
          refine lv_if_ne (tgt := 49) hx hb dX5_movingFault_42 rfl (fun h15 => ?_) (fun h15 => ?_)
          · replace hf := gifn h15 hf
            refine lv_iconst (v := 0) hx hb dX5_movingFault_49 (by decide) ?_
            refine lv_istore (lv' := [(4, .int 0), (0, .ref (E.2.1 o)), (1, .int v1), (2, .int v2), (3, .int v3)]) hx hb dX5_movingFault_50 hl (by decide) rfl (fun ls hl => ?_)
            refine lv_aload_n hx hb dX5_movingFault_52 rfl (lv_at hl 1 rfl) ?_
            refine gt_X5_X5_cargo hC hI ho dX5_movingFault_53 ?_
            refine lv_iload_n hx hb dX5_movingFault_56 rfl (lv_at hl 2 rfl) ?_
            refine lv_iload_n hx hb dX5_movingFault_57 rfl (lv_at hl 4 rfl) ?_
            obtain ⟨r16, hr17, hf⟩ := gbind hf
            have hr17 := C_X6_pileOf l E x  hr17
            refine g_callSNi (rest := [.ref (E.2.1 (o + 1))]) hC hI hr17 Y_X6_pileOf S_X6_pileOf (List.mem_of_getElem? (i := 10) rfl) ⟨rfl, rfl⟩ ⟨Nat.le_of_ble_eq_true rfl, Nat.le_of_ble_eq_true rfl⟩ rfl hl.1 rfl (Nat.le_of_ble_eq_true rfl) dX5_movingFault_58 ⟨Nat.zero_le _, Nat.zero_le _⟩ (fun H locs hI => ?_)
            obtain ⟨r18, hr19, hf⟩ := gbind hf
            have hr19 := C_X0_height l E x ho hr19
            refine g_callVi (rest := []) hC hI hr19 Y_X0_height V_X0_height w621 (rcv_X0 hC hI ho) ⟨rfl, rfl⟩ ⟨Nat.le_of_ble_eq_true rfl, Nat.le_of_ble_eq_true rfl⟩ rfl hl.1 rfl (Nat.le_of_ble_eq_true rfl) dX5_movingFault_61 ⟨Nat.zero_le _, Nat.zero_le _⟩ (fun H locs hI => ?_)
            refine lv_iconst (v := 5) hx hb dX5_movingFault_64 (by decide) ?_
            refine lv_icmp_lt (tgt := 72) hx hb dX5_movingFault_65 rfl (fun h20 => ?_) (fun h20 => ?_)
            · replace hf := gif h20 hf
              refine lv_iconst (v := 0) hx hb dX5_movingFault_72 (by decide) ?_
              refine lv_istore (lv' := [(5, .int 0), (4, .int 0), (0, .ref (E.2.1 o)), (1, .int v1), (2, .int v2), (3, .int v3)]) hx hb dX5_movingFault_73 hl (by decide) rfl (fun ls hl => ?_)
              refine lv_aload_n hx hb dX5_movingFault_75 rfl (lv_at hl 2 rfl) ?_
              refine lv_iload_n hx hb dX5_movingFault_76 rfl (lv_at hl 3 rfl) ?_
              obtain ⟨r21, hr22, hf⟩ := gbind hf
              have hr22 := C_X5_hasShip l E x ho hr22
              refine g_callVi (rest := []) hC hI hr22 Y_X5_hasShip V_X5_hasShip w244 (rcv_X5 hC hI ho) ⟨rfl, rfl⟩ ⟨Nat.le_of_ble_eq_true rfl, Nat.le_of_ble_eq_true rfl⟩ rfl hl.1 rfl (Nat.le_of_ble_eq_true rfl) dX5_movingFault_77 ⟨Nat.zero_le _, Nat.zero_le _⟩ (fun H locs hI => ?_)
              refine lv_if_eq (tgt := 93) hx hb dX5_movingFault_80 rfl (fun h23 => ?_) (fun h23 => ?_)
              · replace hf := gif h23 hf
                refine lv_iconst (v := 3) hx hb dX5_movingFault_93 (by decide) ?_
                refine lv_goto (tgt := 98) hx hb dX5_movingFault_94 rfl ?_
                exact kr _ _ _ _ _ _ (gri hf) hI ⟨.int, rfl, rfl⟩ dX5_movingFault_98
              · replace hf := gifn h23 hf
                refine lv_iload hx hb dX5_movingFault_83 (lv_at hl 1 rfl) ?_
                refine lv_if_ne (tgt := 93) hx hb dX5_movingFault_85 rfl (fun h24 => absurd (by decide) h24) (fun h24 => ?_)
                refine lv_iload hx hb dX5_movingFault_88 (lv_at hl 0 rfl) ?_
                refine lv_if_eq (tgt := 97) hx hb dX5_movingFault_90 rfl (fun h25 => ?_) (fun h25 => absurd (by decide) h25)
                refine lv_iconst (v := 0) hx hb dX5_movingFault_97 (by decide) ?_
                exact kr _ _ _ _ _ _ (gri hf) hI ⟨.int, rfl, rfl⟩ dX5_movingFault_98
            · replace hf := gifn h20 hf
              refine lv_iconst (v := 1) hx hb dX5_movingFault_68 (by decide) ?_
              refine lv_goto (tgt := 73) hx hb dX5_movingFault_69 rfl ?_
              refine lv_istore (lv' := [(5, .int 1), (4, .int 0), (0, .ref (E.2.1 o)), (1, .int v1), (2, .int v2), (3, .int v3)]) hx hb dX5_movingFault_73 hl (by decide) rfl (fun ls hl => ?_)
              refine lv_aload_n hx hb dX5_movingFault_75 rfl (lv_at hl 2 rfl) ?_
              refine lv_iload_n hx hb dX5_movingFault_76 rfl (lv_at hl 3 rfl) ?_
              obtain ⟨r26, hr27, hf⟩ := gbind hf
              have hr27 := C_X5_hasShip l E x ho hr27
              refine g_callVi (rest := []) hC hI hr27 Y_X5_hasShip V_X5_hasShip w244 (rcv_X5 hC hI ho) ⟨rfl, rfl⟩ ⟨Nat.le_of_ble_eq_true rfl, Nat.le_of_ble_eq_true rfl⟩ rfl hl.1 rfl (Nat.le_of_ble_eq_true rfl) dX5_movingFault_77 ⟨Nat.zero_le _, Nat.zero_le _⟩ (fun H locs hI => ?_)
              refine lv_if_eq (tgt := 93) hx hb dX5_movingFault_80 rfl (fun h28 => ?_) (fun h28 => ?_)
              · replace hf := gif h28 hf
                refine lv_iconst (v := 3) hx hb dX5_movingFault_93 (by decide) ?_
                refine lv_goto (tgt := 98) hx hb dX5_movingFault_94 rfl ?_
                exact kr _ _ _ _ _ _ (gri hf) hI ⟨.int, rfl, rfl⟩ dX5_movingFault_98
              · replace hf := gifn h28 hf
                refine lv_iload hx hb dX5_movingFault_83 (lv_at hl 1 rfl) ?_
                refine lv_if_ne (tgt := 93) hx hb dX5_movingFault_85 rfl (fun h29 => absurd (by decide) h29) (fun h29 => ?_)
                refine lv_iload hx hb dX5_movingFault_88 (lv_at hl 0 rfl) ?_
                refine lv_if_eq (tgt := 97) hx hb dX5_movingFault_90 rfl (fun h30 => absurd h30 (by decide)) (fun h30 => ?_)
                refine lv_iconst (v := 3) hx hb dX5_movingFault_93 (by decide) ?_
                refine lv_goto (tgt := 98) hx hb dX5_movingFault_94 rfl ?_
                exact kr _ _ _ _ _ _ (gri hf) hI ⟨.int, rfl, rfl⟩ dX5_movingFault_98
          · replace hf := gif h15 hf
            refine lv_iconst (v := 1) hx hb dX5_movingFault_45 (by decide) ?_
            refine lv_goto (tgt := 50) hx hb dX5_movingFault_46 rfl ?_
            refine lv_istore (lv' := [(4, .int 1), (0, .ref (E.2.1 o)), (1, .int v1), (2, .int v2), (3, .int v3)]) hx hb dX5_movingFault_50 hl (by decide) rfl (fun ls hl => ?_)
            refine lv_aload_n hx hb dX5_movingFault_52 rfl (lv_at hl 1 rfl) ?_
            refine gt_X5_X5_cargo hC hI ho dX5_movingFault_53 ?_
            refine lv_iload_n hx hb dX5_movingFault_56 rfl (lv_at hl 2 rfl) ?_
            refine lv_iload_n hx hb dX5_movingFault_57 rfl (lv_at hl 4 rfl) ?_
            obtain ⟨r31, hr32, hf⟩ := gbind hf
            have hr32 := C_X6_pileOf l E x  hr32
            refine g_callSNi (rest := [.ref (E.2.1 (o + 1))]) hC hI hr32 Y_X6_pileOf S_X6_pileOf (List.mem_of_getElem? (i := 10) rfl) ⟨rfl, rfl⟩ ⟨Nat.le_of_ble_eq_true rfl, Nat.le_of_ble_eq_true rfl⟩ rfl hl.1 rfl (Nat.le_of_ble_eq_true rfl) dX5_movingFault_58 ⟨Nat.zero_le _, Nat.zero_le _⟩ (fun H locs hI => ?_)
            obtain ⟨r33, hr34, hf⟩ := gbind hf
            have hr34 := C_X0_height l E x ho hr34
            refine g_callVi (rest := []) hC hI hr34 Y_X0_height V_X0_height w621 (rcv_X0 hC hI ho) ⟨rfl, rfl⟩ ⟨Nat.le_of_ble_eq_true rfl, Nat.le_of_ble_eq_true rfl⟩ rfl hl.1 rfl (Nat.le_of_ble_eq_true rfl) dX5_movingFault_61 ⟨Nat.zero_le _, Nat.zero_le _⟩ (fun H locs hI => ?_)
            refine lv_iconst (v := 5) hx hb dX5_movingFault_64 (by decide) ?_
            refine lv_icmp_lt (tgt := 72) hx hb dX5_movingFault_65 rfl (fun h35 => ?_) (fun h35 => ?_)
            · replace hf := gif h35 hf
              refine lv_iconst (v := 0) hx hb dX5_movingFault_72 (by decide) ?_
              refine lv_istore (lv' := [(5, .int 0), (4, .int 1), (0, .ref (E.2.1 o)), (1, .int v1), (2, .int v2), (3, .int v3)]) hx hb dX5_movingFault_73 hl (by decide) rfl (fun ls hl => ?_)
              refine lv_aload_n hx hb dX5_movingFault_75 rfl (lv_at hl 2 rfl) ?_
              refine lv_iload_n hx hb dX5_movingFault_76 rfl (lv_at hl 3 rfl) ?_
              obtain ⟨r36, hr37, hf⟩ := gbind hf
              have hr37 := C_X5_hasShip l E x ho hr37
              refine g_callVi (rest := []) hC hI hr37 Y_X5_hasShip V_X5_hasShip w244 (rcv_X5 hC hI ho) ⟨rfl, rfl⟩ ⟨Nat.le_of_ble_eq_true rfl, Nat.le_of_ble_eq_true rfl⟩ rfl hl.1 rfl (Nat.le_of_ble_eq_true rfl) dX5_movingFault_77 ⟨Nat.zero_le _, Nat.zero_le _⟩ (fun H locs hI => ?_)
              refine lv_if_eq (tgt := 93) hx hb dX5_movingFault_80 rfl (fun h38 => ?_) (fun h38 => ?_)
              · replace hf := gif h38 hf
                refine lv_iconst (v := 3) hx hb dX5_movingFault_93 (by decide) ?_
                refine lv_goto (tgt := 98) hx hb dX5_movingFault_94 rfl ?_
                exact kr _ _ _ _ _ _ (gri hf) hI ⟨.int, rfl, rfl⟩ dX5_movingFault_98
              · replace hf := gifn h38 hf
                refine lv_iload hx hb dX5_movingFault_83 (lv_at hl 1 rfl) ?_
                refine lv_if_ne (tgt := 93) hx hb dX5_movingFault_85 rfl (fun h39 => ?_) (fun h39 => absurd h39 (by decide))
                refine lv_iconst (v := 3) hx hb dX5_movingFault_93 (by decide) ?_
                refine lv_goto (tgt := 98) hx hb dX5_movingFault_94 rfl ?_
                exact kr _ _ _ _ _ _ (gri hf) hI ⟨.int, rfl, rfl⟩ dX5_movingFault_98
            · replace hf := gifn h35 hf
              refine lv_iconst (v := 1) hx hb dX5_movingFault_68 (by decide) ?_
              refine lv_goto (tgt := 73) hx hb dX5_movingFault_69 rfl ?_
              refine lv_istore (lv' := [(5, .int 1), (4, .int 1), (0, .ref (E.2.1 o)), (1, .int v1), (2, .int v2), (3, .int v3)]) hx hb dX5_movingFault_73 hl (by decide) rfl (fun ls hl => ?_)
              refine lv_aload_n hx hb dX5_movingFault_75 rfl (lv_at hl 2 rfl) ?_
              refine lv_iload_n hx hb dX5_movingFault_76 rfl (lv_at hl 3 rfl) ?_
              obtain ⟨r40, hr41, hf⟩ := gbind hf
              have hr41 := C_X5_hasShip l E x ho hr41
              refine g_callVi (rest := []) hC hI hr41 Y_X5_hasShip V_X5_hasShip w244 (rcv_X5 hC hI ho) ⟨rfl, rfl⟩ ⟨Nat.le_of_ble_eq_true rfl, Nat.le_of_ble_eq_true rfl⟩ rfl hl.1 rfl (Nat.le_of_ble_eq_true rfl) dX5_movingFault_77 ⟨Nat.zero_le _, Nat.zero_le _⟩ (fun H locs hI => ?_)
              refine lv_if_eq (tgt := 93) hx hb dX5_movingFault_80 rfl (fun h42 => ?_) (fun h42 => ?_)
              · replace hf := gif h42 hf
                refine lv_iconst (v := 3) hx hb dX5_movingFault_93 (by decide) ?_
                refine lv_goto (tgt := 98) hx hb dX5_movingFault_94 rfl ?_
                exact kr _ _ _ _ _ _ (gri hf) hI ⟨.int, rfl, rfl⟩ dX5_movingFault_98
              · replace hf := gifn h42 hf
                refine lv_iload hx hb dX5_movingFault_83 (lv_at hl 1 rfl) ?_
                refine lv_if_ne (tgt := 93) hx hb dX5_movingFault_85 rfl (fun h43 => ?_) (fun h43 => absurd h43 (by decide))
                refine lv_iconst (v := 3) hx hb dX5_movingFault_93 (by decide) ?_
                refine lv_goto (tgt := 98) hx hb dX5_movingFault_94 rfl ?_
                exact kr _ _ _ _ _ _ (gri hf) hI ⟨.int, rfl, rfl⟩ dX5_movingFault_98
        · replace hf := gif h10 hf
          refine lv_iconst (v := 2) hx hb dX5_movingFault_28 (by decide) ?_
          exact kr _ _ _ _ _ _ (gri hf) hI ⟨.int, rfl, rfl⟩ dX5_movingFault_29
      · replace hf := gif h9 hf
        refine lv_iconst (v := 1) hx hb dX5_movingFault_21 (by decide) ?_
        exact kr _ _ _ _ _ _ (gri hf) hI ⟨.int, rfl, rfl⟩ dX5_movingFault_22
theorem dX5_deliveringFault_0 : decode cX5_deliveringFault 0 = .ok (.aload_n 0, 1) := by decide +kernel
theorem dX5_deliveringFault_1 : decode cX5_deliveringFault 1 = .ok (.getfield 12, 3) := by decide +kernel
theorem dX5_deliveringFault_4 : decode cX5_deliveringFault 4 = .ok (.iload_n 1, 1) := by decide +kernel
theorem dX5_deliveringFault_5 : decode cX5_deliveringFault 5 = .ok (.invokevirtual 99, 3) := by decide +kernel
theorem dX5_deliveringFault_8 : decode cX5_deliveringFault 8 = .ok (.iconst (-1), 1) := by decide +kernel
theorem dX5_deliveringFault_9 : decode cX5_deliveringFault 9 = .ok (.if_icmp .ne 7, 3) := by decide +kernel
theorem dX5_deliveringFault_12 : decode cX5_deliveringFault 12 = .ok (.iconst 4, 1) := by decide +kernel
theorem dX5_deliveringFault_13 : decode cX5_deliveringFault 13 = .ok (.goto 4, 3) := by decide +kernel
theorem dX5_deliveringFault_16 : decode cX5_deliveringFault 16 = .ok (.iconst 0, 1) := by decide +kernel
theorem dX5_deliveringFault_17 : decode cX5_deliveringFault 17 = .ok (.ireturn, 1) := by decide +kernel
set_option maxRecDepth 100000 in
set_option maxHeartbeats 4000000 in
theorem C_X5_deliveringFault (l : Launch) (E : gE) (x : gX) {o : Nat} (ho : gOk o) {v1 : Int32} {M : gM} {r : Int32} (hf : f_X5_deliveringFault o v1 M = some r) : gM0 l E yX5_deliveringFault (.code yX5_deliveringFault cX5_deliveringFault 2 (some .int)) (gR 3 64) M x [.ref (E.2.1 o), .int v1] (some (.int r)) M := by
  refine gMet (by decide +kernel) (Nat.le_of_ble_eq_true rfl) ?_
  intro p e s m args below meth c H locs ls Q hC hl hI kr kv
  replace hC : gC p s m args c cX5_deliveringFault 2 RX5 E := hC
  replace hl : lv_has ls 2 [(0, .ref (E.2.1 o)), (1, .int v1)] := hl
  have hx := hC.1
  have hb := hC.2.1
  unfold f_X5_deliveringFault at hf
  refine lv_aload_n hx hb dX5_deliveringFault_0 rfl (lv_at hl 0 rfl) ?_
  refine gt_X5_X5_cargo hC hI ho dX5_deliveringFault_1 ?_
  refine lv_iload_n hx hb dX5_deliveringFault_4 rfl (lv_at hl 1 rfl) ?_
  obtain ⟨r1, hr2, hf⟩ := gbind hf
  have hr2 := C_X0_yardRowOf l E x ho hr2
  refine g_callVi (rest := []) hC hI hr2 Y_X0_yardRowOf V_X0_yardRowOf w689 (rcv_X0 hC hI ho) ⟨rfl, rfl⟩ ⟨Nat.le_of_ble_eq_true rfl, Nat.le_of_ble_eq_true rfl⟩ rfl hl.1 rfl (Nat.le_of_ble_eq_true rfl) dX5_deliveringFault_5 ⟨Nat.zero_le _, Nat.zero_le _⟩ (fun H locs hI => ?_)
  refine lv_iconst (v := (-1)) hx hb dX5_deliveringFault_8 (by decide) ?_
  refine lv_icmp_ne (tgt := 16) hx hb dX5_deliveringFault_9 rfl (fun h3 => ?_) (fun h3 => ?_)
  · replace hf := gifn h3 hf
    refine lv_iconst (v := 0) hx hb dX5_deliveringFault_16 (by decide) ?_
    exact kr _ _ _ _ _ _ (gri hf) hI ⟨.int, rfl, rfl⟩ dX5_deliveringFault_17
  · replace hf := gif h3 hf
    refine lv_iconst (v := 4) hx hb dX5_deliveringFault_12 (by decide) ?_
    refine lv_goto (tgt := 17) hx hb dX5_deliveringFault_13 rfl ?_
    exact kr _ _ _ _ _ _ (gri hf) hI ⟨.int, rfl, rfl⟩ dX5_deliveringFault_17
theorem dX5_floatsAfter_0 : decode cX5_floatsAfter 0 = .ok (.aload_n 0, 1) := by decide +kernel
theorem dX5_floatsAfter_1 : decode cX5_floatsAfter 1 = .ok (.iload_n 1, 1) := by decide +kernel
theorem dX5_floatsAfter_2 : decode cX5_floatsAfter 2 = .ok (.invokevirtual 64, 3) := by decide +kernel
theorem dX5_floatsAfter_5 : decode cX5_floatsAfter 5 = .ok (.ifCond .eq 27, 3) := by decide +kernel
theorem dX5_floatsAfter_8 : decode cX5_floatsAfter 8 = .ok (.iconst 4, 1) := by decide +kernel
theorem dX5_floatsAfter_9 : decode cX5_floatsAfter 9 = .ok (.aload_n 0, 1) := by decide +kernel
theorem dX5_floatsAfter_10 : decode cX5_floatsAfter 10 = .ok (.getfield 31, 3) := by decide +kernel
theorem dX5_floatsAfter_13 : decode cX5_floatsAfter 13 = .ok (.iload_n 2, 1) := by decide +kernel
theorem dX5_floatsAfter_14 : decode cX5_floatsAfter 14 = .ok (.iadd, 1) := by decide +kernel
theorem dX5_floatsAfter_15 : decode cX5_floatsAfter 15 = .ok (.invokestatic 116, 3) := by decide +kernel
theorem dX5_floatsAfter_18 : decode cX5_floatsAfter 18 = .ok (.iadd, 1) := by decide +kernel
theorem dX5_floatsAfter_19 : decode cX5_floatsAfter 19 = .ok (.aload_n 0, 1) := by decide +kernel
theorem dX5_floatsAfter_20 : decode cX5_floatsAfter 20 = .ok (.getfield 18, 3) := by decide +kernel
theorem dX5_floatsAfter_23 : decode cX5_floatsAfter 23 = .ok (.iload_n 1, 1) := by decide +kernel
theorem dX5_floatsAfter_24 : decode cX5_floatsAfter 24 = .ok (.iaload, 1) := by decide +kernel
theorem dX5_floatsAfter_25 : decode cX5_floatsAfter 25 = .ok (.if_icmp .lt 7, 3) := by decide +kernel
theorem dX5_floatsAfter_28 : decode cX5_floatsAfter 28 = .ok (.iconst 1, 1) := by decide +kernel
theorem dX5_floatsAfter_29 : decode cX5_floatsAfter 29 = .ok (.goto 4, 3) := by decide +kernel
theorem dX5_floatsAfter_32 : decode cX5_floatsAfter 32 = .ok (.iconst 0, 1) := by decide +kernel
theorem dX5_floatsAfter_33 : decode cX5_floatsAfter 33 = .ok (.ireturn, 1) := by decide +kernel
set_option maxRecDepth 100000 in
set_option maxHeartbeats 4000000 in
theorem C_X5_floatsAfter (l : Launch) (E : gE) (x : gX) {o : Nat} (ho : gOk o) {v1 v2 : Int32} {M : gM} {r : Bool} (hf : f_X5_floatsAfter o v1 v2 M = some r) : gM0 l E yX5_floatsAfter (.code yX5_floatsAfter cX5_floatsAfter 3 (some .boolean)) (gR 2 43) M x [.ref (E.2.1 o), .int v1, .int v2] (some (.int (gb r))) M := by
  refine gMet (by decide +kernel) (Nat.le_of_ble_eq_true rfl) ?_
  intro p e s m args below meth c H locs ls Q hC hl hI kr kv
  replace hC : gC p s m args c cX5_floatsAfter 3 RX5 E := hC
  replace hl : lv_has ls 3 [(0, .ref (E.2.1 o)), (1, .int v1), (2, .int v2)] := hl
  have hx := hC.1
  have hb := hC.2.1
  unfold f_X5_floatsAfter at hf
  refine lv_aload_n hx hb dX5_floatsAfter_0 rfl (lv_at hl 0 rfl) ?_
  refine lv_iload_n hx hb dX5_floatsAfter_1 rfl (lv_at hl 1 rfl) ?_
  obtain ⟨r1, hr2, hf⟩ := gbind hf
  have hr2 := C_X5_hasShip l E x ho hr2
  refine g_callVi (rest := []) hC hI hr2 Y_X5_hasShip V_X5_hasShip w244 (rcv_X5 hC hI ho) ⟨rfl, rfl⟩ ⟨Nat.le_of_ble_eq_true rfl, Nat.le_of_ble_eq_true rfl⟩ rfl hl.1 rfl (Nat.le_of_ble_eq_true rfl) dX5_floatsAfter_2 ⟨Nat.zero_le _, Nat.zero_le _⟩ (fun H locs hI => ?_)
  refine lv_if_eq (tgt := 32) hx hb dX5_floatsAfter_5 rfl (fun h3 => ?_) (fun h3 => ?_)
  · replace hf := gif h3 hf
    refine lv_iconst (v := 0) hx hb dX5_floatsAfter_32 (by decide) ?_
    exact kr _ _ _ _ _ _ (grb0 hf) hI ⟨.boolean, rfl, rfl⟩ dX5_floatsAfter_33
  · replace hf := gifn h3 hf
    refine lv_iconst (v := 4) hx hb dX5_floatsAfter_8 (by decide) ?_
    refine lv_aload_n hx hb dX5_floatsAfter_9 rfl (lv_at hl 0 rfl) ?_
    refine gt_X5_X5_hour hC hI ho dX5_floatsAfter_10 ?_
    refine lv_iload_n hx hb dX5_floatsAfter_13 rfl (lv_at hl 2 rfl) ?_
    refine lv_iadd hx hb dX5_floatsAfter_14 ?_
    obtain ⟨r4, hr5, hf⟩ := gbind hf
    have hr5 := C_X6_tideAt l E x  hr5
    refine g_callSNi (rest := [.int 4]) hC hI hr5 Y_X6_tideAt S_X6_tideAt (List.mem_of_getElem? (i := 8) rfl) ⟨rfl, rfl⟩ ⟨Nat.le_of_ble_eq_true rfl, Nat.le_of_ble_eq_true rfl⟩ rfl hl.1 rfl (Nat.le_of_ble_eq_true rfl) dX5_floatsAfter_15 ⟨Nat.zero_le _, Nat.zero_le _⟩ (fun H locs hI => ?_)
    refine lv_iadd hx hb dX5_floatsAfter_18 ?_
    refine lv_aload_n hx hb dX5_floatsAfter_19 rfl (lv_at hl 0 rfl) ?_
    refine gt_X5_X5_draughts hC hI ho dX5_floatsAfter_20 ?_
    refine lv_iload_n hx hb dX5_floatsAfter_23 rfl (lv_at hl 1 rfl) ?_
    obtain ⟨h6, hf⟩ := gifN hf
    refine g_iald hC hI (k := v1.toNatClampNeg) (gIA_8 ho) h6 rfl dX5_floatsAfter_24 ?_
    refine lv_icmp_lt (tgt := 32) hx hb dX5_floatsAfter_25 rfl (fun h7 => ?_) (fun h7 => ?_)
    · replace hf := gif h7 hf
      refine lv_iconst (v := 0) hx hb dX5_floatsAfter_32 (by decide) ?_
      exact kr _ _ _ _ _ _ (grb0 hf) hI ⟨.boolean, rfl, rfl⟩ dX5_floatsAfter_33
    · replace hf := gifn h7 hf
      refine lv_iconst (v := 1) hx hb dX5_floatsAfter_28 (by decide) ?_
      refine lv_goto (tgt := 33) hx hb dX5_floatsAfter_29 rfl ?_
      exact kr _ _ _ _ _ _ (grb1 hf) hI ⟨.boolean, rfl, rfl⟩ dX5_floatsAfter_33
theorem dX5_leavingFault_0 : decode cX5_leavingFault 0 = .ok (.iload_n 1, 1) := by decide +kernel
theorem dX5_leavingFault_1 : decode cX5_leavingFault 1 = .ok (.invokestatic 60, 3) := by decide +kernel
theorem dX5_leavingFault_4 : decode cX5_leavingFault 4 = .ok (.ifCond .ne 5, 3) := by decide +kernel
theorem dX5_leavingFault_7 : decode cX5_leavingFault 7 = .ok (.iconst 1, 1) := by decide +kernel
theorem dX5_leavingFault_8 : decode cX5_leavingFault 8 = .ok (.ireturn, 1) := by decide +kernel
theorem dX5_leavingFault_9 : decode cX5_leavingFault 9 = .ok (.aload_n 0, 1) := by decide +kernel
theorem dX5_leavingFault_10 : decode cX5_leavingFault 10 = .ok (.iload_n 1, 1) := by decide +kernel
theorem dX5_leavingFault_11 : decode cX5_leavingFault 11 = .ok (.invokevirtual 64, 3) := by decide +kernel
theorem dX5_leavingFault_14 : decode cX5_leavingFault 14 = .ok (.ifCond .eq 27, 3) := by decide +kernel
theorem dX5_leavingFault_17 : decode cX5_leavingFault 17 = .ok (.aload_n 0, 1) := by decide +kernel
theorem dX5_leavingFault_18 : decode cX5_leavingFault 18 = .ok (.getfield 12, 3) := by decide +kernel
theorem dX5_leavingFault_21 : decode cX5_leavingFault 21 = .ok (.iload_n 1, 1) := by decide +kernel
theorem dX5_leavingFault_22 : decode cX5_leavingFault 22 = .ok (.invokevirtual 105, 3) := by decide +kernel
theorem dX5_leavingFault_25 : decode cX5_leavingFault 25 = .ok (.ifCond .ne 16, 3) := by decide +kernel
theorem dX5_leavingFault_28 : decode cX5_leavingFault 28 = .ok (.aload_n 0, 1) := by decide +kernel
theorem dX5_leavingFault_29 : decode cX5_leavingFault 29 = .ok (.iload_n 1, 1) := by decide +kernel
theorem dX5_leavingFault_30 : decode cX5_leavingFault 30 = .ok (.iconst 0, 1) := by decide +kernel
theorem dX5_leavingFault_31 : decode cX5_leavingFault 31 = .ok (.invokevirtual 108, 3) := by decide +kernel
theorem dX5_leavingFault_34 : decode cX5_leavingFault 34 = .ok (.ifCond .eq 7, 3) := by decide +kernel
theorem dX5_leavingFault_37 : decode cX5_leavingFault 37 = .ok (.iconst 1, 1) := by decide +kernel
theorem dX5_leavingFault_38 : decode cX5_leavingFault 38 = .ok (.goto 4, 3) := by decide +kernel
theorem dX5_leavingFault_41 : decode cX5_leavingFault 41 = .ok (.iconst 0, 1) := by decide +kernel
theorem dX5_leavingFault_42 : decode cX5_leavingFault 42 = .ok (.istore_n 2, 1) := by decide +kernel
theorem dX5_leavingFault_43 : decode cX5_leavingFault 43 = .ok (.iload_n 2, 1) := by decide +kernel
theorem dX5_leavingFault_44 : decode cX5_leavingFault 44 = .ok (.ifCond .eq 7, 3) := by decide +kernel
theorem dX5_leavingFault_47 : decode cX5_leavingFault 47 = .ok (.iconst 0, 1) := by decide +kernel
theorem dX5_leavingFault_48 : decode cX5_leavingFault 48 = .ok (.goto 4, 3) := by decide +kernel
theorem dX5_leavingFault_51 : decode cX5_leavingFault 51 = .ok (.iconst 3, 1) := by decide +kernel
theorem dX5_leavingFault_52 : decode cX5_leavingFault 52 = .ok (.ireturn, 1) := by decide +kernel
set_option maxRecDepth 100000 in
set_option maxHeartbeats 4000000 in
theorem C_X5_leavingFault (l : Launch) (E : gE) (x : gX) {o : Nat} (ho : gOk o) {v1 : Int32} {M : gM} {r : Int32} (hf : f_X5_leavingFault o v1 M = some r) : gM0 l E yX5_leavingFault (.code yX5_leavingFault cX5_leavingFault 3 (some .int)) (gR 3 65) M x [.ref (E.2.1 o), .int v1] (some (.int r)) M := by
  refine gMet (by decide +kernel) (Nat.le_of_ble_eq_true rfl) ?_
  intro p e s m args below meth c H locs ls Q hC hl hI kr kv
  replace hC : gC p s m args c cX5_leavingFault 3 RX5 E := hC
  replace hl : lv_has ls 3 [(0, .ref (E.2.1 o)), (1, .int v1)] := hl
  have hx := hC.1
  have hb := hC.2.1
  unfold f_X5_leavingFault at hf
  refine lv_iload_n hx hb dX5_leavingFault_0 rfl (lv_at hl 1 rfl) ?_
  obtain ⟨r1, hr2, hf⟩ := gbind hf
  have hr2 := C_X6_isBerth l E x  hr2
  refine g_callSNi (rest := []) hC hI hr2 Y_X6_isBerth S_X6_isBerth (List.mem_of_getElem? (i := 6) rfl) ⟨rfl, rfl⟩ ⟨Nat.le_of_ble_eq_true rfl, Nat.le_of_ble_eq_true rfl⟩ rfl hl.1 rfl (Nat.le_of_ble_eq_true rfl) dX5_leavingFault_1 ⟨Nat.zero_le _, Nat.zero_le _⟩ (fun H locs hI => ?_)
  refine lv_if_ne (tgt := 9) hx hb dX5_leavingFault_4 rfl (fun h3 => ?_) (fun h3 => ?_)
  · replace hf := gifn h3 hf
    refine lv_aload_n hx hb dX5_leavingFault_9 rfl (lv_at hl 0 rfl) ?_
    refine lv_iload_n hx hb dX5_leavingFault_10 rfl (lv_at hl 1 rfl) ?_
    obtain ⟨r4, hr5, hf⟩ := gbind hf
    have hr5 := C_X5_hasShip l E x ho hr5
    refine g_callVi (rest := []) hC hI hr5 Y_X5_hasShip V_X5_hasShip w244 (rcv_X5 hC hI ho) ⟨rfl, rfl⟩ ⟨Nat.le_of_ble_eq_true rfl, Nat.le_of_ble_eq_true rfl⟩ rfl hl.1 rfl (Nat.le_of_ble_eq_true rfl) dX5_leavingFault_11 ⟨Nat.zero_le _, Nat.zero_le _⟩ (fun H locs hI => ?_)
    refine lv_if_eq (tgt := 41) hx hb dX5_leavingFault_14 rfl (fun h6 => ?_) (fun h6 => ?_)
    · replace hf := gif h6 hf
      refine lv_iconst (v := 0) hx hb dX5_leavingFault_41 (by decide) ?_
      refine lv_istore_n (lv' := [(2, .int 0), (0, .ref (E.2.1 o)), (1, .int v1)]) hx hb dX5_leavingFault_42 rfl hl (by decide) rfl (fun ls hl => ?_)
      refine lv_iload_n hx hb dX5_leavingFault_43 rfl (lv_at hl 0 rfl) ?_
      refine lv_if_eq (tgt := 51) hx hb dX5_leavingFault_44 rfl (fun h7 => ?_) (fun h7 => absurd (by decide) h7)
      refine lv_iconst (v := 3) hx hb dX5_leavingFault_51 (by decide) ?_
      exact kr _ _ _ _ _ _ (gri hf) hI ⟨.int, rfl, rfl⟩ dX5_leavingFault_52
    · replace hf := gifn h6 hf
      refine lv_aload_n hx hb dX5_leavingFault_17 rfl (lv_at hl 0 rfl) ?_
      refine gt_X5_X5_cargo hC hI ho dX5_leavingFault_18 ?_
      refine lv_iload_n hx hb dX5_leavingFault_21 rfl (lv_at hl 1 rfl) ?_
      obtain ⟨r8, hr9, hf⟩ := gbind hf
      have hr9 := C_X0_loadOf l E x ho hr9
      refine g_callVi (rest := []) hC hI hr9 Y_X0_loadOf V_X0_loadOf w717 (rcv_X0 hC hI ho) ⟨rfl, rfl⟩ ⟨Nat.le_of_ble_eq_true rfl, Nat.le_of_ble_eq_true rfl⟩ rfl hl.1 rfl (Nat.le_of_ble_eq_true rfl) dX5_leavingFault_22 ⟨Nat.zero_le _, Nat.zero_le _⟩ (fun H locs hI => ?_)
      refine lv_if_ne (tgt := 41) hx hb dX5_leavingFault_25 rfl (fun h10 => ?_) (fun h10 => ?_)
      · replace hf := gifn h10 hf
        refine lv_iconst (v := 0) hx hb dX5_leavingFault_41 (by decide) ?_
        refine lv_istore_n (lv' := [(2, .int 0), (0, .ref (E.2.1 o)), (1, .int v1)]) hx hb dX5_leavingFault_42 rfl hl (by decide) rfl (fun ls hl => ?_)
        refine lv_iload_n hx hb dX5_leavingFault_43 rfl (lv_at hl 0 rfl) ?_
        refine lv_if_eq (tgt := 51) hx hb dX5_leavingFault_44 rfl (fun h11 => ?_) (fun h11 => absurd (by decide) h11)
        refine lv_iconst (v := 3) hx hb dX5_leavingFault_51 (by decide) ?_
        exact kr _ _ _ _ _ _ (gri hf) hI ⟨.int, rfl, rfl⟩ dX5_leavingFault_52
      · replace hf := gif h10 hf
        refine lv_aload_n hx hb dX5_leavingFault_28 rfl (lv_at hl 0 rfl) ?_
        refine lv_iload_n hx hb dX5_leavingFault_29 rfl (lv_at hl 1 rfl) ?_
        refine lv_iconst (v := 0) hx hb dX5_leavingFault_30 (by decide) ?_
        obtain ⟨r12, hr13, hf⟩ := gbind hf
        have hr13 := C_X5_floatsAfter l E x ho hr13
        refine g_callVi (rest := []) hC hI hr13 Y_X5_floatsAfter V_X5_floatsAfter w382 (rcv_X5 hC hI ho) ⟨rfl, rfl⟩ ⟨Nat.le_of_ble_eq_true rfl, Nat.le_of_ble_eq_true rfl⟩ rfl hl.1 rfl (Nat.le_of_ble_eq_true rfl) dX5_leavingFault_31 ⟨Nat.zero_le _, Nat.zero_le _⟩ (fun H locs hI => ?_)
        refine lv_if_eq (tgt := 41) hx hb dX5_leavingFault_34 rfl (fun h14 => ?_) (fun h14 => ?_)
        · replace hf := gif h14 hf
          refine lv_iconst (v := 0) hx hb dX5_leavingFault_41 (by decide) ?_
          refine lv_istore_n (lv' := [(2, .int 0), (0, .ref (E.2.1 o)), (1, .int v1)]) hx hb dX5_leavingFault_42 rfl hl (by decide) rfl (fun ls hl => ?_)
          refine lv_iload_n hx hb dX5_leavingFault_43 rfl (lv_at hl 0 rfl) ?_
          refine lv_if_eq (tgt := 51) hx hb dX5_leavingFault_44 rfl (fun h15 => ?_) (fun h15 => absurd (by decide) h15)
          refine lv_iconst (v := 3) hx hb dX5_leavingFault_51 (by decide) ?_
          exact kr _ _ _ _ _ _ (gri hf) hI ⟨.int, rfl, rfl⟩ dX5_leavingFault_52
        · replace hf := gifn h14 hf
          refine lv_iconst (v := 1) hx hb dX5_leavingFault_37 (by decide) ?_
          refine lv_goto (tgt := 42) hx hb dX5_leavingFault_38 rfl ?_
          refine lv_istore_n (lv' := [(2, .int 1), (0, .ref (E.2.1 o)), (1, .int v1)]) hx hb dX5_leavingFault_42 rfl hl (by decide) rfl (fun ls hl => ?_)
          refine lv_iload_n hx hb dX5_leavingFault_43 rfl (lv_at hl 0 rfl) ?_
          refine lv_if_eq (tgt := 51) hx hb dX5_leavingFault_44 rfl (fun h16 => absurd h16 (by decide)) (fun h16 => ?_)
          refine lv_iconst (v := 0) hx hb dX5_leavingFault_47 (by decide) ?_
          refine lv_goto (tgt := 52) hx hb dX5_leavingFault_48 rfl ?_
          exact kr _ _ _ _ _ _ (gri hf) hI ⟨.int, rfl, rfl⟩ dX5_leavingFault_52
  · replace hf := gif h3 hf
    refine lv_iconst (v := 1) hx hb dX5_leavingFault_7 (by decide) ?_
    exact kr _ _ _ _ _ _ (gri hf) hI ⟨.int, rfl, rfl⟩ dX5_leavingFault_8
theorem dX5_ships_0 : decode cX5_ships 0 = .ok (.iconst 0, 1) := by decide +kernel
theorem dX5_ships_1 : decode cX5_ships 1 = .ok (.istore_n 1, 1) := by decide +kernel
theorem dX5_ships_2 : decode cX5_ships 2 = .ok (.iconst 0, 1) := by decide +kernel
theorem dX5_ships_3 : decode cX5_ships 3 = .ok (.istore_n 2, 1) := by decide +kernel
theorem dX5_ships_4 : decode cX5_ships 4 = .ok (.iload_n 2, 1) := by decide +kernel
theorem dX5_ships_5 : decode cX5_ships 5 = .ok (.iconst 3, 1) := by decide +kernel
theorem dX5_ships_6 : decode cX5_ships 6 = .ok (.if_icmp .ge 20, 3) := by decide +kernel
theorem dX5_ships_9 : decode cX5_ships 9 = .ok (.aload_n 0, 1) := by decide +kernel
theorem dX5_ships_10 : decode cX5_ships 10 = .ok (.iload_n 2, 1) := by decide +kernel
theorem dX5_ships_11 : decode cX5_ships 11 = .ok (.invokevirtual 64, 3) := by decide +kernel
theorem dX5_ships_14 : decode cX5_ships 14 = .ok (.ifCond .eq 6, 3) := by decide +kernel
theorem dX5_ships_17 : decode cX5_ships 17 = .ok (.iinc 1 1, 3) := by decide +kernel
theorem dX5_ships_20 : decode cX5_ships 20 = .ok (.iinc 2 1, 3) := by decide +kernel
theorem dX5_ships_23 : decode cX5_ships 23 = .ok (.goto (-19), 3) := by decide +kernel
theorem dX5_ships_26 : decode cX5_ships 26 = .ok (.iload_n 1, 1) := by decide +kernel
theorem dX5_ships_27 : decode cX5_ships 27 = .ok (.ireturn, 1) := by decide +kernel
set_option maxRecDepth 100000 in
set_option maxHeartbeats 4000000 in
theorem C_X5_ships (l : Launch) (E : gE) (x : gX) {o : Nat} (ho : gOk o) {M : gM} {r : Int32} (hf : f_X5_ships o M = some r) : gM0 l E yX5_ships (.code yX5_ships cX5_ships 3 (some .int)) (gR 2 41) M x [.ref (E.2.1 o)] (some (.int r)) M := by
  refine gMet (by decide +kernel) (Nat.le_of_ble_eq_true rfl) ?_
  intro p e s m args below meth c H locs ls Q hC hl hI kr kv
  replace hC : gC p s m args c cX5_ships 3 RX5 E := hC
  replace hl : lv_has ls 3 [(0, .ref (E.2.1 o))] := hl
  have hx := hC.1
  have hb := hC.2.1
  have L4 : ∀ (n : Nat) (v2 : Int32) (v1 : Int32), f_X5_ships_L4 o M n v2 v1 = some r → ∀ (H : Heap) (locs : List Loc) (ls : Array Slot), gI E s M x H locs → lv_has ls 3 [(2, .int v2), (1, .int v1), (0, .ref (E.2.1 o))] → W p l e (gR 2 41) s m args below meth c H locs 0 0 Q (F0 m 4 ls []) := by
    intro  n
    induction n with
    | zero => intro v2 v1 hf; rw [f_X5_ships_L4] at hf; cases hf
    | succ n ih =>
      intro v2 v1 hf H locs ls hI hl
      rw [f_X5_ships_L4] at hf
      refine lv_iload_n hx hb dX5_ships_4 rfl (lv_at hl 0 rfl) ?_
      refine lv_iconst (v := 3) hx hb dX5_ships_5 (by decide) ?_
      refine lv_icmp_ge (tgt := 26) hx hb dX5_ships_6 rfl (fun h1 => ?_) (fun h1 => ?_)
      · replace hf := gif h1 hf
        refine lv_iload_n hx hb dX5_ships_26 rfl (lv_at hl 1 rfl) ?_
        exact kr _ _ _ _ _ _ (gri hf) hI ⟨.int, rfl, rfl⟩ dX5_ships_27
      · replace hf := gifn h1 hf
        refine lv_aload_n hx hb dX5_ships_9 rfl (lv_at hl 2 rfl) ?_
        refine lv_iload_n hx hb dX5_ships_10 rfl (lv_at hl 0 rfl) ?_
        obtain ⟨r2, hr3, hf⟩ := gbind hf
        have hr3 := C_X5_hasShip l E x ho hr3
        refine g_callVi (rest := []) hC hI hr3 Y_X5_hasShip V_X5_hasShip w244 (rcv_X5 hC hI ho) ⟨rfl, rfl⟩ ⟨Nat.le_of_ble_eq_true rfl, Nat.le_of_ble_eq_true rfl⟩ rfl hl.1 rfl (Nat.le_of_ble_eq_true rfl) dX5_ships_11 ⟨Nat.zero_le _, Nat.zero_le _⟩ (fun H locs hI => ?_)
        refine lv_if_eq (tgt := 20) hx hb dX5_ships_14 rfl (fun h4 => ?_) (fun h4 => ?_)
        · replace hf := gif h4 hf
          refine lv_iinc (k := 0) (v := v2 + 1) (lv' := [(2, .int (v2 + 1)), (1, .int v1), (0, .ref (E.2.1 o))]) hx hb dX5_ships_20 hl rfl rfl (by decide) rfl (fun ls hl => ?_)
          refine lv_goto (tgt := 4) hx hb dX5_ships_23 rfl ?_
          exact ih (v2 + 1) v1 hf _ _ _ hI (lv_sub hl [0, 1, 2] rfl)
        · replace hf := gifn h4 hf
          refine lv_iinc (k := 1) (v := v1 + 1) (lv' := [(1, .int (v1 + 1)), (2, .int v2), (0, .ref (E.2.1 o))]) hx hb dX5_ships_17 hl rfl rfl (by decide) rfl (fun ls hl => ?_)
          refine lv_iinc (k := 1) (v := v2 + 1) (lv' := [(2, .int (v2 + 1)), (1, .int (v1 + 1)), (0, .ref (E.2.1 o))]) hx hb dX5_ships_20 hl rfl rfl (by decide) rfl (fun ls hl => ?_)
          refine lv_goto (tgt := 4) hx hb dX5_ships_23 rfl ?_
          exact ih (v2 + 1) (v1 + 1) hf _ _ _ hI (lv_sub hl [0, 1, 2] rfl)
  unfold f_X5_ships at hf
  refine lv_iconst (v := 0) hx hb dX5_ships_0 (by decide) ?_
  refine lv_istore_n (lv' := [(1, .int 0), (0, .ref (E.2.1 o))]) hx hb dX5_ships_1 rfl hl (by decide) rfl (fun ls hl => ?_)
  refine lv_iconst (v := 0) hx hb dX5_ships_2 (by decide) ?_
  refine lv_istore_n (lv' := [(2, .int 0), (1, .int 0), (0, .ref (E.2.1 o))]) hx hb dX5_ships_3 rfl hl (by decide) rfl (fun ls hl => ?_)
  exact L4 gF 0 0 hf _ _ _ hI (lv_sub hl [0, 1, 2] rfl)
theorem dX5_isMoreUrgent_0 : decode cX5_isMoreUrgent 0 = .ok (.aload_n 0, 1) := by decide +kernel
theorem dX5_isMoreUrgent_1 : decode cX5_isMoreUrgent 1 = .ok (.getfield 22, 3) := by decide +kernel
theorem dX5_isMoreUrgent_4 : decode cX5_isMoreUrgent 4 = .ok (.iload_n 1, 1) := by decide +kernel
theorem dX5_isMoreUrgent_5 : decode cX5_isMoreUrgent 5 = .ok (.iaload, 1) := by decide +kernel
theorem dX5_isMoreUrgent_6 : decode cX5_isMoreUrgent 6 = .ok (.aload_n 0, 1) := by decide +kernel
theorem dX5_isMoreUrgent_7 : decode cX5_isMoreUrgent 7 = .ok (.getfield 22, 3) := by decide +kernel
theorem dX5_isMoreUrgent_10 : decode cX5_isMoreUrgent 10 = .ok (.iload_n 2, 1) := by decide +kernel
theorem dX5_isMoreUrgent_11 : decode cX5_isMoreUrgent 11 = .ok (.iaload, 1) := by decide +kernel
theorem dX5_isMoreUrgent_12 : decode cX5_isMoreUrgent 12 = .ok (.if_icmp .eq 24, 3) := by decide +kernel
theorem dX5_isMoreUrgent_15 : decode cX5_isMoreUrgent 15 = .ok (.aload_n 0, 1) := by decide +kernel
theorem dX5_isMoreUrgent_16 : decode cX5_isMoreUrgent 16 = .ok (.getfield 22, 3) := by decide +kernel
theorem dX5_isMoreUrgent_19 : decode cX5_isMoreUrgent 19 = .ok (.iload_n 1, 1) := by decide +kernel
theorem dX5_isMoreUrgent_20 : decode cX5_isMoreUrgent 20 = .ok (.iaload, 1) := by decide +kernel
theorem dX5_isMoreUrgent_21 : decode cX5_isMoreUrgent 21 = .ok (.aload_n 0, 1) := by decide +kernel
theorem dX5_isMoreUrgent_22 : decode cX5_isMoreUrgent 22 = .ok (.getfield 22, 3) := by decide +kernel
theorem dX5_isMoreUrgent_25 : decode cX5_isMoreUrgent 25 = .ok (.iload_n 2, 1) := by decide +kernel
theorem dX5_isMoreUrgent_26 : decode cX5_isMoreUrgent 26 = .ok (.iaload, 1) := by decide +kernel
theorem dX5_isMoreUrgent_27 : decode cX5_isMoreUrgent 27 = .ok (.if_icmp .ge 7, 3) := by decide +kernel
theorem dX5_isMoreUrgent_30 : decode cX5_isMoreUrgent 30 = .ok (.iconst 1, 1) := by decide +kernel
theorem dX5_isMoreUrgent_31 : decode cX5_isMoreUrgent 31 = .ok (.goto 4, 3) := by decide +kernel
theorem dX5_isMoreUrgent_34 : decode cX5_isMoreUrgent 34 = .ok (.iconst 0, 1) := by decide +kernel
theorem dX5_isMoreUrgent_35 : decode cX5_isMoreUrgent 35 = .ok (.ireturn, 1) := by decide +kernel
theorem dX5_isMoreUrgent_36 : decode cX5_isMoreUrgent 36 = .ok (.aload_n 0, 1) := by decide +kernel
theorem dX5_isMoreUrgent_37 : decode cX5_isMoreUrgent 37 = .ok (.getfield 12, 3) := by decide +kernel
theorem dX5_isMoreUrgent_40 : decode cX5_isMoreUrgent 40 = .ok (.iload_n 1, 1) := by decide +kernel
theorem dX5_isMoreUrgent_41 : decode cX5_isMoreUrgent 41 = .ok (.invokevirtual 105, 3) := by decide +kernel
theorem dX5_isMoreUrgent_44 : decode cX5_isMoreUrgent 44 = .ok (.aload_n 0, 1) := by decide +kernel
theorem dX5_isMoreUrgent_45 : decode cX5_isMoreUrgent 45 = .ok (.getfield 12, 3) := by decide +kernel
theorem dX5_isMoreUrgent_48 : decode cX5_isMoreUrgent 48 = .ok (.iload_n 2, 1) := by decide +kernel
theorem dX5_isMoreUrgent_49 : decode cX5_isMoreUrgent 49 = .ok (.invokevirtual 105, 3) := by decide +kernel
theorem dX5_isMoreUrgent_52 : decode cX5_isMoreUrgent 52 = .ok (.if_icmp .le 7, 3) := by decide +kernel
theorem dX5_isMoreUrgent_55 : decode cX5_isMoreUrgent 55 = .ok (.iconst 1, 1) := by decide +kernel
theorem dX5_isMoreUrgent_56 : decode cX5_isMoreUrgent 56 = .ok (.goto 4, 3) := by decide +kernel
theorem dX5_isMoreUrgent_59 : decode cX5_isMoreUrgent 59 = .ok (.iconst 0, 1) := by decide +kernel
theorem dX5_isMoreUrgent_60 : decode cX5_isMoreUrgent 60 = .ok (.ireturn, 1) := by decide +kernel
set_option maxRecDepth 100000 in
set_option maxHeartbeats 4000000 in
theorem C_X5_isMoreUrgent (l : Launch) (E : gE) (x : gX) {o : Nat} (ho : gOk o) {v1 v2 : Int32} {M : gM} {r : Bool} (hf : f_X5_isMoreUrgent o v1 v2 M = some r) : gM0 l E yX5_isMoreUrgent (.code yX5_isMoreUrgent cX5_isMoreUrgent 3 (some .boolean)) (gR 2 46) M x [.ref (E.2.1 o), .int v1, .int v2] (some (.int (gb r))) M := by
  refine gMet (by decide +kernel) (Nat.le_of_ble_eq_true rfl) ?_
  intro p e s m args below meth c H locs ls Q hC hl hI kr kv
  replace hC : gC p s m args c cX5_isMoreUrgent 3 RX5 E := hC
  replace hl : lv_has ls 3 [(0, .ref (E.2.1 o)), (1, .int v1), (2, .int v2)] := hl
  have hx := hC.1
  have hb := hC.2.1
  unfold f_X5_isMoreUrgent at hf
  refine lv_aload_n hx hb dX5_isMoreUrgent_0 rfl (lv_at hl 0 rfl) ?_
  refine gt_X5_X5_dueHours hC hI ho dX5_isMoreUrgent_1 ?_
  refine lv_iload_n hx hb dX5_isMoreUrgent_4 rfl (lv_at hl 1 rfl) ?_
  obtain ⟨h1, hf⟩ := gifN hf
  refine g_iald hC hI (k := v1.toNatClampNeg) (gIA_9 ho) h1 rfl dX5_isMoreUrgent_5 ?_
  refine lv_aload_n hx hb dX5_isMoreUrgent_6 rfl (lv_at hl 0 rfl) ?_
  refine gt_X5_X5_dueHours hC hI ho dX5_isMoreUrgent_7 ?_
  refine lv_iload_n hx hb dX5_isMoreUrgent_10 rfl (lv_at hl 2 rfl) ?_
  obtain ⟨h2, hf⟩ := gifN hf
  refine g_iald hC hI (k := v2.toNatClampNeg) (gIA_9 ho) h2 rfl dX5_isMoreUrgent_11 ?_
  refine lv_icmp_eq (tgt := 36) hx hb dX5_isMoreUrgent_12 rfl (fun h3 => ?_) (fun h3 => ?_)
  · replace hf := gif h3 hf
    refine lv_aload_n hx hb dX5_isMoreUrgent_36 rfl (lv_at hl 0 rfl) ?_
    refine gt_X5_X5_cargo hC hI ho dX5_isMoreUrgent_37 ?_
    refine lv_iload_n hx hb dX5_isMoreUrgent_40 rfl (lv_at hl 1 rfl) ?_
    obtain ⟨r4, hr5, hf⟩ := gbind hf
    have hr5 := C_X0_loadOf l E x ho hr5
    refine g_callVi (rest := []) hC hI hr5 Y_X0_loadOf V_X0_loadOf w717 (rcv_X0 hC hI ho) ⟨rfl, rfl⟩ ⟨Nat.le_of_ble_eq_true rfl, Nat.le_of_ble_eq_true rfl⟩ rfl hl.1 rfl (Nat.le_of_ble_eq_true rfl) dX5_isMoreUrgent_41 ⟨Nat.zero_le _, Nat.zero_le _⟩ (fun H locs hI => ?_)
    refine lv_aload_n hx hb dX5_isMoreUrgent_44 rfl (lv_at hl 0 rfl) ?_
    refine gt_X5_X5_cargo hC hI ho dX5_isMoreUrgent_45 ?_
    refine lv_iload_n hx hb dX5_isMoreUrgent_48 rfl (lv_at hl 2 rfl) ?_
    obtain ⟨r6, hr7, hf⟩ := gbind hf
    have hr7 := C_X0_loadOf l E x ho hr7
    refine g_callVi (rest := [.int r4]) hC hI hr7 Y_X0_loadOf V_X0_loadOf w717 (rcv_X0 hC hI ho) ⟨rfl, rfl⟩ ⟨Nat.le_of_ble_eq_true rfl, Nat.le_of_ble_eq_true rfl⟩ rfl hl.1 rfl (Nat.le_of_ble_eq_true rfl) dX5_isMoreUrgent_49 ⟨Nat.zero_le _, Nat.zero_le _⟩ (fun H locs hI => ?_)
    refine lv_icmp_le (tgt := 59) hx hb dX5_isMoreUrgent_52 rfl (fun h8 => ?_) (fun h8 => ?_)
    · replace hf := gif h8 hf
      refine lv_iconst (v := 0) hx hb dX5_isMoreUrgent_59 (by decide) ?_
      exact kr _ _ _ _ _ _ (grb0 hf) hI ⟨.boolean, rfl, rfl⟩ dX5_isMoreUrgent_60
    · replace hf := gifn h8 hf
      refine lv_iconst (v := 1) hx hb dX5_isMoreUrgent_55 (by decide) ?_
      refine lv_goto (tgt := 60) hx hb dX5_isMoreUrgent_56 rfl ?_
      exact kr _ _ _ _ _ _ (grb1 hf) hI ⟨.boolean, rfl, rfl⟩ dX5_isMoreUrgent_60
  · replace hf := gifn h3 hf
    refine lv_aload_n hx hb dX5_isMoreUrgent_15 rfl (lv_at hl 0 rfl) ?_
    refine gt_X5_X5_dueHours hC hI ho dX5_isMoreUrgent_16 ?_
    refine lv_iload_n hx hb dX5_isMoreUrgent_19 rfl (lv_at hl 1 rfl) ?_
    obtain ⟨h9, hf⟩ := gifN hf
    refine g_iald hC hI (k := v1.toNatClampNeg) (gIA_9 ho) h9 rfl dX5_isMoreUrgent_20 ?_
    refine lv_aload_n hx hb dX5_isMoreUrgent_21 rfl (lv_at hl 0 rfl) ?_
    refine gt_X5_X5_dueHours hC hI ho dX5_isMoreUrgent_22 ?_
    refine lv_iload_n hx hb dX5_isMoreUrgent_25 rfl (lv_at hl 2 rfl) ?_
    obtain ⟨h10, hf⟩ := gifN hf
    refine g_iald hC hI (k := v2.toNatClampNeg) (gIA_9 ho) h10 rfl dX5_isMoreUrgent_26 ?_
    refine lv_icmp_ge (tgt := 34) hx hb dX5_isMoreUrgent_27 rfl (fun h11 => ?_) (fun h11 => ?_)
    · replace hf := gif h11 hf
      refine lv_iconst (v := 0) hx hb dX5_isMoreUrgent_34 (by decide) ?_
      exact kr _ _ _ _ _ _ (grb0 hf) hI ⟨.boolean, rfl, rfl⟩ dX5_isMoreUrgent_35
    · replace hf := gifn h11 hf
      refine lv_iconst (v := 1) hx hb dX5_isMoreUrgent_30 (by decide) ?_
      refine lv_goto (tgt := 35) hx hb dX5_isMoreUrgent_31 rfl ?_
      exact kr _ _ _ _ _ _ (grb1 hf) hI ⟨.boolean, rfl, rfl⟩ dX5_isMoreUrgent_35
theorem dX5_urgentBerth_0 : decode cX5_urgentBerth 0 = .ok (.iconst (-1), 1) := by decide +kernel
theorem dX5_urgentBerth_1 : decode cX5_urgentBerth 1 = .ok (.istore_n 1, 1) := by decide +kernel
theorem dX5_urgentBerth_2 : decode cX5_urgentBerth 2 = .ok (.iconst 0, 1) := by decide +kernel
theorem dX5_urgentBerth_3 : decode cX5_urgentBerth 3 = .ok (.istore_n 2, 1) := by decide +kernel
theorem dX5_urgentBerth_4 : decode cX5_urgentBerth 4 = .ok (.iload_n 2, 1) := by decide +kernel
theorem dX5_urgentBerth_5 : decode cX5_urgentBerth 5 = .ok (.iconst 3, 1) := by decide +kernel
theorem dX5_urgentBerth_6 : decode cX5_urgentBerth 6 = .ok (.if_icmp .ge 33, 3) := by decide +kernel
theorem dX5_urgentBerth_9 : decode cX5_urgentBerth 9 = .ok (.aload_n 0, 1) := by decide +kernel
theorem dX5_urgentBerth_10 : decode cX5_urgentBerth 10 = .ok (.iload_n 2, 1) := by decide +kernel
theorem dX5_urgentBerth_11 : decode cX5_urgentBerth 11 = .ok (.invokevirtual 64, 3) := by decide +kernel
theorem dX5_urgentBerth_14 : decode cX5_urgentBerth 14 = .ok (.ifCond .eq 19, 3) := by decide +kernel
theorem dX5_urgentBerth_17 : decode cX5_urgentBerth 17 = .ok (.iload_n 1, 1) := by decide +kernel
theorem dX5_urgentBerth_18 : decode cX5_urgentBerth 18 = .ok (.iconst (-1), 1) := by decide +kernel
theorem dX5_urgentBerth_19 : decode cX5_urgentBerth 19 = .ok (.if_icmp .eq 12, 3) := by decide +kernel
theorem dX5_urgentBerth_22 : decode cX5_urgentBerth 22 = .ok (.aload_n 0, 1) := by decide +kernel
theorem dX5_urgentBerth_23 : decode cX5_urgentBerth 23 = .ok (.iload_n 2, 1) := by decide +kernel
theorem dX5_urgentBerth_24 : decode cX5_urgentBerth 24 = .ok (.iload_n 1, 1) := by decide +kernel
theorem dX5_urgentBerth_25 : decode cX5_urgentBerth 25 = .ok (.invokevirtual 124, 3) := by decide +kernel
theorem dX5_urgentBerth_28 : decode cX5_urgentBerth 28 = .ok (.ifCond .eq 5, 3) := by decide +kernel
theorem dX5_urgentBerth_31 : decode cX5_urgentBerth 31 = .ok (.iload_n 2, 1) := by decide +kernel
theorem dX5_urgentBerth_32 : decode cX5_urgentBerth 32 = .ok (.istore_n 1, 1) := by decide +kernel
theorem dX5_urgentBerth_33 : decode cX5_urgentBerth 33 = .ok (.iinc 2 1, 3) := by decide +kernel
theorem dX5_urgentBerth_36 : decode cX5_urgentBerth 36 = .ok (.goto (-32), 3) := by decide +kernel
theorem dX5_urgentBerth_39 : decode cX5_urgentBerth 39 = .ok (.iload_n 1, 1) := by decide +kernel
theorem dX5_urgentBerth_40 : decode cX5_urgentBerth 40 = .ok (.ireturn, 1) := by decide +kernel
set_option maxRecDepth 100000 in
set_option maxHeartbeats 4000000 in
theorem C_X5_urgentBerth (l : Launch) (E : gE) (x : gX) {o : Nat} (ho : gOk o) {M : gM} {r : Int32} (hf : f_X5_urgentBerth o M = some r) : gM0 l E yX5_urgentBerth (.code yX5_urgentBerth cX5_urgentBerth 3 (some .int)) (gR 3 68) M x [.ref (E.2.1 o)] (some (.int r)) M := by
  refine gMet (by decide +kernel) (Nat.le_of_ble_eq_true rfl) ?_
  intro p e s m args below meth c H locs ls Q hC hl hI kr kv
  replace hC : gC p s m args c cX5_urgentBerth 3 RX5 E := hC
  replace hl : lv_has ls 3 [(0, .ref (E.2.1 o))] := hl
  have hx := hC.1
  have hb := hC.2.1
  have L4 : ∀ (n : Nat) (v2 : Int32) (v1 : Int32), f_X5_urgentBerth_L4 o M n v2 v1 = some r → ∀ (H : Heap) (locs : List Loc) (ls : Array Slot), gI E s M x H locs → lv_has ls 3 [(2, .int v2), (1, .int v1), (0, .ref (E.2.1 o))] → W p l e (gR 3 68) s m args below meth c H locs 0 0 Q (F0 m 4 ls []) := by
    intro  n
    induction n with
    | zero => intro v2 v1 hf; rw [f_X5_urgentBerth_L4] at hf; cases hf
    | succ n ih =>
      intro v2 v1 hf H locs ls hI hl
      rw [f_X5_urgentBerth_L4] at hf
      refine lv_iload_n hx hb dX5_urgentBerth_4 rfl (lv_at hl 0 rfl) ?_
      refine lv_iconst (v := 3) hx hb dX5_urgentBerth_5 (by decide) ?_
      refine lv_icmp_ge (tgt := 39) hx hb dX5_urgentBerth_6 rfl (fun h1 => ?_) (fun h1 => ?_)
      · replace hf := gif h1 hf
        refine lv_iload_n hx hb dX5_urgentBerth_39 rfl (lv_at hl 1 rfl) ?_
        exact kr _ _ _ _ _ _ (gri hf) hI ⟨.int, rfl, rfl⟩ dX5_urgentBerth_40
      · replace hf := gifn h1 hf
        refine lv_aload_n hx hb dX5_urgentBerth_9 rfl (lv_at hl 2 rfl) ?_
        refine lv_iload_n hx hb dX5_urgentBerth_10 rfl (lv_at hl 0 rfl) ?_
        obtain ⟨r2, hr3, hf⟩ := gbind hf
        have hr3 := C_X5_hasShip l E x ho hr3
        refine g_callVi (rest := []) hC hI hr3 Y_X5_hasShip V_X5_hasShip w244 (rcv_X5 hC hI ho) ⟨rfl, rfl⟩ ⟨Nat.le_of_ble_eq_true rfl, Nat.le_of_ble_eq_true rfl⟩ rfl hl.1 rfl (Nat.le_of_ble_eq_true rfl) dX5_urgentBerth_11 ⟨Nat.zero_le _, Nat.zero_le _⟩ (fun H locs hI => ?_)
        refine lv_if_eq (tgt := 33) hx hb dX5_urgentBerth_14 rfl (fun h4 => ?_) (fun h4 => ?_)
        · replace hf := gif h4 hf
          refine lv_iinc (k := 0) (v := v2 + 1) (lv' := [(2, .int (v2 + 1)), (1, .int v1), (0, .ref (E.2.1 o))]) hx hb dX5_urgentBerth_33 hl rfl rfl (by decide) rfl (fun ls hl => ?_)
          refine lv_goto (tgt := 4) hx hb dX5_urgentBerth_36 rfl ?_
          exact ih (v2 + 1) v1 hf _ _ _ hI (lv_sub hl [0, 1, 2] rfl)
        · replace hf := gifn h4 hf
          refine lv_iload_n hx hb dX5_urgentBerth_17 rfl (lv_at hl 1 rfl) ?_
          refine lv_iconst (v := (-1)) hx hb dX5_urgentBerth_18 (by decide) ?_
          refine lv_icmp_eq (tgt := 31) hx hb dX5_urgentBerth_19 rfl (fun h5 => ?_) (fun h5 => ?_)
          · replace hf := gif h5 hf
            refine lv_iload_n hx hb dX5_urgentBerth_31 rfl (lv_at hl 0 rfl) ?_
            refine lv_istore_n (lv' := [(1, .int v2), (2, .int v2), (0, .ref (E.2.1 o))]) hx hb dX5_urgentBerth_32 rfl hl (by decide) rfl (fun ls hl => ?_)
            refine lv_iinc (k := 1) (v := v2 + 1) (lv' := [(2, .int (v2 + 1)), (1, .int v2), (0, .ref (E.2.1 o))]) hx hb dX5_urgentBerth_33 hl rfl rfl (by decide) rfl (fun ls hl => ?_)
            refine lv_goto (tgt := 4) hx hb dX5_urgentBerth_36 rfl ?_
            exact ih (v2 + 1) v2 hf _ _ _ hI (lv_sub hl [0, 1, 2] rfl)
          · replace hf := gifn h5 hf
            refine lv_aload_n hx hb dX5_urgentBerth_22 rfl (lv_at hl 2 rfl) ?_
            refine lv_iload_n hx hb dX5_urgentBerth_23 rfl (lv_at hl 0 rfl) ?_
            refine lv_iload_n hx hb dX5_urgentBerth_24 rfl (lv_at hl 1 rfl) ?_
            obtain ⟨r6, hr7, hf⟩ := gbind hf
            have hr7 := C_X5_isMoreUrgent l E x ho hr7
            refine g_callVi (rest := []) hC hI hr7 Y_X5_isMoreUrgent V_X5_isMoreUrgent w808 (rcv_X5 hC hI ho) ⟨rfl, rfl⟩ ⟨Nat.le_of_ble_eq_true rfl, Nat.le_of_ble_eq_true rfl⟩ rfl hl.1 rfl (Nat.le_of_ble_eq_true rfl) dX5_urgentBerth_25 ⟨Nat.zero_le _, Nat.zero_le _⟩ (fun H locs hI => ?_)
            refine lv_if_eq (tgt := 33) hx hb dX5_urgentBerth_28 rfl (fun h8 => ?_) (fun h8 => ?_)
            · replace hf := gif h8 hf
              refine lv_iinc (k := 0) (v := v2 + 1) (lv' := [(2, .int (v2 + 1)), (1, .int v1), (0, .ref (E.2.1 o))]) hx hb dX5_urgentBerth_33 hl rfl rfl (by decide) rfl (fun ls hl => ?_)
              refine lv_goto (tgt := 4) hx hb dX5_urgentBerth_36 rfl ?_
              exact ih (v2 + 1) v1 hf _ _ _ hI (lv_sub hl [0, 1, 2] rfl)
            · replace hf := gifn h8 hf
              refine lv_iload_n hx hb dX5_urgentBerth_31 rfl (lv_at hl 0 rfl) ?_
              refine lv_istore_n (lv' := [(1, .int v2), (2, .int v2), (0, .ref (E.2.1 o))]) hx hb dX5_urgentBerth_32 rfl hl (by decide) rfl (fun ls hl => ?_)
              refine lv_iinc (k := 1) (v := v2 + 1) (lv' := [(2, .int (v2 + 1)), (1, .int v2), (0, .ref (E.2.1 o))]) hx hb dX5_urgentBerth_33 hl rfl rfl (by decide) rfl (fun ls hl => ?_)
              refine lv_goto (tgt := 4) hx hb dX5_urgentBerth_36 rfl ?_
              exact ih (v2 + 1) v2 hf _ _ _ hI (lv_sub hl [0, 1, 2] rfl)
  unfold f_X5_urgentBerth at hf
  refine lv_iconst (v := (-1)) hx hb dX5_urgentBerth_0 (by decide) ?_
  refine lv_istore_n (lv' := [(1, .int (-1)), (0, .ref (E.2.1 o))]) hx hb dX5_urgentBerth_1 rfl hl (by decide) rfl (fun ls hl => ?_)
  refine lv_iconst (v := 0) hx hb dX5_urgentBerth_2 (by decide) ?_
  refine lv_istore_n (lv' := [(2, .int 0), (1, .int (-1)), (0, .ref (E.2.1 o))]) hx hb dX5_urgentBerth_3 rfl hl (by decide) rfl (fun ls hl => ?_)
  exact L4 gF 0 (-1) hf _ _ _ hI (lv_sub hl [0, 1, 2] rfl)
theorem dX5_waitHourByHour_0 : decode cX5_waitHourByHour 0 = .ok (.iconst 0, 1) := by decide +kernel
theorem dX5_waitHourByHour_1 : decode cX5_waitHourByHour 1 = .ok (.istore_n 2, 1) := by decide +kernel
theorem dX5_waitHourByHour_2 : decode cX5_waitHourByHour 2 = .ok (.iload_n 2, 1) := by decide +kernel
theorem dX5_waitHourByHour_3 : decode cX5_waitHourByHour 3 = .ok (.bipush 12, 2) := by decide +kernel
theorem dX5_waitHourByHour_5 : decode cX5_waitHourByHour 5 = .ok (.if_icmp .ge 18, 3) := by decide +kernel
theorem dX5_waitHourByHour_8 : decode cX5_waitHourByHour 8 = .ok (.aload_n 0, 1) := by decide +kernel
theorem dX5_waitHourByHour_9 : decode cX5_waitHourByHour 9 = .ok (.iload_n 1, 1) := by decide +kernel
theorem dX5_waitHourByHour_10 : decode cX5_waitHourByHour 10 = .ok (.iload_n 2, 1) := by decide +kernel
theorem dX5_waitHourByHour_11 : decode cX5_waitHourByHour 11 = .ok (.invokevirtual 108, 3) := by decide +kernel
theorem dX5_waitHourByHour_14 : decode cX5_waitHourByHour 14 = .ok (.ifCond .ne 9, 3) := by decide +kernel
theorem dX5_waitHourByHour_17 : decode cX5_waitHourByHour 17 = .ok (.iinc 2 1, 3) := by decide +kernel
theorem dX5_waitHourByHour_20 : decode cX5_waitHourByHour 20 = .ok (.goto (-18), 3) := by decide +kernel
theorem dX5_waitHourByHour_23 : decode cX5_waitHourByHour 23 = .ok (.iload_n 2, 1) := by decide +kernel
theorem dX5_waitHourByHour_24 : decode cX5_waitHourByHour 24 = .ok (.ireturn, 1) := by decide +kernel
set_option maxRecDepth 100000 in
set_option maxHeartbeats 4000000 in
theorem C_X5_waitHourByHour (l : Launch) (E : gE) (x : gX) {o : Nat} (ho : gOk o) {v1 : Int32} {M : gM} {r : Int32} (hf : f_X5_waitHourByHour o v1 M = some r) : gM0 l E yX5_waitHourByHour (.code yX5_waitHourByHour cX5_waitHourByHour 3 (some .int)) (gR 3 65) M x [.ref (E.2.1 o), .int v1] (some (.int r)) M := by
  refine gMet (by decide +kernel) (Nat.le_of_ble_eq_true rfl) ?_
  intro p e s m args below meth c H locs ls Q hC hl hI kr kv
  replace hC : gC p s m args c cX5_waitHourByHour 3 RX5 E := hC
  replace hl : lv_has ls 3 [(0, .ref (E.2.1 o)), (1, .int v1)] := hl
  have hx := hC.1
  have hb := hC.2.1
  have L2 : ∀ (v1 : Int32) (n : Nat) (v2 : Int32), f_X5_waitHourByHour_L2 o M v1 n v2 = some r → ∀ (H : Heap) (locs : List Loc) (ls : Array Slot), gI E s M x H locs → lv_has ls 3 [(2, .int v2), (0, .ref (E.2.1 o)), (1, .int v1)] → W p l e (gR 3 65) s m args below meth c H locs 0 0 Q (F0 m 2 ls []) := by
    intro v1 n
    induction n with
    | zero => intro v2 hf; rw [f_X5_waitHourByHour_L2] at hf; cases hf
    | succ n ih =>
      intro v2 hf H locs ls hI hl
      rw [f_X5_waitHourByHour_L2] at hf
      refine lv_iload_n hx hb dX5_waitHourByHour_2 rfl (lv_at hl 0 rfl) ?_
      refine lv_bipush (v := 12) hx hb dX5_waitHourByHour_3 (by decide) ?_
      refine lv_icmp_ge (tgt := 23) hx hb dX5_waitHourByHour_5 rfl (fun h1 => ?_) (fun h1 => ?_)
      · replace hf := gif h1 hf
        refine lv_iload_n hx hb dX5_waitHourByHour_23 rfl (lv_at hl 0 rfl) ?_
        exact kr _ _ _ _ _ _ (gri hf) hI ⟨.int, rfl, rfl⟩ dX5_waitHourByHour_24
      · replace hf := gifn h1 hf
        refine lv_aload_n hx hb dX5_waitHourByHour_8 rfl (lv_at hl 1 rfl) ?_
        refine lv_iload_n hx hb dX5_waitHourByHour_9 rfl (lv_at hl 2 rfl) ?_
        refine lv_iload_n hx hb dX5_waitHourByHour_10 rfl (lv_at hl 0 rfl) ?_
        obtain ⟨r2, hr3, hf⟩ := gbind hf
        have hr3 := C_X5_floatsAfter l E x ho hr3
        refine g_callVi (rest := []) hC hI hr3 Y_X5_floatsAfter V_X5_floatsAfter w382 (rcv_X5 hC hI ho) ⟨rfl, rfl⟩ ⟨Nat.le_of_ble_eq_true rfl, Nat.le_of_ble_eq_true rfl⟩ rfl hl.1 rfl (Nat.le_of_ble_eq_true rfl) dX5_waitHourByHour_11 ⟨Nat.zero_le _, Nat.zero_le _⟩ (fun H locs hI => ?_)
        refine lv_if_ne (tgt := 23) hx hb dX5_waitHourByHour_14 rfl (fun h4 => ?_) (fun h4 => ?_)
        · replace hf := gifn h4 hf
          refine lv_iload_n hx hb dX5_waitHourByHour_23 rfl (lv_at hl 0 rfl) ?_
          exact kr _ _ _ _ _ _ (gri hf) hI ⟨.int, rfl, rfl⟩ dX5_waitHourByHour_24
        · replace hf := gif h4 hf
          refine lv_iinc (k := 0) (v := v2 + 1) (lv' := [(2, .int (v2 + 1)), (0, .ref (E.2.1 o)), (1, .int v1)]) hx hb dX5_waitHourByHour_17 hl rfl rfl (by decide) rfl (fun ls hl => ?_)
          refine lv_goto (tgt := 2) hx hb dX5_waitHourByHour_20 rfl ?_
          exact ih (v2 + 1) hf _ _ _ hI (lv_sub hl [0, 1, 2] rfl)
  unfold f_X5_waitHourByHour at hf
  refine lv_iconst (v := 0) hx hb dX5_waitHourByHour_0 (by decide) ?_
  refine lv_istore_n (lv' := [(2, .int 0), (0, .ref (E.2.1 o)), (1, .int v1)]) hx hb dX5_waitHourByHour_1 rfl hl (by decide) rfl (fun ls hl => ?_)
  exact L2 v1 gF 0 hf _ _ _ hI (lv_sub hl [0, 1, 2] rfl)
theorem dX5_waitByTide_0 : decode cX5_waitByTide 0 = .ok (.aload_n 0, 1) := by decide +kernel
theorem dX5_waitByTide_1 : decode cX5_waitByTide 1 = .ok (.iload_n 1, 1) := by decide +kernel
theorem dX5_waitByTide_2 : decode cX5_waitByTide 2 = .ok (.invokevirtual 64, 3) := by decide +kernel
theorem dX5_waitByTide_5 : decode cX5_waitByTide 5 = .ok (.ifCond .eq 14, 3) := by decide +kernel
theorem dX5_waitByTide_8 : decode cX5_waitByTide 8 = .ok (.aload_n 0, 1) := by decide +kernel
theorem dX5_waitByTide_9 : decode cX5_waitByTide 9 = .ok (.getfield 18, 3) := by decide +kernel
theorem dX5_waitByTide_12 : decode cX5_waitByTide 12 = .ok (.iload_n 1, 1) := by decide +kernel
theorem dX5_waitByTide_13 : decode cX5_waitByTide 13 = .ok (.iaload, 1) := by decide +kernel
theorem dX5_waitByTide_14 : decode cX5_waitByTide 14 = .ok (.iconst 4, 1) := by decide +kernel
theorem dX5_waitByTide_15 : decode cX5_waitByTide 15 = .ok (.isub, 1) := by decide +kernel
theorem dX5_waitByTide_16 : decode cX5_waitByTide 16 = .ok (.goto 4, 3) := by decide +kernel
theorem dX5_waitByTide_19 : decode cX5_waitByTide 19 = .ok (.iconst 0, 1) := by decide +kernel
theorem dX5_waitByTide_20 : decode cX5_waitByTide 20 = .ok (.istore_n 2, 1) := by decide +kernel
theorem dX5_waitByTide_21 : decode cX5_waitByTide 21 = .ok (.aload_n 0, 1) := by decide +kernel
theorem dX5_waitByTide_22 : decode cX5_waitByTide 22 = .ok (.getfield 31, 3) := by decide +kernel
theorem dX5_waitByTide_25 : decode cX5_waitByTide 25 = .ok (.bipush 12, 2) := by decide +kernel
theorem dX5_waitByTide_27 : decode cX5_waitByTide 27 = .ok (.invokestatic 119, 3) := by decide +kernel
theorem dX5_waitByTide_30 : decode cX5_waitByTide 30 = .ok (.istore_n 3, 1) := by decide +kernel
theorem dX5_waitByTide_31 : decode cX5_waitByTide 31 = .ok (.iload_n 2, 1) := by decide +kernel
theorem dX5_waitByTide_32 : decode cX5_waitByTide 32 = .ok (.ifCond .gt 5, 3) := by decide +kernel
theorem dX5_waitByTide_35 : decode cX5_waitByTide 35 = .ok (.iconst 0, 1) := by decide +kernel
theorem dX5_waitByTide_36 : decode cX5_waitByTide 36 = .ok (.ireturn, 1) := by decide +kernel
theorem dX5_waitByTide_37 : decode cX5_waitByTide 37 = .ok (.iload_n 3, 1) := by decide +kernel
theorem dX5_waitByTide_38 : decode cX5_waitByTide 38 = .ok (.iload_n 2, 1) := by decide +kernel
theorem dX5_waitByTide_39 : decode cX5_waitByTide 39 = .ok (.if_icmp .ge 7, 3) := by decide +kernel
theorem dX5_waitByTide_42 : decode cX5_waitByTide 42 = .ok (.iload_n 2, 1) := by decide +kernel
theorem dX5_waitByTide_43 : decode cX5_waitByTide 43 = .ok (.iload_n 3, 1) := by decide +kernel
theorem dX5_waitByTide_44 : decode cX5_waitByTide 44 = .ok (.isub, 1) := by decide +kernel
theorem dX5_waitByTide_45 : decode cX5_waitByTide 45 = .ok (.ireturn, 1) := by decide +kernel
theorem dX5_waitByTide_46 : decode cX5_waitByTide 46 = .ok (.iload_n 3, 1) := by decide +kernel
theorem dX5_waitByTide_47 : decode cX5_waitByTide 47 = .ok (.bipush 12, 2) := by decide +kernel
theorem dX5_waitByTide_49 : decode cX5_waitByTide 49 = .ok (.iload_n 2, 1) := by decide +kernel
theorem dX5_waitByTide_50 : decode cX5_waitByTide 50 = .ok (.isub, 1) := by decide +kernel
theorem dX5_waitByTide_51 : decode cX5_waitByTide 51 = .ok (.if_icmp .gt 7, 3) := by decide +kernel
theorem dX5_waitByTide_54 : decode cX5_waitByTide 54 = .ok (.iconst 0, 1) := by decide +kernel
theorem dX5_waitByTide_55 : decode cX5_waitByTide 55 = .ok (.goto 9, 3) := by decide +kernel
theorem dX5_waitByTide_58 : decode cX5_waitByTide 58 = .ok (.bipush 12, 2) := by decide +kernel
theorem dX5_waitByTide_60 : decode cX5_waitByTide 60 = .ok (.iload_n 3, 1) := by decide +kernel
theorem dX5_waitByTide_61 : decode cX5_waitByTide 61 = .ok (.isub, 1) := by decide +kernel
theorem dX5_waitByTide_62 : decode cX5_waitByTide 62 = .ok (.iload_n 2, 1) := by decide +kernel
theorem dX5_waitByTide_63 : decode cX5_waitByTide 63 = .ok (.iadd, 1) := by decide +kernel
theorem dX5_waitByTide_64 : decode cX5_waitByTide 64 = .ok (.ireturn, 1) := by decide +kernel
set_option maxRecDepth 100000 in
set_option maxHeartbeats 4000000 in
theorem C_X5_waitByTide (l : Launch) (E : gE) (x : gX) {o : Nat} (ho : gOk o) {v1 : Int32} {M : gM} {r : Int32} (hf : f_X5_waitByTide o v1 M = some r) : gM0 l E yX5_waitByTide (.code yX5_waitByTide cX5_waitByTide 4 (some .int)) (gR 2 41) M x [.ref (E.2.1 o), .int v1] (some (.int r)) M := by
  refine gMet (by decide +kernel) (Nat.le_of_ble_eq_true rfl) ?_
  intro p e s m args below meth c H locs ls Q hC hl hI kr kv
  replace hC : gC p s m args c cX5_waitByTide 4 RX5 E := hC
  replace hl : lv_has ls 4 [(0, .ref (E.2.1 o)), (1, .int v1)] := hl
  have hx := hC.1
  have hb := hC.2.1
  unfold f_X5_waitByTide at hf
  refine lv_aload_n hx hb dX5_waitByTide_0 rfl (lv_at hl 0 rfl) ?_
  refine lv_iload_n hx hb dX5_waitByTide_1 rfl (lv_at hl 1 rfl) ?_
  obtain ⟨r1, hr2, hf⟩ := gbind hf
  have hr2 := C_X5_hasShip l E x ho hr2
  refine g_callVi (rest := []) hC hI hr2 Y_X5_hasShip V_X5_hasShip w244 (rcv_X5 hC hI ho) ⟨rfl, rfl⟩ ⟨Nat.le_of_ble_eq_true rfl, Nat.le_of_ble_eq_true rfl⟩ rfl hl.1 rfl (Nat.le_of_ble_eq_true rfl) dX5_waitByTide_2 ⟨Nat.zero_le _, Nat.zero_le _⟩ (fun H locs hI => ?_)
  refine lv_if_eq (tgt := 19) hx hb dX5_waitByTide_5 rfl (fun h3 => ?_) (fun h3 => ?_)
  · replace hf := gif h3 hf
    refine lv_iconst (v := 0) hx hb dX5_waitByTide_19 (by decide) ?_
    refine lv_istore_n (lv' := [(2, .int 0), (0, .ref (E.2.1 o)), (1, .int v1)]) hx hb dX5_waitByTide_20 rfl hl (by decide) rfl (fun ls hl => ?_)
    refine lv_aload_n hx hb dX5_waitByTide_21 rfl (lv_at hl 1 rfl) ?_
    refine gt_X5_X5_hour hC hI ho dX5_waitByTide_22 ?_
    refine lv_bipush (v := 12) hx hb dX5_waitByTide_25 (by decide) ?_
    obtain ⟨r4, hr5, hf⟩ := gbind hf
    have hr5 := C_J9_floorMod_7cf53 l E x  hr5
    refine g_callSi (rest := []) hC hI hr5 Y_J9_floorMod_7cf53 S_J9_floorMod_7cf53 w391 ⟨rfl, rfl⟩ ⟨Nat.le_of_ble_eq_true rfl, Nat.le_of_ble_eq_true rfl⟩ rfl hl.1 rfl (Nat.le_of_ble_eq_true rfl) dX5_waitByTide_27 ⟨Nat.zero_le _, Nat.zero_le _⟩ (fun H locs hI => ?_)
    refine lv_istore_n (lv' := [(3, .int r4), (2, .int 0), (0, .ref (E.2.1 o)), (1, .int v1)]) hx hb dX5_waitByTide_30 rfl hl (by decide) rfl (fun ls hl => ?_)
    refine lv_iload_n hx hb dX5_waitByTide_31 rfl (lv_at hl 1 rfl) ?_
    refine lv_if_gt (tgt := 37) hx hb dX5_waitByTide_32 rfl (fun h6 => absurd h6 (by decide)) (fun h6 => ?_)
    refine lv_iconst (v := 0) hx hb dX5_waitByTide_35 (by decide) ?_
    exact kr _ _ _ _ _ _ (gri hf) hI ⟨.int, rfl, rfl⟩ dX5_waitByTide_36
  · replace hf := gifn h3 hf
    refine lv_aload_n hx hb dX5_waitByTide_8 rfl (lv_at hl 0 rfl) ?_
    refine gt_X5_X5_draughts hC hI ho dX5_waitByTide_9 ?_
    refine lv_iload_n hx hb dX5_waitByTide_12 rfl (lv_at hl 1 rfl) ?_
    obtain ⟨h7, hf⟩ := gifN hf
    refine g_iald hC hI (k := v1.toNatClampNeg) (gIA_8 ho) h7 rfl dX5_waitByTide_13 ?_
    refine lv_iconst (v := 4) hx hb dX5_waitByTide_14 (by decide) ?_
    refine lv_isub hx hb dX5_waitByTide_15 ?_
    refine lv_goto (tgt := 20) hx hb dX5_waitByTide_16 rfl ?_
    obtain ⟨z8, ez8, hf⟩ := glet hf
    refine g_top ez8 ?_
    refine lv_istore_n (lv' := [(2, .int z8), (0, .ref (E.2.1 o)), (1, .int v1)]) hx hb dX5_waitByTide_20 rfl hl (by decide) rfl (fun ls hl => ?_)
    refine lv_aload_n hx hb dX5_waitByTide_21 rfl (lv_at hl 1 rfl) ?_
    refine gt_X5_X5_hour hC hI ho dX5_waitByTide_22 ?_
    refine lv_bipush (v := 12) hx hb dX5_waitByTide_25 (by decide) ?_
    obtain ⟨r9, hr10, hf⟩ := gbind hf
    have hr10 := C_J9_floorMod_7cf53 l E x  hr10
    refine g_callSi (rest := []) hC hI hr10 Y_J9_floorMod_7cf53 S_J9_floorMod_7cf53 w391 ⟨rfl, rfl⟩ ⟨Nat.le_of_ble_eq_true rfl, Nat.le_of_ble_eq_true rfl⟩ rfl hl.1 rfl (Nat.le_of_ble_eq_true rfl) dX5_waitByTide_27 ⟨Nat.zero_le _, Nat.zero_le _⟩ (fun H locs hI => ?_)
    refine lv_istore_n (lv' := [(3, .int r9), (2, .int z8), (0, .ref (E.2.1 o)), (1, .int v1)]) hx hb dX5_waitByTide_30 rfl hl (by decide) rfl (fun ls hl => ?_)
    refine lv_iload_n hx hb dX5_waitByTide_31 rfl (lv_at hl 1 rfl) ?_
    refine lv_if_gt (tgt := 37) hx hb dX5_waitByTide_32 rfl (fun h11 => ?_) (fun h11 => ?_)
    · replace hf := gif h11 hf
      refine lv_iload_n hx hb dX5_waitByTide_37 rfl (lv_at hl 0 rfl) ?_
      refine lv_iload_n hx hb dX5_waitByTide_38 rfl (lv_at hl 1 rfl) ?_
      refine lv_icmp_ge (tgt := 46) hx hb dX5_waitByTide_39 rfl (fun h12 => ?_) (fun h12 => ?_)
      · replace hf := gif h12 hf
        refine lv_iload_n hx hb dX5_waitByTide_46 rfl (lv_at hl 0 rfl) ?_
        refine lv_bipush (v := 12) hx hb dX5_waitByTide_47 (by decide) ?_
        refine lv_iload_n hx hb dX5_waitByTide_49 rfl (lv_at hl 1 rfl) ?_
        refine lv_isub hx hb dX5_waitByTide_50 ?_
        refine lv_icmp_gt (tgt := 58) hx hb dX5_waitByTide_51 rfl (fun h13 => ?_) (fun h13 => ?_)
        · replace hf := gif h13 hf
          refine lv_bipush (v := 12) hx hb dX5_waitByTide_58 (by decide) ?_
          refine lv_iload_n hx hb dX5_waitByTide_60 rfl (lv_at hl 0 rfl) ?_
          refine lv_isub hx hb dX5_waitByTide_61 ?_
          refine lv_iload_n hx hb dX5_waitByTide_62 rfl (lv_at hl 1 rfl) ?_
          refine lv_iadd hx hb dX5_waitByTide_63 ?_
          exact kr _ _ _ _ _ _ (gri hf) hI ⟨.int, rfl, rfl⟩ dX5_waitByTide_64
        · replace hf := gifn h13 hf
          refine lv_iconst (v := 0) hx hb dX5_waitByTide_54 (by decide) ?_
          refine lv_goto (tgt := 64) hx hb dX5_waitByTide_55 rfl ?_
          exact kr _ _ _ _ _ _ (gri hf) hI ⟨.int, rfl, rfl⟩ dX5_waitByTide_64
      · replace hf := gifn h12 hf
        refine lv_iload_n hx hb dX5_waitByTide_42 rfl (lv_at hl 1 rfl) ?_
        refine lv_iload_n hx hb dX5_waitByTide_43 rfl (lv_at hl 0 rfl) ?_
        refine lv_isub hx hb dX5_waitByTide_44 ?_
        exact kr _ _ _ _ _ _ (gri hf) hI ⟨.int, rfl, rfl⟩ dX5_waitByTide_45
    · replace hf := gifn h11 hf
      refine lv_iconst (v := 0) hx hb dX5_waitByTide_35 (by decide) ?_
      exact kr _ _ _ _ _ _ (gri hf) hI ⟨.int, rfl, rfl⟩ dX5_waitByTide_36
theorem dX5_shipsAgree_0 : decode cX5_shipsAgree 0 = .ok (.iconst 0, 1) := by decide +kernel
theorem dX5_shipsAgree_1 : decode cX5_shipsAgree 1 = .ok (.istore_n 1, 1) := by decide +kernel
theorem dX5_shipsAgree_2 : decode cX5_shipsAgree 2 = .ok (.iload_n 1, 1) := by decide +kernel
theorem dX5_shipsAgree_3 : decode cX5_shipsAgree 3 = .ok (.iconst 3, 1) := by decide +kernel
theorem dX5_shipsAgree_4 : decode cX5_shipsAgree 4 = .ok (.if_icmp .ge 71, 3) := by decide +kernel
theorem dX5_shipsAgree_7 : decode cX5_shipsAgree 7 = .ok (.aload_n 0, 1) := by decide +kernel
theorem dX5_shipsAgree_8 : decode cX5_shipsAgree 8 = .ok (.getfield 12, 3) := by decide +kernel
theorem dX5_shipsAgree_11 : decode cX5_shipsAgree 11 = .ok (.iload_n 1, 1) := by decide +kernel
theorem dX5_shipsAgree_12 : decode cX5_shipsAgree 12 = .ok (.invokevirtual 127, 3) := by decide +kernel
theorem dX5_shipsAgree_15 : decode cX5_shipsAgree 15 = .ok (.aload_n 0, 1) := by decide +kernel
theorem dX5_shipsAgree_16 : decode cX5_shipsAgree 16 = .ok (.getfield 12, 3) := by decide +kernel
theorem dX5_shipsAgree_19 : decode cX5_shipsAgree 19 = .ok (.iload_n 1, 1) := by decide +kernel
theorem dX5_shipsAgree_20 : decode cX5_shipsAgree 20 = .ok (.invokevirtual 130, 3) := by decide +kernel
theorem dX5_shipsAgree_23 : decode cX5_shipsAgree 23 = .ok (.if_icmp .ne 7, 3) := by decide +kernel
theorem dX5_shipsAgree_26 : decode cX5_shipsAgree 26 = .ok (.iconst 1, 1) := by decide +kernel
theorem dX5_shipsAgree_27 : decode cX5_shipsAgree 27 = .ok (.goto 4, 3) := by decide +kernel
theorem dX5_shipsAgree_30 : decode cX5_shipsAgree 30 = .ok (.iconst 0, 1) := by decide +kernel
theorem dX5_shipsAgree_31 : decode cX5_shipsAgree 31 = .ok (.istore_n 2, 1) := by decide +kernel
theorem dX5_shipsAgree_32 : decode cX5_shipsAgree 32 = .ok (.aload_n 0, 1) := by decide +kernel
theorem dX5_shipsAgree_33 : decode cX5_shipsAgree 33 = .ok (.iload_n 1, 1) := by decide +kernel
theorem dX5_shipsAgree_34 : decode cX5_shipsAgree 34 = .ok (.invokevirtual 133, 3) := by decide +kernel
theorem dX5_shipsAgree_37 : decode cX5_shipsAgree 37 = .ok (.aload_n 0, 1) := by decide +kernel
theorem dX5_shipsAgree_38 : decode cX5_shipsAgree 38 = .ok (.iload_n 1, 1) := by decide +kernel
theorem dX5_shipsAgree_39 : decode cX5_shipsAgree 39 = .ok (.invokevirtual 136, 3) := by decide +kernel
theorem dX5_shipsAgree_42 : decode cX5_shipsAgree 42 = .ok (.if_icmp .ne 7, 3) := by decide +kernel
theorem dX5_shipsAgree_45 : decode cX5_shipsAgree 45 = .ok (.iconst 1, 1) := by decide +kernel
theorem dX5_shipsAgree_46 : decode cX5_shipsAgree 46 = .ok (.goto 4, 3) := by decide +kernel
theorem dX5_shipsAgree_49 : decode cX5_shipsAgree 49 = .ok (.iconst 0, 1) := by decide +kernel
theorem dX5_shipsAgree_50 : decode cX5_shipsAgree 50 = .ok (.istore_n 3, 1) := by decide +kernel
theorem dX5_shipsAgree_51 : decode cX5_shipsAgree 51 = .ok (.aload_n 0, 1) := by decide +kernel
theorem dX5_shipsAgree_52 : decode cX5_shipsAgree 52 = .ok (.iload_n 1, 1) := by decide +kernel
theorem dX5_shipsAgree_53 : decode cX5_shipsAgree 53 = .ok (.invokevirtual 64, 3) := by decide +kernel
theorem dX5_shipsAgree_56 : decode cX5_shipsAgree 56 = .ok (.ifCond .eq 13, 3) := by decide +kernel
theorem dX5_shipsAgree_59 : decode cX5_shipsAgree 59 = .ok (.iload_n 2, 1) := by decide +kernel
theorem dX5_shipsAgree_60 : decode cX5_shipsAgree 60 = .ok (.ifCond .eq 7, 3) := by decide +kernel
theorem dX5_shipsAgree_63 : decode cX5_shipsAgree 63 = .ok (.iload_n 3, 1) := by decide +kernel
theorem dX5_shipsAgree_64 : decode cX5_shipsAgree 64 = .ok (.ifCond .ne 5, 3) := by decide +kernel
theorem dX5_shipsAgree_67 : decode cX5_shipsAgree 67 = .ok (.iconst 0, 1) := by decide +kernel
theorem dX5_shipsAgree_68 : decode cX5_shipsAgree 68 = .ok (.ireturn, 1) := by decide +kernel
theorem dX5_shipsAgree_69 : decode cX5_shipsAgree 69 = .ok (.iinc 1 1, 3) := by decide +kernel
theorem dX5_shipsAgree_72 : decode cX5_shipsAgree 72 = .ok (.goto (-70), 3) := by decide +kernel
theorem dX5_shipsAgree_75 : decode cX5_shipsAgree 75 = .ok (.iconst 1, 1) := by decide +kernel
theorem dX5_shipsAgree_76 : decode cX5_shipsAgree 76 = .ok (.ireturn, 1) := by decide +kernel
set_option maxRecDepth 100000 in
set_option maxHeartbeats 4000000 in
theorem C_X5_shipsAgree (l : Launch) (E : gE) (x : gX) {o : Nat} (ho : gOk o) {M : gM} {r : Bool} (hf : f_X5_shipsAgree o M = some r) : gM0 l E yX5_shipsAgree (.code yX5_shipsAgree cX5_shipsAgree 4 (some .boolean)) (gR 4 87) M x [.ref (E.2.1 o)] (some (.int (gb r))) M := by
  refine gMet (by decide +kernel) (Nat.le_of_ble_eq_true rfl) ?_
  intro p e s m args below meth c H locs ls Q hC hl hI kr kv
  replace hC : gC p s m args c cX5_shipsAgree 4 RX5 E := hC
  replace hl : lv_has ls 4 [(0, .ref (E.2.1 o))] := hl
  have hx := hC.1
  have hb := hC.2.1
  have L2 : ∀ (n : Nat) (v1 : Int32), f_X5_shipsAgree_L2 o M n v1 = some r → ∀ (H : Heap) (locs : List Loc) (ls : Array Slot), gI E s M x H locs → lv_has ls 4 [(1, .int v1), (0, .ref (E.2.1 o))] → W p l e (gR 4 87) s m args below meth c H locs 0 0 Q (F0 m 2 ls []) := by
    intro  n
    induction n with
    | zero => intro v1 hf; rw [f_X5_shipsAgree_L2] at hf; cases hf
    | succ n ih =>
      intro v1 hf H locs ls hI hl
      rw [f_X5_shipsAgree_L2] at hf
      refine lv_iload_n hx hb dX5_shipsAgree_2 rfl (lv_at hl 0 rfl) ?_
      refine lv_iconst (v := 3) hx hb dX5_shipsAgree_3 (by decide) ?_
      refine lv_icmp_ge (tgt := 75) hx hb dX5_shipsAgree_4 rfl (fun h1 => ?_) (fun h1 => ?_)
      · replace hf := gif h1 hf
        refine lv_iconst (v := 1) hx hb dX5_shipsAgree_75 (by decide) ?_
        exact kr _ _ _ _ _ _ (grb1 hf) hI ⟨.boolean, rfl, rfl⟩ dX5_shipsAgree_76
      · replace hf := gifn h1 hf
        refine lv_aload_n hx hb dX5_shipsAgree_7 rfl (lv_at hl 1 rfl) ?_
        refine gt_X5_X5_cargo hC hI ho dX5_shipsAgree_8 ?_
        refine lv_iload_n hx hb dX5_shipsAgree_11 rfl (lv_at hl 0 rfl) ?_
        obtain ⟨r2, hr3, hf⟩ := gbind hf
        have hr3 := C_X0_weightByStacks l E x ho hr3
        refine g_callVi (rest := []) hC hI hr3 Y_X0_weightByStacks V_X0_weightByStacks w359 (rcv_X0 hC hI ho) ⟨rfl, rfl⟩ ⟨Nat.le_of_ble_eq_true rfl, Nat.le_of_ble_eq_true rfl⟩ rfl hl.1 rfl (Nat.le_of_ble_eq_true rfl) dX5_shipsAgree_12 ⟨Nat.zero_le _, Nat.zero_le _⟩ (fun H locs hI => ?_)
        refine lv_aload_n hx hb dX5_shipsAgree_15 rfl (lv_at hl 1 rfl) ?_
        refine gt_X5_X5_cargo hC hI ho dX5_shipsAgree_16 ?_
        refine lv_iload_n hx hb dX5_shipsAgree_19 rfl (lv_at hl 0 rfl) ?_
        obtain ⟨r4, hr5, hf⟩ := gbind hf
        have hr5 := C_X0_weightByIds l E x ho hr5
        refine g_callVi (rest := [.int r2]) hC hI hr5 Y_X0_weightByIds V_X0_weightByIds w370 (rcv_X0 hC hI ho) ⟨rfl, rfl⟩ ⟨Nat.le_of_ble_eq_true rfl, Nat.le_of_ble_eq_true rfl⟩ rfl hl.1 rfl (Nat.le_of_ble_eq_true rfl) dX5_shipsAgree_20 ⟨Nat.zero_le _, Nat.zero_le _⟩ (fun H locs hI => ?_)
        refine lv_icmp_ne (tgt := 30) hx hb dX5_shipsAgree_23 rfl (fun h6 => ?_) (fun h6 => ?_)
        · replace hf := gifn h6 hf
          refine lv_iconst (v := 0) hx hb dX5_shipsAgree_30 (by decide) ?_
          refine lv_istore_n (lv' := [(2, .int 0), (1, .int v1), (0, .ref (E.2.1 o))]) hx hb dX5_shipsAgree_31 rfl hl (by decide) rfl (fun ls hl => ?_)
          refine lv_aload_n hx hb dX5_shipsAgree_32 rfl (lv_at hl 2 rfl) ?_
          refine lv_iload_n hx hb dX5_shipsAgree_33 rfl (lv_at hl 1 rfl) ?_
          obtain ⟨r7, hr8, hf⟩ := gbind hf
          have hr8 := C_X5_waitHourByHour l E x ho hr8
          refine g_callVi (rest := []) hC hI hr8 Y_X5_waitHourByHour V_X5_waitHourByHour w378 (rcv_X5 hC hI ho) ⟨rfl, rfl⟩ ⟨Nat.le_of_ble_eq_true rfl, Nat.le_of_ble_eq_true rfl⟩ rfl hl.1 rfl (Nat.le_of_ble_eq_true rfl) dX5_shipsAgree_34 ⟨Nat.zero_le _, Nat.zero_le _⟩ (fun H locs hI => ?_)
          refine lv_aload_n hx hb dX5_shipsAgree_37 rfl (lv_at hl 2 rfl) ?_
          refine lv_iload_n hx hb dX5_shipsAgree_38 rfl (lv_at hl 1 rfl) ?_
          obtain ⟨r9, hr10, hf⟩ := gbind hf
          have hr10 := C_X5_waitByTide l E x ho hr10
          refine g_callVi (rest := [.int r7]) hC hI hr10 Y_X5_waitByTide V_X5_waitByTide w387 (rcv_X5 hC hI ho) ⟨rfl, rfl⟩ ⟨Nat.le_of_ble_eq_true rfl, Nat.le_of_ble_eq_true rfl⟩ rfl hl.1 rfl (Nat.le_of_ble_eq_true rfl) dX5_shipsAgree_39 ⟨Nat.zero_le _, Nat.zero_le _⟩ (fun H locs hI => ?_)
          refine lv_icmp_ne (tgt := 49) hx hb dX5_shipsAgree_42 rfl (fun h11 => ?_) (fun h11 => ?_)
          · replace hf := gifn h11 hf
            refine lv_iconst (v := 0) hx hb dX5_shipsAgree_49 (by decide) ?_
            refine lv_istore_n (lv' := [(3, .int 0), (2, .int 0), (1, .int v1), (0, .ref (E.2.1 o))]) hx hb dX5_shipsAgree_50 rfl hl (by decide) rfl (fun ls hl => ?_)
            refine lv_aload_n hx hb dX5_shipsAgree_51 rfl (lv_at hl 3 rfl) ?_
            refine lv_iload_n hx hb dX5_shipsAgree_52 rfl (lv_at hl 2 rfl) ?_
            obtain ⟨r12, hr13, hf⟩ := gbind hf
            have hr13 := C_X5_hasShip l E x ho hr13
            refine g_callVi (rest := []) hC hI hr13 Y_X5_hasShip V_X5_hasShip w244 (rcv_X5 hC hI ho) ⟨rfl, rfl⟩ ⟨Nat.le_of_ble_eq_true rfl, Nat.le_of_ble_eq_true rfl⟩ rfl hl.1 rfl (Nat.le_of_ble_eq_true rfl) dX5_shipsAgree_53 ⟨Nat.zero_le _, Nat.zero_le _⟩ (fun H locs hI => ?_)
            refine lv_if_eq (tgt := 69) hx hb dX5_shipsAgree_56 rfl (fun h14 => ?_) (fun h14 => ?_)
            · replace hf := gif h14 hf
              refine lv_iinc (k := 2) (v := v1 + 1) (lv' := [(1, .int (v1 + 1)), (3, .int 0), (2, .int 0), (0, .ref (E.2.1 o))]) hx hb dX5_shipsAgree_69 hl rfl rfl (by decide) rfl (fun ls hl => ?_)
              refine lv_goto (tgt := 2) hx hb dX5_shipsAgree_72 rfl ?_
              exact ih (v1 + 1) hf _ _ _ hI (lv_sub hl [0, 3] rfl)
            · replace hf := gifn h14 hf
              refine lv_iload_n hx hb dX5_shipsAgree_59 rfl (lv_at hl 1 rfl) ?_
              refine lv_if_eq (tgt := 67) hx hb dX5_shipsAgree_60 rfl (fun h15 => ?_) (fun h15 => absurd (by decide) h15)
              refine lv_iconst (v := 0) hx hb dX5_shipsAgree_67 (by decide) ?_
              exact kr _ _ _ _ _ _ (grb0 hf) hI ⟨.boolean, rfl, rfl⟩ dX5_shipsAgree_68
          · replace hf := gif h11 hf
            refine lv_iconst (v := 1) hx hb dX5_shipsAgree_45 (by decide) ?_
            refine lv_goto (tgt := 50) hx hb dX5_shipsAgree_46 rfl ?_
            refine lv_istore_n (lv' := [(3, .int 1), (2, .int 0), (1, .int v1), (0, .ref (E.2.1 o))]) hx hb dX5_shipsAgree_50 rfl hl (by decide) rfl (fun ls hl => ?_)
            refine lv_aload_n hx hb dX5_shipsAgree_51 rfl (lv_at hl 3 rfl) ?_
            refine lv_iload_n hx hb dX5_shipsAgree_52 rfl (lv_at hl 2 rfl) ?_
            obtain ⟨r16, hr17, hf⟩ := gbind hf
            have hr17 := C_X5_hasShip l E x ho hr17
            refine g_callVi (rest := []) hC hI hr17 Y_X5_hasShip V_X5_hasShip w244 (rcv_X5 hC hI ho) ⟨rfl, rfl⟩ ⟨Nat.le_of_ble_eq_true rfl, Nat.le_of_ble_eq_true rfl⟩ rfl hl.1 rfl (Nat.le_of_ble_eq_true rfl) dX5_shipsAgree_53 ⟨Nat.zero_le _, Nat.zero_le _⟩ (fun H locs hI => ?_)
            refine lv_if_eq (tgt := 69) hx hb dX5_shipsAgree_56 rfl (fun h18 => ?_) (fun h18 => ?_)
            · replace hf := gif h18 hf
              refine lv_iinc (k := 2) (v := v1 + 1) (lv' := [(1, .int (v1 + 1)), (3, .int 1), (2, .int 0), (0, .ref (E.2.1 o))]) hx hb dX5_shipsAgree_69 hl rfl rfl (by decide) rfl (fun ls hl => ?_)
              refine lv_goto (tgt := 2) hx hb dX5_shipsAgree_72 rfl ?_
              exact ih (v1 + 1) hf _ _ _ hI (lv_sub hl [0, 3] rfl)
            · replace hf := gifn h18 hf
              refine lv_iload_n hx hb dX5_shipsAgree_59 rfl (lv_at hl 1 rfl) ?_
              refine lv_if_eq (tgt := 67) hx hb dX5_shipsAgree_60 rfl (fun h19 => ?_) (fun h19 => absurd (by decide) h19)
              refine lv_iconst (v := 0) hx hb dX5_shipsAgree_67 (by decide) ?_
              exact kr _ _ _ _ _ _ (grb0 hf) hI ⟨.boolean, rfl, rfl⟩ dX5_shipsAgree_68
        · replace hf := gif h6 hf
          refine lv_iconst (v := 1) hx hb dX5_shipsAgree_26 (by decide) ?_
          refine lv_goto (tgt := 31) hx hb dX5_shipsAgree_27 rfl ?_
          refine lv_istore_n (lv' := [(2, .int 1), (1, .int v1), (0, .ref (E.2.1 o))]) hx hb dX5_shipsAgree_31 rfl hl (by decide) rfl (fun ls hl => ?_)
          refine lv_aload_n hx hb dX5_shipsAgree_32 rfl (lv_at hl 2 rfl) ?_
          refine lv_iload_n hx hb dX5_shipsAgree_33 rfl (lv_at hl 1 rfl) ?_
          obtain ⟨r20, hr21, hf⟩ := gbind hf
          have hr21 := C_X5_waitHourByHour l E x ho hr21
          refine g_callVi (rest := []) hC hI hr21 Y_X5_waitHourByHour V_X5_waitHourByHour w378 (rcv_X5 hC hI ho) ⟨rfl, rfl⟩ ⟨Nat.le_of_ble_eq_true rfl, Nat.le_of_ble_eq_true rfl⟩ rfl hl.1 rfl (Nat.le_of_ble_eq_true rfl) dX5_shipsAgree_34 ⟨Nat.zero_le _, Nat.zero_le _⟩ (fun H locs hI => ?_)
          refine lv_aload_n hx hb dX5_shipsAgree_37 rfl (lv_at hl 2 rfl) ?_
          refine lv_iload_n hx hb dX5_shipsAgree_38 rfl (lv_at hl 1 rfl) ?_
          obtain ⟨r22, hr23, hf⟩ := gbind hf
          have hr23 := C_X5_waitByTide l E x ho hr23
          refine g_callVi (rest := [.int r20]) hC hI hr23 Y_X5_waitByTide V_X5_waitByTide w387 (rcv_X5 hC hI ho) ⟨rfl, rfl⟩ ⟨Nat.le_of_ble_eq_true rfl, Nat.le_of_ble_eq_true rfl⟩ rfl hl.1 rfl (Nat.le_of_ble_eq_true rfl) dX5_shipsAgree_39 ⟨Nat.zero_le _, Nat.zero_le _⟩ (fun H locs hI => ?_)
          refine lv_icmp_ne (tgt := 49) hx hb dX5_shipsAgree_42 rfl (fun h24 => ?_) (fun h24 => ?_)
          · replace hf := gifn h24 hf
            refine lv_iconst (v := 0) hx hb dX5_shipsAgree_49 (by decide) ?_
            refine lv_istore_n (lv' := [(3, .int 0), (2, .int 1), (1, .int v1), (0, .ref (E.2.1 o))]) hx hb dX5_shipsAgree_50 rfl hl (by decide) rfl (fun ls hl => ?_)
            refine lv_aload_n hx hb dX5_shipsAgree_51 rfl (lv_at hl 3 rfl) ?_
            refine lv_iload_n hx hb dX5_shipsAgree_52 rfl (lv_at hl 2 rfl) ?_
            obtain ⟨r25, hr26, hf⟩ := gbind hf
            have hr26 := C_X5_hasShip l E x ho hr26
            refine g_callVi (rest := []) hC hI hr26 Y_X5_hasShip V_X5_hasShip w244 (rcv_X5 hC hI ho) ⟨rfl, rfl⟩ ⟨Nat.le_of_ble_eq_true rfl, Nat.le_of_ble_eq_true rfl⟩ rfl hl.1 rfl (Nat.le_of_ble_eq_true rfl) dX5_shipsAgree_53 ⟨Nat.zero_le _, Nat.zero_le _⟩ (fun H locs hI => ?_)
            refine lv_if_eq (tgt := 69) hx hb dX5_shipsAgree_56 rfl (fun h27 => ?_) (fun h27 => ?_)
            · replace hf := gif h27 hf
              refine lv_iinc (k := 2) (v := v1 + 1) (lv' := [(1, .int (v1 + 1)), (3, .int 0), (2, .int 1), (0, .ref (E.2.1 o))]) hx hb dX5_shipsAgree_69 hl rfl rfl (by decide) rfl (fun ls hl => ?_)
              refine lv_goto (tgt := 2) hx hb dX5_shipsAgree_72 rfl ?_
              exact ih (v1 + 1) hf _ _ _ hI (lv_sub hl [0, 3] rfl)
            · replace hf := gifn h27 hf
              refine lv_iload_n hx hb dX5_shipsAgree_59 rfl (lv_at hl 1 rfl) ?_
              refine lv_if_eq (tgt := 67) hx hb dX5_shipsAgree_60 rfl (fun h28 => absurd h28 (by decide)) (fun h28 => ?_)
              refine lv_iload_n hx hb dX5_shipsAgree_63 rfl (lv_at hl 0 rfl) ?_
              refine lv_if_ne (tgt := 69) hx hb dX5_shipsAgree_64 rfl (fun h29 => absurd (by decide) h29) (fun h29 => ?_)
              refine lv_iconst (v := 0) hx hb dX5_shipsAgree_67 (by decide) ?_
              exact kr _ _ _ _ _ _ (grb0 hf) hI ⟨.boolean, rfl, rfl⟩ dX5_shipsAgree_68
          · replace hf := gif h24 hf
            refine lv_iconst (v := 1) hx hb dX5_shipsAgree_45 (by decide) ?_
            refine lv_goto (tgt := 50) hx hb dX5_shipsAgree_46 rfl ?_
            refine lv_istore_n (lv' := [(3, .int 1), (2, .int 1), (1, .int v1), (0, .ref (E.2.1 o))]) hx hb dX5_shipsAgree_50 rfl hl (by decide) rfl (fun ls hl => ?_)
            refine lv_aload_n hx hb dX5_shipsAgree_51 rfl (lv_at hl 3 rfl) ?_
            refine lv_iload_n hx hb dX5_shipsAgree_52 rfl (lv_at hl 2 rfl) ?_
            obtain ⟨r30, hr31, hf⟩ := gbind hf
            have hr31 := C_X5_hasShip l E x ho hr31
            refine g_callVi (rest := []) hC hI hr31 Y_X5_hasShip V_X5_hasShip w244 (rcv_X5 hC hI ho) ⟨rfl, rfl⟩ ⟨Nat.le_of_ble_eq_true rfl, Nat.le_of_ble_eq_true rfl⟩ rfl hl.1 rfl (Nat.le_of_ble_eq_true rfl) dX5_shipsAgree_53 ⟨Nat.zero_le _, Nat.zero_le _⟩ (fun H locs hI => ?_)
            refine lv_if_eq (tgt := 69) hx hb dX5_shipsAgree_56 rfl (fun h32 => ?_) (fun h32 => ?_)
            · replace hf := gif h32 hf
              refine lv_iinc (k := 2) (v := v1 + 1) (lv' := [(1, .int (v1 + 1)), (3, .int 1), (2, .int 1), (0, .ref (E.2.1 o))]) hx hb dX5_shipsAgree_69 hl rfl rfl (by decide) rfl (fun ls hl => ?_)
              refine lv_goto (tgt := 2) hx hb dX5_shipsAgree_72 rfl ?_
              exact ih (v1 + 1) hf _ _ _ hI (lv_sub hl [0, 3] rfl)
            · replace hf := gifn h32 hf
              refine lv_iload_n hx hb dX5_shipsAgree_59 rfl (lv_at hl 1 rfl) ?_
              refine lv_if_eq (tgt := 67) hx hb dX5_shipsAgree_60 rfl (fun h33 => absurd h33 (by decide)) (fun h33 => ?_)
              refine lv_iload_n hx hb dX5_shipsAgree_63 rfl (lv_at hl 0 rfl) ?_
              refine lv_if_ne (tgt := 69) hx hb dX5_shipsAgree_64 rfl (fun h34 => ?_) (fun h34 => absurd h34 (by decide))
              refine lv_iinc (k := 2) (v := v1 + 1) (lv' := [(1, .int (v1 + 1)), (3, .int 1), (2, .int 1), (0, .ref (E.2.1 o))]) hx hb dX5_shipsAgree_69 hl rfl rfl (by decide) rfl (fun ls hl => ?_)
              refine lv_goto (tgt := 2) hx hb dX5_shipsAgree_72 rfl ?_
              exact ih (v1 + 1) hf _ _ _ hI (lv_sub hl [0, 3] rfl)
  unfold f_X5_shipsAgree at hf
  refine lv_iconst (v := 0) hx hb dX5_shipsAgree_0 (by decide) ?_
  refine lv_istore_n (lv' := [(1, .int 0), (0, .ref (E.2.1 o))]) hx hb dX5_shipsAgree_1 rfl hl (by decide) rfl (fun ls hl => ?_)
  exact L2 gF 0 hf _ _ _ hI (lv_sub hl [0, 1] rfl)
theorem dX2_take_0 : decode cX2_take 0 = .ok (.aload_n 0, 1) := by decide +kernel
theorem dX2_take_1 : decode cX2_take 1 = .ok (.getfield 15, 3) := by decide +kernel
theorem dX2_take_4 : decode cX2_take 4 = .ok (.bipush 60, 2) := by decide +kernel
theorem dX2_take_6 : decode cX2_take 6 = .ok (.if_icmp .ge 23, 3) := by decide +kernel
theorem dX2_take_9 : decode cX2_take 9 = .ok (.aload_n 0, 1) := by decide +kernel
theorem dX2_take_10 : decode cX2_take 10 = .ok (.getfield 9, 3) := by decide +kernel
theorem dX2_take_13 : decode cX2_take 13 = .ok (.aload_n 0, 1) := by decide +kernel
theorem dX2_take_14 : decode cX2_take 14 = .ok (.getfield 15, 3) := by decide +kernel
theorem dX2_take_17 : decode cX2_take 17 = .ok (.iload_n 1, 1) := by decide +kernel
theorem dX2_take_18 : decode cX2_take 18 = .ok (.castore, 1) := by decide +kernel
theorem dX2_take_19 : decode cX2_take 19 = .ok (.aload_n 0, 1) := by decide +kernel
theorem dX2_take_20 : decode cX2_take 20 = .ok (.dup, 1) := by decide +kernel
theorem dX2_take_21 : decode cX2_take 21 = .ok (.getfield 15, 3) := by decide +kernel
theorem dX2_take_24 : decode cX2_take 24 = .ok (.iconst 1, 1) := by decide +kernel
theorem dX2_take_25 : decode cX2_take 25 = .ok (.iadd, 1) := by decide +kernel
theorem dX2_take_26 : decode cX2_take 26 = .ok (.putfield 15, 3) := by decide +kernel
theorem dX2_take_29 : decode cX2_take 29 = .ok (.return_, 1) := by decide +kernel
set_option maxRecDepth 100000 in
set_option maxHeartbeats 4000000 in
theorem C_X2_take (l : Launch) (E : gE) (x : gX) {v1 : Int32} {M : gM} {M' : gM} (hf : f_X2_take v1 M = some M') : gM0 l E yX2_take (.code yX2_take cX2_take 2 none) (gR 0 0) M x [.ref (E.2.1 146), .int v1] none M' := by
  refine gMet (by decide +kernel) (Nat.le_of_ble_eq_true rfl) ?_
  intro p e s m args below meth c H locs ls Q hC hl hI kr kv
  replace hC : gC p s m args c cX2_take 2 RX2 E := hC
  replace hl : lv_has ls 2 [(0, .ref (E.2.1 146)), (1, .int v1)] := hl
  have hx := hC.1
  have hb := hC.2.1
  unfold f_X2_take at hf
  refine lv_aload_n hx hb dX2_take_0 rfl (lv_at hl 0 rfl) ?_
  refine gt_X2_X2_length hC hI dX2_take_1 ?_
  refine lv_bipush (v := 60) hx hb dX2_take_4 (by decide) ?_
  refine lv_icmp_ge (tgt := 29) hx hb dX2_take_6 rfl (fun h1 => ?_) (fun h1 => ?_)
  · replace hf := gif h1 hf
    exact kv _ _ _ _ _ (grv hf) hI rfl dX2_take_29
  · replace hf := gifn h1 hf
    refine lv_aload_n hx hb dX2_take_9 rfl (lv_at hl 0 rfl) ?_
    refine gt_X2_X2_text hC hI dX2_take_10 ?_
    refine lv_aload_n hx hb dX2_take_13 rfl (lv_at hl 0 rfl) ?_
    refine gt_X2_X2_length hC hI dX2_take_14 ?_
    refine lv_iload_n hx hb dX2_take_17 rfl (lv_at hl 1 rfl) ?_
    obtain ⟨h2, hf⟩ := gifN hf
    obtain ⟨M3, eM3, hf⟩ := glet hf
    refine g_cast hC hI (k := (M 146 1).toNatClampNeg) gCA_147 h2 rfl dX2_take_18 (fun H locs hI => ?_)
    replace hI := g_mem eM3 hI
    refine lv_aload_n hx hb dX2_take_19 rfl (lv_at hl 0 rfl) ?_
    refine lv_dup hx hb dX2_take_20 rfl ?_
    refine gt_X2_X2_length hC hI dX2_take_21 ?_
    refine lv_iconst (v := 1) hx hb dX2_take_24 (by decide) ?_
    refine lv_iadd hx hb dX2_take_25 ?_
    obtain ⟨M4, eM4, hf⟩ := glet hf
    refine pt_X2_X2_length hC hI dX2_take_26 (fun H locs hI => ?_)
    replace hI := g_mem eM4 hI
    exact kv _ _ _ _ _ (grv hf) hI rfl dX2_take_29
theorem dX2_nextChar_0 : decode cX2_nextChar 0 = .ok (.aload_n 0, 1) := by decide +kernel
theorem dX2_nextChar_1 : decode cX2_nextChar 1 = .ok (.getfield 19, 3) := by decide +kernel
theorem dX2_nextChar_4 : decode cX2_nextChar 4 = .ok (.ifCond .lt 35, 3) := by decide +kernel
theorem dX2_nextChar_7 : decode cX2_nextChar 7 = .ok (.aload_n 0, 1) := by decide +kernel
theorem dX2_nextChar_8 : decode cX2_nextChar 8 = .ok (.getfield 19, 3) := by decide +kernel
theorem dX2_nextChar_11 : decode cX2_nextChar 11 = .ok (.aload_n 0, 1) := by decide +kernel
theorem dX2_nextChar_12 : decode cX2_nextChar 12 = .ok (.getfield 15, 3) := by decide +kernel
theorem dX2_nextChar_15 : decode cX2_nextChar 15 = .ok (.if_icmp .ge 24, 3) := by decide +kernel
theorem dX2_nextChar_18 : decode cX2_nextChar 18 = .ok (.aload_n 0, 1) := by decide +kernel
theorem dX2_nextChar_19 : decode cX2_nextChar 19 = .ok (.getfield 19, 3) := by decide +kernel
theorem dX2_nextChar_22 : decode cX2_nextChar 22 = .ok (.bipush 60, 2) := by decide +kernel
theorem dX2_nextChar_24 : decode cX2_nextChar 24 = .ok (.if_icmp .ge 15, 3) := by decide +kernel
theorem dX2_nextChar_27 : decode cX2_nextChar 27 = .ok (.aload_n 0, 1) := by decide +kernel
theorem dX2_nextChar_28 : decode cX2_nextChar 28 = .ok (.getfield 9, 3) := by decide +kernel
theorem dX2_nextChar_31 : decode cX2_nextChar 31 = .ok (.aload_n 0, 1) := by decide +kernel
theorem dX2_nextChar_32 : decode cX2_nextChar 32 = .ok (.getfield 19, 3) := by decide +kernel
theorem dX2_nextChar_35 : decode cX2_nextChar 35 = .ok (.caload, 1) := by decide +kernel
theorem dX2_nextChar_36 : decode cX2_nextChar 36 = .ok (.goto 4, 3) := by decide +kernel
theorem dX2_nextChar_39 : decode cX2_nextChar 39 = .ok (.iconst 0, 1) := by decide +kernel
theorem dX2_nextChar_40 : decode cX2_nextChar 40 = .ok (.ireturn, 1) := by decide +kernel
set_option maxRecDepth 100000 in
set_option maxHeartbeats 4000000 in
theorem C_X2_nextChar (l : Launch) (E : gE) (x : gX) {M : gM} {r : Int32} (hf : f_X2_nextChar M = some r) : gM0 l E yX2_nextChar (.code yX2_nextChar cX2_nextChar 1 (some .char)) (gR 0 0) M x [.ref (E.2.1 146)] (some (.int r)) M := by
  refine gMet (by decide +kernel) (Nat.le_of_ble_eq_true rfl) ?_
  intro p e s m args below meth c H locs ls Q hC hl hI kr kv
  replace hC : gC p s m args c cX2_nextChar 1 RX2 E := hC
  replace hl : lv_has ls 1 [(0, .ref (E.2.1 146))] := hl
  have hx := hC.1
  have hb := hC.2.1
  unfold f_X2_nextChar at hf
  refine lv_aload_n hx hb dX2_nextChar_0 rfl (lv_at hl 0 rfl) ?_
  refine gt_X2_X2_position hC hI dX2_nextChar_1 ?_
  refine lv_if_lt (tgt := 39) hx hb dX2_nextChar_4 rfl (fun h1 => ?_) (fun h1 => ?_)
  · replace hf := gif h1 hf
    refine lv_iconst (v := 0) hx hb dX2_nextChar_39 (by decide) ?_
    obtain ⟨h2, hf⟩ := gifN hf
    exact kr _ _ _ _ _ _ (gri hf) hI ⟨.char, rfl, gin_char h2⟩ dX2_nextChar_40
  · replace hf := gifn h1 hf
    refine lv_aload_n hx hb dX2_nextChar_7 rfl (lv_at hl 0 rfl) ?_
    refine gt_X2_X2_position hC hI dX2_nextChar_8 ?_
    refine lv_aload_n hx hb dX2_nextChar_11 rfl (lv_at hl 0 rfl) ?_
    refine gt_X2_X2_length hC hI dX2_nextChar_12 ?_
    refine lv_icmp_ge (tgt := 39) hx hb dX2_nextChar_15 rfl (fun h3 => ?_) (fun h3 => ?_)
    · replace hf := gif h3 hf
      refine lv_iconst (v := 0) hx hb dX2_nextChar_39 (by decide) ?_
      obtain ⟨h4, hf⟩ := gifN hf
      exact kr _ _ _ _ _ _ (gri hf) hI ⟨.char, rfl, gin_char h4⟩ dX2_nextChar_40
    · replace hf := gifn h3 hf
      refine lv_aload_n hx hb dX2_nextChar_18 rfl (lv_at hl 0 rfl) ?_
      refine gt_X2_X2_position hC hI dX2_nextChar_19 ?_
      refine lv_bipush (v := 60) hx hb dX2_nextChar_22 (by decide) ?_
      refine lv_icmp_ge (tgt := 39) hx hb dX2_nextChar_24 rfl (fun h5 => ?_) (fun h5 => ?_)
      · replace hf := gif h5 hf
        refine lv_iconst (v := 0) hx hb dX2_nextChar_39 (by decide) ?_
        obtain ⟨h6, hf⟩ := gifN hf
        exact kr _ _ _ _ _ _ (gri hf) hI ⟨.char, rfl, gin_char h6⟩ dX2_nextChar_40
      · replace hf := gifn h5 hf
        refine lv_aload_n hx hb dX2_nextChar_27 rfl (lv_at hl 0 rfl) ?_
        refine gt_X2_X2_text hC hI dX2_nextChar_28 ?_
        refine lv_aload_n hx hb dX2_nextChar_31 rfl (lv_at hl 0 rfl) ?_
        refine gt_X2_X2_position hC hI dX2_nextChar_32 ?_
        obtain ⟨h7, hf⟩ := gifN hf
        refine g_cald hC hI (k := (M 146 2).toNatClampNeg) gCA_147 h7 rfl dX2_nextChar_35 ?_
        refine lv_goto (tgt := 40) hx hb dX2_nextChar_36 rfl ?_
        obtain ⟨h8, hf⟩ := gifN hf
        exact kr _ _ _ _ _ _ (gri hf) hI ⟨.char, rfl, gin_char h8⟩ dX2_nextChar_40
theorem dX2_read_0 : decode cX2_read 0 = .ok (.aload_n 0, 1) := by decide +kernel
theorem dX2_read_1 : decode cX2_read 1 = .ok (.invokevirtual 35, 3) := by decide +kernel
theorem dX2_read_4 : decode cX2_read 4 = .ok (.iload_n 1, 1) := by decide +kernel
theorem dX2_read_5 : decode cX2_read 5 = .ok (.if_icmp .eq 5, 3) := by decide +kernel
theorem dX2_read_8 : decode cX2_read 8 = .ok (.iconst 0, 1) := by decide +kernel
theorem dX2_read_9 : decode cX2_read 9 = .ok (.ireturn, 1) := by decide +kernel
theorem dX2_read_10 : decode cX2_read 10 = .ok (.aload_n 0, 1) := by decide +kernel
theorem dX2_read_11 : decode cX2_read 11 = .ok (.dup, 1) := by decide +kernel
theorem dX2_read_12 : decode cX2_read 12 = .ok (.getfield 19, 3) := by decide +kernel
theorem dX2_read_15 : decode cX2_read 15 = .ok (.iconst 1, 1) := by decide +kernel
theorem dX2_read_16 : decode cX2_read 16 = .ok (.iadd, 1) := by decide +kernel
theorem dX2_read_17 : decode cX2_read 17 = .ok (.putfield 19, 3) := by decide +kernel
theorem dX2_read_20 : decode cX2_read 20 = .ok (.iconst 1, 1) := by decide +kernel
theorem dX2_read_21 : decode cX2_read 21 = .ok (.ireturn, 1) := by decide +kernel
set_option maxRecDepth 100000 in
set_option maxHeartbeats 4000000 in
theorem C_X2_read (l : Launch) (E : gE) (x : gX) {v1 : Int32} {M : gM} {r : Bool} {M' : gM} (hf : f_X2_read v1 M = some (r, M')) : gM0 l E yX2_read (.code yX2_read cX2_read 2 (some .boolean)) (gR 1 20) M x [.ref (E.2.1 146), .int v1] (some (.int (gb r))) M' := by
  refine gMet (by decide +kernel) (Nat.le_of_ble_eq_true rfl) ?_
  intro p e s m args below meth c H locs ls Q hC hl hI kr kv
  replace hC : gC p s m args c cX2_read 2 RX2 E := hC
  replace hl : lv_has ls 2 [(0, .ref (E.2.1 146)), (1, .int v1)] := hl
  have hx := hC.1
  have hb := hC.2.1
  unfold f_X2_read at hf
  refine lv_aload_n hx hb dX2_read_0 rfl (lv_at hl 0 rfl) ?_
  obtain ⟨r1, hr2, hf⟩ := gbind hf
  have hr2 := C_X2_nextChar l E x  hr2
  refine g_callVi (rest := []) hC hI hr2 Y_X2_nextChar V_X2_nextChar w1129 (rcv_X2 hC hI) ⟨rfl, rfl⟩ ⟨Nat.le_of_ble_eq_true rfl, Nat.le_of_ble_eq_true rfl⟩ rfl hl.1 rfl (Nat.le_of_ble_eq_true rfl) dX2_read_1 ⟨Nat.zero_le _, Nat.zero_le _⟩ (fun H locs hI => ?_)
  refine lv_iload_n hx hb dX2_read_4 rfl (lv_at hl 1 rfl) ?_
  refine lv_icmp_eq (tgt := 10) hx hb dX2_read_5 rfl (fun h3 => ?_) (fun h3 => ?_)
  · replace hf := gif h3 hf
    refine lv_aload_n hx hb dX2_read_10 rfl (lv_at hl 0 rfl) ?_
    refine lv_dup hx hb dX2_read_11 rfl ?_
    refine gt_X2_X2_position hC hI dX2_read_12 ?_
    refine lv_iconst (v := 1) hx hb dX2_read_15 (by decide) ?_
    refine lv_iadd hx hb dX2_read_16 ?_
    obtain ⟨M4, eM4, hf⟩ := glet hf
    refine pt_X2_X2_position hC hI dX2_read_17 (fun H locs hI => ?_)
    replace hI := g_mem eM4 hI
    refine lv_iconst (v := 1) hx hb dX2_read_20 (by decide) ?_
    exact kr _ _ _ _ _ _ (grwb1 hf) hI ⟨.boolean, rfl, rfl⟩ dX2_read_21
  · replace hf := gifn h3 hf
    refine lv_iconst (v := 0) hx hb dX2_read_8 (by decide) ?_
    exact kr _ _ _ _ _ _ (grwb0 hf) hI ⟨.boolean, rfl, rfl⟩ dX2_read_9
theorem dX4_begin_0 : decode cX4_begin 0 = .ok (.aload_n 0, 1) := by decide +kernel
theorem dX4_begin_1 : decode cX4_begin 1 = .ok (.getfield 20, 3) := by decide +kernel
theorem dX4_begin_4 : decode cX4_begin 4 = .ok (.bipush 8, 2) := by decide +kernel
theorem dX4_begin_6 : decode cX4_begin 6 = .ok (.if_icmp .ge 23, 3) := by decide +kernel
theorem dX4_begin_9 : decode cX4_begin 9 = .ok (.aload_n 0, 1) := by decide +kernel
theorem dX4_begin_10 : decode cX4_begin 10 = .ok (.getfield 9, 3) := by decide +kernel
theorem dX4_begin_13 : decode cX4_begin 13 = .ok (.aload_n 0, 1) := by decide +kernel
theorem dX4_begin_14 : decode cX4_begin 14 = .ok (.getfield 20, 3) := by decide +kernel
theorem dX4_begin_17 : decode cX4_begin 17 = .ok (.iload_n 1, 1) := by decide +kernel
theorem dX4_begin_18 : decode cX4_begin 18 = .ok (.iastore, 1) := by decide +kernel
theorem dX4_begin_19 : decode cX4_begin 19 = .ok (.aload_n 0, 1) := by decide +kernel
theorem dX4_begin_20 : decode cX4_begin 20 = .ok (.dup, 1) := by decide +kernel
theorem dX4_begin_21 : decode cX4_begin 21 = .ok (.getfield 20, 3) := by decide +kernel
theorem dX4_begin_24 : decode cX4_begin 24 = .ok (.iconst 1, 1) := by decide +kernel
theorem dX4_begin_25 : decode cX4_begin 25 = .ok (.iadd, 1) := by decide +kernel
theorem dX4_begin_26 : decode cX4_begin 26 = .ok (.putfield 20, 3) := by decide +kernel
theorem dX4_begin_29 : decode cX4_begin 29 = .ok (.return_, 1) := by decide +kernel
set_option maxRecDepth 100000 in
set_option maxHeartbeats 4000000 in
theorem C_X4_begin (l : Launch) (E : gE) (x : gX) {v1 : Int32} {M : gM} {M' : gM} (hf : f_X4_begin v1 M = some M') : gM0 l E yX4_begin (.code yX4_begin cX4_begin 2 none) (gR 0 0) M x [.ref (E.2.1 135), .int v1] none M' := by
  refine gMet (by decide +kernel) (Nat.le_of_ble_eq_true rfl) ?_
  intro p e s m args below meth c H locs ls Q hC hl hI kr kv
  replace hC : gC p s m args c cX4_begin 2 RX4 E := hC
  replace hl : lv_has ls 2 [(0, .ref (E.2.1 135)), (1, .int v1)] := hl
  have hx := hC.1
  have hb := hC.2.1
  unfold f_X4_begin at hf
  refine lv_aload_n hx hb dX4_begin_0 rfl (lv_at hl 0 rfl) ?_
  refine gt_X4_X4_count hC hI dX4_begin_1 ?_
  refine lv_bipush (v := 8) hx hb dX4_begin_4 (by decide) ?_
  refine lv_icmp_ge (tgt := 29) hx hb dX4_begin_6 rfl (fun h1 => ?_) (fun h1 => ?_)
  · replace hf := gif h1 hf
    exact kv _ _ _ _ _ (grv hf) hI rfl dX4_begin_29
  · replace hf := gifn h1 hf
    refine lv_aload_n hx hb dX4_begin_9 rfl (lv_at hl 0 rfl) ?_
    refine gt_X4_X4_kinds hC hI dX4_begin_10 ?_
    refine lv_aload_n hx hb dX4_begin_13 rfl (lv_at hl 0 rfl) ?_
    refine gt_X4_X4_count hC hI dX4_begin_14 ?_
    refine lv_iload_n hx hb dX4_begin_17 rfl (lv_at hl 1 rfl) ?_
    obtain ⟨h2, hf⟩ := gifN hf
    obtain ⟨M3, eM3, hf⟩ := glet hf
    refine g_iast hC hI (k := (M 135 2).toNatClampNeg) gIA_kinds h2 rfl dX4_begin_18 (fun H locs hI => ?_)
    replace hI := g_mem eM3 hI
    refine lv_aload_n hx hb dX4_begin_19 rfl (lv_at hl 0 rfl) ?_
    refine lv_dup hx hb dX4_begin_20 rfl ?_
    refine gt_X4_X4_count hC hI dX4_begin_21 ?_
    refine lv_iconst (v := 1) hx hb dX4_begin_24 (by decide) ?_
    refine lv_iadd hx hb dX4_begin_25 ?_
    obtain ⟨M4, eM4, hf⟩ := glet hf
    refine pt_X4_X4_count hC hI dX4_begin_26 (fun H locs hI => ?_)
    replace hI := g_mem eM4 hI
    exact kv _ _ _ _ _ (grv hf) hI rfl dX4_begin_29
theorem dX5_copyFrom_0 : decode cX5_copyFrom 0 = .ok (.aload_n 0, 1) := by decide +kernel
theorem dX5_copyFrom_1 : decode cX5_copyFrom 1 = .ok (.getfield 12, 3) := by decide +kernel
theorem dX5_copyFrom_4 : decode cX5_copyFrom 4 = .ok (.aload_n 1, 1) := by decide +kernel
theorem dX5_copyFrom_5 : decode cX5_copyFrom 5 = .ok (.getfield 12, 3) := by decide +kernel
theorem dX5_copyFrom_8 : decode cX5_copyFrom 8 = .ok (.invokevirtual 50, 3) := by decide +kernel
theorem dX5_copyFrom_11 : decode cX5_copyFrom 11 = .ok (.aload_n 1, 1) := by decide +kernel
theorem dX5_copyFrom_12 : decode cX5_copyFrom 12 = .ok (.getfield 18, 3) := by decide +kernel
theorem dX5_copyFrom_15 : decode cX5_copyFrom 15 = .ok (.iconst 0, 1) := by decide +kernel
theorem dX5_copyFrom_16 : decode cX5_copyFrom 16 = .ok (.aload_n 0, 1) := by decide +kernel
theorem dX5_copyFrom_17 : decode cX5_copyFrom 17 = .ok (.getfield 18, 3) := by decide +kernel
theorem dX5_copyFrom_20 : decode cX5_copyFrom 20 = .ok (.iconst 0, 1) := by decide +kernel
theorem dX5_copyFrom_21 : decode cX5_copyFrom 21 = .ok (.iconst 3, 1) := by decide +kernel
theorem dX5_copyFrom_22 : decode cX5_copyFrom 22 = .ok (.invokestatic 54, 3) := by decide +kernel
theorem dX5_copyFrom_25 : decode cX5_copyFrom 25 = .ok (.aload_n 1, 1) := by decide +kernel
theorem dX5_copyFrom_26 : decode cX5_copyFrom 26 = .ok (.getfield 22, 3) := by decide +kernel
theorem dX5_copyFrom_29 : decode cX5_copyFrom 29 = .ok (.iconst 0, 1) := by decide +kernel
theorem dX5_copyFrom_30 : decode cX5_copyFrom 30 = .ok (.aload_n 0, 1) := by decide +kernel
theorem dX5_copyFrom_31 : decode cX5_copyFrom 31 = .ok (.getfield 22, 3) := by decide +kernel
theorem dX5_copyFrom_34 : decode cX5_copyFrom 34 = .ok (.iconst 0, 1) := by decide +kernel
theorem dX5_copyFrom_35 : decode cX5_copyFrom 35 = .ok (.iconst 3, 1) := by decide +kernel
theorem dX5_copyFrom_36 : decode cX5_copyFrom 36 = .ok (.invokestatic 54, 3) := by decide +kernel
theorem dX5_copyFrom_39 : decode cX5_copyFrom 39 = .ok (.aload_n 1, 1) := by decide +kernel
theorem dX5_copyFrom_40 : decode cX5_copyFrom 40 = .ok (.getfield 25, 3) := by decide +kernel
theorem dX5_copyFrom_43 : decode cX5_copyFrom 43 = .ok (.iconst 0, 1) := by decide +kernel
theorem dX5_copyFrom_44 : decode cX5_copyFrom 44 = .ok (.aload_n 0, 1) := by decide +kernel
theorem dX5_copyFrom_45 : decode cX5_copyFrom 45 = .ok (.getfield 25, 3) := by decide +kernel
theorem dX5_copyFrom_48 : decode cX5_copyFrom 48 = .ok (.iconst 0, 1) := by decide +kernel
theorem dX5_copyFrom_49 : decode cX5_copyFrom 49 = .ok (.iconst 3, 1) := by decide +kernel
theorem dX5_copyFrom_50 : decode cX5_copyFrom 50 = .ok (.invokestatic 54, 3) := by decide +kernel
theorem dX5_copyFrom_53 : decode cX5_copyFrom 53 = .ok (.aload_n 1, 1) := by decide +kernel
theorem dX5_copyFrom_54 : decode cX5_copyFrom 54 = .ok (.getfield 28, 3) := by decide +kernel
theorem dX5_copyFrom_57 : decode cX5_copyFrom 57 = .ok (.iconst 0, 1) := by decide +kernel
theorem dX5_copyFrom_58 : decode cX5_copyFrom 58 = .ok (.aload_n 0, 1) := by decide +kernel
theorem dX5_copyFrom_59 : decode cX5_copyFrom 59 = .ok (.getfield 28, 3) := by decide +kernel
theorem dX5_copyFrom_62 : decode cX5_copyFrom 62 = .ok (.iconst 0, 1) := by decide +kernel
theorem dX5_copyFrom_63 : decode cX5_copyFrom 63 = .ok (.iconst 3, 1) := by decide +kernel
theorem dX5_copyFrom_64 : decode cX5_copyFrom 64 = .ok (.invokestatic 54, 3) := by decide +kernel
theorem dX5_copyFrom_67 : decode cX5_copyFrom 67 = .ok (.aload_n 0, 1) := by decide +kernel
theorem dX5_copyFrom_68 : decode cX5_copyFrom 68 = .ok (.aload_n 1, 1) := by decide +kernel
theorem dX5_copyFrom_69 : decode cX5_copyFrom 69 = .ok (.getfield 31, 3) := by decide +kernel
theorem dX5_copyFrom_72 : decode cX5_copyFrom 72 = .ok (.putfield 31, 3) := by decide +kernel
theorem dX5_copyFrom_75 : decode cX5_copyFrom 75 = .ok (.aload_n 0, 1) := by decide +kernel
theorem dX5_copyFrom_76 : decode cX5_copyFrom 76 = .ok (.aload_n 1, 1) := by decide +kernel
theorem dX5_copyFrom_77 : decode cX5_copyFrom 77 = .ok (.getfield 35, 3) := by decide +kernel
theorem dX5_copyFrom_80 : decode cX5_copyFrom 80 = .ok (.putfield 35, 3) := by decide +kernel
theorem dX5_copyFrom_83 : decode cX5_copyFrom 83 = .ok (.aload_n 0, 1) := by decide +kernel
theorem dX5_copyFrom_84 : decode cX5_copyFrom 84 = .ok (.aload_n 1, 1) := by decide +kernel
theorem dX5_copyFrom_85 : decode cX5_copyFrom 85 = .ok (.getfield 38, 3) := by decide +kernel
theorem dX5_copyFrom_88 : decode cX5_copyFrom 88 = .ok (.putfield 38, 3) := by decide +kernel
theorem dX5_copyFrom_91 : decode cX5_copyFrom 91 = .ok (.aload_n 0, 1) := by decide +kernel
theorem dX5_copyFrom_92 : decode cX5_copyFrom 92 = .ok (.aload_n 1, 1) := by decide +kernel
theorem dX5_copyFrom_93 : decode cX5_copyFrom 93 = .ok (.getfield 41, 3) := by decide +kernel
theorem dX5_copyFrom_96 : decode cX5_copyFrom 96 = .ok (.putfield 41, 3) := by decide +kernel
theorem dX5_copyFrom_99 : decode cX5_copyFrom 99 = .ok (.aload_n 0, 1) := by decide +kernel
theorem dX5_copyFrom_100 : decode cX5_copyFrom 100 = .ok (.aload_n 1, 1) := by decide +kernel
theorem dX5_copyFrom_101 : decode cX5_copyFrom 101 = .ok (.getfield 44, 3) := by decide +kernel
theorem dX5_copyFrom_104 : decode cX5_copyFrom 104 = .ok (.putfield 44, 3) := by decide +kernel
theorem dX5_copyFrom_107 : decode cX5_copyFrom 107 = .ok (.aload_n 0, 1) := by decide +kernel
theorem dX5_copyFrom_108 : decode cX5_copyFrom 108 = .ok (.aload_n 1, 1) := by decide +kernel
theorem dX5_copyFrom_109 : decode cX5_copyFrom 109 = .ok (.getfield 47, 3) := by decide +kernel
theorem dX5_copyFrom_112 : decode cX5_copyFrom 112 = .ok (.putfield 47, 3) := by decide +kernel
theorem dX5_copyFrom_115 : decode cX5_copyFrom 115 = .ok (.return_, 1) := by decide +kernel
set_option maxRecDepth 100000 in
set_option maxHeartbeats 4000000 in
theorem C_X5_copyFrom (l : Launch) (E : gE) (x : gX) {o : Nat} {o1 : Nat} (ho : gOk o) (ho1 : gOk o1) {M : gM} {M' : gM} (hf : f_X5_copyFrom o o1 M = some M') : gM0 l E yX5_copyFrom (.code yX5_copyFrom cX5_copyFrom 2 none) (gR 2 81) M x [.ref (E.2.1 o), .ref (E.2.1 o1)] none M' := by
  refine gMet (by decide +kernel) (Nat.le_of_ble_eq_true rfl) ?_
  intro p e s m args below meth c H locs ls Q hC hl hI kr kv
  replace hC : gC p s m args c cX5_copyFrom 2 RX5 E := hC
  replace hl : lv_has ls 2 [(0, .ref (E.2.1 o)), (1, .ref (E.2.1 o1))] := hl
  have hx := hC.1
  have hb := hC.2.1
  unfold f_X5_copyFrom at hf
  refine lv_aload_n hx hb dX5_copyFrom_0 rfl (lv_at hl 0 rfl) ?_
  refine gt_X5_X5_cargo hC hI ho dX5_copyFrom_1 ?_
  refine lv_aload_n hx hb dX5_copyFrom_4 rfl (lv_at hl 1 rfl) ?_
  refine gt_X5_X5_cargo hC hI ho1 dX5_copyFrom_5 ?_
  obtain ⟨r1, hr2, hf⟩ := gbind hf
  have hr2 := C_X0_copyFrom l E x ho ho1 hr2
  refine g_callVv (rest := []) hC hI hr2 Y_X0_copyFrom V_X0_copyFrom w433 (rcv_X0 hC hI ho) ⟨rfl, rfl⟩ ⟨Nat.le_of_ble_eq_true rfl, Nat.le_of_ble_eq_true rfl⟩ rfl hl.1 rfl (Nat.le_of_ble_eq_true rfl) dX5_copyFrom_8 ⟨Nat.zero_le _, Nat.zero_le _⟩ (fun H locs hI => ?_)
  refine lv_aload_n hx hb dX5_copyFrom_11 rfl (lv_at hl 1 rfl) ?_
  refine gt_X5_X5_draughts hC hI ho1 dX5_copyFrom_12 ?_
  refine lv_iconst (v := 0) hx hb dX5_copyFrom_15 (by decide) ?_
  refine lv_aload_n hx hb dX5_copyFrom_16 rfl (lv_at hl 0 rfl) ?_
  refine gt_X5_X5_draughts hC hI ho dX5_copyFrom_17 ?_
  refine lv_iconst (v := 0) hx hb dX5_copyFrom_20 (by decide) ?_
  refine lv_iconst (v := 3) hx hb dX5_copyFrom_21 (by decide) ?_
  obtain ⟨M3, eM3, hf⟩ := glet hf
  refine g_copyi hC hI (gIA_8 ho1) (gIA_8 ho) hl.1 w440 w439 w438 w18 (by decide) (by decide) (by decide) (by decide) (by decide) (Nat.le_of_ble_eq_true rfl) (Nat.le_of_ble_eq_true rfl) dX5_copyFrom_22 (fun H locs hI => ?_)
  replace hI := g_mem eM3 hI
  refine lv_aload_n hx hb dX5_copyFrom_25 rfl (lv_at hl 1 rfl) ?_
  refine gt_X5_X5_dueHours hC hI ho1 dX5_copyFrom_26 ?_
  refine lv_iconst (v := 0) hx hb dX5_copyFrom_29 (by decide) ?_
  refine lv_aload_n hx hb dX5_copyFrom_30 rfl (lv_at hl 0 rfl) ?_
  refine gt_X5_X5_dueHours hC hI ho dX5_copyFrom_31 ?_
  refine lv_iconst (v := 0) hx hb dX5_copyFrom_34 (by decide) ?_
  refine lv_iconst (v := 3) hx hb dX5_copyFrom_35 (by decide) ?_
  obtain ⟨M4, eM4, hf⟩ := glet hf
  refine g_copyi hC hI (gIA_9 ho1) (gIA_9 ho) hl.1 w440 w439 w438 w18 (by decide) (by decide) (by decide) (by decide) (by decide) (Nat.le_of_ble_eq_true rfl) (Nat.le_of_ble_eq_true rfl) dX5_copyFrom_36 (fun H locs hI => ?_)
  replace hI := g_mem eM4 hI
  refine lv_aload_n hx hb dX5_copyFrom_39 rfl (lv_at hl 1 rfl) ?_
  refine gt_X5_X5_wrongs hC hI ho1 dX5_copyFrom_40 ?_
  refine lv_iconst (v := 0) hx hb dX5_copyFrom_43 (by decide) ?_
  refine lv_aload_n hx hb dX5_copyFrom_44 rfl (lv_at hl 0 rfl) ?_
  refine gt_X5_X5_wrongs hC hI ho dX5_copyFrom_45 ?_
  refine lv_iconst (v := 0) hx hb dX5_copyFrom_48 (by decide) ?_
  refine lv_iconst (v := 3) hx hb dX5_copyFrom_49 (by decide) ?_
  obtain ⟨M5, eM5, hf⟩ := glet hf
  refine g_copyi hC hI (gIA_10 ho1) (gIA_10 ho) hl.1 w440 w439 w438 w18 (by decide) (by decide) (by decide) (by decide) (by decide) (Nat.le_of_ble_eq_true rfl) (Nat.le_of_ble_eq_true rfl) dX5_copyFrom_50 (fun H locs hI => ?_)
  replace hI := g_mem eM5 hI
  refine lv_aload_n hx hb dX5_copyFrom_53 rfl (lv_at hl 1 rfl) ?_
  refine gt_X5_X5_locks hC hI ho1 dX5_copyFrom_54 ?_
  refine lv_iconst (v := 0) hx hb dX5_copyFrom_57 (by decide) ?_
  refine lv_aload_n hx hb dX5_copyFrom_58 rfl (lv_at hl 0 rfl) ?_
  refine gt_X5_X5_locks hC hI ho dX5_copyFrom_59 ?_
  refine lv_iconst (v := 0) hx hb dX5_copyFrom_62 (by decide) ?_
  refine lv_iconst (v := 3) hx hb dX5_copyFrom_63 (by decide) ?_
  obtain ⟨M6, eM6, hf⟩ := glet hf
  refine g_copyi hC hI (gIA_11 ho1) (gIA_11 ho) hl.1 w440 w439 w438 w18 (by decide) (by decide) (by decide) (by decide) (by decide) (Nat.le_of_ble_eq_true rfl) (Nat.le_of_ble_eq_true rfl) dX5_copyFrom_64 (fun H locs hI => ?_)
  replace hI := g_mem eM6 hI
  refine lv_aload_n hx hb dX5_copyFrom_67 rfl (lv_at hl 0 rfl) ?_
  refine lv_aload_n hx hb dX5_copyFrom_68 rfl (lv_at hl 1 rfl) ?_
  refine gt_X5_X5_hour hC hI ho1 dX5_copyFrom_69 ?_
  obtain ⟨M7, eM7, hf⟩ := glet hf
  refine pt_X5_X5_hour hC hI ho dX5_copyFrom_72 (fun H locs hI => ?_)
  replace hI := g_mem eM7 hI
  refine lv_aload_n hx hb dX5_copyFrom_75 rfl (lv_at hl 0 rfl) ?_
  refine lv_aload_n hx hb dX5_copyFrom_76 rfl (lv_at hl 1 rfl) ?_
  refine gt_X5_X5_fees hC hI ho1 dX5_copyFrom_77 ?_
  obtain ⟨M8, eM8, hf⟩ := glet hf
  refine pt_X5_X5_fees hC hI ho dX5_copyFrom_80 (fun H locs hI => ?_)
  replace hI := g_mem eM8 hI
  refine lv_aload_n hx hb dX5_copyFrom_83 rfl (lv_at hl 0 rfl) ?_
  refine lv_aload_n hx hb dX5_copyFrom_84 rfl (lv_at hl 1 rfl) ?_
  refine gt_X5_X5_nextId hC hI ho1 dX5_copyFrom_85 ?_
  obtain ⟨M9, eM9, hf⟩ := glet hf
  refine pt_X5_X5_nextId hC hI ho dX5_copyFrom_88 (fun H locs hI => ?_)
  replace hI := g_mem eM9 hI
  refine lv_aload_n hx hb dX5_copyFrom_91 rfl (lv_at hl 0 rfl) ?_
  refine lv_aload_n hx hb dX5_copyFrom_92 rfl (lv_at hl 1 rfl) ?_
  refine gt_X5_X5_cleared hC hI ho1 dX5_copyFrom_93 ?_
  obtain ⟨M10, eM10, hf⟩ := glet hf
  refine pt_X5_X5_cleared hC hI ho dX5_copyFrom_96 (fun H locs hI => ?_)
  replace hI := g_mem eM10 hI
  refine lv_aload_n hx hb dX5_copyFrom_99 rfl (lv_at hl 0 rfl) ?_
  refine lv_aload_n hx hb dX5_copyFrom_100 rfl (lv_at hl 1 rfl) ?_
  refine gt_X5_X5_delivered hC hI ho1 dX5_copyFrom_101 ?_
  obtain ⟨M11, eM11, hf⟩ := glet hf
  refine pt_X5_X5_delivered hC hI ho dX5_copyFrom_104 (fun H locs hI => ?_)
  replace hI := g_mem eM11 hI
  refine lv_aload_n hx hb dX5_copyFrom_107 rfl (lv_at hl 0 rfl) ?_
  refine lv_aload_n hx hb dX5_copyFrom_108 rfl (lv_at hl 1 rfl) ?_
  refine gt_X5_X5_wrong hC hI ho1 dX5_copyFrom_109 ?_
  obtain ⟨M12, eM12, hf⟩ := glet hf
  refine pt_X5_X5_wrong hC hI ho dX5_copyFrom_112 (fun H locs hI => ?_)
  replace hI := g_mem eM12 hI
  exact kv _ _ _ _ _ (grv hf) hI rfl dX5_copyFrom_115
theorem dX1_popInto_0 : decode cX1_popInto 0 = .ok (.aload_n 0, 1) := by decide +kernel
theorem dX1_popInto_1 : decode cX1_popInto 1 = .ok (.aload_n 0, 1) := by decide +kernel
theorem dX1_popInto_2 : decode cX1_popInto 2 = .ok (.getfield 17, 3) := by decide +kernel
theorem dX1_popInto_5 : decode cX1_popInto 5 = .ok (.bipush 8, 2) := by decide +kernel
theorem dX1_popInto_7 : decode cX1_popInto 7 = .ok (.iadd, 1) := by decide +kernel
theorem dX1_popInto_8 : decode cX1_popInto 8 = .ok (.iconst 1, 1) := by decide +kernel
theorem dX1_popInto_9 : decode cX1_popInto 9 = .ok (.isub, 1) := by decide +kernel
theorem dX1_popInto_10 : decode cX1_popInto 10 = .ok (.bipush 8, 2) := by decide +kernel
theorem dX1_popInto_12 : decode cX1_popInto 12 = .ok (.irem, 1) := by decide +kernel
theorem dX1_popInto_13 : decode cX1_popInto 13 = .ok (.putfield 17, 3) := by decide +kernel
theorem dX1_popInto_16 : decode cX1_popInto 16 = .ok (.aload_n 1, 1) := by decide +kernel
theorem dX1_popInto_17 : decode cX1_popInto 17 = .ok (.aload_n 0, 1) := by decide +kernel
theorem dX1_popInto_18 : decode cX1_popInto 18 = .ok (.getfield 11, 3) := by decide +kernel
theorem dX1_popInto_21 : decode cX1_popInto 21 = .ok (.aload_n 0, 1) := by decide +kernel
theorem dX1_popInto_22 : decode cX1_popInto 22 = .ok (.getfield 17, 3) := by decide +kernel
theorem dX1_popInto_25 : decode cX1_popInto 25 = .ok (.aaload, 1) := by decide +kernel
theorem dX1_popInto_26 : decode cX1_popInto 26 = .ok (.invokevirtual 25, 3) := by decide +kernel
theorem dX1_popInto_29 : decode cX1_popInto 29 = .ok (.aload_n 0, 1) := by decide +kernel
theorem dX1_popInto_30 : decode cX1_popInto 30 = .ok (.dup, 1) := by decide +kernel
theorem dX1_popInto_31 : decode cX1_popInto 31 = .ok (.getfield 21, 3) := by decide +kernel
theorem dX1_popInto_34 : decode cX1_popInto 34 = .ok (.iconst 1, 1) := by decide +kernel
theorem dX1_popInto_35 : decode cX1_popInto 35 = .ok (.isub, 1) := by decide +kernel
theorem dX1_popInto_36 : decode cX1_popInto 36 = .ok (.putfield 21, 3) := by decide +kernel
theorem dX1_popInto_39 : decode cX1_popInto 39 = .ok (.return_, 1) := by decide +kernel
set_option maxRecDepth 100000 in
set_option maxHeartbeats 4000000 in
theorem C_X1_popInto (l : Launch) (E : gE) (x : gX) {o1 : Nat} (ho1 : gOk o1) {M : gM} {M' : gM} (hf : f_X1_popInto o1 M = some M') : gM0 l E yX1_popInto (.code yX1_popInto cX1_popInto 2 none) (gR 3 102) M x [.ref (E.2.1 133), .ref (E.2.1 o1)] none M' := by
  refine gMet (by decide +kernel) (Nat.le_of_ble_eq_true rfl) ?_
  intro p e s m args below meth c H locs ls Q hC hl hI kr kv
  replace hC : gC p s m args c cX1_popInto 2 RX1 E := hC
  replace hl : lv_has ls 2 [(0, .ref (E.2.1 133)), (1, .ref (E.2.1 o1))] := hl
  have hx := hC.1
  have hb := hC.2.1
  unfold f_X1_popInto at hf
  refine lv_aload_n hx hb dX1_popInto_0 rfl (lv_at hl 0 rfl) ?_
  refine lv_aload_n hx hb dX1_popInto_1 rfl (lv_at hl 0 rfl) ?_
  refine gt_X1_X1_next hC hI dX1_popInto_2 ?_
  refine lv_bipush (v := 8) hx hb dX1_popInto_5 (by decide) ?_
  refine lv_iadd hx hb dX1_popInto_7 ?_
  refine lv_iconst (v := 1) hx hb dX1_popInto_8 (by decide) ?_
  refine lv_isub hx hb dX1_popInto_9 ?_
  refine lv_bipush (v := 8) hx hb dX1_popInto_10 (by decide) ?_
  refine lv_irem hx hb dX1_popInto_12 (by decide) ?_
  obtain ⟨M1, eM1, hf⟩ := glet hf
  refine pt_X1_X1_next hC hI dX1_popInto_13 (fun H locs hI => ?_)
  replace hI := g_mem eM1 hI
  refine lv_aload_n hx hb dX1_popInto_16 rfl (lv_at hl 1 rfl) ?_
  refine lv_aload_n hx hb dX1_popInto_17 rfl (lv_at hl 0 rfl) ?_
  refine gt_X1_X1_states hC hI dX1_popInto_18 ?_
  refine lv_aload_n hx hb dX1_popInto_21 rfl (lv_at hl 0 rfl) ?_
  refine gt_X1_X1_next hC hI dX1_popInto_22 ?_
  obtain ⟨h2, hf⟩ := gifN hf
  refine g_aaldS hC hI h2 dX1_popInto_25 ?_
  obtain ⟨r3, hr4, hf⟩ := gbind hf
  have hr4 := C_X5_copyFrom l E x ho1 (gOk_h (gin_lt h2)) hr4
  refine g_callVv (rest := []) hC hI hr4 Y_X5_copyFrom V_X5_copyFrom w601 (rcv_X5 hC hI ho1) ⟨rfl, rfl⟩ ⟨Nat.le_of_ble_eq_true rfl, Nat.le_of_ble_eq_true rfl⟩ rfl hl.1 rfl (Nat.le_of_ble_eq_true rfl) dX1_popInto_26 ⟨Nat.zero_le _, Nat.zero_le _⟩ (fun H locs hI => ?_)
  refine lv_aload_n hx hb dX1_popInto_29 rfl (lv_at hl 0 rfl) ?_
  refine lv_dup hx hb dX1_popInto_30 rfl ?_
  refine gt_X1_X1_count hC hI dX1_popInto_31 ?_
  refine lv_iconst (v := 1) hx hb dX1_popInto_34 (by decide) ?_
  refine lv_isub hx hb dX1_popInto_35 ?_
  obtain ⟨M5, eM5, hf⟩ := glet hf
  refine pt_X1_X1_count hC hI dX1_popInto_36 (fun H locs hI => ?_)
  replace hI := g_mem eM5 hI
  exact kv _ _ _ _ _ (grv hf) hI rfl dX1_popInto_39
theorem dX1_push_0 : decode cX1_push 0 = .ok (.aload_n 0, 1) := by decide +kernel
theorem dX1_push_1 : decode cX1_push 1 = .ok (.getfield 11, 3) := by decide +kernel
theorem dX1_push_4 : decode cX1_push 4 = .ok (.aload_n 0, 1) := by decide +kernel
theorem dX1_push_5 : decode cX1_push 5 = .ok (.getfield 17, 3) := by decide +kernel
theorem dX1_push_8 : decode cX1_push 8 = .ok (.aaload, 1) := by decide +kernel
theorem dX1_push_9 : decode cX1_push 9 = .ok (.aload_n 1, 1) := by decide +kernel
theorem dX1_push_10 : decode cX1_push 10 = .ok (.invokevirtual 25, 3) := by decide +kernel
theorem dX1_push_13 : decode cX1_push 13 = .ok (.aload_n 0, 1) := by decide +kernel
theorem dX1_push_14 : decode cX1_push 14 = .ok (.aload_n 0, 1) := by decide +kernel
theorem dX1_push_15 : decode cX1_push 15 = .ok (.getfield 17, 3) := by decide +kernel
theorem dX1_push_18 : decode cX1_push 18 = .ok (.iconst 1, 1) := by decide +kernel
theorem dX1_push_19 : decode cX1_push 19 = .ok (.iadd, 1) := by decide +kernel
theorem dX1_push_20 : decode cX1_push 20 = .ok (.bipush 8, 2) := by decide +kernel
theorem dX1_push_22 : decode cX1_push 22 = .ok (.irem, 1) := by decide +kernel
theorem dX1_push_23 : decode cX1_push 23 = .ok (.putfield 17, 3) := by decide +kernel
theorem dX1_push_26 : decode cX1_push 26 = .ok (.aload_n 0, 1) := by decide +kernel
theorem dX1_push_27 : decode cX1_push 27 = .ok (.getfield 21, 3) := by decide +kernel
theorem dX1_push_30 : decode cX1_push 30 = .ok (.bipush 8, 2) := by decide +kernel
theorem dX1_push_32 : decode cX1_push 32 = .ok (.if_icmp .ge 13, 3) := by decide +kernel
theorem dX1_push_35 : decode cX1_push 35 = .ok (.aload_n 0, 1) := by decide +kernel
theorem dX1_push_36 : decode cX1_push 36 = .ok (.dup, 1) := by decide +kernel
theorem dX1_push_37 : decode cX1_push 37 = .ok (.getfield 21, 3) := by decide +kernel
theorem dX1_push_40 : decode cX1_push 40 = .ok (.iconst 1, 1) := by decide +kernel
theorem dX1_push_41 : decode cX1_push 41 = .ok (.iadd, 1) := by decide +kernel
theorem dX1_push_42 : decode cX1_push 42 = .ok (.putfield 21, 3) := by decide +kernel
theorem dX1_push_45 : decode cX1_push 45 = .ok (.return_, 1) := by decide +kernel
set_option maxRecDepth 100000 in
set_option maxHeartbeats 4000000 in
theorem C_X1_push (l : Launch) (E : gE) (x : gX) {o1 : Nat} (ho1 : gOk o1) {M : gM} {M' : gM} (hf : f_X1_push o1 M = some M') : gM0 l E yX1_push (.code yX1_push cX1_push 2 none) (gR 3 102) M x [.ref (E.2.1 133), .ref (E.2.1 o1)] none M' := by
  refine gMet (by decide +kernel) (Nat.le_of_ble_eq_true rfl) ?_
  intro p e s m args below meth c H locs ls Q hC hl hI kr kv
  replace hC : gC p s m args c cX1_push 2 RX1 E := hC
  replace hl : lv_has ls 2 [(0, .ref (E.2.1 133)), (1, .ref (E.2.1 o1))] := hl
  have hx := hC.1
  have hb := hC.2.1
  unfold f_X1_push at hf
  refine lv_aload_n hx hb dX1_push_0 rfl (lv_at hl 0 rfl) ?_
  refine gt_X1_X1_states hC hI dX1_push_1 ?_
  refine lv_aload_n hx hb dX1_push_4 rfl (lv_at hl 0 rfl) ?_
  refine gt_X1_X1_next hC hI dX1_push_5 ?_
  obtain ⟨h1, hf⟩ := gifN hf
  refine g_aaldS hC hI h1 dX1_push_8 ?_
  refine lv_aload_n hx hb dX1_push_9 rfl (lv_at hl 1 rfl) ?_
  obtain ⟨r2, hr3, hf⟩ := gbind hf
  have hr3 := C_X5_copyFrom l E x (gOk_h (gin_lt h1)) ho1 hr3
  refine g_callVv (rest := []) hC hI hr3 Y_X5_copyFrom V_X5_copyFrom w601 (rcv_X5 hC hI (gOk_h (gin_lt h1))) ⟨rfl, rfl⟩ ⟨Nat.le_of_ble_eq_true rfl, Nat.le_of_ble_eq_true rfl⟩ rfl hl.1 rfl (Nat.le_of_ble_eq_true rfl) dX1_push_10 ⟨Nat.zero_le _, Nat.zero_le _⟩ (fun H locs hI => ?_)
  refine lv_aload_n hx hb dX1_push_13 rfl (lv_at hl 0 rfl) ?_
  refine lv_aload_n hx hb dX1_push_14 rfl (lv_at hl 0 rfl) ?_
  refine gt_X1_X1_next hC hI dX1_push_15 ?_
  refine lv_iconst (v := 1) hx hb dX1_push_18 (by decide) ?_
  refine lv_iadd hx hb dX1_push_19 ?_
  refine lv_bipush (v := 8) hx hb dX1_push_20 (by decide) ?_
  refine lv_irem hx hb dX1_push_22 (by decide) ?_
  obtain ⟨M4, eM4, hf⟩ := glet hf
  refine pt_X1_X1_next hC hI dX1_push_23 (fun H locs hI => ?_)
  replace hI := g_mem eM4 hI
  refine lv_aload_n hx hb dX1_push_26 rfl (lv_at hl 0 rfl) ?_
  refine gt_X1_X1_count hC hI dX1_push_27 ?_
  refine lv_bipush (v := 8) hx hb dX1_push_30 (by decide) ?_
  refine lv_icmp_ge (tgt := 45) hx hb dX1_push_32 rfl (fun h5 => ?_) (fun h5 => ?_)
  · replace hf := gif h5 hf
    exact kv _ _ _ _ _ (grv hf) hI rfl dX1_push_45
  · replace hf := gifn h5 hf
    refine lv_aload_n hx hb dX1_push_35 rfl (lv_at hl 0 rfl) ?_
    refine lv_dup hx hb dX1_push_36 rfl ?_
    refine gt_X1_X1_count hC hI dX1_push_37 ?_
    refine lv_iconst (v := 1) hx hb dX1_push_40 (by decide) ?_
    refine lv_iadd hx hb dX1_push_41 ?_
    obtain ⟨M6, eM6, hf⟩ := glet hf
    refine pt_X1_X1_count hC hI dX1_push_42 (fun H locs hI => ?_)
    replace hI := g_mem eM6 hI
    exact kv _ _ _ _ _ (grv hf) hI rfl dX1_push_45
theorem dX2_nextIsDigit_0 : decode cX2_nextIsDigit 0 = .ok (.aload_n 0, 1) := by decide +kernel
theorem dX2_nextIsDigit_1 : decode cX2_nextIsDigit 1 = .ok (.invokevirtual 35, 3) := by decide +kernel
theorem dX2_nextIsDigit_4 : decode cX2_nextIsDigit 4 = .ok (.bipush 48, 2) := by decide +kernel
theorem dX2_nextIsDigit_6 : decode cX2_nextIsDigit 6 = .ok (.if_icmp .lt 16, 3) := by decide +kernel
theorem dX2_nextIsDigit_9 : decode cX2_nextIsDigit 9 = .ok (.aload_n 0, 1) := by decide +kernel
theorem dX2_nextIsDigit_10 : decode cX2_nextIsDigit 10 = .ok (.invokevirtual 35, 3) := by decide +kernel
theorem dX2_nextIsDigit_13 : decode cX2_nextIsDigit 13 = .ok (.bipush 57, 2) := by decide +kernel
theorem dX2_nextIsDigit_15 : decode cX2_nextIsDigit 15 = .ok (.if_icmp .gt 7, 3) := by decide +kernel
theorem dX2_nextIsDigit_18 : decode cX2_nextIsDigit 18 = .ok (.iconst 1, 1) := by decide +kernel
theorem dX2_nextIsDigit_19 : decode cX2_nextIsDigit 19 = .ok (.goto 4, 3) := by decide +kernel
theorem dX2_nextIsDigit_22 : decode cX2_nextIsDigit 22 = .ok (.iconst 0, 1) := by decide +kernel
theorem dX2_nextIsDigit_23 : decode cX2_nextIsDigit 23 = .ok (.ireturn, 1) := by decide +kernel
set_option maxRecDepth 100000 in
set_option maxHeartbeats 4000000 in
theorem C_X2_nextIsDigit (l : Launch) (E : gE) (x : gX) {M : gM} {r : Bool} (hf : f_X2_nextIsDigit M = some r) : gM0 l E yX2_nextIsDigit (.code yX2_nextIsDigit cX2_nextIsDigit 1 (some .boolean)) (gR 1 20) M x [.ref (E.2.1 146)] (some (.int (gb r))) M := by
  refine gMet (by decide +kernel) (Nat.le_of_ble_eq_true rfl) ?_
  intro p e s m args below meth c H locs ls Q hC hl hI kr kv
  replace hC : gC p s m args c cX2_nextIsDigit 1 RX2 E := hC
  replace hl : lv_has ls 1 [(0, .ref (E.2.1 146))] := hl
  have hx := hC.1
  have hb := hC.2.1
  unfold f_X2_nextIsDigit at hf
  refine lv_aload_n hx hb dX2_nextIsDigit_0 rfl (lv_at hl 0 rfl) ?_
  obtain ⟨r1, hr2, hf⟩ := gbind hf
  have hr2 := C_X2_nextChar l E x  hr2
  refine g_callVi (rest := []) hC hI hr2 Y_X2_nextChar V_X2_nextChar w1129 (rcv_X2 hC hI) ⟨rfl, rfl⟩ ⟨Nat.le_of_ble_eq_true rfl, Nat.le_of_ble_eq_true rfl⟩ rfl hl.1 rfl (Nat.le_of_ble_eq_true rfl) dX2_nextIsDigit_1 ⟨Nat.zero_le _, Nat.zero_le _⟩ (fun H locs hI => ?_)
  refine lv_bipush (v := 48) hx hb dX2_nextIsDigit_4 (by decide) ?_
  refine lv_icmp_lt (tgt := 22) hx hb dX2_nextIsDigit_6 rfl (fun h3 => ?_) (fun h3 => ?_)
  · replace hf := gif h3 hf
    refine lv_iconst (v := 0) hx hb dX2_nextIsDigit_22 (by decide) ?_
    exact kr _ _ _ _ _ _ (grb0 hf) hI ⟨.boolean, rfl, rfl⟩ dX2_nextIsDigit_23
  · replace hf := gifn h3 hf
    refine lv_aload_n hx hb dX2_nextIsDigit_9 rfl (lv_at hl 0 rfl) ?_
    obtain ⟨r4, hr5, hf⟩ := gbind hf
    have hr5 := C_X2_nextChar l E x  hr5
    refine g_callVi (rest := []) hC hI hr5 Y_X2_nextChar V_X2_nextChar w1129 (rcv_X2 hC hI) ⟨rfl, rfl⟩ ⟨Nat.le_of_ble_eq_true rfl, Nat.le_of_ble_eq_true rfl⟩ rfl hl.1 rfl (Nat.le_of_ble_eq_true rfl) dX2_nextIsDigit_10 ⟨Nat.zero_le _, Nat.zero_le _⟩ (fun H locs hI => ?_)
    refine lv_bipush (v := 57) hx hb dX2_nextIsDigit_13 (by decide) ?_
    refine lv_icmp_gt (tgt := 22) hx hb dX2_nextIsDigit_15 rfl (fun h6 => ?_) (fun h6 => ?_)
    · replace hf := gif h6 hf
      refine lv_iconst (v := 0) hx hb dX2_nextIsDigit_22 (by decide) ?_
      exact kr _ _ _ _ _ _ (grb0 hf) hI ⟨.boolean, rfl, rfl⟩ dX2_nextIsDigit_23
    · replace hf := gifn h6 hf
      refine lv_iconst (v := 1) hx hb dX2_nextIsDigit_18 (by decide) ?_
      refine lv_goto (tgt := 23) hx hb dX2_nextIsDigit_19 rfl ?_
      exact kr _ _ _ _ _ _ (grb1 hf) hI ⟨.boolean, rfl, rfl⟩ dX2_nextIsDigit_23
theorem dX4_keep_0 : decode cX4_keep 0 = .ok (.aload_n 0, 1) := by decide +kernel
theorem dX4_keep_1 : decode cX4_keep 1 = .ok (.getfield 20, 3) := by decide +kernel
theorem dX4_keep_4 : decode cX4_keep 4 = .ok (.ifCond .le 26, 3) := by decide +kernel
theorem dX4_keep_7 : decode cX4_keep 7 = .ok (.iload_n 1, 1) := by decide +kernel
theorem dX4_keep_8 : decode cX4_keep 8 = .ok (.ifCond .lt 22, 3) := by decide +kernel
theorem dX4_keep_11 : decode cX4_keep 11 = .ok (.iload_n 1, 1) := by decide +kernel
theorem dX4_keep_12 : decode cX4_keep 12 = .ok (.iconst 4, 1) := by decide +kernel
theorem dX4_keep_13 : decode cX4_keep 13 = .ok (.if_icmp .ge 17, 3) := by decide +kernel
theorem dX4_keep_16 : decode cX4_keep 16 = .ok (.aload_n 0, 1) := by decide +kernel
theorem dX4_keep_17 : decode cX4_keep 17 = .ok (.getfield 17, 3) := by decide +kernel
theorem dX4_keep_20 : decode cX4_keep 20 = .ok (.aload_n 0, 1) := by decide +kernel
theorem dX4_keep_21 : decode cX4_keep 21 = .ok (.getfield 20, 3) := by decide +kernel
theorem dX4_keep_24 : decode cX4_keep 24 = .ok (.iconst 1, 1) := by decide +kernel
theorem dX4_keep_25 : decode cX4_keep 25 = .ok (.isub, 1) := by decide +kernel
theorem dX4_keep_26 : decode cX4_keep 26 = .ok (.aaload, 1) := by decide +kernel
theorem dX4_keep_27 : decode cX4_keep 27 = .ok (.iload_n 1, 1) := by decide +kernel
theorem dX4_keep_28 : decode cX4_keep 28 = .ok (.iload_n 2, 1) := by decide +kernel
theorem dX4_keep_29 : decode cX4_keep 29 = .ok (.iastore, 1) := by decide +kernel
theorem dX4_keep_30 : decode cX4_keep 30 = .ok (.return_, 1) := by decide +kernel
set_option maxRecDepth 100000 in
set_option maxHeartbeats 4000000 in
theorem C_X4_keep (l : Launch) (E : gE) (x : gX) {v1 v2 : Int32} {M : gM} {M' : gM} (hf : f_X4_keep v1 v2 M = some M') : gM0 l E yX4_keep (.code yX4_keep cX4_keep 3 none) (gR 0 0) M x [.ref (E.2.1 135), .int v1, .int v2] none M' := by
  refine gMet (by decide +kernel) (Nat.le_of_ble_eq_true rfl) ?_
  intro p e s m args below meth c H locs ls Q hC hl hI kr kv
  replace hC : gC p s m args c cX4_keep 3 RX4 E := hC
  replace hl : lv_has ls 3 [(0, .ref (E.2.1 135)), (1, .int v1), (2, .int v2)] := hl
  have hx := hC.1
  have hb := hC.2.1
  unfold f_X4_keep at hf
  refine lv_aload_n hx hb dX4_keep_0 rfl (lv_at hl 0 rfl) ?_
  refine gt_X4_X4_count hC hI dX4_keep_1 ?_
  refine lv_if_le (tgt := 30) hx hb dX4_keep_4 rfl (fun h1 => ?_) (fun h1 => ?_)
  · replace hf := gif h1 hf
    exact kv _ _ _ _ _ (grv hf) hI rfl dX4_keep_30
  · replace hf := gifn h1 hf
    refine lv_iload_n hx hb dX4_keep_7 rfl (lv_at hl 1 rfl) ?_
    refine lv_if_lt (tgt := 30) hx hb dX4_keep_8 rfl (fun h2 => ?_) (fun h2 => ?_)
    · replace hf := gif h2 hf
      exact kv _ _ _ _ _ (grv hf) hI rfl dX4_keep_30
    · replace hf := gifn h2 hf
      refine lv_iload_n hx hb dX4_keep_11 rfl (lv_at hl 1 rfl) ?_
      refine lv_iconst (v := 4) hx hb dX4_keep_12 (by decide) ?_
      refine lv_icmp_ge (tgt := 30) hx hb dX4_keep_13 rfl (fun h3 => ?_) (fun h3 => ?_)
      · replace hf := gif h3 hf
        exact kv _ _ _ _ _ (grv hf) hI rfl dX4_keep_30
      · replace hf := gifn h3 hf
        refine lv_aload_n hx hb dX4_keep_16 rfl (lv_at hl 0 rfl) ?_
        refine gt_X4_X4_arguments hC hI dX4_keep_17 ?_
        refine lv_aload_n hx hb dX4_keep_20 rfl (lv_at hl 0 rfl) ?_
        refine gt_X4_X4_count hC hI dX4_keep_21 ?_
        refine lv_iconst (v := 1) hx hb dX4_keep_24 (by decide) ?_
        refine lv_isub hx hb dX4_keep_25 ?_
        obtain ⟨h4, hf⟩ := gifN hf
        refine g_aaldR hC hI h4 dX4_keep_26 ?_
        refine lv_iload_n hx hb dX4_keep_27 rfl (lv_at hl 1 rfl) ?_
        refine lv_iload_n hx hb dX4_keep_28 rfl (lv_at hl 2 rfl) ?_
        obtain ⟨h5, hf⟩ := gifN hf
        obtain ⟨M6, eM6, hf⟩ := glet hf
        refine g_iast hC hI (k := v1.toNatClampNeg) (gIA_row (gin_lt h4)) h5 rfl dX4_keep_29 (fun H locs hI => ?_)
        replace hI := g_mem eM6 hI
        exact kv _ _ _ _ _ (grv hf) hI rfl dX4_keep_30
theorem dX2_readDigit_0 : decode cX2_readDigit 0 = .ok (.aload_n 0, 1) := by decide +kernel
theorem dX2_readDigit_1 : decode cX2_readDigit 1 = .ok (.invokevirtual 89, 3) := by decide +kernel
theorem dX2_readDigit_4 : decode cX2_readDigit 4 = .ok (.ifCond .ne 5, 3) := by decide +kernel
theorem dX2_readDigit_7 : decode cX2_readDigit 7 = .ok (.iconst 0, 1) := by decide +kernel
theorem dX2_readDigit_8 : decode cX2_readDigit 8 = .ok (.ireturn, 1) := by decide +kernel
theorem dX2_readDigit_9 : decode cX2_readDigit 9 = .ok (.aload_n 1, 1) := by decide +kernel
theorem dX2_readDigit_10 : decode cX2_readDigit 10 = .ok (.iload_n 2, 1) := by decide +kernel
theorem dX2_readDigit_11 : decode cX2_readDigit 11 = .ok (.aload_n 0, 1) := by decide +kernel
theorem dX2_readDigit_12 : decode cX2_readDigit 12 = .ok (.invokevirtual 35, 3) := by decide +kernel
theorem dX2_readDigit_15 : decode cX2_readDigit 15 = .ok (.bipush 48, 2) := by decide +kernel
theorem dX2_readDigit_17 : decode cX2_readDigit 17 = .ok (.isub, 1) := by decide +kernel
theorem dX2_readDigit_18 : decode cX2_readDigit 18 = .ok (.invokevirtual 93, 3) := by decide +kernel
theorem dX2_readDigit_21 : decode cX2_readDigit 21 = .ok (.aload_n 0, 1) := by decide +kernel
theorem dX2_readDigit_22 : decode cX2_readDigit 22 = .ok (.dup, 1) := by decide +kernel
theorem dX2_readDigit_23 : decode cX2_readDigit 23 = .ok (.getfield 19, 3) := by decide +kernel
theorem dX2_readDigit_26 : decode cX2_readDigit 26 = .ok (.iconst 1, 1) := by decide +kernel
theorem dX2_readDigit_27 : decode cX2_readDigit 27 = .ok (.iadd, 1) := by decide +kernel
theorem dX2_readDigit_28 : decode cX2_readDigit 28 = .ok (.putfield 19, 3) := by decide +kernel
theorem dX2_readDigit_31 : decode cX2_readDigit 31 = .ok (.iconst 1, 1) := by decide +kernel
theorem dX2_readDigit_32 : decode cX2_readDigit 32 = .ok (.ireturn, 1) := by decide +kernel
set_option maxRecDepth 100000 in
set_option maxHeartbeats 4000000 in
theorem C_X2_readDigit (l : Launch) (E : gE) (x : gX) {v2 : Int32} {M : gM} {r : Bool} {M' : gM} (hf : f_X2_readDigit v2 M = some (r, M')) : gM0 l E yX2_readDigit (.code yX2_readDigit cX2_readDigit 3 (some .boolean)) (gR 2 40) M x [.ref (E.2.1 146), .ref (E.2.1 135), .int v2] (some (.int (gb r))) M' := by
  refine gMet (by decide +kernel) (Nat.le_of_ble_eq_true rfl) ?_
  intro p e s m args below meth c H locs ls Q hC hl hI kr kv
  replace hC : gC p s m args c cX2_readDigit 3 RX2 E := hC
  replace hl : lv_has ls 3 [(0, .ref (E.2.1 146)), (1, .ref (E.2.1 135)), (2, .int v2)] := hl
  have hx := hC.1
  have hb := hC.2.1
  unfold f_X2_readDigit at hf
  refine lv_aload_n hx hb dX2_readDigit_0 rfl (lv_at hl 0 rfl) ?_
  obtain ⟨r1, hr2, hf⟩ := gbind hf
  have hr2 := C_X2_nextIsDigit l E x  hr2
  refine g_callVi (rest := []) hC hI hr2 Y_X2_nextIsDigit V_X2_nextIsDigit w1202 (rcv_X2 hC hI) ⟨rfl, rfl⟩ ⟨Nat.le_of_ble_eq_true rfl, Nat.le_of_ble_eq_true rfl⟩ rfl hl.1 rfl (Nat.le_of_ble_eq_true rfl) dX2_readDigit_1 ⟨Nat.zero_le _, Nat.zero_le _⟩ (fun H locs hI => ?_)
  refine lv_if_ne (tgt := 9) hx hb dX2_readDigit_4 rfl (fun h3 => ?_) (fun h3 => ?_)
  · replace hf := gifn h3 hf
    refine lv_aload_n hx hb dX2_readDigit_9 rfl (lv_at hl 1 rfl) ?_
    refine lv_iload_n hx hb dX2_readDigit_10 rfl (lv_at hl 2 rfl) ?_
    refine lv_aload_n hx hb dX2_readDigit_11 rfl (lv_at hl 0 rfl) ?_
    obtain ⟨r4, hr5, hf⟩ := gbind hf
    have hr5 := C_X2_nextChar l E x  hr5
    refine g_callVi (rest := [.int v2, .ref (E.2.1 135)]) hC hI hr5 Y_X2_nextChar V_X2_nextChar w1129 (rcv_X2 hC hI) ⟨rfl, rfl⟩ ⟨Nat.le_of_ble_eq_true rfl, Nat.le_of_ble_eq_true rfl⟩ rfl hl.1 rfl (Nat.le_of_ble_eq_true rfl) dX2_readDigit_12 ⟨Nat.zero_le _, Nat.zero_le _⟩ (fun H locs hI => ?_)
    refine lv_bipush (v := 48) hx hb dX2_readDigit_15 (by decide) ?_
    refine lv_isub hx hb dX2_readDigit_17 ?_
    obtain ⟨r6, hr7, hf⟩ := gbind hf
    have hr7 := C_X4_keep l E x  hr7
    refine g_callVv (rest := []) hC hI hr7 Y_X4_keep V_X4_keep w1206 (rcv_X4 hC hI) ⟨rfl, rfl⟩ ⟨Nat.le_of_ble_eq_true rfl, Nat.le_of_ble_eq_true rfl⟩ rfl hl.1 rfl (Nat.le_of_ble_eq_true rfl) dX2_readDigit_18 ⟨Nat.zero_le _, Nat.zero_le _⟩ (fun H locs hI => ?_)
    refine lv_aload_n hx hb dX2_readDigit_21 rfl (lv_at hl 0 rfl) ?_
    refine lv_dup hx hb dX2_readDigit_22 rfl ?_
    refine gt_X2_X2_position hC hI dX2_readDigit_23 ?_
    refine lv_iconst (v := 1) hx hb dX2_readDigit_26 (by decide) ?_
    refine lv_iadd hx hb dX2_readDigit_27 ?_
    obtain ⟨M8, eM8, hf⟩ := glet hf
    refine pt_X2_X2_position hC hI dX2_readDigit_28 (fun H locs hI => ?_)
    replace hI := g_mem eM8 hI
    refine lv_iconst (v := 1) hx hb dX2_readDigit_31 (by decide) ?_
    exact kr _ _ _ _ _ _ (grwb1 hf) hI ⟨.boolean, rfl, rfl⟩ dX2_readDigit_32
  · replace hf := gif h3 hf
    refine lv_iconst (v := 0) hx hb dX2_readDigit_7 (by decide) ?_
    exact kr _ _ _ _ _ _ (grwb0 hf) hI ⟨.boolean, rfl, rfl⟩ dX2_readDigit_8
theorem dX2_readNumber_0 : decode cX2_readNumber 0 = .ok (.iconst 0, 1) := by decide +kernel
theorem dX2_readNumber_1 : decode cX2_readNumber 1 = .ok (.istore_n 3, 1) := by decide +kernel
theorem dX2_readNumber_2 : decode cX2_readNumber 2 = .ok (.iconst 0, 1) := by decide +kernel
theorem dX2_readNumber_3 : decode cX2_readNumber 3 = .ok (.istore 4, 2) := by decide +kernel
theorem dX2_readNumber_5 : decode cX2_readNumber 5 = .ok (.iload 4, 2) := by decide +kernel
theorem dX2_readNumber_7 : decode cX2_readNumber 7 = .ok (.iconst 3, 1) := by decide +kernel
theorem dX2_readNumber_8 : decode cX2_readNumber 8 = .ok (.if_icmp .ge 39, 3) := by decide +kernel
theorem dX2_readNumber_11 : decode cX2_readNumber 11 = .ok (.aload_n 0, 1) := by decide +kernel
theorem dX2_readNumber_12 : decode cX2_readNumber 12 = .ok (.invokevirtual 89, 3) := by decide +kernel
theorem dX2_readNumber_15 : decode cX2_readNumber 15 = .ok (.ifCond .eq 32, 3) := by decide +kernel
theorem dX2_readNumber_18 : decode cX2_readNumber 18 = .ok (.iload_n 3, 1) := by decide +kernel
theorem dX2_readNumber_19 : decode cX2_readNumber 19 = .ok (.bipush 10, 2) := by decide +kernel
theorem dX2_readNumber_21 : decode cX2_readNumber 21 = .ok (.imul, 1) := by decide +kernel
theorem dX2_readNumber_22 : decode cX2_readNumber 22 = .ok (.aload_n 0, 1) := by decide +kernel
theorem dX2_readNumber_23 : decode cX2_readNumber 23 = .ok (.invokevirtual 35, 3) := by decide +kernel
theorem dX2_readNumber_26 : decode cX2_readNumber 26 = .ok (.bipush 48, 2) := by decide +kernel
theorem dX2_readNumber_28 : decode cX2_readNumber 28 = .ok (.isub, 1) := by decide +kernel
theorem dX2_readNumber_29 : decode cX2_readNumber 29 = .ok (.iadd, 1) := by decide +kernel
theorem dX2_readNumber_30 : decode cX2_readNumber 30 = .ok (.istore_n 3, 1) := by decide +kernel
theorem dX2_readNumber_31 : decode cX2_readNumber 31 = .ok (.iinc 4 1, 3) := by decide +kernel
theorem dX2_readNumber_34 : decode cX2_readNumber 34 = .ok (.aload_n 0, 1) := by decide +kernel
theorem dX2_readNumber_35 : decode cX2_readNumber 35 = .ok (.dup, 1) := by decide +kernel
theorem dX2_readNumber_36 : decode cX2_readNumber 36 = .ok (.getfield 19, 3) := by decide +kernel
theorem dX2_readNumber_39 : decode cX2_readNumber 39 = .ok (.iconst 1, 1) := by decide +kernel
theorem dX2_readNumber_40 : decode cX2_readNumber 40 = .ok (.iadd, 1) := by decide +kernel
theorem dX2_readNumber_41 : decode cX2_readNumber 41 = .ok (.putfield 19, 3) := by decide +kernel
theorem dX2_readNumber_44 : decode cX2_readNumber 44 = .ok (.goto (-39), 3) := by decide +kernel
theorem dX2_readNumber_47 : decode cX2_readNumber 47 = .ok (.aload_n 1, 1) := by decide +kernel
theorem dX2_readNumber_48 : decode cX2_readNumber 48 = .ok (.iload_n 2, 1) := by decide +kernel
theorem dX2_readNumber_49 : decode cX2_readNumber 49 = .ok (.iload_n 3, 1) := by decide +kernel
theorem dX2_readNumber_50 : decode cX2_readNumber 50 = .ok (.invokevirtual 93, 3) := by decide +kernel
theorem dX2_readNumber_53 : decode cX2_readNumber 53 = .ok (.iload 4, 2) := by decide +kernel
theorem dX2_readNumber_55 : decode cX2_readNumber 55 = .ok (.ifCond .le 7, 3) := by decide +kernel
theorem dX2_readNumber_58 : decode cX2_readNumber 58 = .ok (.iconst 1, 1) := by decide +kernel
theorem dX2_readNumber_59 : decode cX2_readNumber 59 = .ok (.goto 4, 3) := by decide +kernel
theorem dX2_readNumber_62 : decode cX2_readNumber 62 = .ok (.iconst 0, 1) := by decide +kernel
theorem dX2_readNumber_63 : decode cX2_readNumber 63 = .ok (.ireturn, 1) := by decide +kernel
set_option maxRecDepth 100000 in
set_option maxHeartbeats 4000000 in
theorem C_X2_readNumber (l : Launch) (E : gE) (x : gX) {v2 : Int32} {M : gM} {r : Bool} {M' : gM} (hf : f_X2_readNumber v2 M = some (r, M')) : gM0 l E yX2_readNumber (.code yX2_readNumber cX2_readNumber 5 (some .boolean)) (gR 2 40) M x [.ref (E.2.1 146), .ref (E.2.1 135), .int v2] (some (.int (gb r))) M' := by
  refine gMet (by decide +kernel) (Nat.le_of_ble_eq_true rfl) ?_
  intro p e s m args below meth c H locs ls Q hC hl hI kr kv
  replace hC : gC p s m args c cX2_readNumber 5 RX2 E := hC
  replace hl : lv_has ls 5 [(0, .ref (E.2.1 146)), (1, .ref (E.2.1 135)), (2, .int v2)] := hl
  have hx := hC.1
  have hb := hC.2.1
  have L5 : ∀ (v2 : Int32) (n : Nat) (v4 : Int32) (v3 : Int32) (M : gM), f_X2_readNumber_L5 v2 n v4 v3 M = some (r, M') → ∀ (H : Heap) (locs : List Loc) (ls : Array Slot), gI E s M x H locs → lv_has ls 5 [(4, .int v4), (3, .int v3), (0, .ref (E.2.1 146)), (1, .ref (E.2.1 135)), (2, .int v2)] → W p l e (gR 2 40) s m args below meth c H locs 0 0 Q (F0 m 5 ls []) := by
    intro v2 n
    induction n with
    | zero => intro v4 v3 M hf; rw [f_X2_readNumber_L5] at hf; cases hf
    | succ n ih =>
      intro v4 v3 M hf H locs ls hI hl
      rw [f_X2_readNumber_L5] at hf
      refine lv_iload hx hb dX2_readNumber_5 (lv_at hl 0 rfl) ?_
      refine lv_iconst (v := 3) hx hb dX2_readNumber_7 (by decide) ?_
      refine lv_icmp_ge (tgt := 47) hx hb dX2_readNumber_8 rfl (fun h1 => ?_) (fun h1 => ?_)
      · replace hf := gif h1 hf
        refine lv_aload_n hx hb dX2_readNumber_47 rfl (lv_at hl 3 rfl) ?_
        refine lv_iload_n hx hb dX2_readNumber_48 rfl (lv_at hl 4 rfl) ?_
        refine lv_iload_n hx hb dX2_readNumber_49 rfl (lv_at hl 1 rfl) ?_
        obtain ⟨r2, hr3, hf⟩ := gbind hf
        have hr3 := C_X4_keep l E x  hr3
        refine g_callVv (rest := []) hC hI hr3 Y_X4_keep V_X4_keep w1206 (rcv_X4 hC hI) ⟨rfl, rfl⟩ ⟨Nat.le_of_ble_eq_true rfl, Nat.le_of_ble_eq_true rfl⟩ rfl hl.1 rfl (Nat.le_of_ble_eq_true rfl) dX2_readNumber_50 ⟨Nat.zero_le _, Nat.zero_le _⟩ (fun H locs hI => ?_)
        refine lv_iload hx hb dX2_readNumber_53 (lv_at hl 0 rfl) ?_
        refine lv_if_le (tgt := 62) hx hb dX2_readNumber_55 rfl (fun h4 => ?_) (fun h4 => ?_)
        · replace hf := gif h4 hf
          refine lv_iconst (v := 0) hx hb dX2_readNumber_62 (by decide) ?_
          exact kr _ _ _ _ _ _ (grwb0 hf) hI ⟨.boolean, rfl, rfl⟩ dX2_readNumber_63
        · replace hf := gifn h4 hf
          refine lv_iconst (v := 1) hx hb dX2_readNumber_58 (by decide) ?_
          refine lv_goto (tgt := 63) hx hb dX2_readNumber_59 rfl ?_
          exact kr _ _ _ _ _ _ (grwb1 hf) hI ⟨.boolean, rfl, rfl⟩ dX2_readNumber_63
      · replace hf := gifn h1 hf
        refine lv_aload_n hx hb dX2_readNumber_11 rfl (lv_at hl 2 rfl) ?_
        obtain ⟨r5, hr6, hf⟩ := gbind hf
        have hr6 := C_X2_nextIsDigit l E x  hr6
        refine g_callVi (rest := []) hC hI hr6 Y_X2_nextIsDigit V_X2_nextIsDigit w1202 (rcv_X2 hC hI) ⟨rfl, rfl⟩ ⟨Nat.le_of_ble_eq_true rfl, Nat.le_of_ble_eq_true rfl⟩ rfl hl.1 rfl (Nat.le_of_ble_eq_true rfl) dX2_readNumber_12 ⟨Nat.zero_le _, Nat.zero_le _⟩ (fun H locs hI => ?_)
        refine lv_if_eq (tgt := 47) hx hb dX2_readNumber_15 rfl (fun h7 => ?_) (fun h7 => ?_)
        · replace hf := gif h7 hf
          refine lv_aload_n hx hb dX2_readNumber_47 rfl (lv_at hl 3 rfl) ?_
          refine lv_iload_n hx hb dX2_readNumber_48 rfl (lv_at hl 4 rfl) ?_
          refine lv_iload_n hx hb dX2_readNumber_49 rfl (lv_at hl 1 rfl) ?_
          obtain ⟨r8, hr9, hf⟩ := gbind hf
          have hr9 := C_X4_keep l E x  hr9
          refine g_callVv (rest := []) hC hI hr9 Y_X4_keep V_X4_keep w1206 (rcv_X4 hC hI) ⟨rfl, rfl⟩ ⟨Nat.le_of_ble_eq_true rfl, Nat.le_of_ble_eq_true rfl⟩ rfl hl.1 rfl (Nat.le_of_ble_eq_true rfl) dX2_readNumber_50 ⟨Nat.zero_le _, Nat.zero_le _⟩ (fun H locs hI => ?_)
          refine lv_iload hx hb dX2_readNumber_53 (lv_at hl 0 rfl) ?_
          refine lv_if_le (tgt := 62) hx hb dX2_readNumber_55 rfl (fun h10 => ?_) (fun h10 => ?_)
          · replace hf := gif h10 hf
            refine lv_iconst (v := 0) hx hb dX2_readNumber_62 (by decide) ?_
            exact kr _ _ _ _ _ _ (grwb0 hf) hI ⟨.boolean, rfl, rfl⟩ dX2_readNumber_63
          · replace hf := gifn h10 hf
            refine lv_iconst (v := 1) hx hb dX2_readNumber_58 (by decide) ?_
            refine lv_goto (tgt := 63) hx hb dX2_readNumber_59 rfl ?_
            exact kr _ _ _ _ _ _ (grwb1 hf) hI ⟨.boolean, rfl, rfl⟩ dX2_readNumber_63
        · replace hf := gifn h7 hf
          refine lv_iload_n hx hb dX2_readNumber_18 rfl (lv_at hl 1 rfl) ?_
          refine lv_bipush (v := 10) hx hb dX2_readNumber_19 (by decide) ?_
          refine lv_imul hx hb dX2_readNumber_21 ?_
          refine lv_aload_n hx hb dX2_readNumber_22 rfl (lv_at hl 2 rfl) ?_
          obtain ⟨r11, hr12, hf⟩ := gbind hf
          have hr12 := C_X2_nextChar l E x  hr12
          refine g_callVi (rest := [.int (v3 * 10)]) hC hI hr12 Y_X2_nextChar V_X2_nextChar w1129 (rcv_X2 hC hI) ⟨rfl, rfl⟩ ⟨Nat.le_of_ble_eq_true rfl, Nat.le_of_ble_eq_true rfl⟩ rfl hl.1 rfl (Nat.le_of_ble_eq_true rfl) dX2_readNumber_23 ⟨Nat.zero_le _, Nat.zero_le _⟩ (fun H locs hI => ?_)
          refine lv_bipush (v := 48) hx hb dX2_readNumber_26 (by decide) ?_
          refine lv_isub hx hb dX2_readNumber_28 ?_
          refine lv_iadd hx hb dX2_readNumber_29 ?_
          obtain ⟨z13, ez13, hf⟩ := glet hf
          refine g_top ez13 ?_
          refine lv_istore_n (lv' := [(3, .int z13), (4, .int v4), (0, .ref (E.2.1 146)), (1, .ref (E.2.1 135)), (2, .int v2)]) hx hb dX2_readNumber_30 rfl hl (by decide) rfl (fun ls hl => ?_)
          refine lv_iinc (k := 1) (v := v4 + 1) (lv' := [(4, .int (v4 + 1)), (3, .int z13), (0, .ref (E.2.1 146)), (1, .ref (E.2.1 135)), (2, .int v2)]) hx hb dX2_readNumber_31 hl rfl rfl (by decide) rfl (fun ls hl => ?_)
          refine lv_aload_n hx hb dX2_readNumber_34 rfl (lv_at hl 2 rfl) ?_
          refine lv_dup hx hb dX2_readNumber_35 rfl ?_
          refine gt_X2_X2_position hC hI dX2_readNumber_36 ?_
          refine lv_iconst (v := 1) hx hb dX2_readNumber_39 (by decide) ?_
          refine lv_iadd hx hb dX2_readNumber_40 ?_
          obtain ⟨M14, eM14, hf⟩ := glet hf
          refine pt_X2_X2_position hC hI dX2_readNumber_41 (fun H locs hI => ?_)
          replace hI := g_mem eM14 hI
          refine lv_goto (tgt := 5) hx hb dX2_readNumber_44 rfl ?_
          exact ih (v4 + 1) z13 M14 hf _ _ _ hI (lv_sub hl [0, 1, 2, 3, 4] rfl)
  unfold f_X2_readNumber at hf
  refine lv_iconst (v := 0) hx hb dX2_readNumber_0 (by decide) ?_
  refine lv_istore_n (lv' := [(3, .int 0), (0, .ref (E.2.1 146)), (1, .ref (E.2.1 135)), (2, .int v2)]) hx hb dX2_readNumber_1 rfl hl (by decide) rfl (fun ls hl => ?_)
  refine lv_iconst (v := 0) hx hb dX2_readNumber_2 (by decide) ?_
  refine lv_istore (lv' := [(4, .int 0), (3, .int 0), (0, .ref (E.2.1 146)), (1, .ref (E.2.1 135)), (2, .int v2)]) hx hb dX2_readNumber_3 hl (by decide) rfl (fun ls hl => ?_)
  exact L5 v2 gF 0 0 M hf _ _ _ hI (lv_sub hl [0, 1, 2, 3, 4] rfl)
theorem dX3_put_0 : decode cX3_put 0 = .ok (.aload_n 0, 1) := by decide +kernel
theorem dX3_put_1 : decode cX3_put 1 = .ok (.getfield 15, 3) := by decide +kernel
theorem dX3_put_4 : decode cX3_put 4 = .ok (.bipush 100, 2) := by decide +kernel
theorem dX3_put_6 : decode cX3_put 6 = .ok (.if_icmp .ge 23, 3) := by decide +kernel
theorem dX3_put_9 : decode cX3_put 9 = .ok (.aload_n 0, 1) := by decide +kernel
theorem dX3_put_10 : decode cX3_put 10 = .ok (.getfield 9, 3) := by decide +kernel
theorem dX3_put_13 : decode cX3_put 13 = .ok (.aload_n 0, 1) := by decide +kernel
theorem dX3_put_14 : decode cX3_put 14 = .ok (.getfield 15, 3) := by decide +kernel
theorem dX3_put_17 : decode cX3_put 17 = .ok (.iload_n 1, 1) := by decide +kernel
theorem dX3_put_18 : decode cX3_put 18 = .ok (.castore, 1) := by decide +kernel
theorem dX3_put_19 : decode cX3_put 19 = .ok (.aload_n 0, 1) := by decide +kernel
theorem dX3_put_20 : decode cX3_put 20 = .ok (.dup, 1) := by decide +kernel
theorem dX3_put_21 : decode cX3_put 21 = .ok (.getfield 15, 3) := by decide +kernel
theorem dX3_put_24 : decode cX3_put 24 = .ok (.iconst 1, 1) := by decide +kernel
theorem dX3_put_25 : decode cX3_put 25 = .ok (.iadd, 1) := by decide +kernel
theorem dX3_put_26 : decode cX3_put 26 = .ok (.putfield 15, 3) := by decide +kernel
theorem dX3_put_29 : decode cX3_put 29 = .ok (.return_, 1) := by decide +kernel
set_option maxRecDepth 100000 in
set_option maxHeartbeats 4000000 in
theorem C_X3_put (l : Launch) (E : gE) (x : gX) {v1 : Int32} {M : gM} {M' : gM} (hf : f_X3_put v1 M = some M') : gM0 l E yX3_put (.code yX3_put cX3_put 2 none) (gR 0 0) M x [.ref (E.2.1 148), .int v1] none M' := by
  refine gMet (by decide +kernel) (Nat.le_of_ble_eq_true rfl) ?_
  intro p e s m args below meth c H locs ls Q hC hl hI kr kv
  replace hC : gC p s m args c cX3_put 2 RX3 E := hC
  replace hl : lv_has ls 2 [(0, .ref (E.2.1 148)), (1, .int v1)] := hl
  have hx := hC.1
  have hb := hC.2.1
  unfold f_X3_put at hf
  refine lv_aload_n hx hb dX3_put_0 rfl (lv_at hl 0 rfl) ?_
  refine gt_X3_X3_length hC hI dX3_put_1 ?_
  refine lv_bipush (v := 100) hx hb dX3_put_4 (by decide) ?_
  refine lv_icmp_ge (tgt := 29) hx hb dX3_put_6 rfl (fun h1 => ?_) (fun h1 => ?_)
  · replace hf := gif h1 hf
    exact kv _ _ _ _ _ (grv hf) hI rfl dX3_put_29
  · replace hf := gifn h1 hf
    refine lv_aload_n hx hb dX3_put_9 rfl (lv_at hl 0 rfl) ?_
    refine gt_X3_X3_text hC hI dX3_put_10 ?_
    refine lv_aload_n hx hb dX3_put_13 rfl (lv_at hl 0 rfl) ?_
    refine gt_X3_X3_length hC hI dX3_put_14 ?_
    refine lv_iload_n hx hb dX3_put_17 rfl (lv_at hl 1 rfl) ?_
    obtain ⟨h2, hf⟩ := gifN hf
    obtain ⟨M3, eM3, hf⟩ := glet hf
    refine g_cast hC hI (k := (M 148 1).toNatClampNeg) gCA_149 h2 rfl dX3_put_18 (fun H locs hI => ?_)
    replace hI := g_mem eM3 hI
    refine lv_aload_n hx hb dX3_put_19 rfl (lv_at hl 0 rfl) ?_
    refine lv_dup hx hb dX3_put_20 rfl ?_
    refine gt_X3_X3_length hC hI dX3_put_21 ?_
    refine lv_iconst (v := 1) hx hb dX3_put_24 (by decide) ?_
    refine lv_iadd hx hb dX3_put_25 ?_
    obtain ⟨M4, eM4, hf⟩ := glet hf
    refine pt_X3_X3_length hC hI dX3_put_26 (fun H locs hI => ?_)
    replace hI := g_mem eM4 hI
    exact kv _ _ _ _ _ (grv hf) hI rfl dX3_put_29
theorem dX3_putNumber_0 : decode cX3_putNumber 0 = .ok (.ldc 76, 2) := by decide +kernel
theorem dX3_putNumber_2 : decode cX3_putNumber 2 = .ok (.istore_n 2, 1) := by decide +kernel
theorem dX3_putNumber_3 : decode cX3_putNumber 3 = .ok (.iload_n 2, 1) := by decide +kernel
theorem dX3_putNumber_4 : decode cX3_putNumber 4 = .ok (.ifCond .le 35, 3) := by decide +kernel
theorem dX3_putNumber_7 : decode cX3_putNumber 7 = .ok (.iload_n 1, 1) := by decide +kernel
theorem dX3_putNumber_8 : decode cX3_putNumber 8 = .ok (.iload_n 2, 1) := by decide +kernel
theorem dX3_putNumber_9 : decode cX3_putNumber 9 = .ok (.if_icmp .ge 8, 3) := by decide +kernel
theorem dX3_putNumber_12 : decode cX3_putNumber 12 = .ok (.iload_n 2, 1) := by decide +kernel
theorem dX3_putNumber_13 : decode cX3_putNumber 13 = .ok (.iconst 1, 1) := by decide +kernel
theorem dX3_putNumber_14 : decode cX3_putNumber 14 = .ok (.if_icmp .ne 17, 3) := by decide +kernel
theorem dX3_putNumber_17 : decode cX3_putNumber 17 = .ok (.aload_n 0, 1) := by decide +kernel
theorem dX3_putNumber_18 : decode cX3_putNumber 18 = .ok (.bipush 48, 2) := by decide +kernel
theorem dX3_putNumber_20 : decode cX3_putNumber 20 = .ok (.iload_n 1, 1) := by decide +kernel
theorem dX3_putNumber_21 : decode cX3_putNumber 21 = .ok (.iload_n 2, 1) := by decide +kernel
theorem dX3_putNumber_22 : decode cX3_putNumber 22 = .ok (.idiv, 1) := by decide +kernel
theorem dX3_putNumber_23 : decode cX3_putNumber 23 = .ok (.bipush 10, 2) := by decide +kernel
theorem dX3_putNumber_25 : decode cX3_putNumber 25 = .ok (.irem, 1) := by decide +kernel
theorem dX3_putNumber_26 : decode cX3_putNumber 26 = .ok (.iadd, 1) := by decide +kernel
theorem dX3_putNumber_27 : decode cX3_putNumber 27 = .ok (.i2c, 1) := by decide +kernel
theorem dX3_putNumber_28 : decode cX3_putNumber 28 = .ok (.invokevirtual 29, 3) := by decide +kernel
theorem dX3_putNumber_31 : decode cX3_putNumber 31 = .ok (.iload_n 2, 1) := by decide +kernel
theorem dX3_putNumber_32 : decode cX3_putNumber 32 = .ok (.bipush 10, 2) := by decide +kernel
theorem dX3_putNumber_34 : decode cX3_putNumber 34 = .ok (.idiv, 1) := by decide +kernel
theorem dX3_putNumber_35 : decode cX3_putNumber 35 = .ok (.istore_n 2, 1) := by decide +kernel
theorem dX3_putNumber_36 : decode cX3_putNumber 36 = .ok (.goto (-33), 3) := by decide +kernel
theorem dX3_putNumber_39 : decode cX3_putNumber 39 = .ok (.return_, 1) := by decide +kernel
set_option maxRecDepth 100000 in
set_option maxHeartbeats 4000000 in
theorem C_X3_putNumber (l : Launch) (E : gE) (x : gX) {v1 : Int32} {M : gM} {M' : gM} (hf : f_X3_putNumber v1 M = some M') : gM0 l E yX3_putNumber (.code yX3_putNumber cX3_putNumber 3 none) (gR 1 21) M x [.ref (E.2.1 148), .int v1] none M' := by
  refine gMet (by decide +kernel) (Nat.le_of_ble_eq_true rfl) ?_
  intro p e s m args below meth c H locs ls Q hC hl hI kr kv
  replace hC : gC p s m args c cX3_putNumber 3 RX3 E := hC
  replace hl : lv_has ls 3 [(0, .ref (E.2.1 148)), (1, .int v1)] := hl
  have hx := hC.1
  have hb := hC.2.1
  have L3 : ∀ (v1 : Int32) (n : Nat) (v2 : Int32) (M : gM), f_X3_putNumber_L3 v1 n v2 M = some M' → ∀ (H : Heap) (locs : List Loc) (ls : Array Slot), gI E s M x H locs → lv_has ls 3 [(2, .int v2), (0, .ref (E.2.1 148)), (1, .int v1)] → W p l e (gR 1 21) s m args below meth c H locs 0 0 Q (F0 m 3 ls []) := by
    intro v1 n
    induction n with
    | zero => intro v2 M hf; rw [f_X3_putNumber_L3] at hf; cases hf
    | succ n ih =>
      intro v2 M hf H locs ls hI hl
      rw [f_X3_putNumber_L3] at hf
      refine lv_iload_n hx hb dX3_putNumber_3 rfl (lv_at hl 0 rfl) ?_
      refine lv_if_le (tgt := 39) hx hb dX3_putNumber_4 rfl (fun h1 => ?_) (fun h1 => ?_)
      · replace hf := gif h1 hf
        exact kv _ _ _ _ _ (grv hf) hI rfl dX3_putNumber_39
      · replace hf := gifn h1 hf
        refine lv_iload_n hx hb dX3_putNumber_7 rfl (lv_at hl 2 rfl) ?_
        refine lv_iload_n hx hb dX3_putNumber_8 rfl (lv_at hl 0 rfl) ?_
        refine lv_icmp_ge (tgt := 17) hx hb dX3_putNumber_9 rfl (fun h2 => ?_) (fun h2 => ?_)
        · replace hf := gif h2 hf
          refine lv_aload_n hx hb dX3_putNumber_17 rfl (lv_at hl 1 rfl) ?_
          refine lv_bipush (v := 48) hx hb dX3_putNumber_18 (by decide) ?_
          refine lv_iload_n hx hb dX3_putNumber_20 rfl (lv_at hl 2 rfl) ?_
          refine lv_iload_n hx hb dX3_putNumber_21 rfl (lv_at hl 0 rfl) ?_
          obtain ⟨h3, hf⟩ := gifNn hf
          refine lv_idiv hx hb dX3_putNumber_22 h3 ?_
          refine lv_bipush (v := 10) hx hb dX3_putNumber_23 (by decide) ?_
          refine lv_irem hx hb dX3_putNumber_25 (by decide) ?_
          refine lv_iadd hx hb dX3_putNumber_26 ?_
          refine lv_i2c hx hb dX3_putNumber_27 rfl ?_
          obtain ⟨r4, hr5, hf⟩ := gbind hf
          have hr5 := C_X3_put l E x  hr5
          refine g_callVv (rest := []) hC hI hr5 Y_X3_put V_X3_put w1064 (rcv_X3 hC hI) ⟨rfl, rfl⟩ ⟨Nat.le_of_ble_eq_true rfl, Nat.le_of_ble_eq_true rfl⟩ rfl hl.1 rfl (Nat.le_of_ble_eq_true rfl) dX3_putNumber_28 ⟨Nat.zero_le _, Nat.zero_le _⟩ (fun H locs hI => ?_)
          refine lv_iload_n hx hb dX3_putNumber_31 rfl (lv_at hl 0 rfl) ?_
          refine lv_bipush (v := 10) hx hb dX3_putNumber_32 (by decide) ?_
          refine lv_idiv hx hb dX3_putNumber_34 (by decide) ?_
          obtain ⟨z6, ez6, hf⟩ := glet hf
          refine g_top ez6 ?_
          refine lv_istore_n (lv' := [(2, .int z6), (0, .ref (E.2.1 148)), (1, .int v1)]) hx hb dX3_putNumber_35 rfl hl (by decide) rfl (fun ls hl => ?_)
          refine lv_goto (tgt := 3) hx hb dX3_putNumber_36 rfl ?_
          exact ih z6 r4 hf _ _ _ hI (lv_sub hl [0, 1, 2] rfl)
        · replace hf := gifn h2 hf
          refine lv_iload_n hx hb dX3_putNumber_12 rfl (lv_at hl 0 rfl) ?_
          refine lv_iconst (v := 1) hx hb dX3_putNumber_13 (by decide) ?_
          refine lv_icmp_ne (tgt := 31) hx hb dX3_putNumber_14 rfl (fun h7 => ?_) (fun h7 => ?_)
          · replace hf := gifn h7 hf
            refine lv_iload_n hx hb dX3_putNumber_31 rfl (lv_at hl 0 rfl) ?_
            refine lv_bipush (v := 10) hx hb dX3_putNumber_32 (by decide) ?_
            refine lv_idiv hx hb dX3_putNumber_34 (by decide) ?_
            obtain ⟨z8, ez8, hf⟩ := glet hf
            refine g_top ez8 ?_
            refine lv_istore_n (lv' := [(2, .int z8), (0, .ref (E.2.1 148)), (1, .int v1)]) hx hb dX3_putNumber_35 rfl hl (by decide) rfl (fun ls hl => ?_)
            refine lv_goto (tgt := 3) hx hb dX3_putNumber_36 rfl ?_
            exact ih z8 M hf _ _ _ hI (lv_sub hl [0, 1, 2] rfl)
          · replace hf := gif h7 hf
            refine lv_aload_n hx hb dX3_putNumber_17 rfl (lv_at hl 1 rfl) ?_
            refine lv_bipush (v := 48) hx hb dX3_putNumber_18 (by decide) ?_
            refine lv_iload_n hx hb dX3_putNumber_20 rfl (lv_at hl 2 rfl) ?_
            refine lv_iload_n hx hb dX3_putNumber_21 rfl (lv_at hl 0 rfl) ?_
            obtain ⟨h9, hf⟩ := gifNn hf
            refine lv_idiv hx hb dX3_putNumber_22 h9 ?_
            refine lv_bipush (v := 10) hx hb dX3_putNumber_23 (by decide) ?_
            refine lv_irem hx hb dX3_putNumber_25 (by decide) ?_
            refine lv_iadd hx hb dX3_putNumber_26 ?_
            refine lv_i2c hx hb dX3_putNumber_27 rfl ?_
            obtain ⟨r10, hr11, hf⟩ := gbind hf
            have hr11 := C_X3_put l E x  hr11
            refine g_callVv (rest := []) hC hI hr11 Y_X3_put V_X3_put w1064 (rcv_X3 hC hI) ⟨rfl, rfl⟩ ⟨Nat.le_of_ble_eq_true rfl, Nat.le_of_ble_eq_true rfl⟩ rfl hl.1 rfl (Nat.le_of_ble_eq_true rfl) dX3_putNumber_28 ⟨Nat.zero_le _, Nat.zero_le _⟩ (fun H locs hI => ?_)
            refine lv_iload_n hx hb dX3_putNumber_31 rfl (lv_at hl 0 rfl) ?_
            refine lv_bipush (v := 10) hx hb dX3_putNumber_32 (by decide) ?_
            refine lv_idiv hx hb dX3_putNumber_34 (by decide) ?_
            obtain ⟨z12, ez12, hf⟩ := glet hf
            refine g_top ez12 ?_
            refine lv_istore_n (lv' := [(2, .int z12), (0, .ref (E.2.1 148)), (1, .int v1)]) hx hb dX3_putNumber_35 rfl hl (by decide) rfl (fun ls hl => ?_)
            refine lv_goto (tgt := 3) hx hb dX3_putNumber_36 rfl ?_
            exact ih z12 r10 hf _ _ _ hI (lv_sub hl [0, 1, 2] rfl)
  unfold f_X3_putNumber at hf
  refine lv_ldc hx hb hC.2.2.2.1 (hC.2.2.2.2.1 _ w1073) dX3_putNumber_0 ?_
  refine lv_istore_n (lv' := [(2, .int 1000000000), (0, .ref (E.2.1 148)), (1, .int v1)]) hx hb dX3_putNumber_2 rfl hl (by decide) rfl (fun ls hl => ?_)
  exact L3 v1 gF 1000000000 M hf _ _ _ hI (lv_sub hl [0, 1, 2] rfl)
theorem dX3_writeStack_0 : decode cX3_writeStack 0 = .ok (.aload_n 1, 1) := by decide +kernel
theorem dX3_writeStack_1 : decode cX3_writeStack 1 = .ok (.iload_n 2, 1) := by decide +kernel
theorem dX3_writeStack_2 : decode cX3_writeStack 2 = .ok (.invokevirtual 19, 3) := by decide +kernel
theorem dX3_writeStack_5 : decode cX3_writeStack 5 = .ok (.istore_n 3, 1) := by decide +kernel
theorem dX3_writeStack_6 : decode cX3_writeStack 6 = .ok (.aload_n 0, 1) := by decide +kernel
theorem dX3_writeStack_7 : decode cX3_writeStack 7 = .ok (.iconst 0, 1) := by decide +kernel
theorem dX3_writeStack_8 : decode cX3_writeStack 8 = .ok (.putfield 15, 3) := by decide +kernel
theorem dX3_writeStack_11 : decode cX3_writeStack 11 = .ok (.iconst 0, 1) := by decide +kernel
theorem dX3_writeStack_12 : decode cX3_writeStack 12 = .ok (.istore 4, 2) := by decide +kernel
theorem dX3_writeStack_14 : decode cX3_writeStack 14 = .ok (.iload 4, 2) := by decide +kernel
theorem dX3_writeStack_16 : decode cX3_writeStack 16 = .ok (.iload_n 3, 1) := by decide +kernel
theorem dX3_writeStack_17 : decode cX3_writeStack 17 = .ok (.if_icmp .ge 71, 3) := by decide +kernel
theorem dX3_writeStack_20 : decode cX3_writeStack 20 = .ok (.aload_n 1, 1) := by decide +kernel
theorem dX3_writeStack_21 : decode cX3_writeStack 21 = .ok (.iload_n 2, 1) := by decide +kernel
theorem dX3_writeStack_22 : decode cX3_writeStack 22 = .ok (.iload 4, 2) := by decide +kernel
theorem dX3_writeStack_24 : decode cX3_writeStack 24 = .ok (.invokevirtual 25, 3) := by decide +kernel
theorem dX3_writeStack_27 : decode cX3_writeStack 27 = .ok (.istore 5, 2) := by decide +kernel
theorem dX3_writeStack_29 : decode cX3_writeStack 29 = .ok (.iload 4, 2) := by decide +kernel
theorem dX3_writeStack_31 : decode cX3_writeStack 31 = .ok (.ifCond .le 9, 3) := by decide +kernel
theorem dX3_writeStack_34 : decode cX3_writeStack 34 = .ok (.aload_n 0, 1) := by decide +kernel
theorem dX3_writeStack_35 : decode cX3_writeStack 35 = .ok (.bipush 32, 2) := by decide +kernel
theorem dX3_writeStack_37 : decode cX3_writeStack 37 = .ok (.invokevirtual 29, 3) := by decide +kernel
theorem dX3_writeStack_40 : decode cX3_writeStack 40 = .ok (.aload_n 0, 1) := by decide +kernel
theorem dX3_writeStack_41 : decode cX3_writeStack 41 = .ok (.aload_n 1, 1) := by decide +kernel
theorem dX3_writeStack_42 : decode cX3_writeStack 42 = .ok (.iload 5, 2) := by decide +kernel
theorem dX3_writeStack_44 : decode cX3_writeStack 44 = .ok (.invokevirtual 33, 3) := by decide +kernel
theorem dX3_writeStack_47 : decode cX3_writeStack 47 = .ok (.invokevirtual 36, 3) := by decide +kernel
theorem dX3_writeStack_50 : decode cX3_writeStack 50 = .ok (.aload_n 0, 1) := by decide +kernel
theorem dX3_writeStack_51 : decode cX3_writeStack 51 = .ok (.bipush 58, 2) := by decide +kernel
theorem dX3_writeStack_53 : decode cX3_writeStack 53 = .ok (.invokevirtual 29, 3) := by decide +kernel
theorem dX3_writeStack_56 : decode cX3_writeStack 56 = .ok (.aload_n 0, 1) := by decide +kernel
theorem dX3_writeStack_57 : decode cX3_writeStack 57 = .ok (.aload_n 1, 1) := by decide +kernel
theorem dX3_writeStack_58 : decode cX3_writeStack 58 = .ok (.iload 5, 2) := by decide +kernel
theorem dX3_writeStack_60 : decode cX3_writeStack 60 = .ok (.invokevirtual 40, 3) := by decide +kernel
theorem dX3_writeStack_63 : decode cX3_writeStack 63 = .ok (.invokevirtual 36, 3) := by decide +kernel
theorem dX3_writeStack_66 : decode cX3_writeStack 66 = .ok (.aload_n 0, 1) := by decide +kernel
theorem dX3_writeStack_67 : decode cX3_writeStack 67 = .ok (.bipush 47, 2) := by decide +kernel
theorem dX3_writeStack_69 : decode cX3_writeStack 69 = .ok (.invokevirtual 29, 3) := by decide +kernel
theorem dX3_writeStack_72 : decode cX3_writeStack 72 = .ok (.aload_n 0, 1) := by decide +kernel
theorem dX3_writeStack_73 : decode cX3_writeStack 73 = .ok (.aload_n 1, 1) := by decide +kernel
theorem dX3_writeStack_74 : decode cX3_writeStack 74 = .ok (.iload 5, 2) := by decide +kernel
theorem dX3_writeStack_76 : decode cX3_writeStack 76 = .ok (.invokevirtual 43, 3) := by decide +kernel
theorem dX3_writeStack_79 : decode cX3_writeStack 79 = .ok (.invokevirtual 36, 3) := by decide +kernel
theorem dX3_writeStack_82 : decode cX3_writeStack 82 = .ok (.iinc 4 1, 3) := by decide +kernel
theorem dX3_writeStack_85 : decode cX3_writeStack 85 = .ok (.goto (-71), 3) := by decide +kernel
theorem dX3_writeStack_88 : decode cX3_writeStack 88 = .ok (.return_, 1) := by decide +kernel
set_option maxRecDepth 100000 in
set_option maxHeartbeats 4000000 in
theorem C_X3_writeStack (l : Launch) (E : gE) (x : gX) {o1 : Nat} (ho1 : gOk o1) {v2 : Int32} {M : gM} {M' : gM} (hf : f_X3_writeStack o1 v2 M = some M') : gM0 l E yX3_writeStack (.code yX3_writeStack cX3_writeStack 6 none) (gR 2 43) M x [.ref (E.2.1 148), .ref (E.2.1 (o1 + 1)), .int v2] none M' := by
  refine gMet (by decide +kernel) (Nat.le_of_ble_eq_true rfl) ?_
  intro p e s m args below meth c H locs ls Q hC hl hI kr kv
  replace hC : gC p s m args c cX3_writeStack 6 RX3 E := hC
  replace hl : lv_has ls 6 [(0, .ref (E.2.1 148)), (1, .ref (E.2.1 (o1 + 1))), (2, .int v2)] := hl
  have hx := hC.1
  have hb := hC.2.1
  have L14 : ∀ (v3 : Int32) (v2 : Int32) (n : Nat) (v4 : Int32) (M : gM), f_X3_writeStack_L14 o1 v3 v2 n v4 M = some M' → ∀ (H : Heap) (locs : List Loc) (ls : Array Slot), gI E s M x H locs → lv_has ls 6 [(4, .int v4), (3, .int v3), (0, .ref (E.2.1 148)), (1, .ref (E.2.1 (o1 + 1))), (2, .int v2)] → W p l e (gR 2 43) s m args below meth c H locs 0 0 Q (F0 m 14 ls []) := by
    intro v3 v2 n
    induction n with
    | zero => intro v4 M hf; rw [f_X3_writeStack_L14] at hf; cases hf
    | succ n ih =>
      intro v4 M hf H locs ls hI hl
      rw [f_X3_writeStack_L14] at hf
      refine lv_iload hx hb dX3_writeStack_14 (lv_at hl 0 rfl) ?_
      refine lv_iload_n hx hb dX3_writeStack_16 rfl (lv_at hl 1 rfl) ?_
      refine lv_icmp_ge (tgt := 88) hx hb dX3_writeStack_17 rfl (fun h4 => ?_) (fun h4 => ?_)
      · replace hf := gif h4 hf
        exact kv _ _ _ _ _ (grv hf) hI rfl dX3_writeStack_88
      · replace hf := gifn h4 hf
        refine lv_aload_n hx hb dX3_writeStack_20 rfl (lv_at hl 3 rfl) ?_
        refine lv_iload_n hx hb dX3_writeStack_21 rfl (lv_at hl 4 rfl) ?_
        refine lv_iload hx hb dX3_writeStack_22 (lv_at hl 0 rfl) ?_
        obtain ⟨r5, hr6, hf⟩ := gbind hf
        have hr6 := C_X0_rowAt l E x ho1 hr6
        refine g_callVi (rest := []) hC hI hr6 Y_X0_rowAt V_X0_rowAt w1063 (rcv_X0 hC hI ho1) ⟨rfl, rfl⟩ ⟨Nat.le_of_ble_eq_true rfl, Nat.le_of_ble_eq_true rfl⟩ rfl hl.1 rfl (Nat.le_of_ble_eq_true rfl) dX3_writeStack_24 ⟨Nat.zero_le _, Nat.zero_le _⟩ (fun H locs hI => ?_)
        refine lv_istore (lv' := [(5, .int r5), (4, .int v4), (3, .int v3), (0, .ref (E.2.1 148)), (1, .ref (E.2.1 (o1 + 1))), (2, .int v2)]) hx hb dX3_writeStack_27 hl (by decide) rfl (fun ls hl => ?_)
        refine lv_iload hx hb dX3_writeStack_29 (lv_at hl 1 rfl) ?_
        refine lv_if_le (tgt := 40) hx hb dX3_writeStack_31 rfl (fun h7 => ?_) (fun h7 => ?_)
        · replace hf := gif h7 hf
          refine lv_aload_n hx hb dX3_writeStack_40 rfl (lv_at hl 3 rfl) ?_
          refine lv_aload_n hx hb dX3_writeStack_41 rfl (lv_at hl 4 rfl) ?_
          refine lv_iload hx hb dX3_writeStack_42 (lv_at hl 0 rfl) ?_
          obtain ⟨r8, hr9, hf⟩ := gbind hf
          have hr9 := C_X0_id l E x ho1 hr9
          refine g_callVi (rest := [.ref (E.2.1 148)]) hC hI hr9 Y_X0_id V_X0_id w1068 (rcv_X0 hC hI ho1) ⟨rfl, rfl⟩ ⟨Nat.le_of_ble_eq_true rfl, Nat.le_of_ble_eq_true rfl⟩ rfl hl.1 rfl (Nat.le_of_ble_eq_true rfl) dX3_writeStack_44 ⟨Nat.zero_le _, Nat.zero_le _⟩ (fun H locs hI => ?_)
          obtain ⟨r10, hr11, hf⟩ := gbind hf
          have hr11 := C_X3_putNumber l E x  hr11
          refine g_callVv (rest := []) hC hI hr11 Y_X3_putNumber V_X3_putNumber w1069 (rcv_X3 hC hI) ⟨rfl, rfl⟩ ⟨Nat.le_of_ble_eq_true rfl, Nat.le_of_ble_eq_true rfl⟩ rfl hl.1 rfl (Nat.le_of_ble_eq_true rfl) dX3_writeStack_47 ⟨Nat.zero_le _, Nat.zero_le _⟩ (fun H locs hI => ?_)
          refine lv_aload_n hx hb dX3_writeStack_50 rfl (lv_at hl 3 rfl) ?_
          refine lv_bipush (v := 58) hx hb dX3_writeStack_51 (by decide) ?_
          obtain ⟨r12, hr13, hf⟩ := gbind hf
          have hr13 := C_X3_put l E x  hr13
          refine g_callVv (rest := []) hC hI hr13 Y_X3_put V_X3_put w1064 (rcv_X3 hC hI) ⟨rfl, rfl⟩ ⟨Nat.le_of_ble_eq_true rfl, Nat.le_of_ble_eq_true rfl⟩ rfl hl.1 rfl (Nat.le_of_ble_eq_true rfl) dX3_writeStack_53 ⟨Nat.zero_le _, Nat.zero_le _⟩ (fun H locs hI => ?_)
          refine lv_aload_n hx hb dX3_writeStack_56 rfl (lv_at hl 3 rfl) ?_
          refine lv_aload_n hx hb dX3_writeStack_57 rfl (lv_at hl 4 rfl) ?_
          refine lv_iload hx hb dX3_writeStack_58 (lv_at hl 0 rfl) ?_
          obtain ⟨r14, hr15, hf⟩ := gbind hf
          have hr15 := C_X0_weight l E x ho1 hr15
          refine g_callVi (rest := [.ref (E.2.1 148)]) hC hI hr15 Y_X0_weight V_X0_weight w1074 (rcv_X0 hC hI ho1) ⟨rfl, rfl⟩ ⟨Nat.le_of_ble_eq_true rfl, Nat.le_of_ble_eq_true rfl⟩ rfl hl.1 rfl (Nat.le_of_ble_eq_true rfl) dX3_writeStack_60 ⟨Nat.zero_le _, Nat.zero_le _⟩ (fun H locs hI => ?_)
          obtain ⟨r16, hr17, hf⟩ := gbind hf
          have hr17 := C_X3_putNumber l E x  hr17
          refine g_callVv (rest := []) hC hI hr17 Y_X3_putNumber V_X3_putNumber w1069 (rcv_X3 hC hI) ⟨rfl, rfl⟩ ⟨Nat.le_of_ble_eq_true rfl, Nat.le_of_ble_eq_true rfl⟩ rfl hl.1 rfl (Nat.le_of_ble_eq_true rfl) dX3_writeStack_63 ⟨Nat.zero_le _, Nat.zero_le _⟩ (fun H locs hI => ?_)
          refine lv_aload_n hx hb dX3_writeStack_66 rfl (lv_at hl 3 rfl) ?_
          refine lv_bipush (v := 47) hx hb dX3_writeStack_67 (by decide) ?_
          obtain ⟨r18, hr19, hf⟩ := gbind hf
          have hr19 := C_X3_put l E x  hr19
          refine g_callVv (rest := []) hC hI hr19 Y_X3_put V_X3_put w1064 (rcv_X3 hC hI) ⟨rfl, rfl⟩ ⟨Nat.le_of_ble_eq_true rfl, Nat.le_of_ble_eq_true rfl⟩ rfl hl.1 rfl (Nat.le_of_ble_eq_true rfl) dX3_writeStack_69 ⟨Nat.zero_le _, Nat.zero_le _⟩ (fun H locs hI => ?_)
          refine lv_aload_n hx hb dX3_writeStack_72 rfl (lv_at hl 3 rfl) ?_
          refine lv_aload_n hx hb dX3_writeStack_73 rfl (lv_at hl 4 rfl) ?_
          refine lv_iload hx hb dX3_writeStack_74 (lv_at hl 0 rfl) ?_
          obtain ⟨r20, hr21, hf⟩ := gbind hf
          have hr21 := C_X0_key l E x ho1 hr21
          refine g_callVi (rest := [.ref (E.2.1 148)]) hC hI hr21 Y_X0_key V_X0_key w1075 (rcv_X0 hC hI ho1) ⟨rfl, rfl⟩ ⟨Nat.le_of_ble_eq_true rfl, Nat.le_of_ble_eq_true rfl⟩ rfl hl.1 rfl (Nat.le_of_ble_eq_true rfl) dX3_writeStack_76 ⟨Nat.zero_le _, Nat.zero_le _⟩ (fun H locs hI => ?_)
          obtain ⟨r22, hr23, hf⟩ := gbind hf
          have hr23 := C_X3_putNumber l E x  hr23
          refine g_callVv (rest := []) hC hI hr23 Y_X3_putNumber V_X3_putNumber w1069 (rcv_X3 hC hI) ⟨rfl, rfl⟩ ⟨Nat.le_of_ble_eq_true rfl, Nat.le_of_ble_eq_true rfl⟩ rfl hl.1 rfl (Nat.le_of_ble_eq_true rfl) dX3_writeStack_79 ⟨Nat.zero_le _, Nat.zero_le _⟩ (fun H locs hI => ?_)
          refine lv_iinc (k := 1) (v := v4 + 1) (lv' := [(4, .int (v4 + 1)), (5, .int r5), (3, .int v3), (0, .ref (E.2.1 148)), (1, .ref (E.2.1 (o1 + 1))), (2, .int v2)]) hx hb dX3_writeStack_82 hl rfl rfl (by decide) rfl (fun ls hl => ?_)
          refine lv_goto (tgt := 14) hx hb dX3_writeStack_85 rfl ?_
          exact ih (v4 + 1) r22 hf _ _ _ hI (lv_sub hl [0, 2, 3, 4, 5] rfl)
        · replace hf := gifn h7 hf
          refine lv_aload_n hx hb dX3_writeStack_34 rfl (lv_at hl 3 rfl) ?_
          refine lv_bipush (v := 32) hx hb dX3_writeStack_35 (by decide) ?_
          obtain ⟨r24, hr25, hf⟩ := gbind hf
          have hr25 := C_X3_put l E x  hr25
          refine g_callVv (rest := []) hC hI hr25 Y_X3_put V_X3_put w1064 (rcv_X3 hC hI) ⟨rfl, rfl⟩ ⟨Nat.le_of_ble_eq_true rfl, Nat.le_of_ble_eq_true rfl⟩ rfl hl.1 rfl (Nat.le_of_ble_eq_true rfl) dX3_writeStack_37 ⟨Nat.zero_le _, Nat.zero_le _⟩ (fun H locs hI => ?_)
          refine lv_aload_n hx hb dX3_writeStack_40 rfl (lv_at hl 3 rfl) ?_
          refine lv_aload_n hx hb dX3_writeStack_41 rfl (lv_at hl 4 rfl) ?_
          refine lv_iload hx hb dX3_writeStack_42 (lv_at hl 0 rfl) ?_
          obtain ⟨r26, hr27, hf⟩ := gbind hf
          have hr27 := C_X0_id l E x ho1 hr27
          refine g_callVi (rest := [.ref (E.2.1 148)]) hC hI hr27 Y_X0_id V_X0_id w1068 (rcv_X0 hC hI ho1) ⟨rfl, rfl⟩ ⟨Nat.le_of_ble_eq_true rfl, Nat.le_of_ble_eq_true rfl⟩ rfl hl.1 rfl (Nat.le_of_ble_eq_true rfl) dX3_writeStack_44 ⟨Nat.zero_le _, Nat.zero_le _⟩ (fun H locs hI => ?_)
          obtain ⟨r28, hr29, hf⟩ := gbind hf
          have hr29 := C_X3_putNumber l E x  hr29
          refine g_callVv (rest := []) hC hI hr29 Y_X3_putNumber V_X3_putNumber w1069 (rcv_X3 hC hI) ⟨rfl, rfl⟩ ⟨Nat.le_of_ble_eq_true rfl, Nat.le_of_ble_eq_true rfl⟩ rfl hl.1 rfl (Nat.le_of_ble_eq_true rfl) dX3_writeStack_47 ⟨Nat.zero_le _, Nat.zero_le _⟩ (fun H locs hI => ?_)
          refine lv_aload_n hx hb dX3_writeStack_50 rfl (lv_at hl 3 rfl) ?_
          refine lv_bipush (v := 58) hx hb dX3_writeStack_51 (by decide) ?_
          obtain ⟨r30, hr31, hf⟩ := gbind hf
          have hr31 := C_X3_put l E x  hr31
          refine g_callVv (rest := []) hC hI hr31 Y_X3_put V_X3_put w1064 (rcv_X3 hC hI) ⟨rfl, rfl⟩ ⟨Nat.le_of_ble_eq_true rfl, Nat.le_of_ble_eq_true rfl⟩ rfl hl.1 rfl (Nat.le_of_ble_eq_true rfl) dX3_writeStack_53 ⟨Nat.zero_le _, Nat.zero_le _⟩ (fun H locs hI => ?_)
          refine lv_aload_n hx hb dX3_writeStack_56 rfl (lv_at hl 3 rfl) ?_
          refine lv_aload_n hx hb dX3_writeStack_57 rfl (lv_at hl 4 rfl) ?_
          refine lv_iload hx hb dX3_writeStack_58 (lv_at hl 0 rfl) ?_
          obtain ⟨r32, hr33, hf⟩ := gbind hf
          have hr33 := C_X0_weight l E x ho1 hr33
          refine g_callVi (rest := [.ref (E.2.1 148)]) hC hI hr33 Y_X0_weight V_X0_weight w1074 (rcv_X0 hC hI ho1) ⟨rfl, rfl⟩ ⟨Nat.le_of_ble_eq_true rfl, Nat.le_of_ble_eq_true rfl⟩ rfl hl.1 rfl (Nat.le_of_ble_eq_true rfl) dX3_writeStack_60 ⟨Nat.zero_le _, Nat.zero_le _⟩ (fun H locs hI => ?_)
          obtain ⟨r34, hr35, hf⟩ := gbind hf
          have hr35 := C_X3_putNumber l E x  hr35
          refine g_callVv (rest := []) hC hI hr35 Y_X3_putNumber V_X3_putNumber w1069 (rcv_X3 hC hI) ⟨rfl, rfl⟩ ⟨Nat.le_of_ble_eq_true rfl, Nat.le_of_ble_eq_true rfl⟩ rfl hl.1 rfl (Nat.le_of_ble_eq_true rfl) dX3_writeStack_63 ⟨Nat.zero_le _, Nat.zero_le _⟩ (fun H locs hI => ?_)
          refine lv_aload_n hx hb dX3_writeStack_66 rfl (lv_at hl 3 rfl) ?_
          refine lv_bipush (v := 47) hx hb dX3_writeStack_67 (by decide) ?_
          obtain ⟨r36, hr37, hf⟩ := gbind hf
          have hr37 := C_X3_put l E x  hr37
          refine g_callVv (rest := []) hC hI hr37 Y_X3_put V_X3_put w1064 (rcv_X3 hC hI) ⟨rfl, rfl⟩ ⟨Nat.le_of_ble_eq_true rfl, Nat.le_of_ble_eq_true rfl⟩ rfl hl.1 rfl (Nat.le_of_ble_eq_true rfl) dX3_writeStack_69 ⟨Nat.zero_le _, Nat.zero_le _⟩ (fun H locs hI => ?_)
          refine lv_aload_n hx hb dX3_writeStack_72 rfl (lv_at hl 3 rfl) ?_
          refine lv_aload_n hx hb dX3_writeStack_73 rfl (lv_at hl 4 rfl) ?_
          refine lv_iload hx hb dX3_writeStack_74 (lv_at hl 0 rfl) ?_
          obtain ⟨r38, hr39, hf⟩ := gbind hf
          have hr39 := C_X0_key l E x ho1 hr39
          refine g_callVi (rest := [.ref (E.2.1 148)]) hC hI hr39 Y_X0_key V_X0_key w1075 (rcv_X0 hC hI ho1) ⟨rfl, rfl⟩ ⟨Nat.le_of_ble_eq_true rfl, Nat.le_of_ble_eq_true rfl⟩ rfl hl.1 rfl (Nat.le_of_ble_eq_true rfl) dX3_writeStack_76 ⟨Nat.zero_le _, Nat.zero_le _⟩ (fun H locs hI => ?_)
          obtain ⟨r40, hr41, hf⟩ := gbind hf
          have hr41 := C_X3_putNumber l E x  hr41
          refine g_callVv (rest := []) hC hI hr41 Y_X3_putNumber V_X3_putNumber w1069 (rcv_X3 hC hI) ⟨rfl, rfl⟩ ⟨Nat.le_of_ble_eq_true rfl, Nat.le_of_ble_eq_true rfl⟩ rfl hl.1 rfl (Nat.le_of_ble_eq_true rfl) dX3_writeStack_79 ⟨Nat.zero_le _, Nat.zero_le _⟩ (fun H locs hI => ?_)
          refine lv_iinc (k := 1) (v := v4 + 1) (lv' := [(4, .int (v4 + 1)), (5, .int r5), (3, .int v3), (0, .ref (E.2.1 148)), (1, .ref (E.2.1 (o1 + 1))), (2, .int v2)]) hx hb dX3_writeStack_82 hl rfl rfl (by decide) rfl (fun ls hl => ?_)
          refine lv_goto (tgt := 14) hx hb dX3_writeStack_85 rfl ?_
          exact ih (v4 + 1) r40 hf _ _ _ hI (lv_sub hl [0, 2, 3, 4, 5] rfl)
  unfold f_X3_writeStack at hf
  refine lv_aload_n hx hb dX3_writeStack_0 rfl (lv_at hl 1 rfl) ?_
  refine lv_iload_n hx hb dX3_writeStack_1 rfl (lv_at hl 2 rfl) ?_
  obtain ⟨r1, hr2, hf⟩ := gbind hf
  have hr2 := C_X0_height l E x ho1 hr2
  refine g_callVi (rest := []) hC hI hr2 Y_X0_height V_X0_height w1062 (rcv_X0 hC hI ho1) ⟨rfl, rfl⟩ ⟨Nat.le_of_ble_eq_true rfl, Nat.le_of_ble_eq_true rfl⟩ rfl hl.1 rfl (Nat.le_of_ble_eq_true rfl) dX3_writeStack_2 ⟨Nat.zero_le _, Nat.zero_le _⟩ (fun H locs hI => ?_)
  refine lv_istore_n (lv' := [(3, .int r1), (0, .ref (E.2.1 148)), (1, .ref (E.2.1 (o1 + 1))), (2, .int v2)]) hx hb dX3_writeStack_5 rfl hl (by decide) rfl (fun ls hl => ?_)
  refine lv_aload_n hx hb dX3_writeStack_6 rfl (lv_at hl 1 rfl) ?_
  refine lv_iconst (v := 0) hx hb dX3_writeStack_7 (by decide) ?_
  obtain ⟨M3, eM3, hf⟩ := glet hf
  refine pt_X3_X3_length hC hI dX3_writeStack_8 (fun H locs hI => ?_)
  replace hI := g_mem eM3 hI
  refine lv_iconst (v := 0) hx hb dX3_writeStack_11 (by decide) ?_
  refine lv_istore (lv' := [(4, .int 0), (3, .int r1), (0, .ref (E.2.1 148)), (1, .ref (E.2.1 (o1 + 1))), (2, .int v2)]) hx hb dX3_writeStack_12 hl (by decide) rfl (fun ls hl => ?_)
  exact L14 r1 v2 gF 0 M3 hf _ _ _ hI (lv_sub hl [0, 1, 2, 3, 4] rfl)
theorem dX3_putPart_0 : decode cX3_putPart 0 = .ok (.aload_n 0, 1) := by decide +kernel
theorem dX3_putPart_1 : decode cX3_putPart 1 = .ok (.bipush 32, 2) := by decide +kernel
theorem dX3_putPart_3 : decode cX3_putPart 3 = .ok (.invokevirtual 29, 3) := by decide +kernel
theorem dX3_putPart_6 : decode cX3_putPart 6 = .ok (.aload_n 0, 1) := by decide +kernel
theorem dX3_putPart_7 : decode cX3_putPart 7 = .ok (.iload_n 1, 1) := by decide +kernel
theorem dX3_putPart_8 : decode cX3_putPart 8 = .ok (.invokevirtual 29, 3) := by decide +kernel
theorem dX3_putPart_11 : decode cX3_putPart 11 = .ok (.aload_n 0, 1) := by decide +kernel
theorem dX3_putPart_12 : decode cX3_putPart 12 = .ok (.iload_n 2, 1) := by decide +kernel
theorem dX3_putPart_13 : decode cX3_putPart 13 = .ok (.invokevirtual 36, 3) := by decide +kernel
theorem dX3_putPart_16 : decode cX3_putPart 16 = .ok (.return_, 1) := by decide +kernel
set_option maxRecDepth 100000 in
set_option maxHeartbeats 4000000 in
theorem C_X3_putPart (l : Launch) (E : gE) (x : gX) {v1 v2 : Int32} {M : gM} {M' : gM} (hf : f_X3_putPart v1 v2 M = some M') : gM0 l E yX3_putPart (.code yX3_putPart cX3_putPart 3 none) (gR 2 43) M x [.ref (E.2.1 148), .int v1, .int v2] none M' := by
  refine gMet (by decide +kernel) (Nat.le_of_ble_eq_true rfl) ?_
  intro p e s m args below meth c H locs ls Q hC hl hI kr kv
  replace hC : gC p s m args c cX3_putPart 3 RX3 E := hC
  replace hl : lv_has ls 3 [(0, .ref (E.2.1 148)), (1, .int v1), (2, .int v2)] := hl
  have hx := hC.1
  have hb := hC.2.1
  unfold f_X3_putPart at hf
  refine lv_aload_n hx hb dX3_putPart_0 rfl (lv_at hl 0 rfl) ?_
  refine lv_bipush (v := 32) hx hb dX3_putPart_1 (by decide) ?_
  obtain ⟨r1, hr2, hf⟩ := gbind hf
  have hr2 := C_X3_put l E x  hr2
  refine g_callVv (rest := []) hC hI hr2 Y_X3_put V_X3_put w1064 (rcv_X3 hC hI) ⟨rfl, rfl⟩ ⟨Nat.le_of_ble_eq_true rfl, Nat.le_of_ble_eq_true rfl⟩ rfl hl.1 rfl (Nat.le_of_ble_eq_true rfl) dX3_putPart_3 ⟨Nat.zero_le _, Nat.zero_le _⟩ (fun H locs hI => ?_)
  refine lv_aload_n hx hb dX3_putPart_6 rfl (lv_at hl 0 rfl) ?_
  refine lv_iload_n hx hb dX3_putPart_7 rfl (lv_at hl 1 rfl) ?_
  obtain ⟨r3, hr4, hf⟩ := gbind hf
  have hr4 := C_X3_put l E x  hr4
  refine g_callVv (rest := []) hC hI hr4 Y_X3_put V_X3_put w1064 (rcv_X3 hC hI) ⟨rfl, rfl⟩ ⟨Nat.le_of_ble_eq_true rfl, Nat.le_of_ble_eq_true rfl⟩ rfl hl.1 rfl (Nat.le_of_ble_eq_true rfl) dX3_putPart_8 ⟨Nat.zero_le _, Nat.zero_le _⟩ (fun H locs hI => ?_)
  refine lv_aload_n hx hb dX3_putPart_11 rfl (lv_at hl 0 rfl) ?_
  refine lv_iload_n hx hb dX3_putPart_12 rfl (lv_at hl 2 rfl) ?_
  obtain ⟨r5, hr6, hf⟩ := gbind hf
  have hr6 := C_X3_putNumber l E x  hr6
  refine g_callVv (rest := []) hC hI hr6 Y_X3_putNumber V_X3_putNumber w1069 (rcv_X3 hC hI) ⟨rfl, rfl⟩ ⟨Nat.le_of_ble_eq_true rfl, Nat.le_of_ble_eq_true rfl⟩ rfl hl.1 rfl (Nat.le_of_ble_eq_true rfl) dX3_putPart_13 ⟨Nat.zero_le _, Nat.zero_le _⟩ (fun H locs hI => ?_)
  exact kv _ _ _ _ _ (grv hf) hI rfl dX3_putPart_16
theorem dX3_writeBerth_0 : decode cX3_writeBerth 0 = .ok (.aload_n 0, 1) := by decide +kernel
theorem dX3_writeBerth_1 : decode cX3_writeBerth 1 = .ok (.iconst 0, 1) := by decide +kernel
theorem dX3_writeBerth_2 : decode cX3_writeBerth 2 = .ok (.putfield 15, 3) := by decide +kernel
theorem dX3_writeBerth_5 : decode cX3_writeBerth 5 = .ok (.aload_n 0, 1) := by decide +kernel
theorem dX3_writeBerth_6 : decode cX3_writeBerth 6 = .ok (.bipush 66, 2) := by decide +kernel
theorem dX3_writeBerth_8 : decode cX3_writeBerth 8 = .ok (.invokevirtual 29, 3) := by decide +kernel
theorem dX3_writeBerth_11 : decode cX3_writeBerth 11 = .ok (.aload_n 0, 1) := by decide +kernel
theorem dX3_writeBerth_12 : decode cX3_writeBerth 12 = .ok (.iload_n 2, 1) := by decide +kernel
theorem dX3_writeBerth_13 : decode cX3_writeBerth 13 = .ok (.invokevirtual 36, 3) := by decide +kernel
theorem dX3_writeBerth_16 : decode cX3_writeBerth 16 = .ok (.aload_n 1, 1) := by decide +kernel
theorem dX3_writeBerth_17 : decode cX3_writeBerth 17 = .ok (.iload_n 2, 1) := by decide +kernel
theorem dX3_writeBerth_18 : decode cX3_writeBerth 18 = .ok (.invokevirtual 46, 3) := by decide +kernel
theorem dX3_writeBerth_21 : decode cX3_writeBerth 21 = .ok (.ifCond .ne 16, 3) := by decide +kernel
theorem dX3_writeBerth_24 : decode cX3_writeBerth 24 = .ok (.aload_n 0, 1) := by decide +kernel
theorem dX3_writeBerth_25 : decode cX3_writeBerth 25 = .ok (.bipush 32, 2) := by decide +kernel
theorem dX3_writeBerth_27 : decode cX3_writeBerth 27 = .ok (.invokevirtual 29, 3) := by decide +kernel
theorem dX3_writeBerth_30 : decode cX3_writeBerth 30 = .ok (.aload_n 0, 1) := by decide +kernel
theorem dX3_writeBerth_31 : decode cX3_writeBerth 31 = .ok (.bipush 45, 2) := by decide +kernel
theorem dX3_writeBerth_33 : decode cX3_writeBerth 33 = .ok (.invokevirtual 29, 3) := by decide +kernel
theorem dX3_writeBerth_36 : decode cX3_writeBerth 36 = .ok (.return_, 1) := by decide +kernel
theorem dX3_writeBerth_37 : decode cX3_writeBerth 37 = .ok (.aload_n 0, 1) := by decide +kernel
theorem dX3_writeBerth_38 : decode cX3_writeBerth 38 = .ok (.bipush 100, 2) := by decide +kernel
theorem dX3_writeBerth_40 : decode cX3_writeBerth 40 = .ok (.aload_n 1, 1) := by decide +kernel
theorem dX3_writeBerth_41 : decode cX3_writeBerth 41 = .ok (.getfield 52, 3) := by decide +kernel
theorem dX3_writeBerth_44 : decode cX3_writeBerth 44 = .ok (.iload_n 2, 1) := by decide +kernel
theorem dX3_writeBerth_45 : decode cX3_writeBerth 45 = .ok (.iaload, 1) := by decide +kernel
theorem dX3_writeBerth_46 : decode cX3_writeBerth 46 = .ok (.invokevirtual 56, 3) := by decide +kernel
theorem dX3_writeBerth_49 : decode cX3_writeBerth 49 = .ok (.aload_n 0, 1) := by decide +kernel
theorem dX3_writeBerth_50 : decode cX3_writeBerth 50 = .ok (.bipush 104, 2) := by decide +kernel
theorem dX3_writeBerth_52 : decode cX3_writeBerth 52 = .ok (.aload_n 1, 1) := by decide +kernel
theorem dX3_writeBerth_53 : decode cX3_writeBerth 53 = .ok (.getfield 60, 3) := by decide +kernel
theorem dX3_writeBerth_56 : decode cX3_writeBerth 56 = .ok (.iload_n 2, 1) := by decide +kernel
theorem dX3_writeBerth_57 : decode cX3_writeBerth 57 = .ok (.iaload, 1) := by decide +kernel
theorem dX3_writeBerth_58 : decode cX3_writeBerth 58 = .ok (.invokevirtual 56, 3) := by decide +kernel
theorem dX3_writeBerth_61 : decode cX3_writeBerth 61 = .ok (.aload_n 0, 1) := by decide +kernel
theorem dX3_writeBerth_62 : decode cX3_writeBerth 62 = .ok (.bipush 32, 2) := by decide +kernel
theorem dX3_writeBerth_64 : decode cX3_writeBerth 64 = .ok (.invokevirtual 29, 3) := by decide +kernel
theorem dX3_writeBerth_67 : decode cX3_writeBerth 67 = .ok (.aload_n 0, 1) := by decide +kernel
theorem dX3_writeBerth_68 : decode cX3_writeBerth 68 = .ok (.aload_n 1, 1) := by decide +kernel
theorem dX3_writeBerth_69 : decode cX3_writeBerth 69 = .ok (.getfield 63, 3) := by decide +kernel
theorem dX3_writeBerth_72 : decode cX3_writeBerth 72 = .ok (.iload_n 2, 1) := by decide +kernel
theorem dX3_writeBerth_73 : decode cX3_writeBerth 73 = .ok (.invokevirtual 67, 3) := by decide +kernel
theorem dX3_writeBerth_76 : decode cX3_writeBerth 76 = .ok (.invokevirtual 36, 3) := by decide +kernel
theorem dX3_writeBerth_79 : decode cX3_writeBerth 79 = .ok (.aload_n 1, 1) := by decide +kernel
theorem dX3_writeBerth_80 : decode cX3_writeBerth 80 = .ok (.getfield 70, 3) := by decide +kernel
theorem dX3_writeBerth_83 : decode cX3_writeBerth 83 = .ok (.iload_n 2, 1) := by decide +kernel
theorem dX3_writeBerth_84 : decode cX3_writeBerth 84 = .ok (.iaload, 1) := by decide +kernel
theorem dX3_writeBerth_85 : decode cX3_writeBerth 85 = .ok (.ifCond .le 15, 3) := by decide +kernel
theorem dX3_writeBerth_88 : decode cX3_writeBerth 88 = .ok (.aload_n 0, 1) := by decide +kernel
theorem dX3_writeBerth_89 : decode cX3_writeBerth 89 = .ok (.bipush 120, 2) := by decide +kernel
theorem dX3_writeBerth_91 : decode cX3_writeBerth 91 = .ok (.aload_n 1, 1) := by decide +kernel
theorem dX3_writeBerth_92 : decode cX3_writeBerth 92 = .ok (.getfield 70, 3) := by decide +kernel
theorem dX3_writeBerth_95 : decode cX3_writeBerth 95 = .ok (.iload_n 2, 1) := by decide +kernel
theorem dX3_writeBerth_96 : decode cX3_writeBerth 96 = .ok (.iaload, 1) := by decide +kernel
theorem dX3_writeBerth_97 : decode cX3_writeBerth 97 = .ok (.invokevirtual 56, 3) := by decide +kernel
theorem dX3_writeBerth_100 : decode cX3_writeBerth 100 = .ok (.aload_n 1, 1) := by decide +kernel
theorem dX3_writeBerth_101 : decode cX3_writeBerth 101 = .ok (.getfield 73, 3) := by decide +kernel
theorem dX3_writeBerth_104 : decode cX3_writeBerth 104 = .ok (.iload_n 2, 1) := by decide +kernel
theorem dX3_writeBerth_105 : decode cX3_writeBerth 105 = .ok (.iaload, 1) := by decide +kernel
theorem dX3_writeBerth_106 : decode cX3_writeBerth 106 = .ok (.ifCond .le 15, 3) := by decide +kernel
theorem dX3_writeBerth_109 : decode cX3_writeBerth 109 = .ok (.aload_n 0, 1) := by decide +kernel
theorem dX3_writeBerth_110 : decode cX3_writeBerth 110 = .ok (.bipush 76, 2) := by decide +kernel
theorem dX3_writeBerth_112 : decode cX3_writeBerth 112 = .ok (.aload_n 1, 1) := by decide +kernel
theorem dX3_writeBerth_113 : decode cX3_writeBerth 113 = .ok (.getfield 73, 3) := by decide +kernel
theorem dX3_writeBerth_116 : decode cX3_writeBerth 116 = .ok (.iload_n 2, 1) := by decide +kernel
theorem dX3_writeBerth_117 : decode cX3_writeBerth 117 = .ok (.iaload, 1) := by decide +kernel
theorem dX3_writeBerth_118 : decode cX3_writeBerth 118 = .ok (.invokevirtual 56, 3) := by decide +kernel
theorem dX3_writeBerth_121 : decode cX3_writeBerth 121 = .ok (.return_, 1) := by decide +kernel
set_option maxRecDepth 100000 in
set_option maxHeartbeats 4000000 in
theorem C_X3_writeBerth (l : Launch) (E : gE) (x : gX) {o1 : Nat} (ho1 : gOk o1) {v2 : Int32} {M : gM} {M' : gM} (hf : f_X3_writeBerth o1 v2 M = some M') : gM0 l E yX3_writeBerth (.code yX3_writeBerth cX3_writeBerth 3 none) (gR 3 65) M x [.ref (E.2.1 148), .ref (E.2.1 o1), .int v2] none M' := by
  refine gMet (by decide +kernel) (Nat.le_of_ble_eq_true rfl) ?_
  intro p e s m args below meth c H locs ls Q hC hl hI kr kv
  replace hC : gC p s m args c cX3_writeBerth 3 RX3 E := hC
  replace hl : lv_has ls 3 [(0, .ref (E.2.1 148)), (1, .ref (E.2.1 o1)), (2, .int v2)] := hl
  have hx := hC.1
  have hb := hC.2.1
  unfold f_X3_writeBerth at hf
  refine lv_aload_n hx hb dX3_writeBerth_0 rfl (lv_at hl 0 rfl) ?_
  refine lv_iconst (v := 0) hx hb dX3_writeBerth_1 (by decide) ?_
  obtain ⟨M1, eM1, hf⟩ := glet hf
  refine pt_X3_X3_length hC hI dX3_writeBerth_2 (fun H locs hI => ?_)
  replace hI := g_mem eM1 hI
  refine lv_aload_n hx hb dX3_writeBerth_5 rfl (lv_at hl 0 rfl) ?_
  refine lv_bipush (v := 66) hx hb dX3_writeBerth_6 (by decide) ?_
  obtain ⟨r2, hr3, hf⟩ := gbind hf
  have hr3 := C_X3_put l E x  hr3
  refine g_callVv (rest := []) hC hI hr3 Y_X3_put V_X3_put w1064 (rcv_X3 hC hI) ⟨rfl, rfl⟩ ⟨Nat.le_of_ble_eq_true rfl, Nat.le_of_ble_eq_true rfl⟩ rfl hl.1 rfl (Nat.le_of_ble_eq_true rfl) dX3_writeBerth_8 ⟨Nat.zero_le _, Nat.zero_le _⟩ (fun H locs hI => ?_)
  refine lv_aload_n hx hb dX3_writeBerth_11 rfl (lv_at hl 0 rfl) ?_
  refine lv_iload_n hx hb dX3_writeBerth_12 rfl (lv_at hl 2 rfl) ?_
  obtain ⟨r4, hr5, hf⟩ := gbind hf
  have hr5 := C_X3_putNumber l E x  hr5
  refine g_callVv (rest := []) hC hI hr5 Y_X3_putNumber V_X3_putNumber w1069 (rcv_X3 hC hI) ⟨rfl, rfl⟩ ⟨Nat.le_of_ble_eq_true rfl, Nat.le_of_ble_eq_true rfl⟩ rfl hl.1 rfl (Nat.le_of_ble_eq_true rfl) dX3_writeBerth_13 ⟨Nat.zero_le _, Nat.zero_le _⟩ (fun H locs hI => ?_)
  refine lv_aload_n hx hb dX3_writeBerth_16 rfl (lv_at hl 1 rfl) ?_
  refine lv_iload_n hx hb dX3_writeBerth_17 rfl (lv_at hl 2 rfl) ?_
  obtain ⟨r6, hr7, hf⟩ := gbind hf
  have hr7 := C_X5_hasShip l E x ho1 hr7
  refine g_callVi (rest := []) hC hI hr7 Y_X5_hasShip V_X5_hasShip w1087 (rcv_X5 hC hI ho1) ⟨rfl, rfl⟩ ⟨Nat.le_of_ble_eq_true rfl, Nat.le_of_ble_eq_true rfl⟩ rfl hl.1 rfl (Nat.le_of_ble_eq_true rfl) dX3_writeBerth_18 ⟨Nat.zero_le _, Nat.zero_le _⟩ (fun H locs hI => ?_)
  refine lv_if_ne (tgt := 37) hx hb dX3_writeBerth_21 rfl (fun h8 => ?_) (fun h8 => ?_)
  · replace hf := gifn h8 hf
    refine lv_aload_n hx hb dX3_writeBerth_37 rfl (lv_at hl 0 rfl) ?_
    refine lv_bipush (v := 100) hx hb dX3_writeBerth_38 (by decide) ?_
    refine lv_aload_n hx hb dX3_writeBerth_40 rfl (lv_at hl 1 rfl) ?_
    refine gt_X3_X5_draughts hC hI ho1 dX3_writeBerth_41 ?_
    refine lv_iload_n hx hb dX3_writeBerth_44 rfl (lv_at hl 2 rfl) ?_
    obtain ⟨h9, hf⟩ := gifN hf
    refine g_iald hC hI (k := v2.toNatClampNeg) (gIA_8 ho1) h9 rfl dX3_writeBerth_45 ?_
    obtain ⟨r10, hr11, hf⟩ := gbind hf
    have hr11 := C_X3_putPart l E x  hr11
    refine g_callVv (rest := []) hC hI hr11 Y_X3_putPart V_X3_putPart w1088 (rcv_X3 hC hI) ⟨rfl, rfl⟩ ⟨Nat.le_of_ble_eq_true rfl, Nat.le_of_ble_eq_true rfl⟩ rfl hl.1 rfl (Nat.le_of_ble_eq_true rfl) dX3_writeBerth_46 ⟨Nat.zero_le _, Nat.zero_le _⟩ (fun H locs hI => ?_)
    refine lv_aload_n hx hb dX3_writeBerth_49 rfl (lv_at hl 0 rfl) ?_
    refine lv_bipush (v := 104) hx hb dX3_writeBerth_50 (by decide) ?_
    refine lv_aload_n hx hb dX3_writeBerth_52 rfl (lv_at hl 1 rfl) ?_
    refine gt_X3_X5_dueHours hC hI ho1 dX3_writeBerth_53 ?_
    refine lv_iload_n hx hb dX3_writeBerth_56 rfl (lv_at hl 2 rfl) ?_
    obtain ⟨h12, hf⟩ := gifN hf
    refine g_iald hC hI (k := v2.toNatClampNeg) (gIA_9 ho1) h12 rfl dX3_writeBerth_57 ?_
    obtain ⟨r13, hr14, hf⟩ := gbind hf
    have hr14 := C_X3_putPart l E x  hr14
    refine g_callVv (rest := []) hC hI hr14 Y_X3_putPart V_X3_putPart w1088 (rcv_X3 hC hI) ⟨rfl, rfl⟩ ⟨Nat.le_of_ble_eq_true rfl, Nat.le_of_ble_eq_true rfl⟩ rfl hl.1 rfl (Nat.le_of_ble_eq_true rfl) dX3_writeBerth_58 ⟨Nat.zero_le _, Nat.zero_le _⟩ (fun H locs hI => ?_)
    refine lv_aload_n hx hb dX3_writeBerth_61 rfl (lv_at hl 0 rfl) ?_
    refine lv_bipush (v := 32) hx hb dX3_writeBerth_62 (by decide) ?_
    obtain ⟨r15, hr16, hf⟩ := gbind hf
    have hr16 := C_X3_put l E x  hr16
    refine g_callVv (rest := []) hC hI hr16 Y_X3_put V_X3_put w1064 (rcv_X3 hC hI) ⟨rfl, rfl⟩ ⟨Nat.le_of_ble_eq_true rfl, Nat.le_of_ble_eq_true rfl⟩ rfl hl.1 rfl (Nat.le_of_ble_eq_true rfl) dX3_writeBerth_64 ⟨Nat.zero_le _, Nat.zero_le _⟩ (fun H locs hI => ?_)
    refine lv_aload_n hx hb dX3_writeBerth_67 rfl (lv_at hl 0 rfl) ?_
    refine lv_aload_n hx hb dX3_writeBerth_68 rfl (lv_at hl 1 rfl) ?_
    refine gt_X3_X5_cargo hC hI ho1 dX3_writeBerth_69 ?_
    refine lv_iload_n hx hb dX3_writeBerth_72 rfl (lv_at hl 2 rfl) ?_
    obtain ⟨r17, hr18, hf⟩ := gbind hf
    have hr18 := C_X0_loadOf l E x ho1 hr18
    refine g_callVi (rest := [.ref (E.2.1 148)]) hC hI hr18 Y_X0_loadOf V_X0_loadOf w1092 (rcv_X0 hC hI ho1) ⟨rfl, rfl⟩ ⟨Nat.le_of_ble_eq_true rfl, Nat.le_of_ble_eq_true rfl⟩ rfl hl.1 rfl (Nat.le_of_ble_eq_true rfl) dX3_writeBerth_73 ⟨Nat.zero_le _, Nat.zero_le _⟩ (fun H locs hI => ?_)
    obtain ⟨r19, hr20, hf⟩ := gbind hf
    have hr20 := C_X3_putNumber l E x  hr20
    refine g_callVv (rest := []) hC hI hr20 Y_X3_putNumber V_X3_putNumber w1069 (rcv_X3 hC hI) ⟨rfl, rfl⟩ ⟨Nat.le_of_ble_eq_true rfl, Nat.le_of_ble_eq_true rfl⟩ rfl hl.1 rfl (Nat.le_of_ble_eq_true rfl) dX3_writeBerth_76 ⟨Nat.zero_le _, Nat.zero_le _⟩ (fun H locs hI => ?_)
    refine lv_aload_n hx hb dX3_writeBerth_79 rfl (lv_at hl 1 rfl) ?_
    refine gt_X3_X5_wrongs hC hI ho1 dX3_writeBerth_80 ?_
    refine lv_iload_n hx hb dX3_writeBerth_83 rfl (lv_at hl 2 rfl) ?_
    obtain ⟨h21, hf⟩ := gifN hf
    refine g_iald hC hI (k := v2.toNatClampNeg) (gIA_10 ho1) h21 rfl dX3_writeBerth_84 ?_
    refine lv_if_le (tgt := 100) hx hb dX3_writeBerth_85 rfl (fun h22 => ?_) (fun h22 => ?_)
    · replace hf := gif h22 hf
      refine lv_aload_n hx hb dX3_writeBerth_100 rfl (lv_at hl 1 rfl) ?_
      refine gt_X3_X5_locks hC hI ho1 dX3_writeBerth_101 ?_
      refine lv_iload_n hx hb dX3_writeBerth_104 rfl (lv_at hl 2 rfl) ?_
      obtain ⟨h23, hf⟩ := gifN hf
      refine g_iald hC hI (k := v2.toNatClampNeg) (gIA_11 ho1) h23 rfl dX3_writeBerth_105 ?_
      refine lv_if_le (tgt := 121) hx hb dX3_writeBerth_106 rfl (fun h24 => ?_) (fun h24 => ?_)
      · replace hf := gif h24 hf
        exact kv _ _ _ _ _ (grv hf) hI rfl dX3_writeBerth_121
      · replace hf := gifn h24 hf
        refine lv_aload_n hx hb dX3_writeBerth_109 rfl (lv_at hl 0 rfl) ?_
        refine lv_bipush (v := 76) hx hb dX3_writeBerth_110 (by decide) ?_
        refine lv_aload_n hx hb dX3_writeBerth_112 rfl (lv_at hl 1 rfl) ?_
        refine gt_X3_X5_locks hC hI ho1 dX3_writeBerth_113 ?_
        refine lv_iload_n hx hb dX3_writeBerth_116 rfl (lv_at hl 2 rfl) ?_
        obtain ⟨h25, hf⟩ := gifN hf
        refine g_iald hC hI (k := v2.toNatClampNeg) (gIA_11 ho1) h25 rfl dX3_writeBerth_117 ?_
        obtain ⟨r26, hr27, hf⟩ := gbind hf
        have hr27 := C_X3_putPart l E x  hr27
        refine g_callVv (rest := []) hC hI hr27 Y_X3_putPart V_X3_putPart w1088 (rcv_X3 hC hI) ⟨rfl, rfl⟩ ⟨Nat.le_of_ble_eq_true rfl, Nat.le_of_ble_eq_true rfl⟩ rfl hl.1 rfl (Nat.le_of_ble_eq_true rfl) dX3_writeBerth_118 ⟨Nat.zero_le _, Nat.zero_le _⟩ (fun H locs hI => ?_)
        exact kv _ _ _ _ _ (grv hf) hI rfl dX3_writeBerth_121
    · replace hf := gifn h22 hf
      refine lv_aload_n hx hb dX3_writeBerth_88 rfl (lv_at hl 0 rfl) ?_
      refine lv_bipush (v := 120) hx hb dX3_writeBerth_89 (by decide) ?_
      refine lv_aload_n hx hb dX3_writeBerth_91 rfl (lv_at hl 1 rfl) ?_
      refine gt_X3_X5_wrongs hC hI ho1 dX3_writeBerth_92 ?_
      refine lv_iload_n hx hb dX3_writeBerth_95 rfl (lv_at hl 2 rfl) ?_
      obtain ⟨h28, hf⟩ := gifN hf
      refine g_iald hC hI (k := v2.toNatClampNeg) (gIA_10 ho1) h28 rfl dX3_writeBerth_96 ?_
      obtain ⟨r29, hr30, hf⟩ := gbind hf
      have hr30 := C_X3_putPart l E x  hr30
      refine g_callVv (rest := []) hC hI hr30 Y_X3_putPart V_X3_putPart w1088 (rcv_X3 hC hI) ⟨rfl, rfl⟩ ⟨Nat.le_of_ble_eq_true rfl, Nat.le_of_ble_eq_true rfl⟩ rfl hl.1 rfl (Nat.le_of_ble_eq_true rfl) dX3_writeBerth_97 ⟨Nat.zero_le _, Nat.zero_le _⟩ (fun H locs hI => ?_)
      refine lv_aload_n hx hb dX3_writeBerth_100 rfl (lv_at hl 1 rfl) ?_
      refine gt_X3_X5_locks hC hI ho1 dX3_writeBerth_101 ?_
      refine lv_iload_n hx hb dX3_writeBerth_104 rfl (lv_at hl 2 rfl) ?_
      obtain ⟨h31, hf⟩ := gifN hf
      refine g_iald hC hI (k := v2.toNatClampNeg) (gIA_11 ho1) h31 rfl dX3_writeBerth_105 ?_
      refine lv_if_le (tgt := 121) hx hb dX3_writeBerth_106 rfl (fun h32 => ?_) (fun h32 => ?_)
      · replace hf := gif h32 hf
        exact kv _ _ _ _ _ (grv hf) hI rfl dX3_writeBerth_121
      · replace hf := gifn h32 hf
        refine lv_aload_n hx hb dX3_writeBerth_109 rfl (lv_at hl 0 rfl) ?_
        refine lv_bipush (v := 76) hx hb dX3_writeBerth_110 (by decide) ?_
        refine lv_aload_n hx hb dX3_writeBerth_112 rfl (lv_at hl 1 rfl) ?_
        refine gt_X3_X5_locks hC hI ho1 dX3_writeBerth_113 ?_
        refine lv_iload_n hx hb dX3_writeBerth_116 rfl (lv_at hl 2 rfl) ?_
        obtain ⟨h33, hf⟩ := gifN hf
        refine g_iald hC hI (k := v2.toNatClampNeg) (gIA_11 ho1) h33 rfl dX3_writeBerth_117 ?_
        obtain ⟨r34, hr35, hf⟩ := gbind hf
        have hr35 := C_X3_putPart l E x  hr35
        refine g_callVv (rest := []) hC hI hr35 Y_X3_putPart V_X3_putPart w1088 (rcv_X3 hC hI) ⟨rfl, rfl⟩ ⟨Nat.le_of_ble_eq_true rfl, Nat.le_of_ble_eq_true rfl⟩ rfl hl.1 rfl (Nat.le_of_ble_eq_true rfl) dX3_writeBerth_118 ⟨Nat.zero_le _, Nat.zero_le _⟩ (fun H locs hI => ?_)
        exact kv _ _ _ _ _ (grv hf) hI rfl dX3_writeBerth_121
  · replace hf := gif h8 hf
    refine lv_aload_n hx hb dX3_writeBerth_24 rfl (lv_at hl 0 rfl) ?_
    refine lv_bipush (v := 32) hx hb dX3_writeBerth_25 (by decide) ?_
    obtain ⟨r36, hr37, hf⟩ := gbind hf
    have hr37 := C_X3_put l E x  hr37
    refine g_callVv (rest := []) hC hI hr37 Y_X3_put V_X3_put w1064 (rcv_X3 hC hI) ⟨rfl, rfl⟩ ⟨Nat.le_of_ble_eq_true rfl, Nat.le_of_ble_eq_true rfl⟩ rfl hl.1 rfl (Nat.le_of_ble_eq_true rfl) dX3_writeBerth_27 ⟨Nat.zero_le _, Nat.zero_le _⟩ (fun H locs hI => ?_)
    refine lv_aload_n hx hb dX3_writeBerth_30 rfl (lv_at hl 0 rfl) ?_
    refine lv_bipush (v := 45) hx hb dX3_writeBerth_31 (by decide) ?_
    obtain ⟨r38, hr39, hf⟩ := gbind hf
    have hr39 := C_X3_put l E x  hr39
    refine g_callVv (rest := []) hC hI hr39 Y_X3_put V_X3_put w1064 (rcv_X3 hC hI) ⟨rfl, rfl⟩ ⟨Nat.le_of_ble_eq_true rfl, Nat.le_of_ble_eq_true rfl⟩ rfl hl.1 rfl (Nat.le_of_ble_eq_true rfl) dX3_writeBerth_33 ⟨Nat.zero_le _, Nat.zero_le _⟩ (fun H locs hI => ?_)
    exact kv _ _ _ _ _ (grv hf) hI rfl dX3_writeBerth_36
theorem dX4_faultOf_0 : decode cX4_faultOf 0 = .ok (.iload_n 1, 1) := by decide +kernel
theorem dX4_faultOf_1 : decode cX4_faultOf 1 = .ok (.tableswitch 114 1 6 #[39, 53, 70, 84, 98, 106], 39) := by decide +kernel
theorem dX4_faultOf_40 : decode cX4_faultOf 40 = .ok (.aload_n 0, 1) := by decide +kernel
theorem dX4_faultOf_41 : decode cX4_faultOf 41 = .ok (.aload_n 2, 1) := by decide +kernel
theorem dX4_faultOf_42 : decode cX4_faultOf 42 = .ok (.iconst 0, 1) := by decide +kernel
theorem dX4_faultOf_43 : decode cX4_faultOf 43 = .ok (.iaload, 1) := by decide +kernel
theorem dX4_faultOf_44 : decode cX4_faultOf 44 = .ok (.aload_n 2, 1) := by decide +kernel
theorem dX4_faultOf_45 : decode cX4_faultOf 45 = .ok (.iconst 1, 1) := by decide +kernel
theorem dX4_faultOf_46 : decode cX4_faultOf 46 = .ok (.iaload, 1) := by decide +kernel
theorem dX4_faultOf_47 : decode cX4_faultOf 47 = .ok (.aload_n 2, 1) := by decide +kernel
theorem dX4_faultOf_48 : decode cX4_faultOf 48 = .ok (.iconst 2, 1) := by decide +kernel
theorem dX4_faultOf_49 : decode cX4_faultOf 49 = .ok (.iaload, 1) := by decide +kernel
theorem dX4_faultOf_50 : decode cX4_faultOf 50 = .ok (.invokevirtual 32, 3) := by decide +kernel
theorem dX4_faultOf_53 : decode cX4_faultOf 53 = .ok (.ireturn, 1) := by decide +kernel
theorem dX4_faultOf_54 : decode cX4_faultOf 54 = .ok (.aload_n 0, 1) := by decide +kernel
theorem dX4_faultOf_55 : decode cX4_faultOf 55 = .ok (.aload_n 2, 1) := by decide +kernel
theorem dX4_faultOf_56 : decode cX4_faultOf 56 = .ok (.iconst 0, 1) := by decide +kernel
theorem dX4_faultOf_57 : decode cX4_faultOf 57 = .ok (.iaload, 1) := by decide +kernel
theorem dX4_faultOf_58 : decode cX4_faultOf 58 = .ok (.aload_n 2, 1) := by decide +kernel
theorem dX4_faultOf_59 : decode cX4_faultOf 59 = .ok (.iconst 1, 1) := by decide +kernel
theorem dX4_faultOf_60 : decode cX4_faultOf 60 = .ok (.iaload, 1) := by decide +kernel
theorem dX4_faultOf_61 : decode cX4_faultOf 61 = .ok (.aload_n 2, 1) := by decide +kernel
theorem dX4_faultOf_62 : decode cX4_faultOf 62 = .ok (.iconst 2, 1) := by decide +kernel
theorem dX4_faultOf_63 : decode cX4_faultOf 63 = .ok (.iaload, 1) := by decide +kernel
theorem dX4_faultOf_64 : decode cX4_faultOf 64 = .ok (.aload_n 2, 1) := by decide +kernel
theorem dX4_faultOf_65 : decode cX4_faultOf 65 = .ok (.iconst 3, 1) := by decide +kernel
theorem dX4_faultOf_66 : decode cX4_faultOf 66 = .ok (.iaload, 1) := by decide +kernel
theorem dX4_faultOf_67 : decode cX4_faultOf 67 = .ok (.invokevirtual 38, 3) := by decide +kernel
theorem dX4_faultOf_70 : decode cX4_faultOf 70 = .ok (.ireturn, 1) := by decide +kernel
theorem dX4_faultOf_71 : decode cX4_faultOf 71 = .ok (.aload_n 0, 1) := by decide +kernel
theorem dX4_faultOf_72 : decode cX4_faultOf 72 = .ok (.aload_n 2, 1) := by decide +kernel
theorem dX4_faultOf_73 : decode cX4_faultOf 73 = .ok (.iconst 0, 1) := by decide +kernel
theorem dX4_faultOf_74 : decode cX4_faultOf 74 = .ok (.iaload, 1) := by decide +kernel
theorem dX4_faultOf_75 : decode cX4_faultOf 75 = .ok (.aload_n 2, 1) := by decide +kernel
theorem dX4_faultOf_76 : decode cX4_faultOf 76 = .ok (.iconst 1, 1) := by decide +kernel
theorem dX4_faultOf_77 : decode cX4_faultOf 77 = .ok (.iaload, 1) := by decide +kernel
theorem dX4_faultOf_78 : decode cX4_faultOf 78 = .ok (.aload_n 2, 1) := by decide +kernel
theorem dX4_faultOf_79 : decode cX4_faultOf 79 = .ok (.iconst 2, 1) := by decide +kernel
theorem dX4_faultOf_80 : decode cX4_faultOf 80 = .ok (.iaload, 1) := by decide +kernel
theorem dX4_faultOf_81 : decode cX4_faultOf 81 = .ok (.invokevirtual 42, 3) := by decide +kernel
theorem dX4_faultOf_84 : decode cX4_faultOf 84 = .ok (.ireturn, 1) := by decide +kernel
theorem dX4_faultOf_85 : decode cX4_faultOf 85 = .ok (.aload_n 0, 1) := by decide +kernel
theorem dX4_faultOf_86 : decode cX4_faultOf 86 = .ok (.aload_n 2, 1) := by decide +kernel
theorem dX4_faultOf_87 : decode cX4_faultOf 87 = .ok (.iconst 0, 1) := by decide +kernel
theorem dX4_faultOf_88 : decode cX4_faultOf 88 = .ok (.iaload, 1) := by decide +kernel
theorem dX4_faultOf_89 : decode cX4_faultOf 89 = .ok (.aload_n 2, 1) := by decide +kernel
theorem dX4_faultOf_90 : decode cX4_faultOf 90 = .ok (.iconst 1, 1) := by decide +kernel
theorem dX4_faultOf_91 : decode cX4_faultOf 91 = .ok (.iaload, 1) := by decide +kernel
theorem dX4_faultOf_92 : decode cX4_faultOf 92 = .ok (.aload_n 2, 1) := by decide +kernel
theorem dX4_faultOf_93 : decode cX4_faultOf 93 = .ok (.iconst 2, 1) := by decide +kernel
theorem dX4_faultOf_94 : decode cX4_faultOf 94 = .ok (.iaload, 1) := by decide +kernel
theorem dX4_faultOf_95 : decode cX4_faultOf 95 = .ok (.invokevirtual 45, 3) := by decide +kernel
theorem dX4_faultOf_98 : decode cX4_faultOf 98 = .ok (.ireturn, 1) := by decide +kernel
theorem dX4_faultOf_99 : decode cX4_faultOf 99 = .ok (.aload_n 0, 1) := by decide +kernel
theorem dX4_faultOf_100 : decode cX4_faultOf 100 = .ok (.aload_n 2, 1) := by decide +kernel
theorem dX4_faultOf_101 : decode cX4_faultOf 101 = .ok (.iconst 0, 1) := by decide +kernel
theorem dX4_faultOf_102 : decode cX4_faultOf 102 = .ok (.iaload, 1) := by decide +kernel
theorem dX4_faultOf_103 : decode cX4_faultOf 103 = .ok (.invokevirtual 48, 3) := by decide +kernel
theorem dX4_faultOf_106 : decode cX4_faultOf 106 = .ok (.ireturn, 1) := by decide +kernel
theorem dX4_faultOf_107 : decode cX4_faultOf 107 = .ok (.aload_n 0, 1) := by decide +kernel
theorem dX4_faultOf_108 : decode cX4_faultOf 108 = .ok (.aload_n 2, 1) := by decide +kernel
theorem dX4_faultOf_109 : decode cX4_faultOf 109 = .ok (.iconst 0, 1) := by decide +kernel
theorem dX4_faultOf_110 : decode cX4_faultOf 110 = .ok (.iaload, 1) := by decide +kernel
theorem dX4_faultOf_111 : decode cX4_faultOf 111 = .ok (.invokevirtual 52, 3) := by decide +kernel
theorem dX4_faultOf_114 : decode cX4_faultOf 114 = .ok (.ireturn, 1) := by decide +kernel
theorem dX4_faultOf_115 : decode cX4_faultOf 115 = .ok (.aload_n 2, 1) := by decide +kernel
theorem dX4_faultOf_116 : decode cX4_faultOf 116 = .ok (.iconst 0, 1) := by decide +kernel
theorem dX4_faultOf_117 : decode cX4_faultOf 117 = .ok (.iaload, 1) := by decide +kernel
theorem dX4_faultOf_118 : decode cX4_faultOf 118 = .ok (.invokestatic 55, 3) := by decide +kernel
theorem dX4_faultOf_121 : decode cX4_faultOf 121 = .ok (.ireturn, 1) := by decide +kernel
set_option maxRecDepth 100000 in
set_option maxHeartbeats 4000000 in
theorem C_X4_faultOf (l : Launch) (E : gE) (x : gX) {o0 : Nat} {a2 n2 : Nat} (ho0 : gOk o0) (ha2 : gIA a2 n2) {v1 : Int32} {M : gM} {r : Int32} (hf : f_X4_faultOf o0 a2 n2 v1 M = some r) : gM0 l E yX4_faultOf (.code yX4_faultOf cX4_faultOf 3 (some .int)) (gR 4 87) M x [.ref (E.2.1 o0), .int v1, .ref (E.2.1 a2)] (some (.int r)) M := by
  refine gMet (by decide +kernel) (Nat.le_of_ble_eq_true rfl) ?_
  intro p e s m args below meth c H locs ls Q hC hl hI kr kv
  replace hC : gC p s m args c cX4_faultOf 3 RX4 E := hC
  replace hl : lv_has ls 3 [(0, .ref (E.2.1 o0)), (1, .int v1), (2, .ref (E.2.1 a2))] := hl
  have hx := hC.1
  have hb := hC.2.1
  unfold f_X4_faultOf at hf
  refine lv_iload_n hx hb dX4_faultOf_0 rfl (lv_at hl 1 rfl) ?_
  by_cases h1 : v1 = 1
  · replace hf := gif h1 hf
    refine g_tabK (k := 1) (tgt := 40) hC dX4_faultOf_1 h1 (by decide) (by decide) rfl rfl ?_
    refine lv_aload_n hx hb dX4_faultOf_40 rfl (lv_at hl 0 rfl) ?_
    refine lv_aload_n hx hb dX4_faultOf_41 rfl (lv_at hl 2 rfl) ?_
    refine lv_iconst (v := 0) hx hb dX4_faultOf_42 (by decide) ?_
    obtain ⟨h2, hf⟩ := gifN hf
    refine g_iald hC hI (k := 0) ha2 h2 rfl dX4_faultOf_43 ?_
    refine lv_aload_n hx hb dX4_faultOf_44 rfl (lv_at hl 2 rfl) ?_
    refine lv_iconst (v := 1) hx hb dX4_faultOf_45 (by decide) ?_
    obtain ⟨h3, hf⟩ := gifN hf
    refine g_iald hC hI (k := 1) ha2 h3 rfl dX4_faultOf_46 ?_
    refine lv_aload_n hx hb dX4_faultOf_47 rfl (lv_at hl 2 rfl) ?_
    refine lv_iconst (v := 2) hx hb dX4_faultOf_48 (by decide) ?_
    obtain ⟨h4, hf⟩ := gifN hf
    refine g_iald hC hI (k := 2) ha2 h4 rfl dX4_faultOf_49 ?_
    obtain ⟨r5, hr6, hf⟩ := gbind hf
    have hr6 := C_X5_mooringFault l E x ho0 hr6
    refine g_callVi (rest := []) hC hI hr6 Y_X5_mooringFault V_X5_mooringFault w1240 (rcv_X5 hC hI ho0) ⟨rfl, rfl⟩ ⟨Nat.le_of_ble_eq_true rfl, Nat.le_of_ble_eq_true rfl⟩ rfl hl.1 rfl (Nat.le_of_ble_eq_true rfl) dX4_faultOf_50 ⟨Nat.zero_le _, Nat.zero_le _⟩ (fun H locs hI => ?_)
    exact kr _ _ _ _ _ _ (gri hf) hI ⟨.int, rfl, rfl⟩ dX4_faultOf_53
  · replace hf := gifn h1 hf
    by_cases h7 : v1 = 2
    · replace hf := gif h7 hf
      refine g_tabK (k := 2) (tgt := 54) hC dX4_faultOf_1 h7 (by decide) (by decide) rfl rfl ?_
      refine lv_aload_n hx hb dX4_faultOf_54 rfl (lv_at hl 0 rfl) ?_
      refine lv_aload_n hx hb dX4_faultOf_55 rfl (lv_at hl 2 rfl) ?_
      refine lv_iconst (v := 0) hx hb dX4_faultOf_56 (by decide) ?_
      obtain ⟨h8, hf⟩ := gifN hf
      refine g_iald hC hI (k := 0) ha2 h8 rfl dX4_faultOf_57 ?_
      refine lv_aload_n hx hb dX4_faultOf_58 rfl (lv_at hl 2 rfl) ?_
      refine lv_iconst (v := 1) hx hb dX4_faultOf_59 (by decide) ?_
      obtain ⟨h9, hf⟩ := gifN hf
      refine g_iald hC hI (k := 1) ha2 h9 rfl dX4_faultOf_60 ?_
      refine lv_aload_n hx hb dX4_faultOf_61 rfl (lv_at hl 2 rfl) ?_
      refine lv_iconst (v := 2) hx hb dX4_faultOf_62 (by decide) ?_
      obtain ⟨h10, hf⟩ := gifN hf
      refine g_iald hC hI (k := 2) ha2 h10 rfl dX4_faultOf_63 ?_
      refine lv_aload_n hx hb dX4_faultOf_64 rfl (lv_at hl 2 rfl) ?_
      refine lv_iconst (v := 3) hx hb dX4_faultOf_65 (by decide) ?_
      obtain ⟨h11, hf⟩ := gifN hf
      refine g_iald hC hI (k := 3) ha2 h11 rfl dX4_faultOf_66 ?_
      obtain ⟨r12, hr13, hf⟩ := gbind hf
      have hr13 := C_X5_stowingFault l E x ho0 hr13
      refine g_callVi (rest := []) hC hI hr13 Y_X5_stowingFault V_X5_stowingFault w1241 (rcv_X5 hC hI ho0) ⟨rfl, rfl⟩ ⟨Nat.le_of_ble_eq_true rfl, Nat.le_of_ble_eq_true rfl⟩ rfl hl.1 rfl (Nat.le_of_ble_eq_true rfl) dX4_faultOf_67 ⟨Nat.zero_le _, Nat.zero_le _⟩ (fun H locs hI => ?_)
      exact kr _ _ _ _ _ _ (gri hf) hI ⟨.int, rfl, rfl⟩ dX4_faultOf_70
    · replace hf := gifn h7 hf
      by_cases h14 : v1 = 3
      · replace hf := gif h14 hf
        refine g_tabK (k := 3) (tgt := 71) hC dX4_faultOf_1 h14 (by decide) (by decide) rfl rfl ?_
        refine lv_aload_n hx hb dX4_faultOf_71 rfl (lv_at hl 0 rfl) ?_
        refine lv_aload_n hx hb dX4_faultOf_72 rfl (lv_at hl 2 rfl) ?_
        refine lv_iconst (v := 0) hx hb dX4_faultOf_73 (by decide) ?_
        obtain ⟨h15, hf⟩ := gifN hf
        refine g_iald hC hI (k := 0) ha2 h15 rfl dX4_faultOf_74 ?_
        refine lv_aload_n hx hb dX4_faultOf_75 rfl (lv_at hl 2 rfl) ?_
        refine lv_iconst (v := 1) hx hb dX4_faultOf_76 (by decide) ?_
        obtain ⟨h16, hf⟩ := gifN hf
        refine g_iald hC hI (k := 1) ha2 h16 rfl dX4_faultOf_77 ?_
        refine lv_aload_n hx hb dX4_faultOf_78 rfl (lv_at hl 2 rfl) ?_
        refine lv_iconst (v := 2) hx hb dX4_faultOf_79 (by decide) ?_
        obtain ⟨h17, hf⟩ := gifN hf
        refine g_iald hC hI (k := 2) ha2 h17 rfl dX4_faultOf_80 ?_
        obtain ⟨r18, hr19, hf⟩ := gbind hf
        have hr19 := C_X5_clearingFault l E x ho0 hr19
        refine g_callVi (rest := []) hC hI hr19 Y_X5_clearingFault V_X5_clearingFault w1242 (rcv_X5 hC hI ho0) ⟨rfl, rfl⟩ ⟨Nat.le_of_ble_eq_true rfl, Nat.le_of_ble_eq_true rfl⟩ rfl hl.1 rfl (Nat.le_of_ble_eq_true rfl) dX4_faultOf_81 ⟨Nat.zero_le _, Nat.zero_le _⟩ (fun H locs hI => ?_)
        exact kr _ _ _ _ _ _ (gri hf) hI ⟨.int, rfl, rfl⟩ dX4_faultOf_84
      · replace hf := gifn h14 hf
        by_cases h20 : v1 = 4
        · replace hf := gif h20 hf
          refine g_tabK (k := 4) (tgt := 85) hC dX4_faultOf_1 h20 (by decide) (by decide) rfl rfl ?_
          refine lv_aload_n hx hb dX4_faultOf_85 rfl (lv_at hl 0 rfl) ?_
          refine lv_aload_n hx hb dX4_faultOf_86 rfl (lv_at hl 2 rfl) ?_
          refine lv_iconst (v := 0) hx hb dX4_faultOf_87 (by decide) ?_
          obtain ⟨h21, hf⟩ := gifN hf
          refine g_iald hC hI (k := 0) ha2 h21 rfl dX4_faultOf_88 ?_
          refine lv_aload_n hx hb dX4_faultOf_89 rfl (lv_at hl 2 rfl) ?_
          refine lv_iconst (v := 1) hx hb dX4_faultOf_90 (by decide) ?_
          obtain ⟨h22, hf⟩ := gifN hf
          refine g_iald hC hI (k := 1) ha2 h22 rfl dX4_faultOf_91 ?_
          refine lv_aload_n hx hb dX4_faultOf_92 rfl (lv_at hl 2 rfl) ?_
          refine lv_iconst (v := 2) hx hb dX4_faultOf_93 (by decide) ?_
          obtain ⟨h23, hf⟩ := gifN hf
          refine g_iald hC hI (k := 2) ha2 h23 rfl dX4_faultOf_94 ?_
          obtain ⟨r24, hr25, hf⟩ := gbind hf
          have hr25 := C_X5_movingFault l E x ho0 hr25
          refine g_callVi (rest := []) hC hI hr25 Y_X5_movingFault V_X5_movingFault w1243 (rcv_X5 hC hI ho0) ⟨rfl, rfl⟩ ⟨Nat.le_of_ble_eq_true rfl, Nat.le_of_ble_eq_true rfl⟩ rfl hl.1 rfl (Nat.le_of_ble_eq_true rfl) dX4_faultOf_95 ⟨Nat.zero_le _, Nat.zero_le _⟩ (fun H locs hI => ?_)
          exact kr _ _ _ _ _ _ (gri hf) hI ⟨.int, rfl, rfl⟩ dX4_faultOf_98
        · replace hf := gifn h20 hf
          by_cases h26 : v1 = 5
          · replace hf := gif h26 hf
            refine g_tabK (k := 5) (tgt := 99) hC dX4_faultOf_1 h26 (by decide) (by decide) rfl rfl ?_
            refine lv_aload_n hx hb dX4_faultOf_99 rfl (lv_at hl 0 rfl) ?_
            refine lv_aload_n hx hb dX4_faultOf_100 rfl (lv_at hl 2 rfl) ?_
            refine lv_iconst (v := 0) hx hb dX4_faultOf_101 (by decide) ?_
            obtain ⟨h27, hf⟩ := gifN hf
            refine g_iald hC hI (k := 0) ha2 h27 rfl dX4_faultOf_102 ?_
            obtain ⟨r28, hr29, hf⟩ := gbind hf
            have hr29 := C_X5_deliveringFault l E x ho0 hr29
            refine g_callVi (rest := []) hC hI hr29 Y_X5_deliveringFault V_X5_deliveringFault w1244 (rcv_X5 hC hI ho0) ⟨rfl, rfl⟩ ⟨Nat.le_of_ble_eq_true rfl, Nat.le_of_ble_eq_true rfl⟩ rfl hl.1 rfl (Nat.le_of_ble_eq_true rfl) dX4_faultOf_103 ⟨Nat.zero_le _, Nat.zero_le _⟩ (fun H locs hI => ?_)
            exact kr _ _ _ _ _ _ (gri hf) hI ⟨.int, rfl, rfl⟩ dX4_faultOf_106
          · replace hf := gifn h26 hf
            by_cases h30 : v1 = 6
            · replace hf := gif h30 hf
              refine g_tabK (k := 6) (tgt := 107) hC dX4_faultOf_1 h30 (by decide) (by decide) rfl rfl ?_
              refine lv_aload_n hx hb dX4_faultOf_107 rfl (lv_at hl 0 rfl) ?_
              refine lv_aload_n hx hb dX4_faultOf_108 rfl (lv_at hl 2 rfl) ?_
              refine lv_iconst (v := 0) hx hb dX4_faultOf_109 (by decide) ?_
              obtain ⟨h31, hf⟩ := gifN hf
              refine g_iald hC hI (k := 0) ha2 h31 rfl dX4_faultOf_110 ?_
              obtain ⟨r32, hr33, hf⟩ := gbind hf
              have hr33 := C_X5_leavingFault l E x ho0 hr33
              refine g_callVi (rest := []) hC hI hr33 Y_X5_leavingFault V_X5_leavingFault w1245 (rcv_X5 hC hI ho0) ⟨rfl, rfl⟩ ⟨Nat.le_of_ble_eq_true rfl, Nat.le_of_ble_eq_true rfl⟩ rfl hl.1 rfl (Nat.le_of_ble_eq_true rfl) dX4_faultOf_111 ⟨Nat.zero_le _, Nat.zero_le _⟩ (fun H locs hI => ?_)
              exact kr _ _ _ _ _ _ (gri hf) hI ⟨.int, rfl, rfl⟩ dX4_faultOf_114
            · replace hf := gifn h30 hf
              refine g_tabD (tgt := 115) [1, 2, 3, 4, 5, 6] hC dX4_faultOf_1 (List.forall_mem_cons.mpr ⟨h1, List.forall_mem_cons.mpr ⟨h7, List.forall_mem_cons.mpr ⟨h14, List.forall_mem_cons.mpr ⟨h20, List.forall_mem_cons.mpr ⟨h26, List.forall_mem_cons.mpr ⟨h30, fun _ h => absurd h List.not_mem_nil⟩⟩⟩⟩⟩⟩) (by decide) rfl ?_
              refine lv_aload_n hx hb dX4_faultOf_115 rfl (lv_at hl 2 rfl) ?_
              refine lv_iconst (v := 0) hx hb dX4_faultOf_116 (by decide) ?_
              obtain ⟨h34, hf⟩ := gifN hf
              refine g_iald hC hI (k := 0) ha2 h34 rfl dX4_faultOf_117 ?_
              obtain ⟨r35, hr36, hf⟩ := gbind hf
              have hr36 := C_X6_passingFault l E x  hr36
              refine g_callSNi (rest := []) hC hI hr36 Y_X6_passingFault S_X6_passingFault (List.mem_of_getElem? (i := 11) rfl) ⟨rfl, rfl⟩ ⟨Nat.le_of_ble_eq_true rfl, Nat.le_of_ble_eq_true rfl⟩ rfl hl.1 rfl (Nat.le_of_ble_eq_true rfl) dX4_faultOf_118 ⟨Nat.zero_le _, Nat.zero_le _⟩ (fun H locs hI => ?_)
              exact kr _ _ _ _ _ _ (gri hf) hI ⟨.int, rfl, rfl⟩ dX4_faultOf_121
theorem dX5_putShip_0 : decode cX5_putShip 0 = .ok (.iload_n 1, 1) := by decide +kernel
theorem dX5_putShip_1 : decode cX5_putShip 1 = .ok (.invokestatic 60, 3) := by decide +kernel
theorem dX5_putShip_4 : decode cX5_putShip 4 = .ok (.ifCond .eq 17, 3) := by decide +kernel
theorem dX5_putShip_7 : decode cX5_putShip 7 = .ok (.aload_n 0, 1) := by decide +kernel
theorem dX5_putShip_8 : decode cX5_putShip 8 = .ok (.getfield 18, 3) := by decide +kernel
theorem dX5_putShip_11 : decode cX5_putShip 11 = .ok (.iload_n 1, 1) := by decide +kernel
theorem dX5_putShip_12 : decode cX5_putShip 12 = .ok (.iload_n 2, 1) := by decide +kernel
theorem dX5_putShip_13 : decode cX5_putShip 13 = .ok (.iastore, 1) := by decide +kernel
theorem dX5_putShip_14 : decode cX5_putShip 14 = .ok (.aload_n 0, 1) := by decide +kernel
theorem dX5_putShip_15 : decode cX5_putShip 15 = .ok (.getfield 22, 3) := by decide +kernel
theorem dX5_putShip_18 : decode cX5_putShip 18 = .ok (.iload_n 1, 1) := by decide +kernel
theorem dX5_putShip_19 : decode cX5_putShip 19 = .ok (.iload_n 3, 1) := by decide +kernel
theorem dX5_putShip_20 : decode cX5_putShip 20 = .ok (.iastore, 1) := by decide +kernel
theorem dX5_putShip_21 : decode cX5_putShip 21 = .ok (.return_, 1) := by decide +kernel
set_option maxRecDepth 100000 in
set_option maxHeartbeats 4000000 in
theorem C_X5_putShip (l : Launch) (E : gE) (x : gX) {o : Nat} (ho : gOk o) {v1 v2 v3 : Int32} {M : gM} {M' : gM} (hf : f_X5_putShip o v1 v2 v3 M = some M') : gM0 l E yX5_putShip (.code yX5_putShip cX5_putShip 4 none) (gR 1 20) M x [.ref (E.2.1 o), .int v1, .int v2, .int v3] none M' := by
  refine gMet (by decide +kernel) (Nat.le_of_ble_eq_true rfl) ?_
  intro p e s m args below meth c H locs ls Q hC hl hI kr kv
  replace hC : gC p s m args c cX5_putShip 4 RX5 E := hC
  replace hl : lv_has ls 4 [(0, .ref (E.2.1 o)), (1, .int v1), (2, .int v2), (3, .int v3)] := hl
  have hx := hC.1
  have hb := hC.2.1
  unfold f_X5_putShip at hf
  refine lv_iload_n hx hb dX5_putShip_0 rfl (lv_at hl 1 rfl) ?_
  obtain ⟨r1, hr2, hf⟩ := gbind hf
  have hr2 := C_X6_isBerth l E x  hr2
  refine g_callSNi (rest := []) hC hI hr2 Y_X6_isBerth S_X6_isBerth (List.mem_of_getElem? (i := 6) rfl) ⟨rfl, rfl⟩ ⟨Nat.le_of_ble_eq_true rfl, Nat.le_of_ble_eq_true rfl⟩ rfl hl.1 rfl (Nat.le_of_ble_eq_true rfl) dX5_putShip_1 ⟨Nat.zero_le _, Nat.zero_le _⟩ (fun H locs hI => ?_)
  refine lv_if_eq (tgt := 21) hx hb dX5_putShip_4 rfl (fun h3 => ?_) (fun h3 => ?_)
  · replace hf := gif h3 hf
    exact kv _ _ _ _ _ (grv hf) hI rfl dX5_putShip_21
  · replace hf := gifn h3 hf
    refine lv_aload_n hx hb dX5_putShip_7 rfl (lv_at hl 0 rfl) ?_
    refine gt_X5_X5_draughts hC hI ho dX5_putShip_8 ?_
    refine lv_iload_n hx hb dX5_putShip_11 rfl (lv_at hl 1 rfl) ?_
    refine lv_iload_n hx hb dX5_putShip_12 rfl (lv_at hl 2 rfl) ?_
    obtain ⟨h4, hf⟩ := gifN hf
    obtain ⟨M5, eM5, hf⟩ := glet hf
    refine g_iast hC hI (k := v1.toNatClampNeg) (gIA_8 ho) h4 rfl dX5_putShip_13 (fun H locs hI => ?_)
    replace hI := g_mem eM5 hI
    refine lv_aload_n hx hb dX5_putShip_14 rfl (lv_at hl 0 rfl) ?_
    refine gt_X5_X5_dueHours hC hI ho dX5_putShip_15 ?_
    refine lv_iload_n hx hb dX5_putShip_18 rfl (lv_at hl 1 rfl) ?_
    refine lv_iload_n hx hb dX5_putShip_19 rfl (lv_at hl 3 rfl) ?_
    obtain ⟨h6, hf⟩ := gifN hf
    obtain ⟨M7, eM7, hf⟩ := glet hf
    refine g_iast hC hI (k := v1.toNatClampNeg) (gIA_9 ho) h6 rfl dX5_putShip_20 (fun H locs hI => ?_)
    replace hI := g_mem eM7 hI
    exact kv _ _ _ _ _ (grv hf) hI rfl dX5_putShip_21
theorem dX5_putContainer_0 : decode cX5_putContainer 0 = .ok (.aload_n 0, 1) := by decide +kernel
theorem dX5_putContainer_1 : decode cX5_putContainer 1 = .ok (.getfield 38, 3) := by decide +kernel
theorem dX5_putContainer_4 : decode cX5_putContainer 4 = .ok (.istore 5, 2) := by decide +kernel
theorem dX5_putContainer_6 : decode cX5_putContainer 6 = .ok (.aload_n 0, 1) := by decide +kernel
theorem dX5_putContainer_7 : decode cX5_putContainer 7 = .ok (.getfield 12, 3) := by decide +kernel
theorem dX5_putContainer_10 : decode cX5_putContainer 10 = .ok (.iload 5, 2) := by decide +kernel
theorem dX5_putContainer_12 : decode cX5_putContainer 12 = .ok (.iload_n 3, 1) := by decide +kernel
theorem dX5_putContainer_13 : decode cX5_putContainer 13 = .ok (.iload 4, 2) := by decide +kernel
theorem dX5_putContainer_15 : decode cX5_putContainer 15 = .ok (.iload_n 1, 1) := by decide +kernel
theorem dX5_putContainer_16 : decode cX5_putContainer 16 = .ok (.iload_n 2, 1) := by decide +kernel
theorem dX5_putContainer_17 : decode cX5_putContainer 17 = .ok (.invokestatic 70, 3) := by decide +kernel
theorem dX5_putContainer_20 : decode cX5_putContainer 20 = .ok (.invokevirtual 78, 3) := by decide +kernel
theorem dX5_putContainer_23 : decode cX5_putContainer 23 = .ok (.aload_n 0, 1) := by decide +kernel
theorem dX5_putContainer_24 : decode cX5_putContainer 24 = .ok (.dup, 1) := by decide +kernel
theorem dX5_putContainer_25 : decode cX5_putContainer 25 = .ok (.getfield 38, 3) := by decide +kernel
theorem dX5_putContainer_28 : decode cX5_putContainer 28 = .ok (.iconst 1, 1) := by decide +kernel
theorem dX5_putContainer_29 : decode cX5_putContainer 29 = .ok (.iadd, 1) := by decide +kernel
theorem dX5_putContainer_30 : decode cX5_putContainer 30 = .ok (.putfield 38, 3) := by decide +kernel
theorem dX5_putContainer_33 : decode cX5_putContainer 33 = .ok (.iload 5, 2) := by decide +kernel
theorem dX5_putContainer_35 : decode cX5_putContainer 35 = .ok (.ireturn, 1) := by decide +kernel
set_option maxRecDepth 100000 in
set_option maxHeartbeats 4000000 in
theorem C_X5_putContainer (l : Launch) (E : gE) (x : gX) {o : Nat} (ho : gOk o) {v1 v2 v3 v4 : Int32} {M : gM} {r : Int32} {M' : gM} (hf : f_X5_putContainer o v1 v2 v3 v4 M = some (r, M')) : gM0 l E yX5_putContainer (.code yX5_putContainer cX5_putContainer 6 (some .int)) (gR 2 48) M x [.ref (E.2.1 o), .int v1, .int v2, .int v3, .int v4] (some (.int r)) M' := by
  refine gMet (by decide +kernel) (Nat.le_of_ble_eq_true rfl) ?_
  intro p e s m args below meth c H locs ls Q hC hl hI kr kv
  replace hC : gC p s m args c cX5_putContainer 6 RX5 E := hC
  replace hl : lv_has ls 6 [(0, .ref (E.2.1 o)), (1, .int v1), (2, .int v2), (3, .int v3), (4, .int v4)] := hl
  have hx := hC.1
  have hb := hC.2.1
  unfold f_X5_putContainer at hf
  refine lv_aload_n hx hb dX5_putContainer_0 rfl (lv_at hl 0 rfl) ?_
  refine gt_X5_X5_nextId hC hI ho dX5_putContainer_1 ?_
  obtain ⟨z1, ez1, hf⟩ := glet hf
  refine g_top ez1 ?_
  refine lv_istore (lv' := [(5, .int z1), (0, .ref (E.2.1 o)), (1, .int v1), (2, .int v2), (3, .int v3), (4, .int v4)]) hx hb dX5_putContainer_4 hl (by decide) rfl (fun ls hl => ?_)
  refine lv_aload_n hx hb dX5_putContainer_6 rfl (lv_at hl 1 rfl) ?_
  refine gt_X5_X5_cargo hC hI ho dX5_putContainer_7 ?_
  refine lv_iload hx hb dX5_putContainer_10 (lv_at hl 0 rfl) ?_
  refine lv_iload_n hx hb dX5_putContainer_12 rfl (lv_at hl 4 rfl) ?_
  refine lv_iload hx hb dX5_putContainer_13 (lv_at hl 5 rfl) ?_
  refine lv_iload_n hx hb dX5_putContainer_15 rfl (lv_at hl 2 rfl) ?_
  refine lv_iload_n hx hb dX5_putContainer_16 rfl (lv_at hl 3 rfl) ?_
  obtain ⟨r2, hr3, hf⟩ := gbind hf
  have hr3 := C_X6_pileOf l E x  hr3
  refine g_callSNi (rest := [.int v4, .int v3, .int z1, .ref (E.2.1 (o + 1))]) hC hI hr3 Y_X6_pileOf S_X6_pileOf (List.mem_of_getElem? (i := 10) rfl) ⟨rfl, rfl⟩ ⟨Nat.le_of_ble_eq_true rfl, Nat.le_of_ble_eq_true rfl⟩ rfl hl.1 rfl (Nat.le_of_ble_eq_true rfl) dX5_putContainer_17 ⟨Nat.zero_le _, Nat.zero_le _⟩ (fun H locs hI => ?_)
  obtain ⟨r4, hr5, hf⟩ := gbind hf
  have hr5 := C_X0_add l E x ho hr5
  refine g_callVv (rest := []) hC hI hr5 Y_X0_add V_X0_add w626 (rcv_X0 hC hI ho) ⟨rfl, rfl⟩ ⟨Nat.le_of_ble_eq_true rfl, Nat.le_of_ble_eq_true rfl⟩ rfl hl.1 rfl (Nat.le_of_ble_eq_true rfl) dX5_putContainer_20 ⟨Nat.zero_le _, Nat.zero_le _⟩ (fun H locs hI => ?_)
  refine lv_aload_n hx hb dX5_putContainer_23 rfl (lv_at hl 1 rfl) ?_
  refine lv_dup hx hb dX5_putContainer_24 rfl ?_
  refine gt_X5_X5_nextId hC hI ho dX5_putContainer_25 ?_
  refine lv_iconst (v := 1) hx hb dX5_putContainer_28 (by decide) ?_
  refine lv_iadd hx hb dX5_putContainer_29 ?_
  obtain ⟨M6, eM6, hf⟩ := glet hf
  refine pt_X5_X5_nextId hC hI ho dX5_putContainer_30 (fun H locs hI => ?_)
  replace hI := g_mem eM6 hI
  refine lv_iload hx hb dX5_putContainer_33 (lv_at hl 0 rfl) ?_
  exact kr _ _ _ _ _ _ (grw hf) hI ⟨.int, rfl, rfl⟩ dX5_putContainer_35
theorem dX5_countWrongAnswer_0 : decode cX5_countWrongAnswer 0 = .ok (.aload_n 0, 1) := by decide +kernel
theorem dX5_countWrongAnswer_1 : decode cX5_countWrongAnswer 1 = .ok (.dup, 1) := by decide +kernel
theorem dX5_countWrongAnswer_2 : decode cX5_countWrongAnswer 2 = .ok (.getfield 47, 3) := by decide +kernel
theorem dX5_countWrongAnswer_5 : decode cX5_countWrongAnswer 5 = .ok (.iconst 1, 1) := by decide +kernel
theorem dX5_countWrongAnswer_6 : decode cX5_countWrongAnswer 6 = .ok (.iadd, 1) := by decide +kernel
theorem dX5_countWrongAnswer_7 : decode cX5_countWrongAnswer 7 = .ok (.putfield 47, 3) := by decide +kernel
theorem dX5_countWrongAnswer_10 : decode cX5_countWrongAnswer 10 = .ok (.aload_n 0, 1) := by decide +kernel
theorem dX5_countWrongAnswer_11 : decode cX5_countWrongAnswer 11 = .ok (.dup, 1) := by decide +kernel
theorem dX5_countWrongAnswer_12 : decode cX5_countWrongAnswer 12 = .ok (.getfield 35, 3) := by decide +kernel
theorem dX5_countWrongAnswer_15 : decode cX5_countWrongAnswer 15 = .ok (.iconst 5, 1) := by decide +kernel
theorem dX5_countWrongAnswer_16 : decode cX5_countWrongAnswer 16 = .ok (.iadd, 1) := by decide +kernel
theorem dX5_countWrongAnswer_17 : decode cX5_countWrongAnswer 17 = .ok (.putfield 35, 3) := by decide +kernel
theorem dX5_countWrongAnswer_20 : decode cX5_countWrongAnswer 20 = .ok (.iload_n 1, 1) := by decide +kernel
theorem dX5_countWrongAnswer_21 : decode cX5_countWrongAnswer 21 = .ok (.invokestatic 60, 3) := by decide +kernel
theorem dX5_countWrongAnswer_24 : decode cX5_countWrongAnswer 24 = .ok (.ifCond .ne 4, 3) := by decide +kernel
theorem dX5_countWrongAnswer_27 : decode cX5_countWrongAnswer 27 = .ok (.return_, 1) := by decide +kernel
theorem dX5_countWrongAnswer_28 : decode cX5_countWrongAnswer 28 = .ok (.aload_n 0, 1) := by decide +kernel
theorem dX5_countWrongAnswer_29 : decode cX5_countWrongAnswer 29 = .ok (.getfield 25, 3) := by decide +kernel
theorem dX5_countWrongAnswer_32 : decode cX5_countWrongAnswer 32 = .ok (.iload_n 1, 1) := by decide +kernel
theorem dX5_countWrongAnswer_33 : decode cX5_countWrongAnswer 33 = .ok (.dup2, 1) := by decide +kernel
theorem dX5_countWrongAnswer_34 : decode cX5_countWrongAnswer 34 = .ok (.iaload, 1) := by decide +kernel
theorem dX5_countWrongAnswer_35 : decode cX5_countWrongAnswer 35 = .ok (.iconst 1, 1) := by decide +kernel
theorem dX5_countWrongAnswer_36 : decode cX5_countWrongAnswer 36 = .ok (.iadd, 1) := by decide +kernel
theorem dX5_countWrongAnswer_37 : decode cX5_countWrongAnswer 37 = .ok (.iastore, 1) := by decide +kernel
theorem dX5_countWrongAnswer_38 : decode cX5_countWrongAnswer 38 = .ok (.aload_n 0, 1) := by decide +kernel
theorem dX5_countWrongAnswer_39 : decode cX5_countWrongAnswer 39 = .ok (.getfield 25, 3) := by decide +kernel
theorem dX5_countWrongAnswer_42 : decode cX5_countWrongAnswer 42 = .ok (.iload_n 1, 1) := by decide +kernel
theorem dX5_countWrongAnswer_43 : decode cX5_countWrongAnswer 43 = .ok (.iaload, 1) := by decide +kernel
theorem dX5_countWrongAnswer_44 : decode cX5_countWrongAnswer 44 = .ok (.iconst 3, 1) := by decide +kernel
theorem dX5_countWrongAnswer_45 : decode cX5_countWrongAnswer 45 = .ok (.if_icmp .lt 17, 3) := by decide +kernel
theorem dX5_countWrongAnswer_48 : decode cX5_countWrongAnswer 48 = .ok (.aload_n 0, 1) := by decide +kernel
theorem dX5_countWrongAnswer_49 : decode cX5_countWrongAnswer 49 = .ok (.getfield 25, 3) := by decide +kernel
theorem dX5_countWrongAnswer_52 : decode cX5_countWrongAnswer 52 = .ok (.iload_n 1, 1) := by decide +kernel
theorem dX5_countWrongAnswer_53 : decode cX5_countWrongAnswer 53 = .ok (.iconst 0, 1) := by decide +kernel
theorem dX5_countWrongAnswer_54 : decode cX5_countWrongAnswer 54 = .ok (.iastore, 1) := by decide +kernel
theorem dX5_countWrongAnswer_55 : decode cX5_countWrongAnswer 55 = .ok (.aload_n 0, 1) := by decide +kernel
theorem dX5_countWrongAnswer_56 : decode cX5_countWrongAnswer 56 = .ok (.getfield 28, 3) := by decide +kernel
theorem dX5_countWrongAnswer_59 : decode cX5_countWrongAnswer 59 = .ok (.iload_n 1, 1) := by decide +kernel
theorem dX5_countWrongAnswer_60 : decode cX5_countWrongAnswer 60 = .ok (.iconst 2, 1) := by decide +kernel
theorem dX5_countWrongAnswer_61 : decode cX5_countWrongAnswer 61 = .ok (.iastore, 1) := by decide +kernel
theorem dX5_countWrongAnswer_62 : decode cX5_countWrongAnswer 62 = .ok (.return_, 1) := by decide +kernel
set_option maxRecDepth 100000 in
set_option maxHeartbeats 4000000 in
theorem C_X5_countWrongAnswer (l : Launch) (E : gE) (x : gX) {o : Nat} (ho : gOk o) {v1 : Int32} {M : gM} {M' : gM} (hf : f_X5_countWrongAnswer o v1 M = some M') : gM0 l E yX5_countWrongAnswer (.code yX5_countWrongAnswer cX5_countWrongAnswer 2 none) (gR 1 20) M x [.ref (E.2.1 o), .int v1] none M' := by
  refine gMet (by decide +kernel) (Nat.le_of_ble_eq_true rfl) ?_
  intro p e s m args below meth c H locs ls Q hC hl hI kr kv
  replace hC : gC p s m args c cX5_countWrongAnswer 2 RX5 E := hC
  replace hl : lv_has ls 2 [(0, .ref (E.2.1 o)), (1, .int v1)] := hl
  have hx := hC.1
  have hb := hC.2.1
  unfold f_X5_countWrongAnswer at hf
  refine lv_aload_n hx hb dX5_countWrongAnswer_0 rfl (lv_at hl 0 rfl) ?_
  refine lv_dup hx hb dX5_countWrongAnswer_1 rfl ?_
  refine gt_X5_X5_wrong hC hI ho dX5_countWrongAnswer_2 ?_
  refine lv_iconst (v := 1) hx hb dX5_countWrongAnswer_5 (by decide) ?_
  refine lv_iadd hx hb dX5_countWrongAnswer_6 ?_
  obtain ⟨M1, eM1, hf⟩ := glet hf
  refine pt_X5_X5_wrong hC hI ho dX5_countWrongAnswer_7 (fun H locs hI => ?_)
  replace hI := g_mem eM1 hI
  refine lv_aload_n hx hb dX5_countWrongAnswer_10 rfl (lv_at hl 0 rfl) ?_
  refine lv_dup hx hb dX5_countWrongAnswer_11 rfl ?_
  refine gt_X5_X5_fees hC hI ho dX5_countWrongAnswer_12 ?_
  refine lv_iconst (v := 5) hx hb dX5_countWrongAnswer_15 (by decide) ?_
  refine lv_iadd hx hb dX5_countWrongAnswer_16 ?_
  obtain ⟨M2, eM2, hf⟩ := glet hf
  refine pt_X5_X5_fees hC hI ho dX5_countWrongAnswer_17 (fun H locs hI => ?_)
  replace hI := g_mem eM2 hI
  refine lv_iload_n hx hb dX5_countWrongAnswer_20 rfl (lv_at hl 1 rfl) ?_
  obtain ⟨r3, hr4, hf⟩ := gbind hf
  have hr4 := C_X6_isBerth l E x  hr4
  refine g_callSNi (rest := []) hC hI hr4 Y_X6_isBerth S_X6_isBerth (List.mem_of_getElem? (i := 6) rfl) ⟨rfl, rfl⟩ ⟨Nat.le_of_ble_eq_true rfl, Nat.le_of_ble_eq_true rfl⟩ rfl hl.1 rfl (Nat.le_of_ble_eq_true rfl) dX5_countWrongAnswer_21 ⟨Nat.zero_le _, Nat.zero_le _⟩ (fun H locs hI => ?_)
  refine lv_if_ne (tgt := 28) hx hb dX5_countWrongAnswer_24 rfl (fun h5 => ?_) (fun h5 => ?_)
  · replace hf := gifn h5 hf
    refine lv_aload_n hx hb dX5_countWrongAnswer_28 rfl (lv_at hl 0 rfl) ?_
    refine gt_X5_X5_wrongs hC hI ho dX5_countWrongAnswer_29 ?_
    refine lv_iload_n hx hb dX5_countWrongAnswer_32 rfl (lv_at hl 1 rfl) ?_
    refine lv_dup2_11 hx hb dX5_countWrongAnswer_33 rfl rfl ?_
    obtain ⟨h6, hf⟩ := gifN hf
    refine g_iald hC hI (k := v1.toNatClampNeg) (gIA_10 ho) h6 rfl dX5_countWrongAnswer_34 ?_
    refine lv_iconst (v := 1) hx hb dX5_countWrongAnswer_35 (by decide) ?_
    refine lv_iadd hx hb dX5_countWrongAnswer_36 ?_
    obtain ⟨h7, hf⟩ := gifN hf
    obtain ⟨M8, eM8, hf⟩ := glet hf
    refine g_iast hC hI (k := v1.toNatClampNeg) (gIA_10 ho) h7 rfl dX5_countWrongAnswer_37 (fun H locs hI => ?_)
    replace hI := g_mem eM8 hI
    refine lv_aload_n hx hb dX5_countWrongAnswer_38 rfl (lv_at hl 0 rfl) ?_
    refine gt_X5_X5_wrongs hC hI ho dX5_countWrongAnswer_39 ?_
    refine lv_iload_n hx hb dX5_countWrongAnswer_42 rfl (lv_at hl 1 rfl) ?_
    obtain ⟨h9, hf⟩ := gifN hf
    refine g_iald hC hI (k := v1.toNatClampNeg) (gIA_10 ho) h9 rfl dX5_countWrongAnswer_43 ?_
    refine lv_iconst (v := 3) hx hb dX5_countWrongAnswer_44 (by decide) ?_
    refine lv_icmp_lt (tgt := 62) hx hb dX5_countWrongAnswer_45 rfl (fun h10 => ?_) (fun h10 => ?_)
    · replace hf := gif h10 hf
      exact kv _ _ _ _ _ (grv hf) hI rfl dX5_countWrongAnswer_62
    · replace hf := gifn h10 hf
      refine lv_aload_n hx hb dX5_countWrongAnswer_48 rfl (lv_at hl 0 rfl) ?_
      refine gt_X5_X5_wrongs hC hI ho dX5_countWrongAnswer_49 ?_
      refine lv_iload_n hx hb dX5_countWrongAnswer_52 rfl (lv_at hl 1 rfl) ?_
      refine lv_iconst (v := 0) hx hb dX5_countWrongAnswer_53 (by decide) ?_
      obtain ⟨h11, hf⟩ := gifN hf
      obtain ⟨M12, eM12, hf⟩ := glet hf
      refine g_iast hC hI (k := v1.toNatClampNeg) (gIA_10 ho) h11 rfl dX5_countWrongAnswer_54 (fun H locs hI => ?_)
      replace hI := g_mem eM12 hI
      refine lv_aload_n hx hb dX5_countWrongAnswer_55 rfl (lv_at hl 0 rfl) ?_
      refine gt_X5_X5_locks hC hI ho dX5_countWrongAnswer_56 ?_
      refine lv_iload_n hx hb dX5_countWrongAnswer_59 rfl (lv_at hl 1 rfl) ?_
      refine lv_iconst (v := 2) hx hb dX5_countWrongAnswer_60 (by decide) ?_
      obtain ⟨h13, hf⟩ := gifN hf
      obtain ⟨M14, eM14, hf⟩ := glet hf
      refine g_iast hC hI (k := v1.toNatClampNeg) (gIA_11 ho) h13 rfl dX5_countWrongAnswer_61 (fun H locs hI => ?_)
      replace hI := g_mem eM14 hI
      exact kv _ _ _ _ _ (grv hf) hI rfl dX5_countWrongAnswer_62
  · replace hf := gif h5 hf
    exact kv _ _ _ _ _ (grv hf) hI rfl dX5_countWrongAnswer_27
theorem dX5_tryAnswer_0 : decode cX5_tryAnswer 0 = .ok (.aload_n 0, 1) := by decide +kernel
theorem dX5_tryAnswer_1 : decode cX5_tryAnswer 1 = .ok (.getfield 12, 3) := by decide +kernel
theorem dX5_tryAnswer_4 : decode cX5_tryAnswer 4 = .ok (.iload_n 1, 1) := by decide +kernel
theorem dX5_tryAnswer_5 : decode cX5_tryAnswer 5 = .ok (.iload_n 2, 1) := by decide +kernel
theorem dX5_tryAnswer_6 : decode cX5_tryAnswer 6 = .ok (.invokestatic 70, 3) := by decide +kernel
theorem dX5_tryAnswer_9 : decode cX5_tryAnswer 9 = .ok (.invokevirtual 82, 3) := by decide +kernel
theorem dX5_tryAnswer_12 : decode cX5_tryAnswer 12 = .ok (.istore 4, 2) := by decide +kernel
theorem dX5_tryAnswer_14 : decode cX5_tryAnswer 14 = .ok (.aload_n 0, 1) := by decide +kernel
theorem dX5_tryAnswer_15 : decode cX5_tryAnswer 15 = .ok (.getfield 12, 3) := by decide +kernel
theorem dX5_tryAnswer_18 : decode cX5_tryAnswer 18 = .ok (.iload 4, 2) := by decide +kernel
theorem dX5_tryAnswer_20 : decode cX5_tryAnswer 20 = .ok (.invokevirtual 85, 3) := by decide +kernel
theorem dX5_tryAnswer_23 : decode cX5_tryAnswer 23 = .ok (.iload_n 3, 1) := by decide +kernel
theorem dX5_tryAnswer_24 : decode cX5_tryAnswer 24 = .ok (.if_icmp .eq 10, 3) := by decide +kernel
theorem dX5_tryAnswer_27 : decode cX5_tryAnswer 27 = .ok (.aload_n 0, 1) := by decide +kernel
theorem dX5_tryAnswer_28 : decode cX5_tryAnswer 28 = .ok (.iload_n 1, 1) := by decide +kernel
theorem dX5_tryAnswer_29 : decode cX5_tryAnswer 29 = .ok (.invokevirtual 88, 3) := by decide +kernel
theorem dX5_tryAnswer_32 : decode cX5_tryAnswer 32 = .ok (.iconst 0, 1) := by decide +kernel
theorem dX5_tryAnswer_33 : decode cX5_tryAnswer 33 = .ok (.ireturn, 1) := by decide +kernel
theorem dX5_tryAnswer_34 : decode cX5_tryAnswer 34 = .ok (.aload_n 0, 1) := by decide +kernel
theorem dX5_tryAnswer_35 : decode cX5_tryAnswer 35 = .ok (.getfield 12, 3) := by decide +kernel
theorem dX5_tryAnswer_38 : decode cX5_tryAnswer 38 = .ok (.iload 4, 2) := by decide +kernel
theorem dX5_tryAnswer_40 : decode cX5_tryAnswer 40 = .ok (.bipush 12, 2) := by decide +kernel
theorem dX5_tryAnswer_42 : decode cX5_tryAnswer 42 = .ok (.invokevirtual 92, 3) := by decide +kernel
theorem dX5_tryAnswer_45 : decode cX5_tryAnswer 45 = .ok (.aload_n 0, 1) := by decide +kernel
theorem dX5_tryAnswer_46 : decode cX5_tryAnswer 46 = .ok (.dup, 1) := by decide +kernel
theorem dX5_tryAnswer_47 : decode cX5_tryAnswer 47 = .ok (.getfield 41, 3) := by decide +kernel
theorem dX5_tryAnswer_50 : decode cX5_tryAnswer 50 = .ok (.iconst 1, 1) := by decide +kernel
theorem dX5_tryAnswer_51 : decode cX5_tryAnswer 51 = .ok (.iadd, 1) := by decide +kernel
theorem dX5_tryAnswer_52 : decode cX5_tryAnswer 52 = .ok (.putfield 41, 3) := by decide +kernel
theorem dX5_tryAnswer_55 : decode cX5_tryAnswer 55 = .ok (.iconst 1, 1) := by decide +kernel
theorem dX5_tryAnswer_56 : decode cX5_tryAnswer 56 = .ok (.ireturn, 1) := by decide +kernel
set_option maxRecDepth 100000 in
set_option maxHeartbeats 4000000 in
theorem C_X5_tryAnswer (l : Launch) (E : gE) (x : gX) {o : Nat} (ho : gOk o) {v1 v2 v3 : Int32} {M : gM} {r : Bool} {M' : gM} (hf : f_X5_tryAnswer o v1 v2 v3 M = some (r, M')) : gM0 l E yX5_tryAnswer (.code yX5_tryAnswer cX5_tryAnswer 5 (some .boolean)) (gR 3 63) M x [.ref (E.2.1 o), .int v1, .int v2, .int v3] (some (.int (gb r))) M' := by
  refine gMet (by decide +kernel) (Nat.le_of_ble_eq_true rfl) ?_
  intro p e s m args below meth c H locs ls Q hC hl hI kr kv
  replace hC : gC p s m args c cX5_tryAnswer 5 RX5 E := hC
  replace hl : lv_has ls 5 [(0, .ref (E.2.1 o)), (1, .int v1), (2, .int v2), (3, .int v3)] := hl
  have hx := hC.1
  have hb := hC.2.1
  unfold f_X5_tryAnswer at hf
  refine lv_aload_n hx hb dX5_tryAnswer_0 rfl (lv_at hl 0 rfl) ?_
  refine gt_X5_X5_cargo hC hI ho dX5_tryAnswer_1 ?_
  refine lv_iload_n hx hb dX5_tryAnswer_4 rfl (lv_at hl 1 rfl) ?_
  refine lv_iload_n hx hb dX5_tryAnswer_5 rfl (lv_at hl 2 rfl) ?_
  obtain ⟨r1, hr2, hf⟩ := gbind hf
  have hr2 := C_X6_pileOf l E x  hr2
  refine g_callSNi (rest := [.ref (E.2.1 (o + 1))]) hC hI hr2 Y_X6_pileOf S_X6_pileOf (List.mem_of_getElem? (i := 10) rfl) ⟨rfl, rfl⟩ ⟨Nat.le_of_ble_eq_true rfl, Nat.le_of_ble_eq_true rfl⟩ rfl hl.1 rfl (Nat.le_of_ble_eq_true rfl) dX5_tryAnswer_6 ⟨Nat.zero_le _, Nat.zero_le _⟩ (fun H locs hI => ?_)
  obtain ⟨r3, hr4, hf⟩ := gbind hf
  have hr4 := C_X0_topRow l E x ho hr4
  refine g_callVi (rest := []) hC hI hr4 Y_X0_topRow V_X0_topRow w645 (rcv_X0 hC hI ho) ⟨rfl, rfl⟩ ⟨Nat.le_of_ble_eq_true rfl, Nat.le_of_ble_eq_true rfl⟩ rfl hl.1 rfl (Nat.le_of_ble_eq_true rfl) dX5_tryAnswer_9 ⟨Nat.zero_le _, Nat.zero_le _⟩ (fun H locs hI => ?_)
  refine lv_istore (lv' := [(4, .int r3), (0, .ref (E.2.1 o)), (1, .int v1), (2, .int v2), (3, .int v3)]) hx hb dX5_tryAnswer_12 hl (by decide) rfl (fun ls hl => ?_)
  refine lv_aload_n hx hb dX5_tryAnswer_14 rfl (lv_at hl 1 rfl) ?_
  refine gt_X5_X5_cargo hC hI ho dX5_tryAnswer_15 ?_
  refine lv_iload hx hb dX5_tryAnswer_18 (lv_at hl 0 rfl) ?_
  obtain ⟨r5, hr6, hf⟩ := gbind hf
  have hr6 := C_X0_answer l E x ho hr6
  refine g_callVi (rest := []) hC hI hr6 Y_X0_answer V_X0_answer w649 (rcv_X0 hC hI ho) ⟨rfl, rfl⟩ ⟨Nat.le_of_ble_eq_true rfl, Nat.le_of_ble_eq_true rfl⟩ rfl hl.1 rfl (Nat.le_of_ble_eq_true rfl) dX5_tryAnswer_20 ⟨Nat.zero_le _, Nat.zero_le _⟩ (fun H locs hI => ?_)
  refine lv_iload_n hx hb dX5_tryAnswer_23 rfl (lv_at hl 4 rfl) ?_
  refine lv_icmp_eq (tgt := 34) hx hb dX5_tryAnswer_24 rfl (fun h7 => ?_) (fun h7 => ?_)
  · replace hf := gif h7 hf
    refine lv_aload_n hx hb dX5_tryAnswer_34 rfl (lv_at hl 1 rfl) ?_
    refine gt_X5_X5_cargo hC hI ho dX5_tryAnswer_35 ?_
    refine lv_iload hx hb dX5_tryAnswer_38 (lv_at hl 0 rfl) ?_
    refine lv_bipush (v := 12) hx hb dX5_tryAnswer_40 (by decide) ?_
    obtain ⟨r8, hr9, hf⟩ := gbind hf
    have hr9 := C_X0_put l E x ho hr9
    refine g_callVv (rest := []) hC hI hr9 Y_X0_put V_X0_put w657 (rcv_X0 hC hI ho) ⟨rfl, rfl⟩ ⟨Nat.le_of_ble_eq_true rfl, Nat.le_of_ble_eq_true rfl⟩ rfl hl.1 rfl (Nat.le_of_ble_eq_true rfl) dX5_tryAnswer_42 ⟨Nat.zero_le _, Nat.zero_le _⟩ (fun H locs hI => ?_)
    refine lv_aload_n hx hb dX5_tryAnswer_45 rfl (lv_at hl 1 rfl) ?_
    refine lv_dup hx hb dX5_tryAnswer_46 rfl ?_
    refine gt_X5_X5_cleared hC hI ho dX5_tryAnswer_47 ?_
    refine lv_iconst (v := 1) hx hb dX5_tryAnswer_50 (by decide) ?_
    refine lv_iadd hx hb dX5_tryAnswer_51 ?_
    obtain ⟨M10, eM10, hf⟩ := glet hf
    refine pt_X5_X5_cleared hC hI ho dX5_tryAnswer_52 (fun H locs hI => ?_)
    replace hI := g_mem eM10 hI
    refine lv_iconst (v := 1) hx hb dX5_tryAnswer_55 (by decide) ?_
    exact kr _ _ _ _ _ _ (grwb1 hf) hI ⟨.boolean, rfl, rfl⟩ dX5_tryAnswer_56
  · replace hf := gifn h7 hf
    refine lv_aload_n hx hb dX5_tryAnswer_27 rfl (lv_at hl 1 rfl) ?_
    refine lv_iload_n hx hb dX5_tryAnswer_28 rfl (lv_at hl 2 rfl) ?_
    obtain ⟨r11, hr12, hf⟩ := gbind hf
    have hr12 := C_X5_countWrongAnswer l E x ho hr12
    refine g_callVv (rest := []) hC hI hr12 Y_X5_countWrongAnswer V_X5_countWrongAnswer w653 (rcv_X5 hC hI ho) ⟨rfl, rfl⟩ ⟨Nat.le_of_ble_eq_true rfl, Nat.le_of_ble_eq_true rfl⟩ rfl hl.1 rfl (Nat.le_of_ble_eq_true rfl) dX5_tryAnswer_29 ⟨Nat.zero_le _, Nat.zero_le _⟩ (fun H locs hI => ?_)
    refine lv_iconst (v := 0) hx hb dX5_tryAnswer_32 (by decide) ?_
    exact kr _ _ _ _ _ _ (grwb0 hf) hI ⟨.boolean, rfl, rfl⟩ dX5_tryAnswer_33
theorem dX5_shiftTop_0 : decode cX5_shiftTop 0 = .ok (.aload_n 0, 1) := by decide +kernel
theorem dX5_shiftTop_1 : decode cX5_shiftTop 1 = .ok (.getfield 12, 3) := by decide +kernel
theorem dX5_shiftTop_4 : decode cX5_shiftTop 4 = .ok (.iload_n 1, 1) := by decide +kernel
theorem dX5_shiftTop_5 : decode cX5_shiftTop 5 = .ok (.iload_n 2, 1) := by decide +kernel
theorem dX5_shiftTop_6 : decode cX5_shiftTop 6 = .ok (.invokestatic 70, 3) := by decide +kernel
theorem dX5_shiftTop_9 : decode cX5_shiftTop 9 = .ok (.invokevirtual 82, 3) := by decide +kernel
theorem dX5_shiftTop_12 : decode cX5_shiftTop 12 = .ok (.istore 4, 2) := by decide +kernel
theorem dX5_shiftTop_14 : decode cX5_shiftTop 14 = .ok (.aload_n 0, 1) := by decide +kernel
theorem dX5_shiftTop_15 : decode cX5_shiftTop 15 = .ok (.getfield 12, 3) := by decide +kernel
theorem dX5_shiftTop_18 : decode cX5_shiftTop 18 = .ok (.iload 4, 2) := by decide +kernel
theorem dX5_shiftTop_20 : decode cX5_shiftTop 20 = .ok (.iload_n 1, 1) := by decide +kernel
theorem dX5_shiftTop_21 : decode cX5_shiftTop 21 = .ok (.iload_n 3, 1) := by decide +kernel
theorem dX5_shiftTop_22 : decode cX5_shiftTop 22 = .ok (.invokestatic 70, 3) := by decide +kernel
theorem dX5_shiftTop_25 : decode cX5_shiftTop 25 = .ok (.invokevirtual 92, 3) := by decide +kernel
theorem dX5_shiftTop_28 : decode cX5_shiftTop 28 = .ok (.aload_n 0, 1) := by decide +kernel
theorem dX5_shiftTop_29 : decode cX5_shiftTop 29 = .ok (.getfield 12, 3) := by decide +kernel
theorem dX5_shiftTop_32 : decode cX5_shiftTop 32 = .ok (.iload 4, 2) := by decide +kernel
theorem dX5_shiftTop_34 : decode cX5_shiftTop 34 = .ok (.invokevirtual 96, 3) := by decide +kernel
theorem dX5_shiftTop_37 : decode cX5_shiftTop 37 = .ok (.ireturn, 1) := by decide +kernel
set_option maxRecDepth 100000 in
set_option maxHeartbeats 4000000 in
theorem C_X5_shiftTop (l : Launch) (E : gE) (x : gX) {o : Nat} (ho : gOk o) {v1 v2 v3 : Int32} {M : gM} {r : Int32} {M' : gM} (hf : f_X5_shiftTop o v1 v2 v3 M = some (r, M')) : gM0 l E yX5_shiftTop (.code yX5_shiftTop cX5_shiftTop 5 (some .int)) (gR 2 45) M x [.ref (E.2.1 o), .int v1, .int v2, .int v3] (some (.int r)) M' := by
  refine gMet (by decide +kernel) (Nat.le_of_ble_eq_true rfl) ?_
  intro p e s m args below meth c H locs ls Q hC hl hI kr kv
  replace hC : gC p s m args c cX5_shiftTop 5 RX5 E := hC
  replace hl : lv_has ls 5 [(0, .ref (E.2.1 o)), (1, .int v1), (2, .int v2), (3, .int v3)] := hl
  have hx := hC.1
  have hb := hC.2.1
  unfold f_X5_shiftTop at hf
  refine lv_aload_n hx hb dX5_shiftTop_0 rfl (lv_at hl 0 rfl) ?_
  refine gt_X5_X5_cargo hC hI ho dX5_shiftTop_1 ?_
  refine lv_iload_n hx hb dX5_shiftTop_4 rfl (lv_at hl 1 rfl) ?_
  refine lv_iload_n hx hb dX5_shiftTop_5 rfl (lv_at hl 2 rfl) ?_
  obtain ⟨r1, hr2, hf⟩ := gbind hf
  have hr2 := C_X6_pileOf l E x  hr2
  refine g_callSNi (rest := [.ref (E.2.1 (o + 1))]) hC hI hr2 Y_X6_pileOf S_X6_pileOf (List.mem_of_getElem? (i := 10) rfl) ⟨rfl, rfl⟩ ⟨Nat.le_of_ble_eq_true rfl, Nat.le_of_ble_eq_true rfl⟩ rfl hl.1 rfl (Nat.le_of_ble_eq_true rfl) dX5_shiftTop_6 ⟨Nat.zero_le _, Nat.zero_le _⟩ (fun H locs hI => ?_)
  obtain ⟨r3, hr4, hf⟩ := gbind hf
  have hr4 := C_X0_topRow l E x ho hr4
  refine g_callVi (rest := []) hC hI hr4 Y_X0_topRow V_X0_topRow w645 (rcv_X0 hC hI ho) ⟨rfl, rfl⟩ ⟨Nat.le_of_ble_eq_true rfl, Nat.le_of_ble_eq_true rfl⟩ rfl hl.1 rfl (Nat.le_of_ble_eq_true rfl) dX5_shiftTop_9 ⟨Nat.zero_le _, Nat.zero_le _⟩ (fun H locs hI => ?_)
  refine lv_istore (lv' := [(4, .int r3), (0, .ref (E.2.1 o)), (1, .int v1), (2, .int v2), (3, .int v3)]) hx hb dX5_shiftTop_12 hl (by decide) rfl (fun ls hl => ?_)
  refine lv_aload_n hx hb dX5_shiftTop_14 rfl (lv_at hl 1 rfl) ?_
  refine gt_X5_X5_cargo hC hI ho dX5_shiftTop_15 ?_
  refine lv_iload hx hb dX5_shiftTop_18 (lv_at hl 0 rfl) ?_
  refine lv_iload_n hx hb dX5_shiftTop_20 rfl (lv_at hl 2 rfl) ?_
  refine lv_iload_n hx hb dX5_shiftTop_21 rfl (lv_at hl 4 rfl) ?_
  obtain ⟨r5, hr6, hf⟩ := gbind hf
  have hr6 := C_X6_pileOf l E x  hr6
  refine g_callSNi (rest := [.int r3, .ref (E.2.1 (o + 1))]) hC hI hr6 Y_X6_pileOf S_X6_pileOf (List.mem_of_getElem? (i := 10) rfl) ⟨rfl, rfl⟩ ⟨Nat.le_of_ble_eq_true rfl, Nat.le_of_ble_eq_true rfl⟩ rfl hl.1 rfl (Nat.le_of_ble_eq_true rfl) dX5_shiftTop_22 ⟨Nat.zero_le _, Nat.zero_le _⟩ (fun H locs hI => ?_)
  obtain ⟨r7, hr8, hf⟩ := gbind hf
  have hr8 := C_X0_put l E x ho hr8
  refine g_callVv (rest := []) hC hI hr8 Y_X0_put V_X0_put w657 (rcv_X0 hC hI ho) ⟨rfl, rfl⟩ ⟨Nat.le_of_ble_eq_true rfl, Nat.le_of_ble_eq_true rfl⟩ rfl hl.1 rfl (Nat.le_of_ble_eq_true rfl) dX5_shiftTop_25 ⟨Nat.zero_le _, Nat.zero_le _⟩ (fun H locs hI => ?_)
  refine lv_aload_n hx hb dX5_shiftTop_28 rfl (lv_at hl 1 rfl) ?_
  refine gt_X5_X5_cargo hC hI ho dX5_shiftTop_29 ?_
  refine lv_iload hx hb dX5_shiftTop_32 (lv_at hl 0 rfl) ?_
  obtain ⟨r9, hr10, hf⟩ := gbind hf
  have hr10 := C_X0_id l E x ho hr10
  refine g_callVi (rest := []) hC hI hr10 Y_X0_id V_X0_id w676 (rcv_X0 hC hI ho) ⟨rfl, rfl⟩ ⟨Nat.le_of_ble_eq_true rfl, Nat.le_of_ble_eq_true rfl⟩ rfl hl.1 rfl (Nat.le_of_ble_eq_true rfl) dX5_shiftTop_34 ⟨Nat.zero_le _, Nat.zero_le _⟩ (fun H locs hI => ?_)
  exact kr _ _ _ _ _ _ (grw hf) hI ⟨.int, rfl, rfl⟩ dX5_shiftTop_37
theorem dX5_handOver_0 : decode cX5_handOver 0 = .ok (.aload_n 0, 1) := by decide +kernel
theorem dX5_handOver_1 : decode cX5_handOver 1 = .ok (.getfield 12, 3) := by decide +kernel
theorem dX5_handOver_4 : decode cX5_handOver 4 = .ok (.aload_n 0, 1) := by decide +kernel
theorem dX5_handOver_5 : decode cX5_handOver 5 = .ok (.getfield 12, 3) := by decide +kernel
theorem dX5_handOver_8 : decode cX5_handOver 8 = .ok (.iload_n 1, 1) := by decide +kernel
theorem dX5_handOver_9 : decode cX5_handOver 9 = .ok (.invokevirtual 99, 3) := by decide +kernel
theorem dX5_handOver_12 : decode cX5_handOver 12 = .ok (.invokevirtual 102, 3) := by decide +kernel
theorem dX5_handOver_15 : decode cX5_handOver 15 = .ok (.aload_n 0, 1) := by decide +kernel
theorem dX5_handOver_16 : decode cX5_handOver 16 = .ok (.dup, 1) := by decide +kernel
theorem dX5_handOver_17 : decode cX5_handOver 17 = .ok (.getfield 44, 3) := by decide +kernel
theorem dX5_handOver_20 : decode cX5_handOver 20 = .ok (.iconst 1, 1) := by decide +kernel
theorem dX5_handOver_21 : decode cX5_handOver 21 = .ok (.iadd, 1) := by decide +kernel
theorem dX5_handOver_22 : decode cX5_handOver 22 = .ok (.putfield 44, 3) := by decide +kernel
theorem dX5_handOver_25 : decode cX5_handOver 25 = .ok (.return_, 1) := by decide +kernel
set_option maxRecDepth 100000 in
set_option maxHeartbeats 4000000 in
theorem C_X5_handOver (l : Launch) (E : gE) (x : gX) {o : Nat} (ho : gOk o) {v1 : Int32} {M : gM} {M' : gM} (hf : f_X5_handOver o v1 M = some M') : gM0 l E yX5_handOver (.code yX5_handOver cX5_handOver 2 none) (gR 3 65) M x [.ref (E.2.1 o), .int v1] none M' := by
  refine gMet (by decide +kernel) (Nat.le_of_ble_eq_true rfl) ?_
  intro p e s m args below meth c H locs ls Q hC hl hI kr kv
  replace hC : gC p s m args c cX5_handOver 2 RX5 E := hC
  replace hl : lv_has ls 2 [(0, .ref (E.2.1 o)), (1, .int v1)] := hl
  have hx := hC.1
  have hb := hC.2.1
  unfold f_X5_handOver at hf
  refine lv_aload_n hx hb dX5_handOver_0 rfl (lv_at hl 0 rfl) ?_
  refine gt_X5_X5_cargo hC hI ho dX5_handOver_1 ?_
  refine lv_aload_n hx hb dX5_handOver_4 rfl (lv_at hl 0 rfl) ?_
  refine gt_X5_X5_cargo hC hI ho dX5_handOver_5 ?_
  refine lv_iload_n hx hb dX5_handOver_8 rfl (lv_at hl 1 rfl) ?_
  obtain ⟨r1, hr2, hf⟩ := gbind hf
  have hr2 := C_X0_yardRowOf l E x ho hr2
  refine g_callVi (rest := [.ref (E.2.1 (o + 1))]) hC hI hr2 Y_X0_yardRowOf V_X0_yardRowOf w689 (rcv_X0 hC hI ho) ⟨rfl, rfl⟩ ⟨Nat.le_of_ble_eq_true rfl, Nat.le_of_ble_eq_true rfl⟩ rfl hl.1 rfl (Nat.le_of_ble_eq_true rfl) dX5_handOver_9 ⟨Nat.zero_le _, Nat.zero_le _⟩ (fun H locs hI => ?_)
  obtain ⟨r3, hr4, hf⟩ := gbind hf
  have hr4 := C_X0_remove l E x ho hr4
  refine g_callVv (rest := []) hC hI hr4 Y_X0_remove V_X0_remove w694 (rcv_X0 hC hI ho) ⟨rfl, rfl⟩ ⟨Nat.le_of_ble_eq_true rfl, Nat.le_of_ble_eq_true rfl⟩ rfl hl.1 rfl (Nat.le_of_ble_eq_true rfl) dX5_handOver_12 ⟨Nat.zero_le _, Nat.zero_le _⟩ (fun H locs hI => ?_)
  refine lv_aload_n hx hb dX5_handOver_15 rfl (lv_at hl 0 rfl) ?_
  refine lv_dup hx hb dX5_handOver_16 rfl ?_
  refine gt_X5_X5_delivered hC hI ho dX5_handOver_17 ?_
  refine lv_iconst (v := 1) hx hb dX5_handOver_20 (by decide) ?_
  refine lv_iadd hx hb dX5_handOver_21 ?_
  obtain ⟨M5, eM5, hf⟩ := glet hf
  refine pt_X5_X5_delivered hC hI ho dX5_handOver_22 (fun H locs hI => ?_)
  replace hI := g_mem eM5 hI
  exact kv _ _ _ _ _ (grv hf) hI rfl dX5_handOver_25
theorem dX5_takeShip_0 : decode cX5_takeShip 0 = .ok (.iload_n 1, 1) := by decide +kernel
theorem dX5_takeShip_1 : decode cX5_takeShip 1 = .ok (.invokestatic 60, 3) := by decide +kernel
theorem dX5_takeShip_4 : decode cX5_takeShip 4 = .ok (.ifCond .eq 31, 3) := by decide +kernel
theorem dX5_takeShip_7 : decode cX5_takeShip 7 = .ok (.aload_n 0, 1) := by decide +kernel
theorem dX5_takeShip_8 : decode cX5_takeShip 8 = .ok (.getfield 18, 3) := by decide +kernel
theorem dX5_takeShip_11 : decode cX5_takeShip 11 = .ok (.iload_n 1, 1) := by decide +kernel
theorem dX5_takeShip_12 : decode cX5_takeShip 12 = .ok (.iconst 0, 1) := by decide +kernel
theorem dX5_takeShip_13 : decode cX5_takeShip 13 = .ok (.iastore, 1) := by decide +kernel
theorem dX5_takeShip_14 : decode cX5_takeShip 14 = .ok (.aload_n 0, 1) := by decide +kernel
theorem dX5_takeShip_15 : decode cX5_takeShip 15 = .ok (.getfield 22, 3) := by decide +kernel
theorem dX5_takeShip_18 : decode cX5_takeShip 18 = .ok (.iload_n 1, 1) := by decide +kernel
theorem dX5_takeShip_19 : decode cX5_takeShip 19 = .ok (.iconst 0, 1) := by decide +kernel
theorem dX5_takeShip_20 : decode cX5_takeShip 20 = .ok (.iastore, 1) := by decide +kernel
theorem dX5_takeShip_21 : decode cX5_takeShip 21 = .ok (.aload_n 0, 1) := by decide +kernel
theorem dX5_takeShip_22 : decode cX5_takeShip 22 = .ok (.getfield 25, 3) := by decide +kernel
theorem dX5_takeShip_25 : decode cX5_takeShip 25 = .ok (.iload_n 1, 1) := by decide +kernel
theorem dX5_takeShip_26 : decode cX5_takeShip 26 = .ok (.iconst 0, 1) := by decide +kernel
theorem dX5_takeShip_27 : decode cX5_takeShip 27 = .ok (.iastore, 1) := by decide +kernel
theorem dX5_takeShip_28 : decode cX5_takeShip 28 = .ok (.aload_n 0, 1) := by decide +kernel
theorem dX5_takeShip_29 : decode cX5_takeShip 29 = .ok (.getfield 28, 3) := by decide +kernel
theorem dX5_takeShip_32 : decode cX5_takeShip 32 = .ok (.iload_n 1, 1) := by decide +kernel
theorem dX5_takeShip_33 : decode cX5_takeShip 33 = .ok (.iconst 0, 1) := by decide +kernel
theorem dX5_takeShip_34 : decode cX5_takeShip 34 = .ok (.iastore, 1) := by decide +kernel
theorem dX5_takeShip_35 : decode cX5_takeShip 35 = .ok (.return_, 1) := by decide +kernel
set_option maxRecDepth 100000 in
set_option maxHeartbeats 4000000 in
theorem C_X5_takeShip (l : Launch) (E : gE) (x : gX) {o : Nat} (ho : gOk o) {v1 : Int32} {M : gM} {M' : gM} (hf : f_X5_takeShip o v1 M = some M') : gM0 l E yX5_takeShip (.code yX5_takeShip cX5_takeShip 2 none) (gR 1 20) M x [.ref (E.2.1 o), .int v1] none M' := by
  refine gMet (by decide +kernel) (Nat.le_of_ble_eq_true rfl) ?_
  intro p e s m args below meth c H locs ls Q hC hl hI kr kv
  replace hC : gC p s m args c cX5_takeShip 2 RX5 E := hC
  replace hl : lv_has ls 2 [(0, .ref (E.2.1 o)), (1, .int v1)] := hl
  have hx := hC.1
  have hb := hC.2.1
  unfold f_X5_takeShip at hf
  refine lv_iload_n hx hb dX5_takeShip_0 rfl (lv_at hl 1 rfl) ?_
  obtain ⟨r1, hr2, hf⟩ := gbind hf
  have hr2 := C_X6_isBerth l E x  hr2
  refine g_callSNi (rest := []) hC hI hr2 Y_X6_isBerth S_X6_isBerth (List.mem_of_getElem? (i := 6) rfl) ⟨rfl, rfl⟩ ⟨Nat.le_of_ble_eq_true rfl, Nat.le_of_ble_eq_true rfl⟩ rfl hl.1 rfl (Nat.le_of_ble_eq_true rfl) dX5_takeShip_1 ⟨Nat.zero_le _, Nat.zero_le _⟩ (fun H locs hI => ?_)
  refine lv_if_eq (tgt := 35) hx hb dX5_takeShip_4 rfl (fun h3 => ?_) (fun h3 => ?_)
  · replace hf := gif h3 hf
    exact kv _ _ _ _ _ (grv hf) hI rfl dX5_takeShip_35
  · replace hf := gifn h3 hf
    refine lv_aload_n hx hb dX5_takeShip_7 rfl (lv_at hl 0 rfl) ?_
    refine gt_X5_X5_draughts hC hI ho dX5_takeShip_8 ?_
    refine lv_iload_n hx hb dX5_takeShip_11 rfl (lv_at hl 1 rfl) ?_
    refine lv_iconst (v := 0) hx hb dX5_takeShip_12 (by decide) ?_
    obtain ⟨h4, hf⟩ := gifN hf
    obtain ⟨M5, eM5, hf⟩ := glet hf
    refine g_iast hC hI (k := v1.toNatClampNeg) (gIA_8 ho) h4 rfl dX5_takeShip_13 (fun H locs hI => ?_)
    replace hI := g_mem eM5 hI
    refine lv_aload_n hx hb dX5_takeShip_14 rfl (lv_at hl 0 rfl) ?_
    refine gt_X5_X5_dueHours hC hI ho dX5_takeShip_15 ?_
    refine lv_iload_n hx hb dX5_takeShip_18 rfl (lv_at hl 1 rfl) ?_
    refine lv_iconst (v := 0) hx hb dX5_takeShip_19 (by decide) ?_
    obtain ⟨h6, hf⟩ := gifN hf
    obtain ⟨M7, eM7, hf⟩ := glet hf
    refine g_iast hC hI (k := v1.toNatClampNeg) (gIA_9 ho) h6 rfl dX5_takeShip_20 (fun H locs hI => ?_)
    replace hI := g_mem eM7 hI
    refine lv_aload_n hx hb dX5_takeShip_21 rfl (lv_at hl 0 rfl) ?_
    refine gt_X5_X5_wrongs hC hI ho dX5_takeShip_22 ?_
    refine lv_iload_n hx hb dX5_takeShip_25 rfl (lv_at hl 1 rfl) ?_
    refine lv_iconst (v := 0) hx hb dX5_takeShip_26 (by decide) ?_
    obtain ⟨h8, hf⟩ := gifN hf
    obtain ⟨M9, eM9, hf⟩ := glet hf
    refine g_iast hC hI (k := v1.toNatClampNeg) (gIA_10 ho) h8 rfl dX5_takeShip_27 (fun H locs hI => ?_)
    replace hI := g_mem eM9 hI
    refine lv_aload_n hx hb dX5_takeShip_28 rfl (lv_at hl 0 rfl) ?_
    refine gt_X5_X5_locks hC hI ho dX5_takeShip_29 ?_
    refine lv_iload_n hx hb dX5_takeShip_32 rfl (lv_at hl 1 rfl) ?_
    refine lv_iconst (v := 0) hx hb dX5_takeShip_33 (by decide) ?_
    obtain ⟨h10, hf⟩ := gifN hf
    obtain ⟨M11, eM11, hf⟩ := glet hf
    refine g_iast hC hI (k := v1.toNatClampNeg) (gIA_11 ho) h10 rfl dX5_takeShip_34 (fun H locs hI => ?_)
    replace hI := g_mem eM11 hI
    exact kv _ _ _ _ _ (grv hf) hI rfl dX5_takeShip_35
theorem dX5_letHourPass_0 : decode cX5_letHourPass 0 = .ok (.iconst 0, 1) := by decide +kernel
theorem dX5_letHourPass_1 : decode cX5_letHourPass 1 = .ok (.istore_n 1, 1) := by decide +kernel
theorem dX5_letHourPass_2 : decode cX5_letHourPass 2 = .ok (.aload_n 0, 1) := by decide +kernel
theorem dX5_letHourPass_3 : decode cX5_letHourPass 3 = .ok (.dup, 1) := by decide +kernel
theorem dX5_letHourPass_4 : decode cX5_letHourPass 4 = .ok (.getfield 31, 3) := by decide +kernel
theorem dX5_letHourPass_7 : decode cX5_letHourPass 7 = .ok (.iconst 1, 1) := by decide +kernel
theorem dX5_letHourPass_8 : decode cX5_letHourPass 8 = .ok (.iadd, 1) := by decide +kernel
theorem dX5_letHourPass_9 : decode cX5_letHourPass 9 = .ok (.putfield 31, 3) := by decide +kernel
theorem dX5_letHourPass_12 : decode cX5_letHourPass 12 = .ok (.iconst 0, 1) := by decide +kernel
theorem dX5_letHourPass_13 : decode cX5_letHourPass 13 = .ok (.istore_n 2, 1) := by decide +kernel
theorem dX5_letHourPass_14 : decode cX5_letHourPass 14 = .ok (.iload_n 2, 1) := by decide +kernel
theorem dX5_letHourPass_15 : decode cX5_letHourPass 15 = .ok (.iconst 3, 1) := by decide +kernel
theorem dX5_letHourPass_16 : decode cX5_letHourPass 16 = .ok (.if_icmp .ge 62, 3) := by decide +kernel
theorem dX5_letHourPass_19 : decode cX5_letHourPass 19 = .ok (.aload_n 0, 1) := by decide +kernel
theorem dX5_letHourPass_20 : decode cX5_letHourPass 20 = .ok (.getfield 28, 3) := by decide +kernel
theorem dX5_letHourPass_23 : decode cX5_letHourPass 23 = .ok (.iload_n 2, 1) := by decide +kernel
theorem dX5_letHourPass_24 : decode cX5_letHourPass 24 = .ok (.iaload, 1) := by decide +kernel
theorem dX5_letHourPass_25 : decode cX5_letHourPass 25 = .ok (.ifCond .le 13, 3) := by decide +kernel
theorem dX5_letHourPass_28 : decode cX5_letHourPass 28 = .ok (.aload_n 0, 1) := by decide +kernel
theorem dX5_letHourPass_29 : decode cX5_letHourPass 29 = .ok (.getfield 28, 3) := by decide +kernel
theorem dX5_letHourPass_32 : decode cX5_letHourPass 32 = .ok (.iload_n 2, 1) := by decide +kernel
theorem dX5_letHourPass_33 : decode cX5_letHourPass 33 = .ok (.dup2, 1) := by decide +kernel
theorem dX5_letHourPass_34 : decode cX5_letHourPass 34 = .ok (.iaload, 1) := by decide +kernel
theorem dX5_letHourPass_35 : decode cX5_letHourPass 35 = .ok (.iconst 1, 1) := by decide +kernel
theorem dX5_letHourPass_36 : decode cX5_letHourPass 36 = .ok (.isub, 1) := by decide +kernel
theorem dX5_letHourPass_37 : decode cX5_letHourPass 37 = .ok (.iastore, 1) := by decide +kernel
theorem dX5_letHourPass_38 : decode cX5_letHourPass 38 = .ok (.aload_n 0, 1) := by decide +kernel
theorem dX5_letHourPass_39 : decode cX5_letHourPass 39 = .ok (.iload_n 2, 1) := by decide +kernel
theorem dX5_letHourPass_40 : decode cX5_letHourPass 40 = .ok (.invokevirtual 64, 3) := by decide +kernel
theorem dX5_letHourPass_43 : decode cX5_letHourPass 43 = .ok (.ifCond .eq 29, 3) := by decide +kernel
theorem dX5_letHourPass_46 : decode cX5_letHourPass 46 = .ok (.aload_n 0, 1) := by decide +kernel
theorem dX5_letHourPass_47 : decode cX5_letHourPass 47 = .ok (.getfield 22, 3) := by decide +kernel
theorem dX5_letHourPass_50 : decode cX5_letHourPass 50 = .ok (.iload_n 2, 1) := by decide +kernel
theorem dX5_letHourPass_51 : decode cX5_letHourPass 51 = .ok (.iaload, 1) := by decide +kernel
theorem dX5_letHourPass_52 : decode cX5_letHourPass 52 = .ok (.aload_n 0, 1) := by decide +kernel
theorem dX5_letHourPass_53 : decode cX5_letHourPass 53 = .ok (.getfield 31, 3) := by decide +kernel
theorem dX5_letHourPass_56 : decode cX5_letHourPass 56 = .ok (.if_icmp .ge 16, 3) := by decide +kernel
theorem dX5_letHourPass_59 : decode cX5_letHourPass 59 = .ok (.iload_n 1, 1) := by decide +kernel
theorem dX5_letHourPass_60 : decode cX5_letHourPass 60 = .ok (.aload_n 0, 1) := by decide +kernel
theorem dX5_letHourPass_61 : decode cX5_letHourPass 61 = .ok (.getfield 12, 3) := by decide +kernel
theorem dX5_letHourPass_64 : decode cX5_letHourPass 64 = .ok (.iload_n 2, 1) := by decide +kernel
theorem dX5_letHourPass_65 : decode cX5_letHourPass 65 = .ok (.invokevirtual 105, 3) := by decide +kernel
theorem dX5_letHourPass_68 : decode cX5_letHourPass 68 = .ok (.iconst 1, 1) := by decide +kernel
theorem dX5_letHourPass_69 : decode cX5_letHourPass 69 = .ok (.iadd, 1) := by decide +kernel
theorem dX5_letHourPass_70 : decode cX5_letHourPass 70 = .ok (.iadd, 1) := by decide +kernel
theorem dX5_letHourPass_71 : decode cX5_letHourPass 71 = .ok (.istore_n 1, 1) := by decide +kernel
theorem dX5_letHourPass_72 : decode cX5_letHourPass 72 = .ok (.iinc 2 1, 3) := by decide +kernel
theorem dX5_letHourPass_75 : decode cX5_letHourPass 75 = .ok (.goto (-61), 3) := by decide +kernel
theorem dX5_letHourPass_78 : decode cX5_letHourPass 78 = .ok (.aload_n 0, 1) := by decide +kernel
theorem dX5_letHourPass_79 : decode cX5_letHourPass 79 = .ok (.dup, 1) := by decide +kernel
theorem dX5_letHourPass_80 : decode cX5_letHourPass 80 = .ok (.getfield 35, 3) := by decide +kernel
theorem dX5_letHourPass_83 : decode cX5_letHourPass 83 = .ok (.iload_n 1, 1) := by decide +kernel
theorem dX5_letHourPass_84 : decode cX5_letHourPass 84 = .ok (.iadd, 1) := by decide +kernel
theorem dX5_letHourPass_85 : decode cX5_letHourPass 85 = .ok (.putfield 35, 3) := by decide +kernel
theorem dX5_letHourPass_88 : decode cX5_letHourPass 88 = .ok (.iload_n 1, 1) := by decide +kernel
theorem dX5_letHourPass_89 : decode cX5_letHourPass 89 = .ok (.ireturn, 1) := by decide +kernel
set_option maxRecDepth 100000 in
set_option maxHeartbeats 4000000 in
theorem C_X5_letHourPass (l : Launch) (E : gE) (x : gX) {o : Nat} (ho : gOk o) {M : gM} {r : Int32} {M' : gM} (hf : f_X5_letHourPass o M = some (r, M')) : gM0 l E yX5_letHourPass (.code yX5_letHourPass cX5_letHourPass 3 (some .int)) (gR 2 46) M x [.ref (E.2.1 o)] (some (.int r)) M' := by
  refine gMet (by decide +kernel) (Nat.le_of_ble_eq_true rfl) ?_
  intro p e s m args below meth c H locs ls Q hC hl hI kr kv
  replace hC : gC p s m args c cX5_letHourPass 3 RX5 E := hC
  replace hl : lv_has ls 3 [(0, .ref (E.2.1 o))] := hl
  have hx := hC.1
  have hb := hC.2.1
  have L14 : ∀ (n : Nat) (v2 : Int32) (v1 : Int32) (M : gM), f_X5_letHourPass_L14 o n v2 v1 M = some (r, M') → ∀ (H : Heap) (locs : List Loc) (ls : Array Slot), gI E s M x H locs → lv_has ls 3 [(2, .int v2), (1, .int v1), (0, .ref (E.2.1 o))] → W p l e (gR 2 46) s m args below meth c H locs 0 0 Q (F0 m 14 ls []) := by
    intro  n
    induction n with
    | zero => intro v2 v1 M hf; rw [f_X5_letHourPass_L14] at hf; cases hf
    | succ n ih =>
      intro v2 v1 M hf H locs ls hI hl
      rw [f_X5_letHourPass_L14] at hf
      refine lv_iload_n hx hb dX5_letHourPass_14 rfl (lv_at hl 0 rfl) ?_
      refine lv_iconst (v := 3) hx hb dX5_letHourPass_15 (by decide) ?_
      refine lv_icmp_ge (tgt := 78) hx hb dX5_letHourPass_16 rfl (fun h2 => ?_) (fun h2 => ?_)
      · replace hf := gif h2 hf
        refine lv_aload_n hx hb dX5_letHourPass_78 rfl (lv_at hl 2 rfl) ?_
        refine lv_dup hx hb dX5_letHourPass_79 rfl ?_
        refine gt_X5_X5_fees hC hI ho dX5_letHourPass_80 ?_
        refine lv_iload_n hx hb dX5_letHourPass_83 rfl (lv_at hl 1 rfl) ?_
        refine lv_iadd hx hb dX5_letHourPass_84 ?_
        obtain ⟨M3, eM3, hf⟩ := glet hf
        refine pt_X5_X5_fees hC hI ho dX5_letHourPass_85 (fun H locs hI => ?_)
        replace hI := g_mem eM3 hI
        refine lv_iload_n hx hb dX5_letHourPass_88 rfl (lv_at hl 1 rfl) ?_
        exact kr _ _ _ _ _ _ (grw hf) hI ⟨.int, rfl, rfl⟩ dX5_letHourPass_89
      · replace hf := gifn h2 hf
        refine lv_aload_n hx hb dX5_letHourPass_19 rfl (lv_at hl 2 rfl) ?_
        refine gt_X5_X5_locks hC hI ho dX5_letHourPass_20 ?_
        refine lv_iload_n hx hb dX5_letHourPass_23 rfl (lv_at hl 0 rfl) ?_
        obtain ⟨h4, hf⟩ := gifN hf
        refine g_iald hC hI (k := v2.toNatClampNeg) (gIA_11 ho) h4 rfl dX5_letHourPass_24 ?_
        refine lv_if_le (tgt := 38) hx hb dX5_letHourPass_25 rfl (fun h5 => ?_) (fun h5 => ?_)
        · replace hf := gif h5 hf
          refine lv_aload_n hx hb dX5_letHourPass_38 rfl (lv_at hl 2 rfl) ?_
          refine lv_iload_n hx hb dX5_letHourPass_39 rfl (lv_at hl 0 rfl) ?_
          obtain ⟨r6, hr7, hf⟩ := gbind hf
          have hr7 := C_X5_hasShip l E x ho hr7
          refine g_callVi (rest := []) hC hI hr7 Y_X5_hasShip V_X5_hasShip w244 (rcv_X5 hC hI ho) ⟨rfl, rfl⟩ ⟨Nat.le_of_ble_eq_true rfl, Nat.le_of_ble_eq_true rfl⟩ rfl hl.1 rfl (Nat.le_of_ble_eq_true rfl) dX5_letHourPass_40 ⟨Nat.zero_le _, Nat.zero_le _⟩ (fun H locs hI => ?_)
          refine lv_if_eq (tgt := 72) hx hb dX5_letHourPass_43 rfl (fun h8 => ?_) (fun h8 => ?_)
          · replace hf := gif h8 hf
            refine lv_iinc (k := 0) (v := v2 + 1) (lv' := [(2, .int (v2 + 1)), (1, .int v1), (0, .ref (E.2.1 o))]) hx hb dX5_letHourPass_72 hl rfl rfl (by decide) rfl (fun ls hl => ?_)
            refine lv_goto (tgt := 14) hx hb dX5_letHourPass_75 rfl ?_
            exact ih (v2 + 1) v1 M hf _ _ _ hI (lv_sub hl [0, 1, 2] rfl)
          · replace hf := gifn h8 hf
            refine lv_aload_n hx hb dX5_letHourPass_46 rfl (lv_at hl 2 rfl) ?_
            refine gt_X5_X5_dueHours hC hI ho dX5_letHourPass_47 ?_
            refine lv_iload_n hx hb dX5_letHourPass_50 rfl (lv_at hl 0 rfl) ?_
            obtain ⟨h9, hf⟩ := gifN hf
            refine g_iald hC hI (k := v2.toNatClampNeg) (gIA_9 ho) h9 rfl dX5_letHourPass_51 ?_
            refine lv_aload_n hx hb dX5_letHourPass_52 rfl (lv_at hl 2 rfl) ?_
            refine gt_X5_X5_hour hC hI ho dX5_letHourPass_53 ?_
            refine lv_icmp_ge (tgt := 72) hx hb dX5_letHourPass_56 rfl (fun h10 => ?_) (fun h10 => ?_)
            · replace hf := gif h10 hf
              refine lv_iinc (k := 0) (v := v2 + 1) (lv' := [(2, .int (v2 + 1)), (1, .int v1), (0, .ref (E.2.1 o))]) hx hb dX5_letHourPass_72 hl rfl rfl (by decide) rfl (fun ls hl => ?_)
              refine lv_goto (tgt := 14) hx hb dX5_letHourPass_75 rfl ?_
              exact ih (v2 + 1) v1 M hf _ _ _ hI (lv_sub hl [0, 1, 2] rfl)
            · replace hf := gifn h10 hf
              refine lv_iload_n hx hb dX5_letHourPass_59 rfl (lv_at hl 1 rfl) ?_
              refine lv_aload_n hx hb dX5_letHourPass_60 rfl (lv_at hl 2 rfl) ?_
              refine gt_X5_X5_cargo hC hI ho dX5_letHourPass_61 ?_
              refine lv_iload_n hx hb dX5_letHourPass_64 rfl (lv_at hl 0 rfl) ?_
              obtain ⟨r11, hr12, hf⟩ := gbind hf
              have hr12 := C_X0_loadOf l E x ho hr12
              refine g_callVi (rest := [.int v1]) hC hI hr12 Y_X0_loadOf V_X0_loadOf w717 (rcv_X0 hC hI ho) ⟨rfl, rfl⟩ ⟨Nat.le_of_ble_eq_true rfl, Nat.le_of_ble_eq_true rfl⟩ rfl hl.1 rfl (Nat.le_of_ble_eq_true rfl) dX5_letHourPass_65 ⟨Nat.zero_le _, Nat.zero_le _⟩ (fun H locs hI => ?_)
              refine lv_iconst (v := 1) hx hb dX5_letHourPass_68 (by decide) ?_
              refine lv_iadd hx hb dX5_letHourPass_69 ?_
              refine lv_iadd hx hb dX5_letHourPass_70 ?_
              obtain ⟨z13, ez13, hf⟩ := glet hf
              refine g_top ez13 ?_
              refine lv_istore_n (lv' := [(1, .int z13), (2, .int v2), (0, .ref (E.2.1 o))]) hx hb dX5_letHourPass_71 rfl hl (by decide) rfl (fun ls hl => ?_)
              refine lv_iinc (k := 1) (v := v2 + 1) (lv' := [(2, .int (v2 + 1)), (1, .int z13), (0, .ref (E.2.1 o))]) hx hb dX5_letHourPass_72 hl rfl rfl (by decide) rfl (fun ls hl => ?_)
              refine lv_goto (tgt := 14) hx hb dX5_letHourPass_75 rfl ?_
              exact ih (v2 + 1) z13 M hf _ _ _ hI (lv_sub hl [0, 1, 2] rfl)
        · replace hf := gifn h5 hf
          refine lv_aload_n hx hb dX5_letHourPass_28 rfl (lv_at hl 2 rfl) ?_
          refine gt_X5_X5_locks hC hI ho dX5_letHourPass_29 ?_
          refine lv_iload_n hx hb dX5_letHourPass_32 rfl (lv_at hl 0 rfl) ?_
          refine lv_dup2_11 hx hb dX5_letHourPass_33 rfl rfl ?_
          obtain ⟨h14, hf⟩ := gifN hf
          refine g_iald hC hI (k := v2.toNatClampNeg) (gIA_11 ho) h14 rfl dX5_letHourPass_34 ?_
          refine lv_iconst (v := 1) hx hb dX5_letHourPass_35 (by decide) ?_
          refine lv_isub hx hb dX5_letHourPass_36 ?_
          obtain ⟨h15, hf⟩ := gifN hf
          obtain ⟨M16, eM16, hf⟩ := glet hf
          refine g_iast hC hI (k := v2.toNatClampNeg) (gIA_11 ho) h15 rfl dX5_letHourPass_37 (fun H locs hI => ?_)
          replace hI := g_mem eM16 hI
          refine lv_aload_n hx hb dX5_letHourPass_38 rfl (lv_at hl 2 rfl) ?_
          refine lv_iload_n hx hb dX5_letHourPass_39 rfl (lv_at hl 0 rfl) ?_
          obtain ⟨r17, hr18, hf⟩ := gbind hf
          have hr18 := C_X5_hasShip l E x ho hr18
          refine g_callVi (rest := []) hC hI hr18 Y_X5_hasShip V_X5_hasShip w244 (rcv_X5 hC hI ho) ⟨rfl, rfl⟩ ⟨Nat.le_of_ble_eq_true rfl, Nat.le_of_ble_eq_true rfl⟩ rfl hl.1 rfl (Nat.le_of_ble_eq_true rfl) dX5_letHourPass_40 ⟨Nat.zero_le _, Nat.zero_le _⟩ (fun H locs hI => ?_)
          refine lv_if_eq (tgt := 72) hx hb dX5_letHourPass_43 rfl (fun h19 => ?_) (fun h19 => ?_)
          · replace hf := gif h19 hf
            refine lv_iinc (k := 0) (v := v2 + 1) (lv' := [(2, .int (v2 + 1)), (1, .int v1), (0, .ref (E.2.1 o))]) hx hb dX5_letHourPass_72 hl rfl rfl (by decide) rfl (fun ls hl => ?_)
            refine lv_goto (tgt := 14) hx hb dX5_letHourPass_75 rfl ?_
            exact ih (v2 + 1) v1 M16 hf _ _ _ hI (lv_sub hl [0, 1, 2] rfl)
          · replace hf := gifn h19 hf
            refine lv_aload_n hx hb dX5_letHourPass_46 rfl (lv_at hl 2 rfl) ?_
            refine gt_X5_X5_dueHours hC hI ho dX5_letHourPass_47 ?_
            refine lv_iload_n hx hb dX5_letHourPass_50 rfl (lv_at hl 0 rfl) ?_
            obtain ⟨h20, hf⟩ := gifN hf
            refine g_iald hC hI (k := v2.toNatClampNeg) (gIA_9 ho) h20 rfl dX5_letHourPass_51 ?_
            refine lv_aload_n hx hb dX5_letHourPass_52 rfl (lv_at hl 2 rfl) ?_
            refine gt_X5_X5_hour hC hI ho dX5_letHourPass_53 ?_
            refine lv_icmp_ge (tgt := 72) hx hb dX5_letHourPass_56 rfl (fun h21 => ?_) (fun h21 => ?_)
            · replace hf := gif h21 hf
              refine lv_iinc (k := 0) (v := v2 + 1) (lv' := [(2, .int (v2 + 1)), (1, .int v1), (0, .ref (E.2.1 o))]) hx hb dX5_letHourPass_72 hl rfl rfl (by decide) rfl (fun ls hl => ?_)
              refine lv_goto (tgt := 14) hx hb dX5_letHourPass_75 rfl ?_
              exact ih (v2 + 1) v1 M16 hf _ _ _ hI (lv_sub hl [0, 1, 2] rfl)
            · replace hf := gifn h21 hf
              refine lv_iload_n hx hb dX5_letHourPass_59 rfl (lv_at hl 1 rfl) ?_
              refine lv_aload_n hx hb dX5_letHourPass_60 rfl (lv_at hl 2 rfl) ?_
              refine gt_X5_X5_cargo hC hI ho dX5_letHourPass_61 ?_
              refine lv_iload_n hx hb dX5_letHourPass_64 rfl (lv_at hl 0 rfl) ?_
              obtain ⟨r22, hr23, hf⟩ := gbind hf
              have hr23 := C_X0_loadOf l E x ho hr23
              refine g_callVi (rest := [.int v1]) hC hI hr23 Y_X0_loadOf V_X0_loadOf w717 (rcv_X0 hC hI ho) ⟨rfl, rfl⟩ ⟨Nat.le_of_ble_eq_true rfl, Nat.le_of_ble_eq_true rfl⟩ rfl hl.1 rfl (Nat.le_of_ble_eq_true rfl) dX5_letHourPass_65 ⟨Nat.zero_le _, Nat.zero_le _⟩ (fun H locs hI => ?_)
              refine lv_iconst (v := 1) hx hb dX5_letHourPass_68 (by decide) ?_
              refine lv_iadd hx hb dX5_letHourPass_69 ?_
              refine lv_iadd hx hb dX5_letHourPass_70 ?_
              obtain ⟨z24, ez24, hf⟩ := glet hf
              refine g_top ez24 ?_
              refine lv_istore_n (lv' := [(1, .int z24), (2, .int v2), (0, .ref (E.2.1 o))]) hx hb dX5_letHourPass_71 rfl hl (by decide) rfl (fun ls hl => ?_)
              refine lv_iinc (k := 1) (v := v2 + 1) (lv' := [(2, .int (v2 + 1)), (1, .int z24), (0, .ref (E.2.1 o))]) hx hb dX5_letHourPass_72 hl rfl rfl (by decide) rfl (fun ls hl => ?_)
              refine lv_goto (tgt := 14) hx hb dX5_letHourPass_75 rfl ?_
              exact ih (v2 + 1) z24 M16 hf _ _ _ hI (lv_sub hl [0, 1, 2] rfl)
  unfold f_X5_letHourPass at hf
  refine lv_iconst (v := 0) hx hb dX5_letHourPass_0 (by decide) ?_
  refine lv_istore_n (lv' := [(1, .int 0), (0, .ref (E.2.1 o))]) hx hb dX5_letHourPass_1 rfl hl (by decide) rfl (fun ls hl => ?_)
  refine lv_aload_n hx hb dX5_letHourPass_2 rfl (lv_at hl 1 rfl) ?_
  refine lv_dup hx hb dX5_letHourPass_3 rfl ?_
  refine gt_X5_X5_hour hC hI ho dX5_letHourPass_4 ?_
  refine lv_iconst (v := 1) hx hb dX5_letHourPass_7 (by decide) ?_
  refine lv_iadd hx hb dX5_letHourPass_8 ?_
  obtain ⟨M1, eM1, hf⟩ := glet hf
  refine pt_X5_X5_hour hC hI ho dX5_letHourPass_9 (fun H locs hI => ?_)
  replace hI := g_mem eM1 hI
  refine lv_iconst (v := 0) hx hb dX5_letHourPass_12 (by decide) ?_
  refine lv_istore_n (lv' := [(2, .int 0), (1, .int 0), (0, .ref (E.2.1 o))]) hx hb dX5_letHourPass_13 rfl hl (by decide) rfl (fun ls hl => ?_)
  exact L14 gF 0 0 M1 hf _ _ _ hI (lv_sub hl [0, 1, 2] rfl)
theorem dX5_letHoursPass_0 : decode cX5_letHoursPass 0 = .ok (.iconst 0, 1) := by decide +kernel
theorem dX5_letHoursPass_1 : decode cX5_letHoursPass 1 = .ok (.istore_n 2, 1) := by decide +kernel
theorem dX5_letHoursPass_2 : decode cX5_letHoursPass 2 = .ok (.iconst 0, 1) := by decide +kernel
theorem dX5_letHoursPass_3 : decode cX5_letHoursPass 3 = .ok (.istore_n 3, 1) := by decide +kernel
theorem dX5_letHoursPass_4 : decode cX5_letHoursPass 4 = .ok (.iload_n 3, 1) := by decide +kernel
theorem dX5_letHoursPass_5 : decode cX5_letHoursPass 5 = .ok (.iload_n 1, 1) := by decide +kernel
theorem dX5_letHoursPass_6 : decode cX5_letHoursPass 6 = .ok (.if_icmp .ge 16, 3) := by decide +kernel
theorem dX5_letHoursPass_9 : decode cX5_letHoursPass 9 = .ok (.iload_n 2, 1) := by decide +kernel
theorem dX5_letHoursPass_10 : decode cX5_letHoursPass 10 = .ok (.aload_n 0, 1) := by decide +kernel
theorem dX5_letHoursPass_11 : decode cX5_letHoursPass 11 = .ok (.invokevirtual 112, 3) := by decide +kernel
theorem dX5_letHoursPass_14 : decode cX5_letHoursPass 14 = .ok (.iadd, 1) := by decide +kernel
theorem dX5_letHoursPass_15 : decode cX5_letHoursPass 15 = .ok (.istore_n 2, 1) := by decide +kernel
theorem dX5_letHoursPass_16 : decode cX5_letHoursPass 16 = .ok (.iinc 3 1, 3) := by decide +kernel
theorem dX5_letHoursPass_19 : decode cX5_letHoursPass 19 = .ok (.goto (-15), 3) := by decide +kernel
theorem dX5_letHoursPass_22 : decode cX5_letHoursPass 22 = .ok (.iload_n 2, 1) := by decide +kernel
theorem dX5_letHoursPass_23 : decode cX5_letHoursPass 23 = .ok (.ireturn, 1) := by decide +kernel
set_option maxRecDepth 100000 in
set_option maxHeartbeats 4000000 in
theorem C_X5_letHoursPass (l : Launch) (E : gE) (x : gX) {o : Nat} (ho : gOk o) {v1 : Int32} {M : gM} {r : Int32} {M' : gM} (hf : f_X5_letHoursPass o v1 M = some (r, M')) : gM0 l E yX5_letHoursPass (.code yX5_letHoursPass cX5_letHoursPass 4 (some .int)) (gR 3 68) M x [.ref (E.2.1 o), .int v1] (some (.int r)) M' := by
  refine gMet (by decide +kernel) (Nat.le_of_ble_eq_true rfl) ?_
  intro p e s m args below meth c H locs ls Q hC hl hI kr kv
  replace hC : gC p s m args c cX5_letHoursPass 4 RX5 E := hC
  replace hl : lv_has ls 4 [(0, .ref (E.2.1 o)), (1, .int v1)] := hl
  have hx := hC.1
  have hb := hC.2.1
  have L4 : ∀ (v1 : Int32) (n : Nat) (v3 : Int32) (v2 : Int32) (M : gM), f_X5_letHoursPass_L4 o v1 n v3 v2 M = some (r, M') → ∀ (H : Heap) (locs : List Loc) (ls : Array Slot), gI E s M x H locs → lv_has ls 4 [(3, .int v3), (2, .int v2), (0, .ref (E.2.1 o)), (1, .int v1)] → W p l e (gR 3 68) s m args below meth c H locs 0 0 Q (F0 m 4 ls []) := by
    intro v1 n
    induction n with
    | zero => intro v3 v2 M hf; rw [f_X5_letHoursPass_L4] at hf; cases hf
    | succ n ih =>
      intro v3 v2 M hf H locs ls hI hl
      rw [f_X5_letHoursPass_L4] at hf
      refine lv_iload_n hx hb dX5_letHoursPass_4 rfl (lv_at hl 0 rfl) ?_
      refine lv_iload_n hx hb dX5_letHoursPass_5 rfl (lv_at hl 3 rfl) ?_
      refine lv_icmp_ge (tgt := 22) hx hb dX5_letHoursPass_6 rfl (fun h1 => ?_) (fun h1 => ?_)
      · replace hf := gif h1 hf
        refine lv_iload_n hx hb dX5_letHoursPass_22 rfl (lv_at hl 1 rfl) ?_
        exact kr _ _ _ _ _ _ (grw hf) hI ⟨.int, rfl, rfl⟩ dX5_letHoursPass_23
      · replace hf := gifn h1 hf
        refine lv_iload_n hx hb dX5_letHoursPass_9 rfl (lv_at hl 1 rfl) ?_
        refine lv_aload_n hx hb dX5_letHoursPass_10 rfl (lv_at hl 2 rfl) ?_
        obtain ⟨r2, hr3, hf⟩ := gbind hf
        have hr3 := C_X5_letHourPass l E x ho hr3
        refine g_callVi (rest := [.int v2]) hC hI hr3 Y_X5_letHourPass V_X5_letHourPass w739 (rcv_X5 hC hI ho) ⟨rfl, rfl⟩ ⟨Nat.le_of_ble_eq_true rfl, Nat.le_of_ble_eq_true rfl⟩ rfl hl.1 rfl (Nat.le_of_ble_eq_true rfl) dX5_letHoursPass_11 ⟨Nat.zero_le _, Nat.zero_le _⟩ (fun H locs hI => ?_)
        refine lv_iadd hx hb dX5_letHoursPass_14 ?_
        obtain ⟨z4, ez4, hf⟩ := glet hf
        refine g_top ez4 ?_
        refine lv_istore_n (lv' := [(2, .int z4), (3, .int v3), (0, .ref (E.2.1 o)), (1, .int v1)]) hx hb dX5_letHoursPass_15 rfl hl (by decide) rfl (fun ls hl => ?_)
        refine lv_iinc (k := 1) (v := v3 + 1) (lv' := [(3, .int (v3 + 1)), (2, .int z4), (0, .ref (E.2.1 o)), (1, .int v1)]) hx hb dX5_letHoursPass_16 hl rfl rfl (by decide) rfl (fun ls hl => ?_)
        refine lv_goto (tgt := 4) hx hb dX5_letHoursPass_19 rfl ?_
        exact ih (v3 + 1) z4 r2.2 hf _ _ _ hI (lv_sub hl [0, 1, 2, 3] rfl)
  unfold f_X5_letHoursPass at hf
  refine lv_iconst (v := 0) hx hb dX5_letHoursPass_0 (by decide) ?_
  refine lv_istore_n (lv' := [(2, .int 0), (0, .ref (E.2.1 o)), (1, .int v1)]) hx hb dX5_letHoursPass_1 rfl hl (by decide) rfl (fun ls hl => ?_)
  refine lv_iconst (v := 0) hx hb dX5_letHoursPass_2 (by decide) ?_
  refine lv_istore_n (lv' := [(3, .int 0), (2, .int 0), (0, .ref (E.2.1 o)), (1, .int v1)]) hx hb dX5_letHoursPass_3 rfl hl (by decide) rfl (fun ls hl => ?_)
  exact L4 v1 gF 0 0 M hf _ _ _ hI (lv_sub hl [0, 1, 2, 3] rfl)
theorem dX4_carryOut_0 : decode cX4_carryOut 0 = .ok (.iload_n 1, 1) := by decide +kernel
theorem dX4_carryOut_1 : decode cX4_carryOut 1 = .ok (.tableswitch 129 1 6 #[39, 55, 75, 92, 109, 119], 39) := by decide +kernel
theorem dX4_carryOut_40 : decode cX4_carryOut 40 = .ok (.aload_n 0, 1) := by decide +kernel
theorem dX4_carryOut_41 : decode cX4_carryOut 41 = .ok (.aload_n 2, 1) := by decide +kernel
theorem dX4_carryOut_42 : decode cX4_carryOut 42 = .ok (.iconst 0, 1) := by decide +kernel
theorem dX4_carryOut_43 : decode cX4_carryOut 43 = .ok (.iaload, 1) := by decide +kernel
theorem dX4_carryOut_44 : decode cX4_carryOut 44 = .ok (.aload_n 2, 1) := by decide +kernel
theorem dX4_carryOut_45 : decode cX4_carryOut 45 = .ok (.iconst 1, 1) := by decide +kernel
theorem dX4_carryOut_46 : decode cX4_carryOut 46 = .ok (.iaload, 1) := by decide +kernel
theorem dX4_carryOut_47 : decode cX4_carryOut 47 = .ok (.aload_n 2, 1) := by decide +kernel
theorem dX4_carryOut_48 : decode cX4_carryOut 48 = .ok (.iconst 2, 1) := by decide +kernel
theorem dX4_carryOut_49 : decode cX4_carryOut 49 = .ok (.iaload, 1) := by decide +kernel
theorem dX4_carryOut_50 : decode cX4_carryOut 50 = .ok (.invokevirtual 58, 3) := by decide +kernel
theorem dX4_carryOut_53 : decode cX4_carryOut 53 = .ok (.goto 85, 3) := by decide +kernel
theorem dX4_carryOut_56 : decode cX4_carryOut 56 = .ok (.aload_n 0, 1) := by decide +kernel
theorem dX4_carryOut_57 : decode cX4_carryOut 57 = .ok (.aload_n 2, 1) := by decide +kernel
theorem dX4_carryOut_58 : decode cX4_carryOut 58 = .ok (.iconst 0, 1) := by decide +kernel
theorem dX4_carryOut_59 : decode cX4_carryOut 59 = .ok (.iaload, 1) := by decide +kernel
theorem dX4_carryOut_60 : decode cX4_carryOut 60 = .ok (.aload_n 2, 1) := by decide +kernel
theorem dX4_carryOut_61 : decode cX4_carryOut 61 = .ok (.iconst 1, 1) := by decide +kernel
theorem dX4_carryOut_62 : decode cX4_carryOut 62 = .ok (.iaload, 1) := by decide +kernel
theorem dX4_carryOut_63 : decode cX4_carryOut 63 = .ok (.aload_n 2, 1) := by decide +kernel
theorem dX4_carryOut_64 : decode cX4_carryOut 64 = .ok (.iconst 2, 1) := by decide +kernel
theorem dX4_carryOut_65 : decode cX4_carryOut 65 = .ok (.iaload, 1) := by decide +kernel
theorem dX4_carryOut_66 : decode cX4_carryOut 66 = .ok (.aload_n 2, 1) := by decide +kernel
theorem dX4_carryOut_67 : decode cX4_carryOut 67 = .ok (.iconst 3, 1) := by decide +kernel
theorem dX4_carryOut_68 : decode cX4_carryOut 68 = .ok (.iaload, 1) := by decide +kernel
theorem dX4_carryOut_69 : decode cX4_carryOut 69 = .ok (.invokevirtual 62, 3) := by decide +kernel
theorem dX4_carryOut_72 : decode cX4_carryOut 72 = .ok (.pop, 1) := by decide +kernel
theorem dX4_carryOut_73 : decode cX4_carryOut 73 = .ok (.goto 65, 3) := by decide +kernel
theorem dX4_carryOut_76 : decode cX4_carryOut 76 = .ok (.aload_n 0, 1) := by decide +kernel
theorem dX4_carryOut_77 : decode cX4_carryOut 77 = .ok (.aload_n 2, 1) := by decide +kernel
theorem dX4_carryOut_78 : decode cX4_carryOut 78 = .ok (.iconst 0, 1) := by decide +kernel
theorem dX4_carryOut_79 : decode cX4_carryOut 79 = .ok (.iaload, 1) := by decide +kernel
theorem dX4_carryOut_80 : decode cX4_carryOut 80 = .ok (.aload_n 2, 1) := by decide +kernel
theorem dX4_carryOut_81 : decode cX4_carryOut 81 = .ok (.iconst 1, 1) := by decide +kernel
theorem dX4_carryOut_82 : decode cX4_carryOut 82 = .ok (.iaload, 1) := by decide +kernel
theorem dX4_carryOut_83 : decode cX4_carryOut 83 = .ok (.aload_n 2, 1) := by decide +kernel
theorem dX4_carryOut_84 : decode cX4_carryOut 84 = .ok (.iconst 2, 1) := by decide +kernel
theorem dX4_carryOut_85 : decode cX4_carryOut 85 = .ok (.iaload, 1) := by decide +kernel
theorem dX4_carryOut_86 : decode cX4_carryOut 86 = .ok (.invokevirtual 65, 3) := by decide +kernel
theorem dX4_carryOut_89 : decode cX4_carryOut 89 = .ok (.pop, 1) := by decide +kernel
theorem dX4_carryOut_90 : decode cX4_carryOut 90 = .ok (.goto 48, 3) := by decide +kernel
theorem dX4_carryOut_93 : decode cX4_carryOut 93 = .ok (.aload_n 0, 1) := by decide +kernel
theorem dX4_carryOut_94 : decode cX4_carryOut 94 = .ok (.aload_n 2, 1) := by decide +kernel
theorem dX4_carryOut_95 : decode cX4_carryOut 95 = .ok (.iconst 0, 1) := by decide +kernel
theorem dX4_carryOut_96 : decode cX4_carryOut 96 = .ok (.iaload, 1) := by decide +kernel
theorem dX4_carryOut_97 : decode cX4_carryOut 97 = .ok (.aload_n 2, 1) := by decide +kernel
theorem dX4_carryOut_98 : decode cX4_carryOut 98 = .ok (.iconst 1, 1) := by decide +kernel
theorem dX4_carryOut_99 : decode cX4_carryOut 99 = .ok (.iaload, 1) := by decide +kernel
theorem dX4_carryOut_100 : decode cX4_carryOut 100 = .ok (.aload_n 2, 1) := by decide +kernel
theorem dX4_carryOut_101 : decode cX4_carryOut 101 = .ok (.iconst 2, 1) := by decide +kernel
theorem dX4_carryOut_102 : decode cX4_carryOut 102 = .ok (.iaload, 1) := by decide +kernel
theorem dX4_carryOut_103 : decode cX4_carryOut 103 = .ok (.invokevirtual 69, 3) := by decide +kernel
theorem dX4_carryOut_106 : decode cX4_carryOut 106 = .ok (.pop, 1) := by decide +kernel
theorem dX4_carryOut_107 : decode cX4_carryOut 107 = .ok (.goto 31, 3) := by decide +kernel
theorem dX4_carryOut_110 : decode cX4_carryOut 110 = .ok (.aload_n 0, 1) := by decide +kernel
theorem dX4_carryOut_111 : decode cX4_carryOut 111 = .ok (.aload_n 2, 1) := by decide +kernel
theorem dX4_carryOut_112 : decode cX4_carryOut 112 = .ok (.iconst 0, 1) := by decide +kernel
theorem dX4_carryOut_113 : decode cX4_carryOut 113 = .ok (.iaload, 1) := by decide +kernel
theorem dX4_carryOut_114 : decode cX4_carryOut 114 = .ok (.invokevirtual 72, 3) := by decide +kernel
theorem dX4_carryOut_117 : decode cX4_carryOut 117 = .ok (.goto 21, 3) := by decide +kernel
theorem dX4_carryOut_120 : decode cX4_carryOut 120 = .ok (.aload_n 0, 1) := by decide +kernel
theorem dX4_carryOut_121 : decode cX4_carryOut 121 = .ok (.aload_n 2, 1) := by decide +kernel
theorem dX4_carryOut_122 : decode cX4_carryOut 122 = .ok (.iconst 0, 1) := by decide +kernel
theorem dX4_carryOut_123 : decode cX4_carryOut 123 = .ok (.iaload, 1) := by decide +kernel
theorem dX4_carryOut_124 : decode cX4_carryOut 124 = .ok (.invokevirtual 76, 3) := by decide +kernel
theorem dX4_carryOut_127 : decode cX4_carryOut 127 = .ok (.goto 11, 3) := by decide +kernel
theorem dX4_carryOut_130 : decode cX4_carryOut 130 = .ok (.aload_n 0, 1) := by decide +kernel
theorem dX4_carryOut_131 : decode cX4_carryOut 131 = .ok (.aload_n 2, 1) := by decide +kernel
theorem dX4_carryOut_132 : decode cX4_carryOut 132 = .ok (.iconst 0, 1) := by decide +kernel
theorem dX4_carryOut_133 : decode cX4_carryOut 133 = .ok (.iaload, 1) := by decide +kernel
theorem dX4_carryOut_134 : decode cX4_carryOut 134 = .ok (.invokevirtual 79, 3) := by decide +kernel
theorem dX4_carryOut_137 : decode cX4_carryOut 137 = .ok (.pop, 1) := by decide +kernel
theorem dX4_carryOut_138 : decode cX4_carryOut 138 = .ok (.return_, 1) := by decide +kernel
set_option maxRecDepth 100000 in
set_option maxHeartbeats 4000000 in
theorem C_X4_carryOut (l : Launch) (E : gE) (x : gX) {o0 : Nat} {a2 n2 : Nat} (ho0 : gOk o0) (ha2 : gIA a2 n2) {v1 : Int32} {M : gM} {M' : gM} (hf : f_X4_carryOut o0 a2 n2 v1 M = some M') : gM0 l E yX4_carryOut (.code yX4_carryOut cX4_carryOut 3 none) (gR 4 91) M x [.ref (E.2.1 o0), .int v1, .ref (E.2.1 a2)] none M' := by
  refine gMet (by decide +kernel) (Nat.le_of_ble_eq_true rfl) ?_
  intro p e s m args below meth c H locs ls Q hC hl hI kr kv
  replace hC : gC p s m args c cX4_carryOut 3 RX4 E := hC
  replace hl : lv_has ls 3 [(0, .ref (E.2.1 o0)), (1, .int v1), (2, .ref (E.2.1 a2))] := hl
  have hx := hC.1
  have hb := hC.2.1
  unfold f_X4_carryOut at hf
  refine lv_iload_n hx hb dX4_carryOut_0 rfl (lv_at hl 1 rfl) ?_
  by_cases h1 : v1 = 1
  · replace hf := gif h1 hf
    refine g_tabK (k := 1) (tgt := 40) hC dX4_carryOut_1 h1 (by decide) (by decide) rfl rfl ?_
    refine lv_aload_n hx hb dX4_carryOut_40 rfl (lv_at hl 0 rfl) ?_
    refine lv_aload_n hx hb dX4_carryOut_41 rfl (lv_at hl 2 rfl) ?_
    refine lv_iconst (v := 0) hx hb dX4_carryOut_42 (by decide) ?_
    obtain ⟨h2, hf⟩ := gifN hf
    refine g_iald hC hI (k := 0) ha2 h2 rfl dX4_carryOut_43 ?_
    refine lv_aload_n hx hb dX4_carryOut_44 rfl (lv_at hl 2 rfl) ?_
    refine lv_iconst (v := 1) hx hb dX4_carryOut_45 (by decide) ?_
    obtain ⟨h3, hf⟩ := gifN hf
    refine g_iald hC hI (k := 1) ha2 h3 rfl dX4_carryOut_46 ?_
    refine lv_aload_n hx hb dX4_carryOut_47 rfl (lv_at hl 2 rfl) ?_
    refine lv_iconst (v := 2) hx hb dX4_carryOut_48 (by decide) ?_
    obtain ⟨h4, hf⟩ := gifN hf
    refine g_iald hC hI (k := 2) ha2 h4 rfl dX4_carryOut_49 ?_
    obtain ⟨r5, hr6, hf⟩ := gbind hf
    have hr6 := C_X5_putShip l E x ho0 hr6
    refine g_callVv (rest := []) hC hI hr6 Y_X5_putShip V_X5_putShip w1250 (rcv_X5 hC hI ho0) ⟨rfl, rfl⟩ ⟨Nat.le_of_ble_eq_true rfl, Nat.le_of_ble_eq_true rfl⟩ rfl hl.1 rfl (Nat.le_of_ble_eq_true rfl) dX4_carryOut_50 ⟨Nat.zero_le _, Nat.zero_le _⟩ (fun H locs hI => ?_)
    refine lv_goto (tgt := 138) hx hb dX4_carryOut_53 rfl ?_
    exact kv _ _ _ _ _ (grv hf) hI rfl dX4_carryOut_138
  · replace hf := gifn h1 hf
    by_cases h7 : v1 = 2
    · replace hf := gif h7 hf
      refine g_tabK (k := 2) (tgt := 56) hC dX4_carryOut_1 h7 (by decide) (by decide) rfl rfl ?_
      refine lv_aload_n hx hb dX4_carryOut_56 rfl (lv_at hl 0 rfl) ?_
      refine lv_aload_n hx hb dX4_carryOut_57 rfl (lv_at hl 2 rfl) ?_
      refine lv_iconst (v := 0) hx hb dX4_carryOut_58 (by decide) ?_
      obtain ⟨h8, hf⟩ := gifN hf
      refine g_iald hC hI (k := 0) ha2 h8 rfl dX4_carryOut_59 ?_
      refine lv_aload_n hx hb dX4_carryOut_60 rfl (lv_at hl 2 rfl) ?_
      refine lv_iconst (v := 1) hx hb dX4_carryOut_61 (by decide) ?_
      obtain ⟨h9, hf⟩ := gifN hf
      refine g_iald hC hI (k := 1) ha2 h9 rfl dX4_carryOut_62 ?_
      refine lv_aload_n hx hb dX4_carryOut_63 rfl (lv_at hl 2 rfl) ?_
      refine lv_iconst (v := 2) hx hb dX4_carryOut_64 (by decide) ?_
      obtain ⟨h10, hf⟩ := gifN hf
      refine g_iald hC hI (k := 2) ha2 h10 rfl dX4_carryOut_65 ?_
      refine lv_aload_n hx hb dX4_carryOut_66 rfl (lv_at hl 2 rfl) ?_
      refine lv_iconst (v := 3) hx hb dX4_carryOut_67 (by decide) ?_
      obtain ⟨h11, hf⟩ := gifN hf
      refine g_iald hC hI (k := 3) ha2 h11 rfl dX4_carryOut_68 ?_
      obtain ⟨r12, hr13, hf⟩ := gbind hf
      have hr13 := C_X5_putContainer l E x ho0 hr13
      refine g_callVi (rest := []) hC hI hr13 Y_X5_putContainer V_X5_putContainer w1251 (rcv_X5 hC hI ho0) ⟨rfl, rfl⟩ ⟨Nat.le_of_ble_eq_true rfl, Nat.le_of_ble_eq_true rfl⟩ rfl hl.1 rfl (Nat.le_of_ble_eq_true rfl) dX4_carryOut_69 ⟨Nat.zero_le _, Nat.zero_le _⟩ (fun H locs hI => ?_)
      refine lv_pop hx hb dX4_carryOut_72 rfl ?_
      refine lv_goto (tgt := 138) hx hb dX4_carryOut_73 rfl ?_
      exact kv _ _ _ _ _ (grv hf) hI rfl dX4_carryOut_138
    · replace hf := gifn h7 hf
      by_cases h14 : v1 = 3
      · replace hf := gif h14 hf
        refine g_tabK (k := 3) (tgt := 76) hC dX4_carryOut_1 h14 (by decide) (by decide) rfl rfl ?_
        refine lv_aload_n hx hb dX4_carryOut_76 rfl (lv_at hl 0 rfl) ?_
        refine lv_aload_n hx hb dX4_carryOut_77 rfl (lv_at hl 2 rfl) ?_
        refine lv_iconst (v := 0) hx hb dX4_carryOut_78 (by decide) ?_
        obtain ⟨h15, hf⟩ := gifN hf
        refine g_iald hC hI (k := 0) ha2 h15 rfl dX4_carryOut_79 ?_
        refine lv_aload_n hx hb dX4_carryOut_80 rfl (lv_at hl 2 rfl) ?_
        refine lv_iconst (v := 1) hx hb dX4_carryOut_81 (by decide) ?_
        obtain ⟨h16, hf⟩ := gifN hf
        refine g_iald hC hI (k := 1) ha2 h16 rfl dX4_carryOut_82 ?_
        refine lv_aload_n hx hb dX4_carryOut_83 rfl (lv_at hl 2 rfl) ?_
        refine lv_iconst (v := 2) hx hb dX4_carryOut_84 (by decide) ?_
        obtain ⟨h17, hf⟩ := gifN hf
        refine g_iald hC hI (k := 2) ha2 h17 rfl dX4_carryOut_85 ?_
        obtain ⟨r18, hr19, hf⟩ := gbind hf
        have hr19 := C_X5_tryAnswer l E x ho0 hr19
        refine g_callVi (rest := []) hC hI hr19 Y_X5_tryAnswer V_X5_tryAnswer w1252 (rcv_X5 hC hI ho0) ⟨rfl, rfl⟩ ⟨Nat.le_of_ble_eq_true rfl, Nat.le_of_ble_eq_true rfl⟩ rfl hl.1 rfl (Nat.le_of_ble_eq_true rfl) dX4_carryOut_86 ⟨Nat.zero_le _, Nat.zero_le _⟩ (fun H locs hI => ?_)
        refine lv_pop hx hb dX4_carryOut_89 rfl ?_
        refine lv_goto (tgt := 138) hx hb dX4_carryOut_90 rfl ?_
        exact kv _ _ _ _ _ (grv hf) hI rfl dX4_carryOut_138
      · replace hf := gifn h14 hf
        by_cases h20 : v1 = 4
        · replace hf := gif h20 hf
          refine g_tabK (k := 4) (tgt := 93) hC dX4_carryOut_1 h20 (by decide) (by decide) rfl rfl ?_
          refine lv_aload_n hx hb dX4_carryOut_93 rfl (lv_at hl 0 rfl) ?_
          refine lv_aload_n hx hb dX4_carryOut_94 rfl (lv_at hl 2 rfl) ?_
          refine lv_iconst (v := 0) hx hb dX4_carryOut_95 (by decide) ?_
          obtain ⟨h21, hf⟩ := gifN hf
          refine g_iald hC hI (k := 0) ha2 h21 rfl dX4_carryOut_96 ?_
          refine lv_aload_n hx hb dX4_carryOut_97 rfl (lv_at hl 2 rfl) ?_
          refine lv_iconst (v := 1) hx hb dX4_carryOut_98 (by decide) ?_
          obtain ⟨h22, hf⟩ := gifN hf
          refine g_iald hC hI (k := 1) ha2 h22 rfl dX4_carryOut_99 ?_
          refine lv_aload_n hx hb dX4_carryOut_100 rfl (lv_at hl 2 rfl) ?_
          refine lv_iconst (v := 2) hx hb dX4_carryOut_101 (by decide) ?_
          obtain ⟨h23, hf⟩ := gifN hf
          refine g_iald hC hI (k := 2) ha2 h23 rfl dX4_carryOut_102 ?_
          obtain ⟨r24, hr25, hf⟩ := gbind hf
          have hr25 := C_X5_shiftTop l E x ho0 hr25
          refine g_callVi (rest := []) hC hI hr25 Y_X5_shiftTop V_X5_shiftTop w1253 (rcv_X5 hC hI ho0) ⟨rfl, rfl⟩ ⟨Nat.le_of_ble_eq_true rfl, Nat.le_of_ble_eq_true rfl⟩ rfl hl.1 rfl (Nat.le_of_ble_eq_true rfl) dX4_carryOut_103 ⟨Nat.zero_le _, Nat.zero_le _⟩ (fun H locs hI => ?_)
          refine lv_pop hx hb dX4_carryOut_106 rfl ?_
          refine lv_goto (tgt := 138) hx hb dX4_carryOut_107 rfl ?_
          exact kv _ _ _ _ _ (grv hf) hI rfl dX4_carryOut_138
        · replace hf := gifn h20 hf
          by_cases h26 : v1 = 5
          · replace hf := gif h26 hf
            refine g_tabK (k := 5) (tgt := 110) hC dX4_carryOut_1 h26 (by decide) (by decide) rfl rfl ?_
            refine lv_aload_n hx hb dX4_carryOut_110 rfl (lv_at hl 0 rfl) ?_
            refine lv_aload_n hx hb dX4_carryOut_111 rfl (lv_at hl 2 rfl) ?_
            refine lv_iconst (v := 0) hx hb dX4_carryOut_112 (by decide) ?_
            obtain ⟨h27, hf⟩ := gifN hf
            refine g_iald hC hI (k := 0) ha2 h27 rfl dX4_carryOut_113 ?_
            obtain ⟨r28, hr29, hf⟩ := gbind hf
            have hr29 := C_X5_handOver l E x ho0 hr29
            refine g_callVv (rest := []) hC hI hr29 Y_X5_handOver V_X5_handOver w1254 (rcv_X5 hC hI ho0) ⟨rfl, rfl⟩ ⟨Nat.le_of_ble_eq_true rfl, Nat.le_of_ble_eq_true rfl⟩ rfl hl.1 rfl (Nat.le_of_ble_eq_true rfl) dX4_carryOut_114 ⟨Nat.zero_le _, Nat.zero_le _⟩ (fun H locs hI => ?_)
            refine lv_goto (tgt := 138) hx hb dX4_carryOut_117 rfl ?_
            exact kv _ _ _ _ _ (grv hf) hI rfl dX4_carryOut_138
          · replace hf := gifn h26 hf
            by_cases h30 : v1 = 6
            · replace hf := gif h30 hf
              refine g_tabK (k := 6) (tgt := 120) hC dX4_carryOut_1 h30 (by decide) (by decide) rfl rfl ?_
              refine lv_aload_n hx hb dX4_carryOut_120 rfl (lv_at hl 0 rfl) ?_
              refine lv_aload_n hx hb dX4_carryOut_121 rfl (lv_at hl 2 rfl) ?_
              refine lv_iconst (v := 0) hx hb dX4_carryOut_122 (by decide) ?_
              obtain ⟨h31, hf⟩ := gifN hf
              refine g_iald hC hI (k := 0) ha2 h31 rfl dX4_carryOut_123 ?_
              obtain ⟨r32, hr33, hf⟩ := gbind hf
              have hr33 := C_X5_takeShip l E x ho0 hr33
              refine g_callVv (rest := []) hC hI hr33 Y_X5_takeShip V_X5_takeShip w1255 (rcv_X5 hC hI ho0) ⟨rfl, rfl⟩ ⟨Nat.le_of_ble_eq_true rfl, Nat.le_of_ble_eq_true rfl⟩ rfl hl.1 rfl (Nat.le_of_ble_eq_true rfl) dX4_carryOut_124 ⟨Nat.zero_le _, Nat.zero_le _⟩ (fun H locs hI => ?_)
              refine lv_goto (tgt := 138) hx hb dX4_carryOut_127 rfl ?_
              exact kv _ _ _ _ _ (grv hf) hI rfl dX4_carryOut_138
            · replace hf := gifn h30 hf
              refine g_tabD (tgt := 130) [1, 2, 3, 4, 5, 6] hC dX4_carryOut_1 (List.forall_mem_cons.mpr ⟨h1, List.forall_mem_cons.mpr ⟨h7, List.forall_mem_cons.mpr ⟨h14, List.forall_mem_cons.mpr ⟨h20, List.forall_mem_cons.mpr ⟨h26, List.forall_mem_cons.mpr ⟨h30, fun _ h => absurd h List.not_mem_nil⟩⟩⟩⟩⟩⟩) (by decide) rfl ?_
              refine lv_aload_n hx hb dX4_carryOut_130 rfl (lv_at hl 0 rfl) ?_
              refine lv_aload_n hx hb dX4_carryOut_131 rfl (lv_at hl 2 rfl) ?_
              refine lv_iconst (v := 0) hx hb dX4_carryOut_132 (by decide) ?_
              obtain ⟨h34, hf⟩ := gifN hf
              refine g_iald hC hI (k := 0) ha2 h34 rfl dX4_carryOut_133 ?_
              obtain ⟨r35, hr36, hf⟩ := gbind hf
              have hr36 := C_X5_letHoursPass l E x ho0 hr36
              refine g_callVi (rest := []) hC hI hr36 Y_X5_letHoursPass V_X5_letHoursPass w1256 (rcv_X5 hC hI ho0) ⟨rfl, rfl⟩ ⟨Nat.le_of_ble_eq_true rfl, Nat.le_of_ble_eq_true rfl⟩ rfl hl.1 rfl (Nat.le_of_ble_eq_true rfl) dX4_carryOut_134 ⟨Nat.zero_le _, Nat.zero_le _⟩ (fun H locs hI => ?_)
              refine lv_pop hx hb dX4_carryOut_137 rfl ?_
              exact kv _ _ _ _ _ (grv hf) hI rfl dX4_carryOut_138
theorem dX4_firstFailureOn_0 : decode cX4_firstFailureOn 0 = .ok (.iconst 0, 1) := by decide +kernel
theorem dX4_firstFailureOn_1 : decode cX4_firstFailureOn 1 = .ok (.istore_n 2, 1) := by decide +kernel
theorem dX4_firstFailureOn_2 : decode cX4_firstFailureOn 2 = .ok (.iload_n 2, 1) := by decide +kernel
theorem dX4_firstFailureOn_3 : decode cX4_firstFailureOn 3 = .ok (.aload_n 0, 1) := by decide +kernel
theorem dX4_firstFailureOn_4 : decode cX4_firstFailureOn 4 = .ok (.getfield 20, 3) := by decide +kernel
theorem dX4_firstFailureOn_7 : decode cX4_firstFailureOn 7 = .ok (.if_icmp .ge 49, 3) := by decide +kernel
theorem dX4_firstFailureOn_10 : decode cX4_firstFailureOn 10 = .ok (.iload_n 2, 1) := by decide +kernel
theorem dX4_firstFailureOn_11 : decode cX4_firstFailureOn 11 = .ok (.bipush 8, 2) := by decide +kernel
theorem dX4_firstFailureOn_13 : decode cX4_firstFailureOn 13 = .ok (.if_icmp .ge 43, 3) := by decide +kernel
theorem dX4_firstFailureOn_16 : decode cX4_firstFailureOn 16 = .ok (.aload_n 0, 1) := by decide +kernel
theorem dX4_firstFailureOn_17 : decode cX4_firstFailureOn 17 = .ok (.getfield 17, 3) := by decide +kernel
theorem dX4_firstFailureOn_20 : decode cX4_firstFailureOn 20 = .ok (.iload_n 2, 1) := by decide +kernel
theorem dX4_firstFailureOn_21 : decode cX4_firstFailureOn 21 = .ok (.aaload, 1) := by decide +kernel
theorem dX4_firstFailureOn_22 : decode cX4_firstFailureOn 22 = .ok (.astore_n 3, 1) := by decide +kernel
theorem dX4_firstFailureOn_23 : decode cX4_firstFailureOn 23 = .ok (.aload_n 1, 1) := by decide +kernel
theorem dX4_firstFailureOn_24 : decode cX4_firstFailureOn 24 = .ok (.aload_n 0, 1) := by decide +kernel
theorem dX4_firstFailureOn_25 : decode cX4_firstFailureOn 25 = .ok (.getfield 9, 3) := by decide +kernel
theorem dX4_firstFailureOn_28 : decode cX4_firstFailureOn 28 = .ok (.iload_n 2, 1) := by decide +kernel
theorem dX4_firstFailureOn_29 : decode cX4_firstFailureOn 29 = .ok (.iaload, 1) := by decide +kernel
theorem dX4_firstFailureOn_30 : decode cX4_firstFailureOn 30 = .ok (.aload_n 3, 1) := by decide +kernel
theorem dX4_firstFailureOn_31 : decode cX4_firstFailureOn 31 = .ok (.invokestatic 24, 3) := by decide +kernel
theorem dX4_firstFailureOn_34 : decode cX4_firstFailureOn 34 = .ok (.ifCond .eq 5, 3) := by decide +kernel
theorem dX4_firstFailureOn_37 : decode cX4_firstFailureOn 37 = .ok (.iload_n 2, 1) := by decide +kernel
theorem dX4_firstFailureOn_38 : decode cX4_firstFailureOn 38 = .ok (.ireturn, 1) := by decide +kernel
theorem dX4_firstFailureOn_39 : decode cX4_firstFailureOn 39 = .ok (.aload_n 1, 1) := by decide +kernel
theorem dX4_firstFailureOn_40 : decode cX4_firstFailureOn 40 = .ok (.aload_n 0, 1) := by decide +kernel
theorem dX4_firstFailureOn_41 : decode cX4_firstFailureOn 41 = .ok (.getfield 9, 3) := by decide +kernel
theorem dX4_firstFailureOn_44 : decode cX4_firstFailureOn 44 = .ok (.iload_n 2, 1) := by decide +kernel
theorem dX4_firstFailureOn_45 : decode cX4_firstFailureOn 45 = .ok (.iaload, 1) := by decide +kernel
theorem dX4_firstFailureOn_46 : decode cX4_firstFailureOn 46 = .ok (.aload_n 3, 1) := by decide +kernel
theorem dX4_firstFailureOn_47 : decode cX4_firstFailureOn 47 = .ok (.invokestatic 28, 3) := by decide +kernel
theorem dX4_firstFailureOn_50 : decode cX4_firstFailureOn 50 = .ok (.iinc 2 1, 3) := by decide +kernel
theorem dX4_firstFailureOn_53 : decode cX4_firstFailureOn 53 = .ok (.goto (-51), 3) := by decide +kernel
theorem dX4_firstFailureOn_56 : decode cX4_firstFailureOn 56 = .ok (.iconst (-1), 1) := by decide +kernel
theorem dX4_firstFailureOn_57 : decode cX4_firstFailureOn 57 = .ok (.ireturn, 1) := by decide +kernel
set_option maxRecDepth 100000 in
set_option maxHeartbeats 4000000 in
theorem C_X4_firstFailureOn (l : Launch) (E : gE) (x : gX) {o1 : Nat} (ho1 : gOk o1) {M : gM} {r : Int32} {M' : gM} (hf : f_X4_firstFailureOn o1 M = some (r, M')) : gM0 l E yX4_firstFailureOn (.code yX4_firstFailureOn cX4_firstFailureOn 4 (some .int)) (gR 5 113) M x [.ref (E.2.1 135), .ref (E.2.1 o1)] (some (.int r)) M' := by
  refine gMet (by decide +kernel) (Nat.le_of_ble_eq_true rfl) ?_
  intro p e s m args below meth c H locs ls Q hC hl hI kr kv
  replace hC : gC p s m args c cX4_firstFailureOn 4 RX4 E := hC
  replace hl : lv_has ls 4 [(0, .ref (E.2.1 135)), (1, .ref (E.2.1 o1))] := hl
  have hx := hC.1
  have hb := hC.2.1
  have L2 : ∀ (n : Nat) (v2 : Int32) (M : gM), f_X4_firstFailureOn_L2 o1 n v2 M = some (r, M') → ∀ (H : Heap) (locs : List Loc) (ls : Array Slot), gI E s M x H locs → lv_has ls 4 [(2, .int v2), (0, .ref (E.2.1 135)), (1, .ref (E.2.1 o1))] → W p l e (gR 5 113) s m args below meth c H locs 0 0 Q (F0 m 2 ls []) := by
    intro  n
    induction n with
    | zero => intro v2 M hf; rw [f_X4_firstFailureOn_L2] at hf; cases hf
    | succ n ih =>
      intro v2 M hf H locs ls hI hl
      rw [f_X4_firstFailureOn_L2] at hf
      refine lv_iload_n hx hb dX4_firstFailureOn_2 rfl (lv_at hl 0 rfl) ?_
      refine lv_aload_n hx hb dX4_firstFailureOn_3 rfl (lv_at hl 1 rfl) ?_
      refine gt_X4_X4_count hC hI dX4_firstFailureOn_4 ?_
      refine lv_icmp_ge (tgt := 56) hx hb dX4_firstFailureOn_7 rfl (fun h1 => ?_) (fun h1 => ?_)
      · replace hf := gif h1 hf
        refine lv_iconst (v := (-1)) hx hb dX4_firstFailureOn_56 (by decide) ?_
        exact kr _ _ _ _ _ _ (grw hf) hI ⟨.int, rfl, rfl⟩ dX4_firstFailureOn_57
      · replace hf := gifn h1 hf
        refine lv_iload_n hx hb dX4_firstFailureOn_10 rfl (lv_at hl 0 rfl) ?_
        refine lv_bipush (v := 8) hx hb dX4_firstFailureOn_11 (by decide) ?_
        refine lv_icmp_ge (tgt := 56) hx hb dX4_firstFailureOn_13 rfl (fun h2 => ?_) (fun h2 => ?_)
        · replace hf := gif h2 hf
          refine lv_iconst (v := (-1)) hx hb dX4_firstFailureOn_56 (by decide) ?_
          exact kr _ _ _ _ _ _ (grw hf) hI ⟨.int, rfl, rfl⟩ dX4_firstFailureOn_57
        · replace hf := gifn h2 hf
          refine lv_aload_n hx hb dX4_firstFailureOn_16 rfl (lv_at hl 1 rfl) ?_
          refine gt_X4_X4_arguments hC hI dX4_firstFailureOn_17 ?_
          refine lv_iload_n hx hb dX4_firstFailureOn_20 rfl (lv_at hl 0 rfl) ?_
          obtain ⟨h3, hf⟩ := gifN hf
          refine g_aaldR hC hI h3 dX4_firstFailureOn_21 ?_
          refine lv_astore_n (lv' := [(3, .ref (E.2.1 (138 + v2.toNatClampNeg))), (2, .int v2), (0, .ref (E.2.1 135)), (1, .ref (E.2.1 o1))]) hx hb dX4_firstFailureOn_22 rfl hl (by decide) rfl (fun ls hl => ?_)
          refine lv_aload_n hx hb dX4_firstFailureOn_23 rfl (lv_at hl 3 rfl) ?_
          refine lv_aload_n hx hb dX4_firstFailureOn_24 rfl (lv_at hl 2 rfl) ?_
          refine gt_X4_X4_kinds hC hI dX4_firstFailureOn_25 ?_
          refine lv_iload_n hx hb dX4_firstFailureOn_28 rfl (lv_at hl 1 rfl) ?_
          obtain ⟨h4, hf⟩ := gifN hf
          refine g_iald hC hI (k := v2.toNatClampNeg) gIA_kinds h4 rfl dX4_firstFailureOn_29 ?_
          refine lv_aload_n hx hb dX4_firstFailureOn_30 rfl (lv_at hl 0 rfl) ?_
          obtain ⟨r5, hr6, hf⟩ := gbind hf
          have hr6 := C_X4_faultOf l E x ho1 (gIA_row (gin_lt h3)) hr6
          refine g_callSi (rest := []) hC hI hr6 Y_X4_faultOf S_X4_faultOf w1237 ⟨rfl, rfl⟩ ⟨Nat.le_of_ble_eq_true rfl, Nat.le_of_ble_eq_true rfl⟩ rfl hl.1 rfl (Nat.le_of_ble_eq_true rfl) dX4_firstFailureOn_31 ⟨Nat.zero_le _, Nat.zero_le _⟩ (fun H locs hI => ?_)
          refine lv_if_eq (tgt := 39) hx hb dX4_firstFailureOn_34 rfl (fun h7 => ?_) (fun h7 => ?_)
          · replace hf := gif h7 hf
            refine lv_aload_n hx hb dX4_firstFailureOn_39 rfl (lv_at hl 3 rfl) ?_
            refine lv_aload_n hx hb dX4_firstFailureOn_40 rfl (lv_at hl 2 rfl) ?_
            refine gt_X4_X4_kinds hC hI dX4_firstFailureOn_41 ?_
            refine lv_iload_n hx hb dX4_firstFailureOn_44 rfl (lv_at hl 1 rfl) ?_
            obtain ⟨h8, hf⟩ := gifN hf
            refine g_iald hC hI (k := v2.toNatClampNeg) gIA_kinds h8 rfl dX4_firstFailureOn_45 ?_
            refine lv_aload_n hx hb dX4_firstFailureOn_46 rfl (lv_at hl 0 rfl) ?_
            obtain ⟨r9, hr10, hf⟩ := gbind hf
            have hr10 := C_X4_carryOut l E x ho1 (gIA_row (gin_lt h3)) hr10
            refine g_callSv (rest := []) hC hI hr10 Y_X4_carryOut S_X4_carryOut w1247 ⟨rfl, rfl⟩ ⟨Nat.le_of_ble_eq_true rfl, Nat.le_of_ble_eq_true rfl⟩ rfl hl.1 rfl (Nat.le_of_ble_eq_true rfl) dX4_firstFailureOn_47 ⟨Nat.zero_le _, Nat.zero_le _⟩ (fun H locs hI => ?_)
            refine lv_iinc (k := 1) (v := v2 + 1) (lv' := [(2, .int (v2 + 1)), (3, .ref (E.2.1 (138 + v2.toNatClampNeg))), (0, .ref (E.2.1 135)), (1, .ref (E.2.1 o1))]) hx hb dX4_firstFailureOn_50 hl rfl rfl (by decide) rfl (fun ls hl => ?_)
            refine lv_goto (tgt := 2) hx hb dX4_firstFailureOn_53 rfl ?_
            exact ih (v2 + 1) r9 hf _ _ _ hI (lv_sub hl [0, 2, 3] rfl)
          · replace hf := gifn h7 hf
            refine lv_iload_n hx hb dX4_firstFailureOn_37 rfl (lv_at hl 1 rfl) ?_
            exact kr _ _ _ _ _ _ (grw hf) hI ⟨.int, rfl, rfl⟩ dX4_firstFailureOn_38
  unfold f_X4_firstFailureOn at hf
  refine lv_iconst (v := 0) hx hb dX4_firstFailureOn_0 (by decide) ?_
  refine lv_istore_n (lv' := [(2, .int 0), (0, .ref (E.2.1 135)), (1, .ref (E.2.1 o1))]) hx hb dX4_firstFailureOn_1 rfl hl (by decide) rfl (fun ls hl => ?_)
  exact L2 gF 0 M hf _ _ _ hI (lv_sub hl [0, 1, 2] rfl)
