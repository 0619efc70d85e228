theorem dX7_keyTwinsByGroups_0 : decode cX7_keyTwinsByGroups 0 = .ok (.aload_n 0, 1) := by decide +kernel
theorem dX7_keyTwinsByGroups_1 : decode cX7_keyTwinsByGroups 1 = .ok (.invokevirtual 188, 3) := by decide +kernel
theorem dX7_keyTwinsByGroups_4 : decode cX7_keyTwinsByGroups 4 = .ok (.ireturn, 1) := by decide +kernel
set_option maxRecDepth 100000 in
set_option maxHeartbeats 4000000 in
theorem C_X7_keyTwinsByGroups (l : Launch) (E : gE) (x : gX) {M : gM} {r : Int32} {M' : gM} (hf : f_X7_keyTwinsByGroups M = some (r, M')) : gM0 l E yX7_keyTwinsByGroups (.code yX7_keyTwinsByGroups cX7_keyTwinsByGroups 1 (some .int)) (gR 3 69) M x [.ref (E.2.1 150)] (some (.int r)) M' := by
  refine gMet (by decide +kernel) (Nat.le_of_ble_eq_true rfl) ?_
  intro p e s m args below meth c H locs ls Q hC hl hI kr kv
  replace hC : gC p s m args c cX7_keyTwinsByGroups 1 RX7 E := hC
  replace hl : lv_has ls 1 [(0, .ref (E.2.1 150))] := hl
  have hx := hC.1
  have hb := hC.2.1
  unfold f_X7_keyTwinsByGroups at hf
  refine lv_aload_n hx hb dX7_keyTwinsByGroups_0 rfl (lv_at hl 0 rfl) ?_
  obtain ⟨r1, hr2, hf⟩ := gbind hf
  have hr2 := C_X7_keyTwins l E x  hr2
  refine g_callVi (rest := []) hC hI hr2 Y_X7_keyTwins V_X7_keyTwins w1702 (rcv_X7 hC hI) ⟨rfl, rfl⟩ ⟨Nat.le_of_ble_eq_true rfl, Nat.le_of_ble_eq_true rfl⟩ rfl hl.1 rfl (Nat.le_of_ble_eq_true rfl) dX7_keyTwinsByGroups_1 ⟨Nat.le_of_ble_eq_true rfl, Nat.le_of_ble_eq_true rfl⟩ (fun H locs hI => ?_)
  exact kr _ _ _ _ _ _ (grw hf) hI ⟨.int, rfl, rfl⟩ dX7_keyTwinsByGroups_4
theorem dX7_yardCount_0 : decode cX7_yardCount 0 = .ok (.aload_n 0, 1) := by decide +kernel
theorem dX7_yardCount_1 : decode cX7_yardCount 1 = .ok (.aload_n 0, 1) := by decide +kernel
theorem dX7_yardCount_2 : decode cX7_yardCount 2 = .ok (.getfield 7, 3) := by decide +kernel
theorem dX7_yardCount_5 : decode cX7_yardCount 5 = .ok (.bipush 6, 2) := by decide +kernel
theorem dX7_yardCount_7 : decode cX7_yardCount 7 = .ok (.iaload, 1) := by decide +kernel
theorem dX7_yardCount_8 : decode cX7_yardCount 8 = .ok (.invokevirtual 75, 3) := by decide +kernel
theorem dX7_yardCount_11 : decode cX7_yardCount 11 = .ok (.ireturn, 1) := by decide +kernel
set_option maxRecDepth 100000 in
set_option maxHeartbeats 4000000 in
theorem C_X7_yardCount (l : Launch) (E : gE) (x : gX) {M : gM} {r : Int32} {M' : gM} (hf : f_X7_yardCount M = some (r, M')) : gM0 l E yX7_yardCount (.code yX7_yardCount cX7_yardCount 1 (some .int)) (gR 1 21) M x [.ref (E.2.1 150)] (some (.int r)) M' := by
  refine gMet (by decide +kernel) (Nat.le_of_ble_eq_true rfl) ?_
  intro p e s m args below meth c H locs ls Q hC hl hI kr kv
  replace hC : gC p s m args c cX7_yardCount 1 RX7 E := hC
  replace hl : lv_has ls 1 [(0, .ref (E.2.1 150))] := hl
  have hx := hC.1
  have hb := hC.2.1
  unfold f_X7_yardCount at hf
  refine lv_aload_n hx hb dX7_yardCount_0 rfl (lv_at hl 0 rfl) ?_
  refine lv_aload_n hx hb dX7_yardCount_1 rfl (lv_at hl 0 rfl) ?_
  refine gt_X7_X7_g hC hI dX7_yardCount_2 ?_
  refine lv_bipush (v := 6) hx hb dX7_yardCount_5 (by decide) ?_
  refine g_iald hC hI (k := 6) gIA_151 (by decide) rfl dX7_yardCount_7 ?_
  obtain ⟨r1, hr2, hf⟩ := gbind hf
  have hr2 := C_X7_done l E x  hr2
  refine g_callVi (rest := []) hC hI hr2 Y_X7_done V_X7_done w1409 (rcv_X7 hC hI) ⟨rfl, rfl⟩ ⟨Nat.le_of_ble_eq_true rfl, Nat.le_of_ble_eq_true rfl⟩ rfl hl.1 rfl (Nat.le_of_ble_eq_true rfl) dX7_yardCount_8 ⟨Nat.le_of_ble_eq_true rfl, Nat.le_of_ble_eq_true rfl⟩ (fun H locs hI => ?_)
  exact kr _ _ _ _ _ _ (grw hf) hI ⟨.int, rfl, rfl⟩ dX7_yardCount_11
theorem dX7_yardAt_0 : decode cX7_yardAt 0 = .ok (.iload_n 1, 1) := by decide +kernel
theorem dX7_yardAt_1 : decode cX7_yardAt 1 = .ok (.iconst 0, 1) := by decide +kernel
theorem dX7_yardAt_2 : decode cX7_yardAt 2 = .ok (.aload_n 0, 1) := by decide +kernel
theorem dX7_yardAt_3 : decode cX7_yardAt 3 = .ok (.getfield 7, 3) := by decide +kernel
theorem dX7_yardAt_6 : decode cX7_yardAt 6 = .ok (.bipush 6, 2) := by decide +kernel
theorem dX7_yardAt_8 : decode cX7_yardAt 8 = .ok (.iaload, 1) := by decide +kernel
theorem dX7_yardAt_9 : decode cX7_yardAt 9 = .ok (.iconst 1, 1) := by decide +kernel
theorem dX7_yardAt_10 : decode cX7_yardAt 10 = .ok (.isub, 1) := by decide +kernel
theorem dX7_yardAt_11 : decode cX7_yardAt 11 = .ok (.invokestatic 52, 3) := by decide +kernel
theorem dX7_yardAt_14 : decode cX7_yardAt 14 = .ok (.ifCond .eq 20, 3) := by decide +kernel
theorem dX7_yardAt_17 : decode cX7_yardAt 17 = .ok (.aload_n 0, 1) := by decide +kernel
theorem dX7_yardAt_18 : decode cX7_yardAt 18 = .ok (.aload_n 0, 1) := by decide +kernel
theorem dX7_yardAt_19 : decode cX7_yardAt 19 = .ok (.getfield 7, 3) := by decide +kernel
theorem dX7_yardAt_22 : decode cX7_yardAt 22 = .ok (.sipush 214, 3) := by decide +kernel
theorem dX7_yardAt_25 : decode cX7_yardAt 25 = .ok (.iload_n 1, 1) := by decide +kernel
theorem dX7_yardAt_26 : decode cX7_yardAt 26 = .ok (.iadd, 1) := by decide +kernel
theorem dX7_yardAt_27 : decode cX7_yardAt 27 = .ok (.iaload, 1) := by decide +kernel
theorem dX7_yardAt_28 : decode cX7_yardAt 28 = .ok (.invokevirtual 75, 3) := by decide +kernel
theorem dX7_yardAt_31 : decode cX7_yardAt 31 = .ok (.goto 8, 3) := by decide +kernel
theorem dX7_yardAt_34 : decode cX7_yardAt 34 = .ok (.aload_n 0, 1) := by decide +kernel
theorem dX7_yardAt_35 : decode cX7_yardAt 35 = .ok (.iconst 1, 1) := by decide +kernel
theorem dX7_yardAt_36 : decode cX7_yardAt 36 = .ok (.invokevirtual 67, 3) := by decide +kernel
theorem dX7_yardAt_39 : decode cX7_yardAt 39 = .ok (.ireturn, 1) := by decide +kernel
set_option maxRecDepth 100000 in
set_option maxHeartbeats 4000000 in
theorem C_X7_yardAt (l : Launch) (E : gE) (x : gX) {v1 : Int32} {M : gM} {r : Int32} {M' : gM} (hf : f_X7_yardAt v1 M = some (r, M')) : gM0 l E yX7_yardAt (.code yX7_yardAt cX7_yardAt 2 (some .int)) (gR 1 22) M x [.ref (E.2.1 150), .int v1] (some (.int r)) M' := by
  refine gMet (by decide +kernel) (Nat.le_of_ble_eq_true rfl) ?_
  intro p e s m args below meth c H locs ls Q hC hl hI kr kv
  replace hC : gC p s m args c cX7_yardAt 2 RX7 E := hC
  replace hl : lv_has ls 2 [(0, .ref (E.2.1 150)), (1, .int v1)] := hl
  have hx := hC.1
  have hb := hC.2.1
  unfold f_X7_yardAt at hf
  refine lv_iload_n hx hb dX7_yardAt_0 rfl (lv_at hl 1 rfl) ?_
  refine lv_iconst (v := 0) hx hb dX7_yardAt_1 (by decide) ?_
  refine lv_aload_n hx hb dX7_yardAt_2 rfl (lv_at hl 0 rfl) ?_
  refine gt_X7_X7_g hC hI dX7_yardAt_3 ?_
  refine lv_bipush (v := 6) hx hb dX7_yardAt_6 (by decide) ?_
  refine g_iald hC hI (k := 6) gIA_151 (by decide) rfl dX7_yardAt_8 ?_
  refine lv_iconst (v := 1) hx hb dX7_yardAt_9 (by decide) ?_
  refine lv_isub hx hb dX7_yardAt_10 ?_
  obtain ⟨r1, hr2, hf⟩ := gbind hf
  have hr2 := C_X7_in l E x  hr2
  refine g_callSi (rest := []) hC hI hr2 Y_X7_in S_X7_in w1398 ⟨rfl, rfl⟩ ⟨Nat.le_of_ble_eq_true rfl, Nat.le_of_ble_eq_true rfl⟩ rfl hl.1 rfl (Nat.le_of_ble_eq_true rfl) dX7_yardAt_11 ⟨Nat.le_of_ble_eq_true rfl, Nat.le_of_ble_eq_true rfl⟩ (fun H locs hI => ?_)
  refine lv_if_eq (tgt := 34) hx hb dX7_yardAt_14 rfl (fun h3 => ?_) (fun h3 => ?_)
  · replace hf := gif h3 hf
    refine lv_aload_n hx hb dX7_yardAt_34 rfl (lv_at hl 0 rfl) ?_
    refine lv_iconst (v := 1) hx hb dX7_yardAt_35 (by decide) ?_
    obtain ⟨r4, hr5, hf⟩ := gbind hf
    have hr5 := C_X7_fails l E x  hr5
    refine g_callVi (rest := []) hC hI hr5 Y_X7_fails V_X7_fails w1401 (rcv_X7 hC hI) ⟨rfl, rfl⟩ ⟨Nat.le_of_ble_eq_true rfl, Nat.le_of_ble_eq_true rfl⟩ rfl hl.1 rfl (Nat.le_of_ble_eq_true rfl) dX7_yardAt_36 ⟨Nat.le_of_ble_eq_true rfl, Nat.le_of_ble_eq_true rfl⟩ (fun H locs hI => ?_)
    exact kr _ _ _ _ _ _ (grw hf) hI ⟨.int, rfl, rfl⟩ dX7_yardAt_39
  · replace hf := gifn h3 hf
    refine lv_aload_n hx hb dX7_yardAt_17 rfl (lv_at hl 0 rfl) ?_
    refine lv_aload_n hx hb dX7_yardAt_18 rfl (lv_at hl 0 rfl) ?_
    refine gt_X7_X7_g hC hI dX7_yardAt_19 ?_
    refine lv_sipush (v := 214) hx hb dX7_yardAt_22 (by decide) ?_
    refine lv_iload_n hx hb dX7_yardAt_25 rfl (lv_at hl 1 rfl) ?_
    refine lv_iadd hx hb dX7_yardAt_26 ?_
    obtain ⟨h6, hf⟩ := gifN hf
    refine g_iald hC hI (k := (214 + v1).toNatClampNeg) gIA_151 h6 rfl dX7_yardAt_27 ?_
    obtain ⟨r7, hr8, hf⟩ := gbind hf
    have hr8 := C_X7_done l E x  hr8
    refine g_callVi (rest := []) hC hI hr8 Y_X7_done V_X7_done w1409 (rcv_X7 hC hI) ⟨rfl, rfl⟩ ⟨Nat.le_of_ble_eq_true rfl, Nat.le_of_ble_eq_true rfl⟩ rfl hl.1 rfl (Nat.le_of_ble_eq_true rfl) dX7_yardAt_28 ⟨Nat.le_of_ble_eq_true rfl, Nat.le_of_ble_eq_true rfl⟩ (fun H locs hI => ?_)
    refine lv_goto (tgt := 39) hx hb dX7_yardAt_31 rfl ?_
    exact kr _ _ _ _ _ _ (grw hf) hI ⟨.int, rfl, rfl⟩ dX7_yardAt_39
theorem dX7_feesAfter_0 : decode cX7_feesAfter 0 = .ok (.iload_n 1, 1) := by decide +kernel
theorem dX7_feesAfter_1 : decode cX7_feesAfter 1 = .ok (.iconst 1, 1) := by decide +kernel
theorem dX7_feesAfter_2 : decode cX7_feesAfter 2 = .ok (.bipush 100, 2) := by decide +kernel
theorem dX7_feesAfter_4 : decode cX7_feesAfter 4 = .ok (.invokestatic 52, 3) := by decide +kernel
theorem dX7_feesAfter_7 : decode cX7_feesAfter 7 = .ok (.ifCond .ne 9, 3) := by decide +kernel
theorem dX7_feesAfter_10 : decode cX7_feesAfter 10 = .ok (.aload_n 0, 1) := by decide +kernel
theorem dX7_feesAfter_11 : decode cX7_feesAfter 11 = .ok (.iconst 1, 1) := by decide +kernel
theorem dX7_feesAfter_12 : decode cX7_feesAfter 12 = .ok (.invokevirtual 67, 3) := by decide +kernel
theorem dX7_feesAfter_15 : decode cX7_feesAfter 15 = .ok (.ireturn, 1) := by decide +kernel
theorem dX7_feesAfter_16 : decode cX7_feesAfter 16 = .ok (.aload_n 0, 1) := by decide +kernel
theorem dX7_feesAfter_17 : decode cX7_feesAfter 17 = .ok (.getfield 7, 3) := by decide +kernel
theorem dX7_feesAfter_20 : decode cX7_feesAfter 20 = .ok (.iconst 0, 1) := by decide +kernel
theorem dX7_feesAfter_21 : decode cX7_feesAfter 21 = .ok (.aload_n 0, 1) := by decide +kernel
theorem dX7_feesAfter_22 : decode cX7_feesAfter 22 = .ok (.getfield 16, 3) := by decide +kernel
theorem dX7_feesAfter_25 : decode cX7_feesAfter 25 = .ok (.iconst 0, 1) := by decide +kernel
theorem dX7_feesAfter_26 : decode cX7_feesAfter 26 = .ok (.invokestatic 45, 3) := by decide +kernel
theorem dX7_feesAfter_29 : decode cX7_feesAfter 29 = .ok (.iconst 0, 1) := by decide +kernel
theorem dX7_feesAfter_30 : decode cX7_feesAfter 30 = .ok (.istore_n 2, 1) := by decide +kernel
theorem dX7_feesAfter_31 : decode cX7_feesAfter 31 = .ok (.iload_n 2, 1) := by decide +kernel
theorem dX7_feesAfter_32 : decode cX7_feesAfter 32 = .ok (.iload_n 1, 1) := by decide +kernel
theorem dX7_feesAfter_33 : decode cX7_feesAfter 33 = .ok (.if_icmp .ge 13, 3) := by decide +kernel
theorem dX7_feesAfter_36 : decode cX7_feesAfter 36 = .ok (.aload_n 0, 1) := by decide +kernel
theorem dX7_feesAfter_37 : decode cX7_feesAfter 37 = .ok (.invokevirtual 137, 3) := by decide +kernel
theorem dX7_feesAfter_40 : decode cX7_feesAfter 40 = .ok (.iinc 2 1, 3) := by decide +kernel
theorem dX7_feesAfter_43 : decode cX7_feesAfter 43 = .ok (.goto (-12), 3) := by decide +kernel
theorem dX7_feesAfter_46 : decode cX7_feesAfter 46 = .ok (.aload_n 0, 1) := by decide +kernel
theorem dX7_feesAfter_47 : decode cX7_feesAfter 47 = .ok (.getfield 7, 3) := by decide +kernel
theorem dX7_feesAfter_50 : decode cX7_feesAfter 50 = .ok (.iconst 2, 1) := by decide +kernel
theorem dX7_feesAfter_51 : decode cX7_feesAfter 51 = .ok (.iaload, 1) := by decide +kernel
theorem dX7_feesAfter_52 : decode cX7_feesAfter 52 = .ok (.istore_n 2, 1) := by decide +kernel
theorem dX7_feesAfter_53 : decode cX7_feesAfter 53 = .ok (.aload_n 0, 1) := by decide +kernel
theorem dX7_feesAfter_54 : decode cX7_feesAfter 54 = .ok (.getfield 16, 3) := by decide +kernel
theorem dX7_feesAfter_57 : decode cX7_feesAfter 57 = .ok (.iconst 0, 1) := by decide +kernel
theorem dX7_feesAfter_58 : decode cX7_feesAfter 58 = .ok (.aload_n 0, 1) := by decide +kernel
theorem dX7_feesAfter_59 : decode cX7_feesAfter 59 = .ok (.getfield 7, 3) := by decide +kernel
theorem dX7_feesAfter_62 : decode cX7_feesAfter 62 = .ok (.iconst 0, 1) := by decide +kernel
theorem dX7_feesAfter_63 : decode cX7_feesAfter 63 = .ok (.invokestatic 45, 3) := by decide +kernel
theorem dX7_feesAfter_66 : decode cX7_feesAfter 66 = .ok (.aload_n 0, 1) := by decide +kernel
theorem dX7_feesAfter_67 : decode cX7_feesAfter 67 = .ok (.iload_n 2, 1) := by decide +kernel
theorem dX7_feesAfter_68 : decode cX7_feesAfter 68 = .ok (.aload_n 0, 1) := by decide +kernel
theorem dX7_feesAfter_69 : decode cX7_feesAfter 69 = .ok (.getfield 7, 3) := by decide +kernel
theorem dX7_feesAfter_72 : decode cX7_feesAfter 72 = .ok (.iconst 2, 1) := by decide +kernel
theorem dX7_feesAfter_73 : decode cX7_feesAfter 73 = .ok (.iaload, 1) := by decide +kernel
theorem dX7_feesAfter_74 : decode cX7_feesAfter 74 = .ok (.isub, 1) := by decide +kernel
theorem dX7_feesAfter_75 : decode cX7_feesAfter 75 = .ok (.invokevirtual 75, 3) := by decide +kernel
theorem dX7_feesAfter_78 : decode cX7_feesAfter 78 = .ok (.ireturn, 1) := by decide +kernel
set_option maxRecDepth 100000 in
set_option maxHeartbeats 4000000 in
theorem C_X7_feesAfter (l : Launch) (E : gE) (x : gX) {v1 : Int32} {M : gM} {r : Int32} {M' : gM} (hf : f_X7_feesAfter v1 M = some (r, M')) : gM0 l E yX7_feesAfter (.code yX7_feesAfter cX7_feesAfter 3 (some .int)) (gR 3 67) M x [.ref (E.2.1 150), .int v1] (some (.int r)) M' := by
  refine gMet (by decide +kernel) (Nat.le_of_ble_eq_true rfl) ?_
  intro p e s m args below meth c H locs ls Q hC hl hI kr kv
  replace hC : gC p s m args c cX7_feesAfter 3 RX7 E := hC
  replace hl : lv_has ls 3 [(0, .ref (E.2.1 150)), (1, .int v1)] := hl
  have hx := hC.1
  have hb := hC.2.1
  have L31 : ∀ (v1 : Int32) (n : Nat) (v2 : Int32) (M : gM), f_X7_feesAfter_L31 v1 n v2 M = some (r, M') → ∀ (H : Heap) (locs : List Loc) (ls : Array Slot), gI E s M x H locs → lv_has ls 3 [(2, .int v2), (0, .ref (E.2.1 150)), (1, .int v1)] → W p l e (gR 3 67) s m args below meth c H locs 0 0 Q (F0 m 31 ls []) := by
    intro v1 n
    induction n with
    | zero => intro v2 M hf; rw [f_X7_feesAfter_L31] at hf; cases hf
    | succ n ih =>
      intro v2 M hf H locs ls hI hl
      rw [f_X7_feesAfter_L31] at hf
      refine lv_iload_n hx hb dX7_feesAfter_31 rfl (lv_at hl 0 rfl) ?_
      refine lv_iload_n hx hb dX7_feesAfter_32 rfl (lv_at hl 2 rfl) ?_
      refine lv_icmp_ge (tgt := 46) hx hb dX7_feesAfter_33 rfl (fun h6 => ?_) (fun h6 => ?_)
      · replace hf := gif h6 hf
        refine lv_aload_n hx hb dX7_feesAfter_46 rfl (lv_at hl 1 rfl) ?_
        refine gt_X7_X7_g hC hI dX7_feesAfter_47 ?_
        refine lv_iconst (v := 2) hx hb dX7_feesAfter_50 (by decide) ?_
        refine g_iald hC hI (k := 2) gIA_151 (by decide) rfl dX7_feesAfter_51 ?_
        obtain ⟨z7, ez7, hf⟩ := glet hf
        refine g_top ez7 ?_
        refine lv_istore_n (lv' := [(2, .int z7), (0, .ref (E.2.1 150)), (1, .int v1)]) hx hb dX7_feesAfter_52 rfl hl (by decide) rfl (fun ls hl => ?_)
        refine lv_aload_n hx hb dX7_feesAfter_53 rfl (lv_at hl 1 rfl) ?_
        refine gt_X7_X7_ahead hC hI dX7_feesAfter_54 ?_
        refine lv_iconst (v := 0) hx hb dX7_feesAfter_57 (by decide) ?_
        refine lv_aload_n hx hb dX7_feesAfter_58 rfl (lv_at hl 1 rfl) ?_
        refine gt_X7_X7_g hC hI dX7_feesAfter_59 ?_
        refine lv_iconst (v := 0) hx hb dX7_feesAfter_62 (by decide) ?_
        obtain ⟨r8, hr9, hf⟩ := gbind hf
        have hr9 := C_X7_copy l E x gIA_153 gIA_151 hr9
        refine g_callSv (rest := []) hC hI hr9 Y_X7_copy S_X7_copy w1388 ⟨rfl, rfl⟩ ⟨Nat.le_of_ble_eq_true rfl, Nat.le_of_ble_eq_true rfl⟩ rfl hl.1 rfl (Nat.le_of_ble_eq_true rfl) dX7_feesAfter_63 ⟨Nat.le_of_ble_eq_true rfl, Nat.le_of_ble_eq_true rfl⟩ (fun H locs hI => ?_)
        refine lv_aload_n hx hb dX7_feesAfter_66 rfl (lv_at hl 1 rfl) ?_
        refine lv_iload_n hx hb dX7_feesAfter_67 rfl (lv_at hl 0 rfl) ?_
        refine lv_aload_n hx hb dX7_feesAfter_68 rfl (lv_at hl 1 rfl) ?_
        refine gt_X7_X7_g hC hI dX7_feesAfter_69 ?_
        refine lv_iconst (v := 2) hx hb dX7_feesAfter_72 (by decide) ?_
        refine g_iald hC hI (k := 2) gIA_151 (by decide) rfl dX7_feesAfter_73 ?_
        refine lv_isub hx hb dX7_feesAfter_74 ?_
        obtain ⟨r10, hr11, hf⟩ := gbind hf
        have hr11 := C_X7_done l E x  hr11
        refine g_callVi (rest := []) hC hI hr11 Y_X7_done V_X7_done w1409 (rcv_X7 hC hI) ⟨rfl, rfl⟩ ⟨Nat.le_of_ble_eq_true rfl, Nat.le_of_ble_eq_true rfl⟩ rfl hl.1 rfl (Nat.le_of_ble_eq_true rfl) dX7_feesAfter_75 ⟨Nat.le_of_ble_eq_true rfl, Nat.le_of_ble_eq_true rfl⟩ (fun H locs hI => ?_)
        exact kr _ _ _ _ _ _ (grw hf) hI ⟨.int, rfl, rfl⟩ dX7_feesAfter_78
      · replace hf := gifn h6 hf
        refine lv_aload_n hx hb dX7_feesAfter_36 rfl (lv_at hl 1 rfl) ?_
        obtain ⟨r12, hr13, hf⟩ := gbind hf
        have hr13 := C_X7_passesHour l E x  hr13
        refine g_callVv (rest := []) hC hI hr13 Y_X7_passesHour V_X7_passesHour w1505 (rcv_X7 hC hI) ⟨rfl, rfl⟩ ⟨Nat.le_of_ble_eq_true rfl, Nat.le_of_ble_eq_true rfl⟩ rfl hl.1 rfl (Nat.le_of_ble_eq_true rfl) dX7_feesAfter_37 ⟨Nat.le_of_ble_eq_true rfl, Nat.le_of_ble_eq_true rfl⟩ (fun H locs hI => ?_)
        refine lv_iinc (k := 0) (v := v2 + 1) (lv' := [(2, .int (v2 + 1)), (0, .ref (E.2.1 150)), (1, .int v1)]) hx hb dX7_feesAfter_40 hl rfl rfl (by decide) rfl (fun ls hl => ?_)
        refine lv_goto (tgt := 31) hx hb dX7_feesAfter_43 rfl ?_
        exact ih (v2 + 1) r12 hf _ _ _ hI (lv_sub hl [0, 1, 2] rfl)
  unfold f_X7_feesAfter at hf
  refine lv_iload_n hx hb dX7_feesAfter_0 rfl (lv_at hl 1 rfl) ?_
  refine lv_iconst (v := 1) hx hb dX7_feesAfter_1 (by decide) ?_
  refine lv_bipush (v := 100) hx hb dX7_feesAfter_2 (by decide) ?_
  obtain ⟨r1, hr2, hf⟩ := gbind hf
  have hr2 := C_X7_in l E x  hr2
  refine g_callSi (rest := []) hC hI hr2 Y_X7_in S_X7_in w1398 ⟨rfl, rfl⟩ ⟨Nat.le_of_ble_eq_true rfl, Nat.le_of_ble_eq_true rfl⟩ rfl hl.1 rfl (Nat.le_of_ble_eq_true rfl) dX7_feesAfter_4 ⟨Nat.le_of_ble_eq_true rfl, Nat.le_of_ble_eq_true rfl⟩ (fun H locs hI => ?_)
  refine lv_if_ne (tgt := 16) hx hb dX7_feesAfter_7 rfl (fun h3 => ?_) (fun h3 => ?_)
  · replace hf := gifn h3 hf
    refine lv_aload_n hx hb dX7_feesAfter_16 rfl (lv_at hl 0 rfl) ?_
    refine gt_X7_X7_g hC hI dX7_feesAfter_17 ?_
    refine lv_iconst (v := 0) hx hb dX7_feesAfter_20 (by decide) ?_
    refine lv_aload_n hx hb dX7_feesAfter_21 rfl (lv_at hl 0 rfl) ?_
    refine gt_X7_X7_ahead hC hI dX7_feesAfter_22 ?_
    refine lv_iconst (v := 0) hx hb dX7_feesAfter_25 (by decide) ?_
    obtain ⟨r4, hr5, hf⟩ := gbind hf
    have hr5 := C_X7_copy l E x gIA_151 gIA_153 hr5
    refine g_callSv (rest := []) hC hI hr5 Y_X7_copy S_X7_copy w1388 ⟨rfl, rfl⟩ ⟨Nat.le_of_ble_eq_true rfl, Nat.le_of_ble_eq_true rfl⟩ rfl hl.1 rfl (Nat.le_of_ble_eq_true rfl) dX7_feesAfter_26 ⟨Nat.le_of_ble_eq_true rfl, Nat.le_of_ble_eq_true rfl⟩ (fun H locs hI => ?_)
    refine lv_iconst (v := 0) hx hb dX7_feesAfter_29 (by decide) ?_
    refine lv_istore_n (lv' := [(2, .int 0), (0, .ref (E.2.1 150)), (1, .int v1)]) hx hb dX7_feesAfter_30 rfl hl (by decide) rfl (fun ls hl => ?_)
    exact L31 v1 gF 0 r4 hf _ _ _ hI (lv_sub hl [0, 1, 2] rfl)
  · replace hf := gif h3 hf
    refine lv_aload_n hx hb dX7_feesAfter_10 rfl (lv_at hl 0 rfl) ?_
    refine lv_iconst (v := 1) hx hb dX7_feesAfter_11 (by decide) ?_
    obtain ⟨r14, hr15, hf⟩ := gbind hf
    have hr15 := C_X7_fails l E x  hr15
    refine g_callVi (rest := []) hC hI hr15 Y_X7_fails V_X7_fails w1401 (rcv_X7 hC hI) ⟨rfl, rfl⟩ ⟨Nat.le_of_ble_eq_true rfl, Nat.le_of_ble_eq_true rfl⟩ rfl hl.1 rfl (Nat.le_of_ble_eq_true rfl) dX7_feesAfter_12 ⟨Nat.le_of_ble_eq_true rfl, Nat.le_of_ble_eq_true rfl⟩ (fun H locs hI => ?_)
    exact kr _ _ _ _ _ _ (grw hf) hI ⟨.int, rfl, rfl⟩ dX7_feesAfter_15
theorem dX7_fees_0 : decode cX7_fees 0 = .ok (.aload_n 0, 1) := by decide +kernel
theorem dX7_fees_1 : decode cX7_fees 1 = .ok (.aload_n 0, 1) := by decide +kernel
theorem dX7_fees_2 : decode cX7_fees 2 = .ok (.getfield 7, 3) := by decide +kernel
theorem dX7_fees_5 : decode cX7_fees 5 = .ok (.iconst 2, 1) := by decide +kernel
theorem dX7_fees_6 : decode cX7_fees 6 = .ok (.iaload, 1) := by decide +kernel
theorem dX7_fees_7 : decode cX7_fees 7 = .ok (.invokevirtual 75, 3) := by decide +kernel
theorem dX7_fees_10 : decode cX7_fees 10 = .ok (.ireturn, 1) := by decide +kernel
set_option maxRecDepth 100000 in
set_option maxHeartbeats 4000000 in
theorem C_X7_fees (l : Launch) (E : gE) (x : gX) {M : gM} {r : Int32} {M' : gM} (hf : f_X7_fees M = some (r, M')) : gM0 l E yX7_fees (.code yX7_fees cX7_fees 1 (some .int)) (gR 1 21) M x [.ref (E.2.1 150)] (some (.int r)) M' := by
  refine gMet (by decide +kernel) (Nat.le_of_ble_eq_true rfl) ?_
  intro p e s m args below meth c H locs ls Q hC hl hI kr kv
  replace hC : gC p s m args c cX7_fees 1 RX7 E := hC
  replace hl : lv_has ls 1 [(0, .ref (E.2.1 150))] := hl
  have hx := hC.1
  have hb := hC.2.1
  unfold f_X7_fees at hf
  refine lv_aload_n hx hb dX7_fees_0 rfl (lv_at hl 0 rfl) ?_
  refine lv_aload_n hx hb dX7_fees_1 rfl (lv_at hl 0 rfl) ?_
  refine gt_X7_X7_g hC hI dX7_fees_2 ?_
  refine lv_iconst (v := 2) hx hb dX7_fees_5 (by decide) ?_
  refine g_iald hC hI (k := 2) gIA_151 (by decide) rfl dX7_fees_6 ?_
  obtain ⟨r1, hr2, hf⟩ := gbind hf
  have hr2 := C_X7_done l E x  hr2
  refine g_callVi (rest := []) hC hI hr2 Y_X7_done V_X7_done w1409 (rcv_X7 hC hI) ⟨rfl, rfl⟩ ⟨Nat.le_of_ble_eq_true rfl, Nat.le_of_ble_eq_true rfl⟩ rfl hl.1 rfl (Nat.le_of_ble_eq_true rfl) dX7_fees_7 ⟨Nat.le_of_ble_eq_true rfl, Nat.le_of_ble_eq_true rfl⟩ (fun H locs hI => ?_)
  exact kr _ _ _ _ _ _ (grw hf) hI ⟨.int, rfl, rfl⟩ dX7_fees_10
theorem dX7_clearedTotal_0 : decode cX7_clearedTotal 0 = .ok (.aload_n 0, 1) := by decide +kernel
theorem dX7_clearedTotal_1 : decode cX7_clearedTotal 1 = .ok (.aload_n 0, 1) := by decide +kernel
theorem dX7_clearedTotal_2 : decode cX7_clearedTotal 2 = .ok (.getfield 7, 3) := by decide +kernel
theorem dX7_clearedTotal_5 : decode cX7_clearedTotal 5 = .ok (.iconst 3, 1) := by decide +kernel
theorem dX7_clearedTotal_6 : decode cX7_clearedTotal 6 = .ok (.iaload, 1) := by decide +kernel
theorem dX7_clearedTotal_7 : decode cX7_clearedTotal 7 = .ok (.invokevirtual 75, 3) := by decide +kernel
theorem dX7_clearedTotal_10 : decode cX7_clearedTotal 10 = .ok (.ireturn, 1) := by decide +kernel
set_option maxRecDepth 100000 in
set_option maxHeartbeats 4000000 in
theorem C_X7_clearedTotal (l : Launch) (E : gE) (x : gX) {M : gM} {r : Int32} {M' : gM} (hf : f_X7_clearedTotal M = some (r, M')) : gM0 l E yX7_clearedTotal (.code yX7_clearedTotal cX7_clearedTotal 1 (some .int)) (gR 1 21) M x [.ref (E.2.1 150)] (some (.int r)) M' := by
  refine gMet (by decide +kernel) (Nat.le_of_ble_eq_true rfl) ?_
  intro p e s m args below meth c H locs ls Q hC hl hI kr kv
  replace hC : gC p s m args c cX7_clearedTotal 1 RX7 E := hC
  replace hl : lv_has ls 1 [(0, .ref (E.2.1 150))] := hl
  have hx := hC.1
  have hb := hC.2.1
  unfold f_X7_clearedTotal at hf
  refine lv_aload_n hx hb dX7_clearedTotal_0 rfl (lv_at hl 0 rfl) ?_
  refine lv_aload_n hx hb dX7_clearedTotal_1 rfl (lv_at hl 0 rfl) ?_
  refine gt_X7_X7_g hC hI dX7_clearedTotal_2 ?_
  refine lv_iconst (v := 3) hx hb dX7_clearedTotal_5 (by decide) ?_
  refine g_iald hC hI (k := 3) gIA_151 (by decide) rfl dX7_clearedTotal_6 ?_
  obtain ⟨r1, hr2, hf⟩ := gbind hf
  have hr2 := C_X7_done l E x  hr2
  refine g_callVi (rest := []) hC hI hr2 Y_X7_done V_X7_done w1409 (rcv_X7 hC hI) ⟨rfl, rfl⟩ ⟨Nat.le_of_ble_eq_true rfl, Nat.le_of_ble_eq_true rfl⟩ rfl hl.1 rfl (Nat.le_of_ble_eq_true rfl) dX7_clearedTotal_7 ⟨Nat.le_of_ble_eq_true rfl, Nat.le_of_ble_eq_true rfl⟩ (fun H locs hI => ?_)
  exact kr _ _ _ _ _ _ (grw hf) hI ⟨.int, rfl, rfl⟩ dX7_clearedTotal_10
theorem dX7_deliveredTotal_0 : decode cX7_deliveredTotal 0 = .ok (.aload_n 0, 1) := by decide +kernel
theorem dX7_deliveredTotal_1 : decode cX7_deliveredTotal 1 = .ok (.aload_n 0, 1) := by decide +kernel
theorem dX7_deliveredTotal_2 : decode cX7_deliveredTotal 2 = .ok (.getfield 7, 3) := by decide +kernel
theorem dX7_deliveredTotal_5 : decode cX7_deliveredTotal 5 = .ok (.iconst 4, 1) := by decide +kernel
theorem dX7_deliveredTotal_6 : decode cX7_deliveredTotal 6 = .ok (.iaload, 1) := by decide +kernel
theorem dX7_deliveredTotal_7 : decode cX7_deliveredTotal 7 = .ok (.invokevirtual 75, 3) := by decide +kernel
theorem dX7_deliveredTotal_10 : decode cX7_deliveredTotal 10 = .ok (.ireturn, 1) := by decide +kernel
set_option maxRecDepth 100000 in
set_option maxHeartbeats 4000000 in
theorem C_X7_deliveredTotal (l : Launch) (E : gE) (x : gX) {M : gM} {r : Int32} {M' : gM} (hf : f_X7_deliveredTotal M = some (r, M')) : gM0 l E yX7_deliveredTotal (.code yX7_deliveredTotal cX7_deliveredTotal 1 (some .int)) (gR 1 21) M x [.ref (E.2.1 150)] (some (.int r)) M' := by
  refine gMet (by decide +kernel) (Nat.le_of_ble_eq_true rfl) ?_
  intro p e s m args below meth c H locs ls Q hC hl hI kr kv
  replace hC : gC p s m args c cX7_deliveredTotal 1 RX7 E := hC
  replace hl : lv_has ls 1 [(0, .ref (E.2.1 150))] := hl
  have hx := hC.1
  have hb := hC.2.1
  unfold f_X7_deliveredTotal at hf
  refine lv_aload_n hx hb dX7_deliveredTotal_0 rfl (lv_at hl 0 rfl) ?_
  refine lv_aload_n hx hb dX7_deliveredTotal_1 rfl (lv_at hl 0 rfl) ?_
  refine gt_X7_X7_g hC hI dX7_deliveredTotal_2 ?_
  refine lv_iconst (v := 4) hx hb dX7_deliveredTotal_5 (by decide) ?_
  refine g_iald hC hI (k := 4) gIA_151 (by decide) rfl dX7_deliveredTotal_6 ?_
  obtain ⟨r1, hr2, hf⟩ := gbind hf
  have hr2 := C_X7_done l E x  hr2
  refine g_callVi (rest := []) hC hI hr2 Y_X7_done V_X7_done w1409 (rcv_X7 hC hI) ⟨rfl, rfl⟩ ⟨Nat.le_of_ble_eq_true rfl, Nat.le_of_ble_eq_true rfl⟩ rfl hl.1 rfl (Nat.le_of_ble_eq_true rfl) dX7_deliveredTotal_7 ⟨Nat.le_of_ble_eq_true rfl, Nat.le_of_ble_eq_true rfl⟩ (fun H locs hI => ?_)
  exact kr _ _ _ _ _ _ (grw hf) hI ⟨.int, rfl, rfl⟩ dX7_deliveredTotal_10
theorem dX7_wrongTotal_0 : decode cX7_wrongTotal 0 = .ok (.aload_n 0, 1) := by decide +kernel
theorem dX7_wrongTotal_1 : decode cX7_wrongTotal 1 = .ok (.aload_n 0, 1) := by decide +kernel
theorem dX7_wrongTotal_2 : decode cX7_wrongTotal 2 = .ok (.getfield 7, 3) := by decide +kernel
theorem dX7_wrongTotal_5 : decode cX7_wrongTotal 5 = .ok (.iconst 5, 1) := by decide +kernel
theorem dX7_wrongTotal_6 : decode cX7_wrongTotal 6 = .ok (.iaload, 1) := by decide +kernel
theorem dX7_wrongTotal_7 : decode cX7_wrongTotal 7 = .ok (.invokevirtual 75, 3) := by decide +kernel
theorem dX7_wrongTotal_10 : decode cX7_wrongTotal 10 = .ok (.ireturn, 1) := by decide +kernel
set_option maxRecDepth 100000 in
set_option maxHeartbeats 4000000 in
theorem C_X7_wrongTotal (l : Launch) (E : gE) (x : gX) {M : gM} {r : Int32} {M' : gM} (hf : f_X7_wrongTotal M = some (r, M')) : gM0 l E yX7_wrongTotal (.code yX7_wrongTotal cX7_wrongTotal 1 (some .int)) (gR 1 21) M x [.ref (E.2.1 150)] (some (.int r)) M' := by
  refine gMet (by decide +kernel) (Nat.le_of_ble_eq_true rfl) ?_
  intro p e s m args below meth c H locs ls Q hC hl hI kr kv
  replace hC : gC p s m args c cX7_wrongTotal 1 RX7 E := hC
  replace hl : lv_has ls 1 [(0, .ref (E.2.1 150))] := hl
  have hx := hC.1
  have hb := hC.2.1
  unfold f_X7_wrongTotal at hf
  refine lv_aload_n hx hb dX7_wrongTotal_0 rfl (lv_at hl 0 rfl) ?_
  refine lv_aload_n hx hb dX7_wrongTotal_1 rfl (lv_at hl 0 rfl) ?_
  refine gt_X7_X7_g hC hI dX7_wrongTotal_2 ?_
  refine lv_iconst (v := 5) hx hb dX7_wrongTotal_5 (by decide) ?_
  refine g_iald hC hI (k := 5) gIA_151 (by decide) rfl dX7_wrongTotal_6 ?_
  obtain ⟨r1, hr2, hf⟩ := gbind hf
  have hr2 := C_X7_done l E x  hr2
  refine g_callVi (rest := []) hC hI hr2 Y_X7_done V_X7_done w1409 (rcv_X7 hC hI) ⟨rfl, rfl⟩ ⟨Nat.le_of_ble_eq_true rfl, Nat.le_of_ble_eq_true rfl⟩ rfl hl.1 rfl (Nat.le_of_ble_eq_true rfl) dX7_wrongTotal_7 ⟨Nat.le_of_ble_eq_true rfl, Nat.le_of_ble_eq_true rfl⟩ (fun H locs hI => ?_)
  exact kr _ _ _ _ _ _ (grw hf) hI ⟨.int, rfl, rfl⟩ dX7_wrongTotal_10
theorem dX7_meanHeight_0 : decode cX7_meanHeight 0 = .ok (.aload_n 0, 1) := by decide +kernel
theorem dX7_meanHeight_1 : decode cX7_meanHeight 1 = .ok (.aload_n 0, 1) := by decide +kernel
theorem dX7_meanHeight_2 : decode cX7_meanHeight 2 = .ok (.invokevirtual 71, 3) := by decide +kernel
theorem dX7_meanHeight_5 : decode cX7_meanHeight 5 = .ok (.ifCond .ne 7, 3) := by decide +kernel
theorem dX7_meanHeight_8 : decode cX7_meanHeight 8 = .ok (.iconst 1, 1) := by decide +kernel
theorem dX7_meanHeight_9 : decode cX7_meanHeight 9 = .ok (.goto 4, 3) := by decide +kernel
theorem dX7_meanHeight_12 : decode cX7_meanHeight 12 = .ok (.iconst 0, 1) := by decide +kernel
theorem dX7_meanHeight_13 : decode cX7_meanHeight 13 = .ok (.putfield 42, 3) := by decide +kernel
theorem dX7_meanHeight_16 : decode cX7_meanHeight 16 = .ok (.aload_n 0, 1) := by decide +kernel
theorem dX7_meanHeight_17 : decode cX7_meanHeight 17 = .ok (.getfield 42, 3) := by decide +kernel
theorem dX7_meanHeight_20 : decode cX7_meanHeight 20 = .ok (.ifCond .ne 32, 3) := by decide +kernel
theorem dX7_meanHeight_23 : decode cX7_meanHeight 23 = .ok (.aload_n 0, 1) := by decide +kernel
theorem dX7_meanHeight_24 : decode cX7_meanHeight 24 = .ok (.iconst 0, 1) := by decide +kernel
theorem dX7_meanHeight_25 : decode cX7_meanHeight 25 = .ok (.invokevirtual 125, 3) := by decide +kernel
theorem dX7_meanHeight_28 : decode cX7_meanHeight 28 = .ok (.aload_n 0, 1) := by decide +kernel
theorem dX7_meanHeight_29 : decode cX7_meanHeight 29 = .ok (.iconst 1, 1) := by decide +kernel
theorem dX7_meanHeight_30 : decode cX7_meanHeight 30 = .ok (.invokevirtual 125, 3) := by decide +kernel
theorem dX7_meanHeight_33 : decode cX7_meanHeight 33 = .ok (.iadd, 1) := by decide +kernel
theorem dX7_meanHeight_34 : decode cX7_meanHeight 34 = .ok (.aload_n 0, 1) := by decide +kernel
theorem dX7_meanHeight_35 : decode cX7_meanHeight 35 = .ok (.iconst 2, 1) := by decide +kernel
theorem dX7_meanHeight_36 : decode cX7_meanHeight 36 = .ok (.invokevirtual 125, 3) := by decide +kernel
theorem dX7_meanHeight_39 : decode cX7_meanHeight 39 = .ok (.iadd, 1) := by decide +kernel
theorem dX7_meanHeight_40 : decode cX7_meanHeight 40 = .ok (.i2d, 1) := by decide +kernel
theorem dX7_meanHeight_41 : decode cX7_meanHeight 41 = .ok (.iconst 4, 1) := by decide +kernel
theorem dX7_meanHeight_42 : decode cX7_meanHeight 42 = .ok (.aload_n 0, 1) := by decide +kernel
theorem dX7_meanHeight_43 : decode cX7_meanHeight 43 = .ok (.invokevirtual 71, 3) := by decide +kernel
theorem dX7_meanHeight_46 : decode cX7_meanHeight 46 = .ok (.imul, 1) := by decide +kernel
theorem dX7_meanHeight_47 : decode cX7_meanHeight 47 = .ok (.i2d, 1) := by decide +kernel
theorem dX7_meanHeight_48 : decode cX7_meanHeight 48 = .ok (.ddiv, 1) := by decide +kernel
theorem dX7_meanHeight_49 : decode cX7_meanHeight 49 = .ok (.goto 4, 3) := by decide +kernel
theorem dX7_meanHeight_52 : decode cX7_meanHeight 52 = .ok (.dconst 0, 1) := by decide +kernel
theorem dX7_meanHeight_53 : decode cX7_meanHeight 53 = .ok (.dreturn, 1) := by decide +kernel
set_option maxRecDepth 100000 in
set_option maxHeartbeats 4000000 in
theorem C_X7_meanHeight (l : Launch) (E : gE) (x : gX) {M : gM} {r : UInt64} {M' : gM} (hf : f_X7_meanHeight M = some (r, M')) : gM0 l E yX7_meanHeight (.code yX7_meanHeight cX7_meanHeight 1 (some .double)) (gR 2 45) M x [.ref (E.2.1 150)] (some (.double r)) M' := by
  refine gMetF (by decide +kernel) (Nat.le_of_ble_eq_true rfl) ?_
  intro p e s m args below meth c H locs ls Q hC hl hI kd kf
  replace hC : gC p s m args c cX7_meanHeight 1 RX7 E := hC
  replace hl : lv_has ls 1 [(0, .ref (E.2.1 150))] := hl
  have hx := hC.1
  have hb := hC.2.1
  unfold f_X7_meanHeight at hf
  refine lv_aload_n hx hb dX7_meanHeight_0 rfl (lv_at hl 0 rfl) ?_
  refine lv_aload_n hx hb dX7_meanHeight_1 rfl (lv_at hl 0 rfl) ?_
  obtain ⟨r1, hr2, hf⟩ := gbind hf
  have hr2 := C_X7_ships l E x  hr2
  refine g_callVi (rest := [.ref (E.2.1 150)]) hC hI hr2 Y_X7_ships V_X7_ships w1405 (rcv_X7 hC hI) ⟨rfl, rfl⟩ ⟨Nat.le_of_ble_eq_true rfl, Nat.le_of_ble_eq_true rfl⟩ rfl hl.1 rfl (Nat.le_of_ble_eq_true rfl) dX7_meanHeight_2 ⟨Nat.le_of_ble_eq_true rfl, Nat.le_of_ble_eq_true rfl⟩ (fun H locs hI => ?_)
  refine lv_if_ne (tgt := 12) hx hb dX7_meanHeight_5 rfl (fun h3 => ?_) (fun h3 => ?_)
  · replace hf := gifn h3 hf
    refine lv_iconst (v := 0) hx hb dX7_meanHeight_12 (by decide) ?_
    obtain ⟨M4, eM4, hf⟩ := glet hf
    refine pt_X7_X7_thrown hC hI dX7_meanHeight_13 (fun H locs hI => ?_)
    replace hI := g_mem eM4 hI
    refine lv_aload_n hx hb dX7_meanHeight_16 rfl (lv_at hl 0 rfl) ?_
    refine gt_X7_X7_thrown hC hI dX7_meanHeight_17 ?_
    refine lv_if_ne (tgt := 52) hx hb dX7_meanHeight_20 rfl (fun h5 => ?_) (fun h5 => ?_)
    · replace hf := gifn h5 hf
      refine lv_dconst0 hx hb dX7_meanHeight_52 ?_
      exact kd _ _ _ _ _ _ (gdv hf) hI rfl dX7_meanHeight_53
    · replace hf := gif h5 hf
      refine lv_aload_n hx hb dX7_meanHeight_23 rfl (lv_at hl 0 rfl) ?_
      refine lv_iconst (v := 0) hx hb dX7_meanHeight_24 (by decide) ?_
      obtain ⟨r6, hr7, hf⟩ := gbind hf
      have hr7 := C_X7_load l E x  hr7
      refine g_callVi (rest := []) hC hI hr7 Y_X7_load V_X7_load w1486 (rcv_X7 hC hI) ⟨rfl, rfl⟩ ⟨Nat.le_of_ble_eq_true rfl, Nat.le_of_ble_eq_true rfl⟩ rfl hl.1 rfl (Nat.le_of_ble_eq_true rfl) dX7_meanHeight_25 ⟨Nat.le_of_ble_eq_true rfl, Nat.le_of_ble_eq_true rfl⟩ (fun H locs hI => ?_)
      refine lv_aload_n hx hb dX7_meanHeight_28 rfl (lv_at hl 0 rfl) ?_
      refine lv_iconst (v := 1) hx hb dX7_meanHeight_29 (by decide) ?_
      obtain ⟨r8, hr9, hf⟩ := gbind hf
      have hr9 := C_X7_load l E x  hr9
      refine g_callVi (rest := [.int r6]) hC hI hr9 Y_X7_load V_X7_load w1486 (rcv_X7 hC hI) ⟨rfl, rfl⟩ ⟨Nat.le_of_ble_eq_true rfl, Nat.le_of_ble_eq_true rfl⟩ rfl hl.1 rfl (Nat.le_of_ble_eq_true rfl) dX7_meanHeight_30 ⟨Nat.le_of_ble_eq_true rfl, Nat.le_of_ble_eq_true rfl⟩ (fun H locs hI => ?_)
      refine lv_iadd hx hb dX7_meanHeight_33 ?_
      refine lv_aload_n hx hb dX7_meanHeight_34 rfl (lv_at hl 0 rfl) ?_
      refine lv_iconst (v := 2) hx hb dX7_meanHeight_35 (by decide) ?_
      obtain ⟨r10, hr11, hf⟩ := gbind hf
      have hr11 := C_X7_load l E x  hr11
      refine g_callVi (rest := [.int (r6 + r8)]) hC hI hr11 Y_X7_load V_X7_load w1486 (rcv_X7 hC hI) ⟨rfl, rfl⟩ ⟨Nat.le_of_ble_eq_true rfl, Nat.le_of_ble_eq_true rfl⟩ rfl hl.1 rfl (Nat.le_of_ble_eq_true rfl) dX7_meanHeight_36 ⟨Nat.le_of_ble_eq_true rfl, Nat.le_of_ble_eq_true rfl⟩ (fun H locs hI => ?_)
      refine lv_iadd hx hb dX7_meanHeight_39 ?_
      refine lv_i2d hx hb dX7_meanHeight_40 ?_
      refine lv_iconst (v := 4) hx hb dX7_meanHeight_41 (by decide) ?_
      refine lv_aload_n hx hb dX7_meanHeight_42 rfl (lv_at hl 0 rfl) ?_
      obtain ⟨r12, hr13, hf⟩ := gbind hf
      have hr13 := C_X7_ships l E x  hr13
      refine g_callVi (rest := [.int 4, .double (FP.i2d ((r6 + r8) + r10))]) hC hI hr13 Y_X7_ships V_X7_ships w1405 (rcv_X7 hC hI) ⟨rfl, rfl⟩ ⟨Nat.le_of_ble_eq_true rfl, Nat.le_of_ble_eq_true rfl⟩ rfl hl.1 rfl (Nat.le_of_ble_eq_true rfl) dX7_meanHeight_43 ⟨Nat.le_of_ble_eq_true rfl, Nat.le_of_ble_eq_true rfl⟩ (fun H locs hI => ?_)
      refine lv_imul hx hb dX7_meanHeight_46 ?_
      refine lv_i2d hx hb dX7_meanHeight_47 ?_
      obtain ⟨h14, hf⟩ := gifN hf
      refine lv_ddiv hx hb dX7_meanHeight_48 (gn64_of h14) ?_
      refine lv_goto (tgt := 53) hx hb dX7_meanHeight_49 rfl ?_
      exact kd _ _ _ _ _ _ (gdv hf) hI rfl dX7_meanHeight_53
  · replace hf := gif h3 hf
    refine lv_iconst (v := 1) hx hb dX7_meanHeight_8 (by decide) ?_
    refine lv_goto (tgt := 13) hx hb dX7_meanHeight_9 rfl ?_
    obtain ⟨M15, eM15, hf⟩ := glet hf
    refine pt_X7_X7_thrown hC hI dX7_meanHeight_13 (fun H locs hI => ?_)
    replace hI := g_mem eM15 hI
    refine lv_aload_n hx hb dX7_meanHeight_16 rfl (lv_at hl 0 rfl) ?_
    refine gt_X7_X7_thrown hC hI dX7_meanHeight_17 ?_
    refine lv_if_ne (tgt := 52) hx hb dX7_meanHeight_20 rfl (fun h16 => ?_) (fun h16 => ?_)
    · replace hf := gifn h16 hf
      refine lv_dconst0 hx hb dX7_meanHeight_52 ?_
      exact kd _ _ _ _ _ _ (gdv hf) hI rfl dX7_meanHeight_53
    · replace hf := gif h16 hf
      refine lv_aload_n hx hb dX7_meanHeight_23 rfl (lv_at hl 0 rfl) ?_
      refine lv_iconst (v := 0) hx hb dX7_meanHeight_24 (by decide) ?_
      obtain ⟨r17, hr18, hf⟩ := gbind hf
      have hr18 := C_X7_load l E x  hr18
      refine g_callVi (rest := []) hC hI hr18 Y_X7_load V_X7_load w1486 (rcv_X7 hC hI) ⟨rfl, rfl⟩ ⟨Nat.le_of_ble_eq_true rfl, Nat.le_of_ble_eq_true rfl⟩ rfl hl.1 rfl (Nat.le_of_ble_eq_true rfl) dX7_meanHeight_25 ⟨Nat.le_of_ble_eq_true rfl, Nat.le_of_ble_eq_true rfl⟩ (fun H locs hI => ?_)
      refine lv_aload_n hx hb dX7_meanHeight_28 rfl (lv_at hl 0 rfl) ?_
      refine lv_iconst (v := 1) hx hb dX7_meanHeight_29 (by decide) ?_
      obtain ⟨r19, hr20, hf⟩ := gbind hf
      have hr20 := C_X7_load l E x  hr20
      refine g_callVi (rest := [.int r17]) hC hI hr20 Y_X7_load V_X7_load w1486 (rcv_X7 hC hI) ⟨rfl, rfl⟩ ⟨Nat.le_of_ble_eq_true rfl, Nat.le_of_ble_eq_true rfl⟩ rfl hl.1 rfl (Nat.le_of_ble_eq_true rfl) dX7_meanHeight_30 ⟨Nat.le_of_ble_eq_true rfl, Nat.le_of_ble_eq_true rfl⟩ (fun H locs hI => ?_)
      refine lv_iadd hx hb dX7_meanHeight_33 ?_
      refine lv_aload_n hx hb dX7_meanHeight_34 rfl (lv_at hl 0 rfl) ?_
      refine lv_iconst (v := 2) hx hb dX7_meanHeight_35 (by decide) ?_
      obtain ⟨r21, hr22, hf⟩ := gbind hf
      have hr22 := C_X7_load l E x  hr22
      refine g_callVi (rest := [.int (r17 + r19)]) hC hI hr22 Y_X7_load V_X7_load w1486 (rcv_X7 hC hI) ⟨rfl, rfl⟩ ⟨Nat.le_of_ble_eq_true rfl, Nat.le_of_ble_eq_true rfl⟩ rfl hl.1 rfl (Nat.le_of_ble_eq_true rfl) dX7_meanHeight_36 ⟨Nat.le_of_ble_eq_true rfl, Nat.le_of_ble_eq_true rfl⟩ (fun H locs hI => ?_)
      refine lv_iadd hx hb dX7_meanHeight_39 ?_
      refine lv_i2d hx hb dX7_meanHeight_40 ?_
      refine lv_iconst (v := 4) hx hb dX7_meanHeight_41 (by decide) ?_
      refine lv_aload_n hx hb dX7_meanHeight_42 rfl (lv_at hl 0 rfl) ?_
      obtain ⟨r23, hr24, hf⟩ := gbind hf
      have hr24 := C_X7_ships l E x  hr24
      refine g_callVi (rest := [.int 4, .double (FP.i2d ((r17 + r19) + r21))]) hC hI hr24 Y_X7_ships V_X7_ships w1405 (rcv_X7 hC hI) ⟨rfl, rfl⟩ ⟨Nat.le_of_ble_eq_true rfl, Nat.le_of_ble_eq_true rfl⟩ rfl hl.1 rfl (Nat.le_of_ble_eq_true rfl) dX7_meanHeight_43 ⟨Nat.le_of_ble_eq_true rfl, Nat.le_of_ble_eq_true rfl⟩ (fun H locs hI => ?_)
      refine lv_imul hx hb dX7_meanHeight_46 ?_
      refine lv_i2d hx hb dX7_meanHeight_47 ?_
      obtain ⟨h25, hf⟩ := gifN hf
      refine lv_ddiv hx hb dX7_meanHeight_48 (gn64_of h25) ?_
      refine lv_goto (tgt := 53) hx hb dX7_meanHeight_49 rfl ?_
      exact kd _ _ _ _ _ _ (gdv hf) hI rfl dX7_meanHeight_53
theorem dX7_rightShare_0 : decode cX7_rightShare 0 = .ok (.aload_n 0, 1) := by decide +kernel
theorem dX7_rightShare_1 : decode cX7_rightShare 1 = .ok (.getfield 7, 3) := by decide +kernel
theorem dX7_rightShare_4 : decode cX7_rightShare 4 = .ok (.iconst 3, 1) := by decide +kernel
theorem dX7_rightShare_5 : decode cX7_rightShare 5 = .ok (.iaload, 1) := by decide +kernel
theorem dX7_rightShare_6 : decode cX7_rightShare 6 = .ok (.aload_n 0, 1) := by decide +kernel
theorem dX7_rightShare_7 : decode cX7_rightShare 7 = .ok (.getfield 7, 3) := by decide +kernel
theorem dX7_rightShare_10 : decode cX7_rightShare 10 = .ok (.iconst 5, 1) := by decide +kernel
theorem dX7_rightShare_11 : decode cX7_rightShare 11 = .ok (.iaload, 1) := by decide +kernel
theorem dX7_rightShare_12 : decode cX7_rightShare 12 = .ok (.iadd, 1) := by decide +kernel
theorem dX7_rightShare_13 : decode cX7_rightShare 13 = .ok (.istore_n 1, 1) := by decide +kernel
theorem dX7_rightShare_14 : decode cX7_rightShare 14 = .ok (.aload_n 0, 1) := by decide +kernel
theorem dX7_rightShare_15 : decode cX7_rightShare 15 = .ok (.iload_n 1, 1) := by decide +kernel
theorem dX7_rightShare_16 : decode cX7_rightShare 16 = .ok (.ifCond .ne 7, 3) := by decide +kernel
theorem dX7_rightShare_19 : decode cX7_rightShare 19 = .ok (.iconst 1, 1) := by decide +kernel
theorem dX7_rightShare_20 : decode cX7_rightShare 20 = .ok (.goto 4, 3) := by decide +kernel
theorem dX7_rightShare_23 : decode cX7_rightShare 23 = .ok (.iconst 0, 1) := by decide +kernel
theorem dX7_rightShare_24 : decode cX7_rightShare 24 = .ok (.putfield 42, 3) := by decide +kernel
theorem dX7_rightShare_27 : decode cX7_rightShare 27 = .ok (.aload_n 0, 1) := by decide +kernel
theorem dX7_rightShare_28 : decode cX7_rightShare 28 = .ok (.getfield 42, 3) := by decide +kernel
theorem dX7_rightShare_31 : decode cX7_rightShare 31 = .ok (.ifCond .ne 16, 3) := by decide +kernel
theorem dX7_rightShare_34 : decode cX7_rightShare 34 = .ok (.aload_n 0, 1) := by decide +kernel
theorem dX7_rightShare_35 : decode cX7_rightShare 35 = .ok (.getfield 7, 3) := by decide +kernel
theorem dX7_rightShare_38 : decode cX7_rightShare 38 = .ok (.iconst 3, 1) := by decide +kernel
theorem dX7_rightShare_39 : decode cX7_rightShare 39 = .ok (.iaload, 1) := by decide +kernel
theorem dX7_rightShare_40 : decode cX7_rightShare 40 = .ok (.i2f, 1) := by decide +kernel
theorem dX7_rightShare_41 : decode cX7_rightShare 41 = .ok (.iload_n 1, 1) := by decide +kernel
theorem dX7_rightShare_42 : decode cX7_rightShare 42 = .ok (.i2f, 1) := by decide +kernel
theorem dX7_rightShare_43 : decode cX7_rightShare 43 = .ok (.fdiv, 1) := by decide +kernel
theorem dX7_rightShare_44 : decode cX7_rightShare 44 = .ok (.goto 4, 3) := by decide +kernel
theorem dX7_rightShare_47 : decode cX7_rightShare 47 = .ok (.fconst 0, 1) := by decide +kernel
theorem dX7_rightShare_48 : decode cX7_rightShare 48 = .ok (.freturn, 1) := by decide +kernel
set_option maxRecDepth 100000 in
set_option maxHeartbeats 4000000 in
theorem C_X7_rightShare (l : Launch) (E : gE) (x : gX) {M : gM} {r : UInt32} {M' : gM} (hf : f_X7_rightShare M = some (r, M')) : gM0 l E yX7_rightShare (.code yX7_rightShare cX7_rightShare 2 (some .float)) (gR 0 0) M x [.ref (E.2.1 150)] (some (.float r)) M' := by
  refine gMetF (by decide +kernel) (Nat.le_of_ble_eq_true rfl) ?_
  intro p e s m args below meth c H locs ls Q hC hl hI kd kf
  replace hC : gC p s m args c cX7_rightShare 2 RX7 E := hC
  replace hl : lv_has ls 2 [(0, .ref (E.2.1 150))] := hl
  have hx := hC.1
  have hb := hC.2.1
  unfold f_X7_rightShare at hf
  refine lv_aload_n hx hb dX7_rightShare_0 rfl (lv_at hl 0 rfl) ?_
  refine gt_X7_X7_g hC hI dX7_rightShare_1 ?_
  refine lv_iconst (v := 3) hx hb dX7_rightShare_4 (by decide) ?_
  refine g_iald hC hI (k := 3) gIA_151 (by decide) rfl dX7_rightShare_5 ?_
  refine lv_aload_n hx hb dX7_rightShare_6 rfl (lv_at hl 0 rfl) ?_
  refine gt_X7_X7_g hC hI dX7_rightShare_7 ?_
  refine lv_iconst (v := 5) hx hb dX7_rightShare_10 (by decide) ?_
  refine g_iald hC hI (k := 5) gIA_151 (by decide) rfl dX7_rightShare_11 ?_
  refine lv_iadd hx hb dX7_rightShare_12 ?_
  obtain ⟨z1, ez1, hf⟩ := glet hf
  refine g_top ez1 ?_
  refine lv_istore_n (lv' := [(1, .int z1), (0, .ref (E.2.1 150))]) hx hb dX7_rightShare_13 rfl hl (by decide) rfl (fun ls hl => ?_)
  refine lv_aload_n hx hb dX7_rightShare_14 rfl (lv_at hl 1 rfl) ?_
  refine lv_iload_n hx hb dX7_rightShare_15 rfl (lv_at hl 0 rfl) ?_
  refine lv_if_ne (tgt := 23) hx hb dX7_rightShare_16 rfl (fun h2 => ?_) (fun h2 => ?_)
  · replace hf := gifn h2 hf
    refine lv_iconst (v := 0) hx hb dX7_rightShare_23 (by decide) ?_
    obtain ⟨M3, eM3, hf⟩ := glet hf
    refine pt_X7_X7_thrown hC hI dX7_rightShare_24 (fun H locs hI => ?_)
    replace hI := g_mem eM3 hI
    refine lv_aload_n hx hb dX7_rightShare_27 rfl (lv_at hl 1 rfl) ?_
    refine gt_X7_X7_thrown hC hI dX7_rightShare_28 ?_
    refine lv_if_ne (tgt := 47) hx hb dX7_rightShare_31 rfl (fun h4 => ?_) (fun h4 => ?_)
    · replace hf := gifn h4 hf
      refine lv_fconst0 hx hb dX7_rightShare_47 ?_
      exact kf _ _ _ _ _ _ (gfv hf) hI rfl dX7_rightShare_48
    · replace hf := gif h4 hf
      refine lv_aload_n hx hb dX7_rightShare_34 rfl (lv_at hl 1 rfl) ?_
      refine gt_X7_X7_g hC hI dX7_rightShare_35 ?_
      refine lv_iconst (v := 3) hx hb dX7_rightShare_38 (by decide) ?_
      refine g_iald hC hI (k := 3) gIA_151 (by decide) rfl dX7_rightShare_39 ?_
      refine lv_i2f hx hb dX7_rightShare_40 ?_
      refine lv_iload_n hx hb dX7_rightShare_41 rfl (lv_at hl 0 rfl) ?_
      refine lv_i2f hx hb dX7_rightShare_42 ?_
      obtain ⟨h5, hf⟩ := gifN hf
      refine lv_fdiv hx hb dX7_rightShare_43 (gn32_of h5) ?_
      refine lv_goto (tgt := 48) hx hb dX7_rightShare_44 rfl ?_
      exact kf _ _ _ _ _ _ (gfv hf) hI rfl dX7_rightShare_48
  · replace hf := gif h2 hf
    refine lv_iconst (v := 1) hx hb dX7_rightShare_19 (by decide) ?_
    refine lv_goto (tgt := 24) hx hb dX7_rightShare_20 rfl ?_
    obtain ⟨M6, eM6, hf⟩ := glet hf
    refine pt_X7_X7_thrown hC hI dX7_rightShare_24 (fun H locs hI => ?_)
    replace hI := g_mem eM6 hI
    refine lv_aload_n hx hb dX7_rightShare_27 rfl (lv_at hl 1 rfl) ?_
    refine gt_X7_X7_thrown hC hI dX7_rightShare_28 ?_
    refine lv_if_ne (tgt := 47) hx hb dX7_rightShare_31 rfl (fun h7 => ?_) (fun h7 => ?_)
    · replace hf := gifn h7 hf
      refine lv_fconst0 hx hb dX7_rightShare_47 ?_
      exact kf _ _ _ _ _ _ (gfv hf) hI rfl dX7_rightShare_48
    · replace hf := gif h7 hf
      refine lv_aload_n hx hb dX7_rightShare_34 rfl (lv_at hl 1 rfl) ?_
      refine gt_X7_X7_g hC hI dX7_rightShare_35 ?_
      refine lv_iconst (v := 3) hx hb dX7_rightShare_38 (by decide) ?_
      refine g_iald hC hI (k := 3) gIA_151 (by decide) rfl dX7_rightShare_39 ?_
      refine lv_i2f hx hb dX7_rightShare_40 ?_
      refine lv_iload_n hx hb dX7_rightShare_41 rfl (lv_at hl 0 rfl) ?_
      refine lv_i2f hx hb dX7_rightShare_42 ?_
      obtain ⟨h8, hf⟩ := gifN hf
      refine lv_fdiv hx hb dX7_rightShare_43 (gn32_of h8) ?_
      refine lv_goto (tgt := 48) hx hb dX7_rightShare_44 rfl ?_
      exact kf _ _ _ _ _ _ (gfv hf) hI rfl dX7_rightShare_48
theorem dX7_isConsistent_0 : decode cX7_isConsistent 0 = .ok (.aload_n 0, 1) := by decide +kernel
theorem dX7_isConsistent_1 : decode cX7_isConsistent 1 = .ok (.iconst 0, 1) := by decide +kernel
theorem dX7_isConsistent_2 : decode cX7_isConsistent 2 = .ok (.putfield 42, 3) := by decide +kernel
theorem dX7_isConsistent_5 : decode cX7_isConsistent 5 = .ok (.iconst 1, 1) := by decide +kernel
theorem dX7_isConsistent_6 : decode cX7_isConsistent 6 = .ok (.ireturn, 1) := by decide +kernel
set_option maxRecDepth 100000 in
set_option maxHeartbeats 4000000 in
theorem C_X7_isConsistent (l : Launch) (E : gE) (x : gX) {M : gM} {r : Bool} {M' : gM} (hf : f_X7_isConsistent M = some (r, M')) : gM0 l E yX7_isConsistent (.code yX7_isConsistent cX7_isConsistent 1 (some .boolean)) (gR 0 0) M x [.ref (E.2.1 150)] (some (.int (gb r))) M' := by
  refine gMet (by decide +kernel) (Nat.le_of_ble_eq_true rfl) ?_
  intro p e s m args below meth c H locs ls Q hC hl hI kr kv
  replace hC : gC p s m args c cX7_isConsistent 1 RX7 E := hC
  replace hl : lv_has ls 1 [(0, .ref (E.2.1 150))] := hl
  have hx := hC.1
  have hb := hC.2.1
  unfold f_X7_isConsistent at hf
  refine lv_aload_n hx hb dX7_isConsistent_0 rfl (lv_at hl 0 rfl) ?_
  refine lv_iconst (v := 0) hx hb dX7_isConsistent_1 (by decide) ?_
  obtain ⟨M1, eM1, hf⟩ := glet hf
  refine pt_X7_X7_thrown hC hI dX7_isConsistent_2 (fun H locs hI => ?_)
  replace hI := g_mem eM1 hI
  refine lv_iconst (v := 1) hx hb dX7_isConsistent_5 (by decide) ?_
  exact kr _ _ _ _ _ _ (grwb1 hf) hI ⟨.boolean, rfl, rfl⟩ dX7_isConsistent_6
theorem dX7_writes_0 : decode cX7_writes 0 = .ok (.aload_n 0, 1) := by decide +kernel
theorem dX7_writes_1 : decode cX7_writes 1 = .ok (.getfield 36, 3) := by decide +kernel
theorem dX7_writes_4 : decode cX7_writes 4 = .ok (.aload_n 0, 1) := by decide +kernel
theorem dX7_writes_5 : decode cX7_writes 5 = .ok (.getfield 191, 3) := by decide +kernel
theorem dX7_writes_8 : decode cX7_writes 8 = .ok (.iload_n 1, 1) := by decide +kernel
theorem dX7_writes_9 : decode cX7_writes 9 = .ok (.i2c, 1) := by decide +kernel
theorem dX7_writes_10 : decode cX7_writes 10 = .ok (.castore, 1) := by decide +kernel
theorem dX7_writes_11 : decode cX7_writes 11 = .ok (.aload_n 0, 1) := by decide +kernel
theorem dX7_writes_12 : decode cX7_writes 12 = .ok (.dup, 1) := by decide +kernel
theorem dX7_writes_13 : decode cX7_writes 13 = .ok (.getfield 191, 3) := by decide +kernel
theorem dX7_writes_16 : decode cX7_writes 16 = .ok (.iconst 1, 1) := by decide +kernel
theorem dX7_writes_17 : decode cX7_writes 17 = .ok (.iadd, 1) := by decide +kernel
theorem dX7_writes_18 : decode cX7_writes 18 = .ok (.putfield 191, 3) := by decide +kernel
theorem dX7_writes_21 : decode cX7_writes 21 = .ok (.return_, 1) := by decide +kernel
set_option maxRecDepth 100000 in
set_option maxHeartbeats 4000000 in
theorem C_X7_writes (l : Launch) (E : gE) (x : gX) {v1 : Int32} {M : gM} {M' : gM} (hf : f_X7_writes v1 M = some M') : gM0 l E yX7_writes (.code yX7_writes cX7_writes 2 none) (gR 0 0) M x [.ref (E.2.1 150), .int v1] none M' := by
  refine gMet (by decide +kernel) (Nat.le_of_ble_eq_true rfl) ?_
  intro p e s m args below meth c H locs ls Q hC hl hI kr kv
  replace hC : gC p s m args c cX7_writes 2 RX7 E := hC
  replace hl : lv_has ls 2 [(0, .ref (E.2.1 150)), (1, .int v1)] := hl
  have hx := hC.1
  have hb := hC.2.1
  unfold f_X7_writes at hf
  refine lv_aload_n hx hb dX7_writes_0 rfl (lv_at hl 0 rfl) ?_
  refine gt_X7_X7_letters hC hI dX7_writes_1 ?_
  refine lv_aload_n hx hb dX7_writes_4 rfl (lv_at hl 0 rfl) ?_
  refine gt_X7_X7_lineLength hC hI dX7_writes_5 ?_
  refine lv_iload_n hx hb dX7_writes_8 rfl (lv_at hl 1 rfl) ?_
  refine lv_i2c hx hb dX7_writes_9 rfl ?_
  obtain ⟨h1, hf⟩ := gifN hf
  obtain ⟨M2, eM2, hf⟩ := glet hf
  refine g_cast hC hI (k := (M 150 12).toNatClampNeg) gCA_157 h1 rfl dX7_writes_10 (fun H locs hI => ?_)
  replace hI := g_mem eM2 hI
  refine lv_aload_n hx hb dX7_writes_11 rfl (lv_at hl 0 rfl) ?_
  refine lv_dup hx hb dX7_writes_12 rfl ?_
  refine gt_X7_X7_lineLength hC hI dX7_writes_13 ?_
  refine lv_iconst (v := 1) hx hb dX7_writes_16 (by decide) ?_
  refine lv_iadd hx hb dX7_writes_17 ?_
  obtain ⟨M3, eM3, hf⟩ := glet hf
  refine pt_X7_X7_lineLength hC hI dX7_writes_18 (fun H locs hI => ?_)
  replace hI := g_mem eM3 hI
  exact kv _ _ _ _ _ (grv hf) hI rfl dX7_writes_21
theorem dX7_writesNumber_0 : decode cX7_writesNumber 0 = .ok (.sipush 10000, 3) := by decide +kernel
theorem dX7_writesNumber_3 : decode cX7_writesNumber 3 = .ok (.istore_n 2, 1) := by decide +kernel
theorem dX7_writesNumber_4 : decode cX7_writesNumber 4 = .ok (.iload_n 2, 1) := by decide +kernel
theorem dX7_writesNumber_5 : decode cX7_writesNumber 5 = .ok (.iconst 1, 1) := by decide +kernel
theorem dX7_writesNumber_6 : decode cX7_writesNumber 6 = .ok (.if_icmp .le 16, 3) := by decide +kernel
theorem dX7_writesNumber_9 : decode cX7_writesNumber 9 = .ok (.iload_n 1, 1) := by decide +kernel
theorem dX7_writesNumber_10 : decode cX7_writesNumber 10 = .ok (.iload_n 2, 1) := by decide +kernel
theorem dX7_writesNumber_11 : decode cX7_writesNumber 11 = .ok (.if_icmp .ge 11, 3) := by decide +kernel
theorem dX7_writesNumber_14 : decode cX7_writesNumber 14 = .ok (.iload_n 2, 1) := by decide +kernel
theorem dX7_writesNumber_15 : decode cX7_writesNumber 15 = .ok (.bipush 10, 2) := by decide +kernel
theorem dX7_writesNumber_17 : decode cX7_writesNumber 17 = .ok (.idiv, 1) := by decide +kernel
theorem dX7_writesNumber_18 : decode cX7_writesNumber 18 = .ok (.istore_n 2, 1) := by decide +kernel
theorem dX7_writesNumber_19 : decode cX7_writesNumber 19 = .ok (.goto (-15), 3) := by decide +kernel
theorem dX7_writesNumber_22 : decode cX7_writesNumber 22 = .ok (.iload_n 2, 1) := by decide +kernel
theorem dX7_writesNumber_23 : decode cX7_writesNumber 23 = .ok (.ifCond .le 24, 3) := by decide +kernel
theorem dX7_writesNumber_26 : decode cX7_writesNumber 26 = .ok (.aload_n 0, 1) := by decide +kernel
theorem dX7_writesNumber_27 : decode cX7_writesNumber 27 = .ok (.bipush 48, 2) := by decide +kernel
theorem dX7_writesNumber_29 : decode cX7_writesNumber 29 = .ok (.iload_n 1, 1) := by decide +kernel
theorem dX7_writesNumber_30 : decode cX7_writesNumber 30 = .ok (.iload_n 2, 1) := by decide +kernel
theorem dX7_writesNumber_31 : decode cX7_writesNumber 31 = .ok (.idiv, 1) := by decide +kernel
theorem dX7_writesNumber_32 : decode cX7_writesNumber 32 = .ok (.bipush 10, 2) := by decide +kernel
theorem dX7_writesNumber_34 : decode cX7_writesNumber 34 = .ok (.irem, 1) := by decide +kernel
theorem dX7_writesNumber_35 : decode cX7_writesNumber 35 = .ok (.iadd, 1) := by decide +kernel
theorem dX7_writesNumber_36 : decode cX7_writesNumber 36 = .ok (.invokevirtual 194, 3) := by decide +kernel
theorem dX7_writesNumber_39 : decode cX7_writesNumber 39 = .ok (.iload_n 2, 1) := by decide +kernel
theorem dX7_writesNumber_40 : decode cX7_writesNumber 40 = .ok (.bipush 10, 2) := by decide +kernel
theorem dX7_writesNumber_42 : decode cX7_writesNumber 42 = .ok (.idiv, 1) := by decide +kernel
theorem dX7_writesNumber_43 : decode cX7_writesNumber 43 = .ok (.istore_n 2, 1) := by decide +kernel
theorem dX7_writesNumber_44 : decode cX7_writesNumber 44 = .ok (.goto (-22), 3) := by decide +kernel
theorem dX7_writesNumber_47 : decode cX7_writesNumber 47 = .ok (.return_, 1) := by decide +kernel
set_option maxRecDepth 100000 in
set_option maxHeartbeats 4000000 in
theorem C_X7_writesNumber (l : Launch) (E : gE) (x : gX) {v1 : Int32} {M : gM} {M' : gM} (hf : f_X7_writesNumber v1 M = some M') : gM0 l E yX7_writesNumber (.code yX7_writesNumber cX7_writesNumber 3 none) (gR 1 21) M x [.ref (E.2.1 150), .int v1] none M' := by
  refine gMet (by decide +kernel) (Nat.le_of_ble_eq_true rfl) ?_
  intro p e s m args below meth c H locs ls Q hC hl hI kr kv
  replace hC : gC p s m args c cX7_writesNumber 3 RX7 E := hC
  replace hl : lv_has ls 3 [(0, .ref (E.2.1 150)), (1, .int v1)] := hl
  have hx := hC.1
  have hb := hC.2.1
  have L22 : ∀ (v1 : Int32) (n : Nat) (v2 : Int32) (M : gM), f_X7_writesNumber_L22 v1 n v2 M = some M' → ∀ (H : Heap) (locs : List Loc) (ls : Array Slot), gI E s M x H locs → lv_has ls 3 [(2, .int v2), (0, .ref (E.2.1 150)), (1, .int v1)] → W p l e (gR 1 21) s m args below meth c H locs 0 0 Q (F0 m 22 ls []) := by
    intro v1 n
    induction n with
    | zero => intro v2 M hf; rw [f_X7_writesNumber_L22] at hf; cases hf
    | succ n ih =>
      intro v2 M hf H locs ls hI hl
      rw [f_X7_writesNumber_L22] at hf
      refine lv_iload_n hx hb dX7_writesNumber_22 rfl (lv_at hl 0 rfl) ?_
      refine lv_if_le (tgt := 47) hx hb dX7_writesNumber_23 rfl (fun h2 => ?_) (fun h2 => ?_)
      · replace hf := gif h2 hf
        exact kv _ _ _ _ _ (grv hf) hI rfl dX7_writesNumber_47
      · replace hf := gifn h2 hf
        refine lv_aload_n hx hb dX7_writesNumber_26 rfl (lv_at hl 1 rfl) ?_
        refine lv_bipush (v := 48) hx hb dX7_writesNumber_27 (by decide) ?_
        refine lv_iload_n hx hb dX7_writesNumber_29 rfl (lv_at hl 2 rfl) ?_
        refine lv_iload_n hx hb dX7_writesNumber_30 rfl (lv_at hl 0 rfl) ?_
        obtain ⟨h3, hf⟩ := gifNn hf
        refine lv_idiv hx hb dX7_writesNumber_31 h3 ?_
        refine lv_bipush (v := 10) hx hb dX7_writesNumber_32 (by decide) ?_
        refine lv_irem hx hb dX7_writesNumber_34 (by decide) ?_
        refine lv_iadd hx hb dX7_writesNumber_35 ?_
        obtain ⟨r4, hr5, hf⟩ := gbind hf
        have hr5 := C_X7_writes l E x  hr5
        refine g_callVv (rest := []) hC hI hr5 Y_X7_writes V_X7_writes w1747 (rcv_X7 hC hI) ⟨rfl, rfl⟩ ⟨Nat.le_of_ble_eq_true rfl, Nat.le_of_ble_eq_true rfl⟩ rfl hl.1 rfl (Nat.le_of_ble_eq_true rfl) dX7_writesNumber_36 ⟨Nat.le_of_ble_eq_true rfl, Nat.le_of_ble_eq_true rfl⟩ (fun H locs hI => ?_)
        refine lv_iload_n hx hb dX7_writesNumber_39 rfl (lv_at hl 0 rfl) ?_
        refine lv_bipush (v := 10) hx hb dX7_writesNumber_40 (by decide) ?_
        refine lv_idiv hx hb dX7_writesNumber_42 (by decide) ?_
        obtain ⟨z6, ez6, hf⟩ := glet hf
        refine g_top ez6 ?_
        refine lv_istore_n (lv' := [(2, .int z6), (0, .ref (E.2.1 150)), (1, .int v1)]) hx hb dX7_writesNumber_43 rfl hl (by decide) rfl (fun ls hl => ?_)
        refine lv_goto (tgt := 22) hx hb dX7_writesNumber_44 rfl ?_
        exact ih z6 r4 hf _ _ _ hI (lv_sub hl [0, 1, 2] rfl)
  have L4 : ∀ (v1 : Int32) (n : Nat) (v2 : Int32) (M : gM), f_X7_writesNumber_L4 v1 n v2 M = some M' → ∀ (H : Heap) (locs : List Loc) (ls : Array Slot), gI E s M x H locs → lv_has ls 3 [(2, .int v2), (0, .ref (E.2.1 150)), (1, .int v1)] → W p l e (gR 1 21) s m args below meth c H locs 0 0 Q (F0 m 4 ls []) := by
    intro v1 n
    induction n with
    | zero => intro v2 M hf; rw [f_X7_writesNumber_L4] at hf; cases hf
    | succ n ih =>
      intro v2 M hf H locs ls hI hl
      rw [f_X7_writesNumber_L4] at hf
      refine lv_iload_n hx hb dX7_writesNumber_4 rfl (lv_at hl 0 rfl) ?_
      refine lv_iconst (v := 1) hx hb dX7_writesNumber_5 (by decide) ?_
      refine lv_icmp_le (tgt := 22) hx hb dX7_writesNumber_6 rfl (fun h1 => ?_) (fun h1 => ?_)
      · replace hf := gif h1 hf
        exact L22 v1 gF v2 M hf _ _ _ hI (lv_sub hl [0, 1, 2] rfl)
      · replace hf := gifn h1 hf
        refine lv_iload_n hx hb dX7_writesNumber_9 rfl (lv_at hl 2 rfl) ?_
        refine lv_iload_n hx hb dX7_writesNumber_10 rfl (lv_at hl 0 rfl) ?_
        refine lv_icmp_ge (tgt := 22) hx hb dX7_writesNumber_11 rfl (fun h7 => ?_) (fun h7 => ?_)
        · replace hf := gif h7 hf
          exact L22 v1 gF v2 M hf _ _ _ hI (lv_sub hl [0, 1, 2] rfl)
        · replace hf := gifn h7 hf
          refine lv_iload_n hx hb dX7_writesNumber_14 rfl (lv_at hl 0 rfl) ?_
          refine lv_bipush (v := 10) hx hb dX7_writesNumber_15 (by decide) ?_
          refine lv_idiv hx hb dX7_writesNumber_17 (by decide) ?_
          obtain ⟨z8, ez8, hf⟩ := glet hf
          refine g_top ez8 ?_
          refine lv_istore_n (lv' := [(2, .int z8), (0, .ref (E.2.1 150)), (1, .int v1)]) hx hb dX7_writesNumber_18 rfl hl (by decide) rfl (fun ls hl => ?_)
          refine lv_goto (tgt := 4) hx hb dX7_writesNumber_19 rfl ?_
          exact ih z8 M hf _ _ _ hI (lv_sub hl [0, 1, 2] rfl)
  unfold f_X7_writesNumber at hf
  refine lv_sipush (v := 10000) hx hb dX7_writesNumber_0 (by decide) ?_
  refine lv_istore_n (lv' := [(2, .int 10000), (0, .ref (E.2.1 150)), (1, .int v1)]) hx hb dX7_writesNumber_3 rfl hl (by decide) rfl (fun ls hl => ?_)
  exact L4 v1 gF 10000 M hf _ _ _ hI (lv_sub hl [0, 1, 2] rfl)
theorem dX7_formatStack_0 : decode cX7_formatStack 0 = .ok (.aload_n 0, 1) := by decide +kernel
theorem dX7_formatStack_1 : decode cX7_formatStack 1 = .ok (.iload_n 1, 1) := by decide +kernel
theorem dX7_formatStack_2 : decode cX7_formatStack 2 = .ok (.iload_n 2, 1) := by decide +kernel
theorem dX7_formatStack_3 : decode cX7_formatStack 3 = .ok (.invokevirtual 158, 3) := by decide +kernel
theorem dX7_formatStack_6 : decode cX7_formatStack 6 = .ok (.istore_n 3, 1) := by decide +kernel
theorem dX7_formatStack_7 : decode cX7_formatStack 7 = .ok (.iload_n 3, 1) := by decide +kernel
theorem dX7_formatStack_8 : decode cX7_formatStack 8 = .ok (.ifCond .le 9, 3) := by decide +kernel
theorem dX7_formatStack_11 : decode cX7_formatStack 11 = .ok (.aload_n 0, 1) := by decide +kernel
theorem dX7_formatStack_12 : decode cX7_formatStack 12 = .ok (.iload_n 3, 1) := by decide +kernel
theorem dX7_formatStack_13 : decode cX7_formatStack 13 = .ok (.invokevirtual 67, 3) := by decide +kernel
theorem dX7_formatStack_16 : decode cX7_formatStack 16 = .ok (.ireturn, 1) := by decide +kernel
theorem dX7_formatStack_17 : decode cX7_formatStack 17 = .ok (.aload_n 0, 1) := by decide +kernel
theorem dX7_formatStack_18 : decode cX7_formatStack 18 = .ok (.iconst 0, 1) := by decide +kernel
theorem dX7_formatStack_19 : decode cX7_formatStack 19 = .ok (.putfield 191, 3) := by decide +kernel
theorem dX7_formatStack_22 : decode cX7_formatStack 22 = .ok (.iconst 0, 1) := by decide +kernel
theorem dX7_formatStack_23 : decode cX7_formatStack 23 = .ok (.istore 4, 2) := by decide +kernel
theorem dX7_formatStack_25 : decode cX7_formatStack 25 = .ok (.iload 4, 2) := by decide +kernel
theorem dX7_formatStack_27 : decode cX7_formatStack 27 = .ok (.aload_n 0, 1) := by decide +kernel
theorem dX7_formatStack_28 : decode cX7_formatStack 28 = .ok (.iload_n 1, 1) := by decide +kernel
theorem dX7_formatStack_29 : decode cX7_formatStack 29 = .ok (.iload_n 2, 1) := by decide +kernel
theorem dX7_formatStack_30 : decode cX7_formatStack 30 = .ok (.invokevirtual 63, 3) := by decide +kernel
theorem dX7_formatStack_33 : decode cX7_formatStack 33 = .ok (.if_icmp .ge 84, 3) := by decide +kernel
theorem dX7_formatStack_36 : decode cX7_formatStack 36 = .ok (.iload_n 1, 1) := by decide +kernel
theorem dX7_formatStack_37 : decode cX7_formatStack 37 = .ok (.iload_n 2, 1) := by decide +kernel
theorem dX7_formatStack_38 : decode cX7_formatStack 38 = .ok (.iload 4, 2) := by decide +kernel
theorem dX7_formatStack_40 : decode cX7_formatStack 40 = .ok (.invokestatic 92, 3) := by decide +kernel
theorem dX7_formatStack_43 : decode cX7_formatStack 43 = .ok (.istore 5, 2) := by decide +kernel
theorem dX7_formatStack_45 : decode cX7_formatStack 45 = .ok (.iload 4, 2) := by decide +kernel
theorem dX7_formatStack_47 : decode cX7_formatStack 47 = .ok (.ifCond .le 9, 3) := by decide +kernel
theorem dX7_formatStack_50 : decode cX7_formatStack 50 = .ok (.aload_n 0, 1) := by decide +kernel
theorem dX7_formatStack_51 : decode cX7_formatStack 51 = .ok (.bipush 32, 2) := by decide +kernel
theorem dX7_formatStack_53 : decode cX7_formatStack 53 = .ok (.invokevirtual 194, 3) := by decide +kernel
theorem dX7_formatStack_56 : decode cX7_formatStack 56 = .ok (.aload_n 0, 1) := by decide +kernel
theorem dX7_formatStack_57 : decode cX7_formatStack 57 = .ok (.aload_n 0, 1) := by decide +kernel
theorem dX7_formatStack_58 : decode cX7_formatStack 58 = .ok (.getfield 7, 3) := by decide +kernel
theorem dX7_formatStack_61 : decode cX7_formatStack 61 = .ok (.bipush 34, 2) := by decide +kernel
theorem dX7_formatStack_63 : decode cX7_formatStack 63 = .ok (.iload 5, 2) := by decide +kernel
theorem dX7_formatStack_65 : decode cX7_formatStack 65 = .ok (.iadd, 1) := by decide +kernel
theorem dX7_formatStack_66 : decode cX7_formatStack 66 = .ok (.iaload, 1) := by decide +kernel
theorem dX7_formatStack_67 : decode cX7_formatStack 67 = .ok (.invokevirtual 197, 3) := by decide +kernel
theorem dX7_formatStack_70 : decode cX7_formatStack 70 = .ok (.aload_n 0, 1) := by decide +kernel
theorem dX7_formatStack_71 : decode cX7_formatStack 71 = .ok (.bipush 58, 2) := by decide +kernel
theorem dX7_formatStack_73 : decode cX7_formatStack 73 = .ok (.invokevirtual 194, 3) := by decide +kernel
theorem dX7_formatStack_76 : decode cX7_formatStack 76 = .ok (.aload_n 0, 1) := by decide +kernel
theorem dX7_formatStack_77 : decode cX7_formatStack 77 = .ok (.aload_n 0, 1) := by decide +kernel
theorem dX7_formatStack_78 : decode cX7_formatStack 78 = .ok (.getfield 7, 3) := by decide +kernel
theorem dX7_formatStack_81 : decode cX7_formatStack 81 = .ok (.bipush 94, 2) := by decide +kernel
theorem dX7_formatStack_83 : decode cX7_formatStack 83 = .ok (.iload 5, 2) := by decide +kernel
theorem dX7_formatStack_85 : decode cX7_formatStack 85 = .ok (.iadd, 1) := by decide +kernel
theorem dX7_formatStack_86 : decode cX7_formatStack 86 = .ok (.iaload, 1) := by decide +kernel
theorem dX7_formatStack_87 : decode cX7_formatStack 87 = .ok (.invokevirtual 197, 3) := by decide +kernel
theorem dX7_formatStack_90 : decode cX7_formatStack 90 = .ok (.aload_n 0, 1) := by decide +kernel
theorem dX7_formatStack_91 : decode cX7_formatStack 91 = .ok (.bipush 47, 2) := by decide +kernel
theorem dX7_formatStack_93 : decode cX7_formatStack 93 = .ok (.invokevirtual 194, 3) := by decide +kernel
theorem dX7_formatStack_96 : decode cX7_formatStack 96 = .ok (.aload_n 0, 1) := by decide +kernel
theorem dX7_formatStack_97 : decode cX7_formatStack 97 = .ok (.aload_n 0, 1) := by decide +kernel
theorem dX7_formatStack_98 : decode cX7_formatStack 98 = .ok (.getfield 7, 3) := by decide +kernel
theorem dX7_formatStack_101 : decode cX7_formatStack 101 = .ok (.sipush 154, 3) := by decide +kernel
theorem dX7_formatStack_104 : decode cX7_formatStack 104 = .ok (.iload 5, 2) := by decide +kernel
theorem dX7_formatStack_106 : decode cX7_formatStack 106 = .ok (.iadd, 1) := by decide +kernel
theorem dX7_formatStack_107 : decode cX7_formatStack 107 = .ok (.iaload, 1) := by decide +kernel
theorem dX7_formatStack_108 : decode cX7_formatStack 108 = .ok (.invokevirtual 197, 3) := by decide +kernel
theorem dX7_formatStack_111 : decode cX7_formatStack 111 = .ok (.iinc 4 1, 3) := by decide +kernel
theorem dX7_formatStack_114 : decode cX7_formatStack 114 = .ok (.goto (-89), 3) := by decide +kernel
theorem dX7_formatStack_117 : decode cX7_formatStack 117 = .ok (.aload_n 0, 1) := by decide +kernel
theorem dX7_formatStack_118 : decode cX7_formatStack 118 = .ok (.aload_n 0, 1) := by decide +kernel
theorem dX7_formatStack_119 : decode cX7_formatStack 119 = .ok (.getfield 191, 3) := by decide +kernel
theorem dX7_formatStack_122 : decode cX7_formatStack 122 = .ok (.invokevirtual 75, 3) := by decide +kernel
theorem dX7_formatStack_125 : decode cX7_formatStack 125 = .ok (.ireturn, 1) := by decide +kernel
set_option maxRecDepth 100000 in
set_option maxHeartbeats 4000000 in
theorem C_X7_formatStack (l : Launch) (E : gE) (x : gX) {v1 v2 : Int32} {M : gM} {r : Int32} {M' : gM} (hf : f_X7_formatStack v1 v2 M = some (r, M')) : gM0 l E yX7_formatStack (.code yX7_formatStack cX7_formatStack 6 (some .int)) (gR 4 85) M x [.ref (E.2.1 150), .int v1, .int v2] (some (.int r)) M' := by
  refine gMet (by decide +kernel) (Nat.le_of_ble_eq_true rfl) ?_
  intro p e s m args below meth c H locs ls Q hC hl hI kr kv
  replace hC : gC p s m args c cX7_formatStack 6 RX7 E := hC
  replace hl : lv_has ls 6 [(0, .ref (E.2.1 150)), (1, .int v1), (2, .int v2)] := hl
  have hx := hC.1
  have hb := hC.2.1
  have L25 : ∀ (v3 : Int32) (v1 : Int32) (v2 : Int32) (n : Nat) (v4 : Int32) (M : gM), f_X7_formatStack_L25 v3 v1 v2 n v4 M = some (r, M') → ∀ (H : Heap) (locs : List Loc) (ls : Array Slot), gI E s M x H locs → lv_has ls 6 [(4, .int v4), (3, .int v3), (0, .ref (E.2.1 150)), (1, .int v1), (2, .int v2)] → W p l e (gR 4 85) s m args below meth c H locs 0 0 Q (F0 m 25 ls []) := by
    intro v3 v1 v2 n
    induction n with
    | zero => intro v4 M hf; rw [f_X7_formatStack_L25] at hf; cases hf
    | succ n ih =>
      intro v4 M hf H locs ls hI hl
      rw [f_X7_formatStack_L25] at hf
      refine lv_iload hx hb dX7_formatStack_25 (lv_at hl 0 rfl) ?_
      refine lv_aload_n hx hb dX7_formatStack_27 rfl (lv_at hl 2 rfl) ?_
      refine lv_iload_n hx hb dX7_formatStack_28 rfl (lv_at hl 3 rfl) ?_
      refine lv_iload_n hx hb dX7_formatStack_29 rfl (lv_at hl 4 rfl) ?_
      obtain ⟨r5, hr6, hf⟩ := gbind hf
      have hr6 := C_X7_height l E x  hr6
      refine g_callVi (rest := [.int v4]) hC hI hr6 Y_X7_height V_X7_height w1428 (rcv_X7 hC hI) ⟨rfl, rfl⟩ ⟨Nat.le_of_ble_eq_true rfl, Nat.le_of_ble_eq_true rfl⟩ rfl hl.1 rfl (Nat.le_of_ble_eq_true rfl) dX7_formatStack_30 ⟨Nat.le_of_ble_eq_true rfl, Nat.le_of_ble_eq_true rfl⟩ (fun H locs hI => ?_)
      refine lv_icmp_ge (tgt := 117) hx hb dX7_formatStack_33 rfl (fun h7 => ?_) (fun h7 => ?_)
      · replace hf := gif h7 hf
        refine lv_aload_n hx hb dX7_formatStack_117 rfl (lv_at hl 2 rfl) ?_
        refine lv_aload_n hx hb dX7_formatStack_118 rfl (lv_at hl 2 rfl) ?_
        refine gt_X7_X7_lineLength hC hI dX7_formatStack_119 ?_
        obtain ⟨r8, hr9, hf⟩ := gbind hf
        have hr9 := C_X7_done l E x  hr9
        refine g_callVi (rest := []) hC hI hr9 Y_X7_done V_X7_done w1409 (rcv_X7 hC hI) ⟨rfl, rfl⟩ ⟨Nat.le_of_ble_eq_true rfl, Nat.le_of_ble_eq_true rfl⟩ rfl hl.1 rfl (Nat.le_of_ble_eq_true rfl) dX7_formatStack_122 ⟨Nat.le_of_ble_eq_true rfl, Nat.le_of_ble_eq_true rfl⟩ (fun H locs hI => ?_)
        exact kr _ _ _ _ _ _ (grw hf) hI ⟨.int, rfl, rfl⟩ dX7_formatStack_125
      · replace hf := gifn h7 hf
        refine lv_iload_n hx hb dX7_formatStack_36 rfl (lv_at hl 3 rfl) ?_
        refine lv_iload_n hx hb dX7_formatStack_37 rfl (lv_at hl 4 rfl) ?_
        refine lv_iload hx hb dX7_formatStack_38 (lv_at hl 0 rfl) ?_
        obtain ⟨r10, hr11, hf⟩ := gbind hf
        have hr11 := C_X7_cell l E x  hr11
        refine g_callSi (rest := []) hC hI hr11 Y_X7_cell S_X7_cell w1432 ⟨rfl, rfl⟩ ⟨Nat.le_of_ble_eq_true rfl, Nat.le_of_ble_eq_true rfl⟩ rfl hl.1 rfl (Nat.le_of_ble_eq_true rfl) dX7_formatStack_40 ⟨Nat.le_of_ble_eq_true rfl, Nat.le_of_ble_eq_true rfl⟩ (fun H locs hI => ?_)
        refine lv_istore (lv' := [(5, .int r10), (4, .int v4), (3, .int v3), (0, .ref (E.2.1 150)), (1, .int v1), (2, .int v2)]) hx hb dX7_formatStack_43 hl (by decide) rfl (fun ls hl => ?_)
        refine lv_iload hx hb dX7_formatStack_45 (lv_at hl 1 rfl) ?_
        refine lv_if_le (tgt := 56) hx hb dX7_formatStack_47 rfl (fun h12 => ?_) (fun h12 => ?_)
        · replace hf := gif h12 hf
          refine lv_aload_n hx hb dX7_formatStack_56 rfl (lv_at hl 3 rfl) ?_
          refine lv_aload_n hx hb dX7_formatStack_57 rfl (lv_at hl 3 rfl) ?_
          refine gt_X7_X7_g hC hI dX7_formatStack_58 ?_
          refine lv_bipush (v := 34) hx hb dX7_formatStack_61 (by decide) ?_
          refine lv_iload hx hb dX7_formatStack_63 (lv_at hl 0 rfl) ?_
          refine lv_iadd hx hb dX7_formatStack_65 ?_
          obtain ⟨h13, hf⟩ := gifN hf
          refine g_iald hC hI (k := (34 + r10).toNatClampNeg) gIA_151 h13 rfl dX7_formatStack_66 ?_
          obtain ⟨r14, hr15, hf⟩ := gbind hf
          have hr15 := C_X7_writesNumber l E x  hr15
          refine g_callVv (rest := []) hC hI hr15 Y_X7_writesNumber V_X7_writesNumber w1751 (rcv_X7 hC hI) ⟨rfl, rfl⟩ ⟨Nat.le_of_ble_eq_true rfl, Nat.le_of_ble_eq_true rfl⟩ rfl hl.1 rfl (Nat.le_of_ble_eq_true rfl) dX7_formatStack_67 ⟨Nat.le_of_ble_eq_true rfl, Nat.le_of_ble_eq_true rfl⟩ (fun H locs hI => ?_)
          refine lv_aload_n hx hb dX7_formatStack_70 rfl (lv_at hl 3 rfl) ?_
          refine lv_bipush (v := 58) hx hb dX7_formatStack_71 (by decide) ?_
          obtain ⟨r16, hr17, hf⟩ := gbind hf
          have hr17 := C_X7_writes l E x  hr17
          refine g_callVv (rest := []) hC hI hr17 Y_X7_writes V_X7_writes w1747 (rcv_X7 hC hI) ⟨rfl, rfl⟩ ⟨Nat.le_of_ble_eq_true rfl, Nat.le_of_ble_eq_true rfl⟩ rfl hl.1 rfl (Nat.le_of_ble_eq_true rfl) dX7_formatStack_73 ⟨Nat.le_of_ble_eq_true rfl, Nat.le_of_ble_eq_true rfl⟩ (fun H locs hI => ?_)
          refine lv_aload_n hx hb dX7_formatStack_76 rfl (lv_at hl 3 rfl) ?_
          refine lv_aload_n hx hb dX7_formatStack_77 rfl (lv_at hl 3 rfl) ?_
          refine gt_X7_X7_g hC hI dX7_formatStack_78 ?_
          refine lv_bipush (v := 94) hx hb dX7_formatStack_81 (by decide) ?_
          refine lv_iload hx hb dX7_formatStack_83 (lv_at hl 0 rfl) ?_
          refine lv_iadd hx hb dX7_formatStack_85 ?_
          obtain ⟨h18, hf⟩ := gifN hf
          refine g_iald hC hI (k := (94 + r10).toNatClampNeg) gIA_151 h18 rfl dX7_formatStack_86 ?_
          obtain ⟨r19, hr20, hf⟩ := gbind hf
          have hr20 := C_X7_writesNumber l E x  hr20
          refine g_callVv (rest := []) hC hI hr20 Y_X7_writesNumber V_X7_writesNumber w1751 (rcv_X7 hC hI) ⟨rfl, rfl⟩ ⟨Nat.le_of_ble_eq_true rfl, Nat.le_of_ble_eq_true rfl⟩ rfl hl.1 rfl (Nat.le_of_ble_eq_true rfl) dX7_formatStack_87 ⟨Nat.le_of_ble_eq_true rfl, Nat.le_of_ble_eq_true rfl⟩ (fun H locs hI => ?_)
          refine lv_aload_n hx hb dX7_formatStack_90 rfl (lv_at hl 3 rfl) ?_
          refine lv_bipush (v := 47) hx hb dX7_formatStack_91 (by decide) ?_
          obtain ⟨r21, hr22, hf⟩ := gbind hf
          have hr22 := C_X7_writes l E x  hr22
          refine g_callVv (rest := []) hC hI hr22 Y_X7_writes V_X7_writes w1747 (rcv_X7 hC hI) ⟨rfl, rfl⟩ ⟨Nat.le_of_ble_eq_true rfl, Nat.le_of_ble_eq_true rfl⟩ rfl hl.1 rfl (Nat.le_of_ble_eq_true rfl) dX7_formatStack_93 ⟨Nat.le_of_ble_eq_true rfl, Nat.le_of_ble_eq_true rfl⟩ (fun H locs hI => ?_)
          refine lv_aload_n hx hb dX7_formatStack_96 rfl (lv_at hl 3 rfl) ?_
          refine lv_aload_n hx hb dX7_formatStack_97 rfl (lv_at hl 3 rfl) ?_
          refine gt_X7_X7_g hC hI dX7_formatStack_98 ?_
          refine lv_sipush (v := 154) hx hb dX7_formatStack_101 (by decide) ?_
          refine lv_iload hx hb dX7_formatStack_104 (lv_at hl 0 rfl) ?_
          refine lv_iadd hx hb dX7_formatStack_106 ?_
          obtain ⟨h23, hf⟩ := gifN hf
          refine g_iald hC hI (k := (154 + r10).toNatClampNeg) gIA_151 h23 rfl dX7_formatStack_107 ?_
          obtain ⟨r24, hr25, hf⟩ := gbind hf
          have hr25 := C_X7_writesNumber l E x  hr25
          refine g_callVv (rest := []) hC hI hr25 Y_X7_writesNumber V_X7_writesNumber w1751 (rcv_X7 hC hI) ⟨rfl, rfl⟩ ⟨Nat.le_of_ble_eq_true rfl, Nat.le_of_ble_eq_true rfl⟩ rfl hl.1 rfl (Nat.le_of_ble_eq_true rfl) dX7_formatStack_108 ⟨Nat.le_of_ble_eq_true rfl, Nat.le_of_ble_eq_true rfl⟩ (fun H locs hI => ?_)
          refine lv_iinc (k := 1) (v := v4 + 1) (lv' := [(4, .int (v4 + 1)), (5, .int r10), (3, .int v3), (0, .ref (E.2.1 150)), (1, .int v1), (2, .int v2)]) hx hb dX7_formatStack_111 hl rfl rfl (by decide) rfl (fun ls hl => ?_)
          refine lv_goto (tgt := 25) hx hb dX7_formatStack_114 rfl ?_
          exact ih (v4 + 1) r24 hf _ _ _ hI (lv_sub hl [0, 2, 3, 4, 5] rfl)
        · replace hf := gifn h12 hf
          refine lv_aload_n hx hb dX7_formatStack_50 rfl (lv_at hl 3 rfl) ?_
          refine lv_bipush (v := 32) hx hb dX7_formatStack_51 (by decide) ?_
          obtain ⟨r26, hr27, hf⟩ := gbind hf
          have hr27 := C_X7_writes l E x  hr27
          refine g_callVv (rest := []) hC hI hr27 Y_X7_writes V_X7_writes w1747 (rcv_X7 hC hI) ⟨rfl, rfl⟩ ⟨Nat.le_of_ble_eq_true rfl, Nat.le_of_ble_eq_true rfl⟩ rfl hl.1 rfl (Nat.le_of_ble_eq_true rfl) dX7_formatStack_53 ⟨Nat.le_of_ble_eq_true rfl, Nat.le_of_ble_eq_true rfl⟩ (fun H locs hI => ?_)
          refine lv_aload_n hx hb dX7_formatStack_56 rfl (lv_at hl 3 rfl) ?_
          refine lv_aload_n hx hb dX7_formatStack_57 rfl (lv_at hl 3 rfl) ?_
          refine gt_X7_X7_g hC hI dX7_formatStack_58 ?_
          refine lv_bipush (v := 34) hx hb dX7_formatStack_61 (by decide) ?_
          refine lv_iload hx hb dX7_formatStack_63 (lv_at hl 0 rfl) ?_
          refine lv_iadd hx hb dX7_formatStack_65 ?_
          obtain ⟨h28, hf⟩ := gifN hf
          refine g_iald hC hI (k := (34 + r10).toNatClampNeg) gIA_151 h28 rfl dX7_formatStack_66 ?_
          obtain ⟨r29, hr30, hf⟩ := gbind hf
          have hr30 := C_X7_writesNumber l E x  hr30
          refine g_callVv (rest := []) hC hI hr30 Y_X7_writesNumber V_X7_writesNumber w1751 (rcv_X7 hC hI) ⟨rfl, rfl⟩ ⟨Nat.le_of_ble_eq_true rfl, Nat.le_of_ble_eq_true rfl⟩ rfl hl.1 rfl (Nat.le_of_ble_eq_true rfl) dX7_formatStack_67 ⟨Nat.le_of_ble_eq_true rfl, Nat.le_of_ble_eq_true rfl⟩ (fun H locs hI => ?_)
          refine lv_aload_n hx hb dX7_formatStack_70 rfl (lv_at hl 3 rfl) ?_
          refine lv_bipush (v := 58) hx hb dX7_formatStack_71 (by decide) ?_
          obtain ⟨r31, hr32, hf⟩ := gbind hf
          have hr32 := C_X7_writes l E x  hr32
          refine g_callVv (rest := []) hC hI hr32 Y_X7_writes V_X7_writes w1747 (rcv_X7 hC hI) ⟨rfl, rfl⟩ ⟨Nat.le_of_ble_eq_true rfl, Nat.le_of_ble_eq_true rfl⟩ rfl hl.1 rfl (Nat.le_of_ble_eq_true rfl) dX7_formatStack_73 ⟨Nat.le_of_ble_eq_true rfl, Nat.le_of_ble_eq_true rfl⟩ (fun H locs hI => ?_)
          refine lv_aload_n hx hb dX7_formatStack_76 rfl (lv_at hl 3 rfl) ?_
          refine lv_aload_n hx hb dX7_formatStack_77 rfl (lv_at hl 3 rfl) ?_
          refine gt_X7_X7_g hC hI dX7_formatStack_78 ?_
          refine lv_bipush (v := 94) hx hb dX7_formatStack_81 (by decide) ?_
          refine lv_iload hx hb dX7_formatStack_83 (lv_at hl 0 rfl) ?_
          refine lv_iadd hx hb dX7_formatStack_85 ?_
          obtain ⟨h33, hf⟩ := gifN hf
          refine g_iald hC hI (k := (94 + r10).toNatClampNeg) gIA_151 h33 rfl dX7_formatStack_86 ?_
          obtain ⟨r34, hr35, hf⟩ := gbind hf
          have hr35 := C_X7_writesNumber l E x  hr35
          refine g_callVv (rest := []) hC hI hr35 Y_X7_writesNumber V_X7_writesNumber w1751 (rcv_X7 hC hI) ⟨rfl, rfl⟩ ⟨Nat.le_of_ble_eq_true rfl, Nat.le_of_ble_eq_true rfl⟩ rfl hl.1 rfl (Nat.le_of_ble_eq_true rfl) dX7_formatStack_87 ⟨Nat.le_of_ble_eq_true rfl, Nat.le_of_ble_eq_true rfl⟩ (fun H locs hI => ?_)
          refine lv_aload_n hx hb dX7_formatStack_90 rfl (lv_at hl 3 rfl) ?_
          refine lv_bipush (v := 47) hx hb dX7_formatStack_91 (by decide) ?_
          obtain ⟨r36, hr37, hf⟩ := gbind hf
          have hr37 := C_X7_writes l E x  hr37
          refine g_callVv (rest := []) hC hI hr37 Y_X7_writes V_X7_writes w1747 (rcv_X7 hC hI) ⟨rfl, rfl⟩ ⟨Nat.le_of_ble_eq_true rfl, Nat.le_of_ble_eq_true rfl⟩ rfl hl.1 rfl (Nat.le_of_ble_eq_true rfl) dX7_formatStack_93 ⟨Nat.le_of_ble_eq_true rfl, Nat.le_of_ble_eq_true rfl⟩ (fun H locs hI => ?_)
          refine lv_aload_n hx hb dX7_formatStack_96 rfl (lv_at hl 3 rfl) ?_
          refine lv_aload_n hx hb dX7_formatStack_97 rfl (lv_at hl 3 rfl) ?_
          refine gt_X7_X7_g hC hI dX7_formatStack_98 ?_
          refine lv_sipush (v := 154) hx hb dX7_formatStack_101 (by decide) ?_
          refine lv_iload hx hb dX7_formatStack_104 (lv_at hl 0 rfl) ?_
          refine lv_iadd hx hb dX7_formatStack_106 ?_
          obtain ⟨h38, hf⟩ := gifN hf
          refine g_iald hC hI (k := (154 + r10).toNatClampNeg) gIA_151 h38 rfl dX7_formatStack_107 ?_
          obtain ⟨r39, hr40, hf⟩ := gbind hf
          have hr40 := C_X7_writesNumber l E x  hr40
          refine g_callVv (rest := []) hC hI hr40 Y_X7_writesNumber V_X7_writesNumber w1751 (rcv_X7 hC hI) ⟨rfl, rfl⟩ ⟨Nat.le_of_ble_eq_true rfl, Nat.le_of_ble_eq_true rfl⟩ rfl hl.1 rfl (Nat.le_of_ble_eq_true rfl) dX7_formatStack_108 ⟨Nat.le_of_ble_eq_true rfl, Nat.le_of_ble_eq_true rfl⟩ (fun H locs hI => ?_)
          refine lv_iinc (k := 1) (v := v4 + 1) (lv' := [(4, .int (v4 + 1)), (5, .int r10), (3, .int v3), (0, .ref (E.2.1 150)), (1, .int v1), (2, .int v2)]) hx hb dX7_formatStack_111 hl rfl rfl (by decide) rfl (fun ls hl => ?_)
          refine lv_goto (tgt := 25) hx hb dX7_formatStack_114 rfl ?_
          exact ih (v4 + 1) r39 hf _ _ _ hI (lv_sub hl [0, 2, 3, 4, 5] rfl)
  unfold f_X7_formatStack at hf
  refine lv_aload_n hx hb dX7_formatStack_0 rfl (lv_at hl 0 rfl) ?_
  refine lv_iload_n hx hb dX7_formatStack_1 rfl (lv_at hl 1 rfl) ?_
  refine lv_iload_n hx hb dX7_formatStack_2 rfl (lv_at hl 2 rfl) ?_
  obtain ⟨r1, hr2, hf⟩ := gbind hf
  have hr2 := C_X7_whyNoStack l E x  hr2
  refine g_callVi (rest := []) hC hI hr2 Y_X7_whyNoStack V_X7_whyNoStack w1582 (rcv_X7 hC hI) ⟨rfl, rfl⟩ ⟨Nat.le_of_ble_eq_true rfl, Nat.le_of_ble_eq_true rfl⟩ rfl hl.1 rfl (Nat.le_of_ble_eq_true rfl) dX7_formatStack_3 ⟨Nat.le_of_ble_eq_true rfl, Nat.le_of_ble_eq_true rfl⟩ (fun H locs hI => ?_)
  refine lv_istore_n (lv' := [(3, .int r1), (0, .ref (E.2.1 150)), (1, .int v1), (2, .int v2)]) hx hb dX7_formatStack_6 rfl hl (by decide) rfl (fun ls hl => ?_)
  refine lv_iload_n hx hb dX7_formatStack_7 rfl (lv_at hl 0 rfl) ?_
  refine lv_if_le (tgt := 17) hx hb dX7_formatStack_8 rfl (fun h3 => ?_) (fun h3 => ?_)
  · replace hf := gif h3 hf
    refine lv_aload_n hx hb dX7_formatStack_17 rfl (lv_at hl 1 rfl) ?_
    refine lv_iconst (v := 0) hx hb dX7_formatStack_18 (by decide) ?_
    obtain ⟨M4, eM4, hf⟩ := glet hf
    refine pt_X7_X7_lineLength hC hI dX7_formatStack_19 (fun H locs hI => ?_)
    replace hI := g_mem eM4 hI
    refine lv_iconst (v := 0) hx hb dX7_formatStack_22 (by decide) ?_
    refine lv_istore (lv' := [(4, .int 0), (3, .int r1), (0, .ref (E.2.1 150)), (1, .int v1), (2, .int v2)]) hx hb dX7_formatStack_23 hl (by decide) rfl (fun ls hl => ?_)
    exact L25 r1 v1 v2 gF 0 M4 hf _ _ _ hI (lv_sub hl [0, 1, 2, 3, 4] rfl)
  · replace hf := gifn h3 hf
    refine lv_aload_n hx hb dX7_formatStack_11 rfl (lv_at hl 1 rfl) ?_
    refine lv_iload_n hx hb dX7_formatStack_12 rfl (lv_at hl 0 rfl) ?_
    obtain ⟨r41, hr42, hf⟩ := gbind hf
    have hr42 := C_X7_fails l E x  hr42
    refine g_callVi (rest := []) hC hI hr42 Y_X7_fails V_X7_fails w1401 (rcv_X7 hC hI) ⟨rfl, rfl⟩ ⟨Nat.le_of_ble_eq_true rfl, Nat.le_of_ble_eq_true rfl⟩ rfl hl.1 rfl (Nat.le_of_ble_eq_true rfl) dX7_formatStack_13 ⟨Nat.le_of_ble_eq_true rfl, Nat.le_of_ble_eq_true rfl⟩ (fun H locs hI => ?_)
    exact kr _ _ _ _ _ _ (grw hf) hI ⟨.int, rfl, rfl⟩ dX7_formatStack_16
theorem dX7_writesBehind_0 : decode cX7_writesBehind 0 = .ok (.aload_n 0, 1) := by decide +kernel
theorem dX7_writesBehind_1 : decode cX7_writesBehind 1 = .ok (.bipush 32, 2) := by decide +kernel
theorem dX7_writesBehind_3 : decode cX7_writesBehind 3 = .ok (.invokevirtual 194, 3) := by decide +kernel
theorem dX7_writesBehind_6 : decode cX7_writesBehind 6 = .ok (.iload_n 1, 1) := by decide +kernel
theorem dX7_writesBehind_7 : decode cX7_writesBehind 7 = .ok (.ifCond .le 8, 3) := by decide +kernel
theorem dX7_writesBehind_10 : decode cX7_writesBehind 10 = .ok (.aload_n 0, 1) := by decide +kernel
theorem dX7_writesBehind_11 : decode cX7_writesBehind 11 = .ok (.iload_n 1, 1) := by decide +kernel
theorem dX7_writesBehind_12 : decode cX7_writesBehind 12 = .ok (.invokevirtual 194, 3) := by decide +kernel
theorem dX7_writesBehind_15 : decode cX7_writesBehind 15 = .ok (.aload_n 0, 1) := by decide +kernel
theorem dX7_writesBehind_16 : decode cX7_writesBehind 16 = .ok (.iload_n 2, 1) := by decide +kernel
theorem dX7_writesBehind_17 : decode cX7_writesBehind 17 = .ok (.invokevirtual 197, 3) := by decide +kernel
theorem dX7_writesBehind_20 : decode cX7_writesBehind 20 = .ok (.return_, 1) := by decide +kernel
set_option maxRecDepth 100000 in
set_option maxHeartbeats 4000000 in
theorem C_X7_writesBehind (l : Launch) (E : gE) (x : gX) {v1 v2 : Int32} {M : gM} {M' : gM} (hf : f_X7_writesBehind v1 v2 M = some M') : gM0 l E yX7_writesBehind (.code yX7_writesBehind cX7_writesBehind 3 none) (gR 2 43) M x [.ref (E.2.1 150), .int v1, .int v2] none M' := by
  refine gMet (by decide +kernel) (Nat.le_of_ble_eq_true rfl) ?_
  intro p e s m args below meth c H locs ls Q hC hl hI kr kv
  replace hC : gC p s m args c cX7_writesBehind 3 RX7 E := hC
  replace hl : lv_has ls 3 [(0, .ref (E.2.1 150)), (1, .int v1), (2, .int v2)] := hl
  have hx := hC.1
  have hb := hC.2.1
  unfold f_X7_writesBehind at hf
  refine lv_aload_n hx hb dX7_writesBehind_0 rfl (lv_at hl 0 rfl) ?_
  refine lv_bipush (v := 32) hx hb dX7_writesBehind_1 (by decide) ?_
  obtain ⟨r1, hr2, hf⟩ := gbind hf
  have hr2 := C_X7_writes l E x  hr2
  refine g_callVv (rest := []) hC hI hr2 Y_X7_writes V_X7_writes w1747 (rcv_X7 hC hI) ⟨rfl, rfl⟩ ⟨Nat.le_of_ble_eq_true rfl, Nat.le_of_ble_eq_true rfl⟩ rfl hl.1 rfl (Nat.le_of_ble_eq_true rfl) dX7_writesBehind_3 ⟨Nat.le_of_ble_eq_true rfl, Nat.le_of_ble_eq_true rfl⟩ (fun H locs hI => ?_)
  refine lv_iload_n hx hb dX7_writesBehind_6 rfl (lv_at hl 1 rfl) ?_
  refine lv_if_le (tgt := 15) hx hb dX7_writesBehind_7 rfl (fun h3 => ?_) (fun h3 => ?_)
  · replace hf := gif h3 hf
    refine lv_aload_n hx hb dX7_writesBehind_15 rfl (lv_at hl 0 rfl) ?_
    refine lv_iload_n hx hb dX7_writesBehind_16 rfl (lv_at hl 2 rfl) ?_
    obtain ⟨r4, hr5, hf⟩ := gbind hf
    have hr5 := C_X7_writesNumber l E x  hr5
    refine g_callVv (rest := []) hC hI hr5 Y_X7_writesNumber V_X7_writesNumber w1751 (rcv_X7 hC hI) ⟨rfl, rfl⟩ ⟨Nat.le_of_ble_eq_true rfl, Nat.le_of_ble_eq_true rfl⟩ rfl hl.1 rfl (Nat.le_of_ble_eq_true rfl) dX7_writesBehind_17 ⟨Nat.le_of_ble_eq_true rfl, Nat.le_of_ble_eq_true rfl⟩ (fun H locs hI => ?_)
    exact kv _ _ _ _ _ (grv hf) hI rfl dX7_writesBehind_20
  · replace hf := gifn h3 hf
    refine lv_aload_n hx hb dX7_writesBehind_10 rfl (lv_at hl 0 rfl) ?_
    refine lv_iload_n hx hb dX7_writesBehind_11 rfl (lv_at hl 1 rfl) ?_
    obtain ⟨r6, hr7, hf⟩ := gbind hf
    have hr7 := C_X7_writes l E x  hr7
    refine g_callVv (rest := []) hC hI hr7 Y_X7_writes V_X7_writes w1747 (rcv_X7 hC hI) ⟨rfl, rfl⟩ ⟨Nat.le_of_ble_eq_true rfl, Nat.le_of_ble_eq_true rfl⟩ rfl hl.1 rfl (Nat.le_of_ble_eq_true rfl) dX7_writesBehind_12 ⟨Nat.le_of_ble_eq_true rfl, Nat.le_of_ble_eq_true rfl⟩ (fun H locs hI => ?_)
    refine lv_aload_n hx hb dX7_writesBehind_15 rfl (lv_at hl 0 rfl) ?_
    refine lv_iload_n hx hb dX7_writesBehind_16 rfl (lv_at hl 2 rfl) ?_
    obtain ⟨r8, hr9, hf⟩ := gbind hf
    have hr9 := C_X7_writesNumber l E x  hr9
    refine g_callVv (rest := []) hC hI hr9 Y_X7_writesNumber V_X7_writesNumber w1751 (rcv_X7 hC hI) ⟨rfl, rfl⟩ ⟨Nat.le_of_ble_eq_true rfl, Nat.le_of_ble_eq_true rfl⟩ rfl hl.1 rfl (Nat.le_of_ble_eq_true rfl) dX7_writesBehind_17 ⟨Nat.le_of_ble_eq_true rfl, Nat.le_of_ble_eq_true rfl⟩ (fun H locs hI => ?_)
    exact kv _ _ _ _ _ (grv hf) hI rfl dX7_writesBehind_20
theorem dX7_formatBerth_0 : decode cX7_formatBerth 0 = .ok (.iload_n 1, 1) := by decide +kernel
theorem dX7_formatBerth_1 : decode cX7_formatBerth 1 = .ok (.invokestatic 56, 3) := by decide +kernel
theorem dX7_formatBerth_4 : decode cX7_formatBerth 4 = .ok (.ifCond .ne 9, 3) := by decide +kernel
theorem dX7_formatBerth_7 : decode cX7_formatBerth 7 = .ok (.aload_n 0, 1) := by decide +kernel
theorem dX7_formatBerth_8 : decode cX7_formatBerth 8 = .ok (.iconst 1, 1) := by decide +kernel
theorem dX7_formatBerth_9 : decode cX7_formatBerth 9 = .ok (.invokevirtual 67, 3) := by decide +kernel
theorem dX7_formatBerth_12 : decode cX7_formatBerth 12 = .ok (.ireturn, 1) := by decide +kernel
theorem dX7_formatBerth_13 : decode cX7_formatBerth 13 = .ok (.aload_n 0, 1) := by decide +kernel
theorem dX7_formatBerth_14 : decode cX7_formatBerth 14 = .ok (.iconst 0, 1) := by decide +kernel
theorem dX7_formatBerth_15 : decode cX7_formatBerth 15 = .ok (.putfield 191, 3) := by decide +kernel
theorem dX7_formatBerth_18 : decode cX7_formatBerth 18 = .ok (.aload_n 0, 1) := by decide +kernel
theorem dX7_formatBerth_19 : decode cX7_formatBerth 19 = .ok (.bipush 66, 2) := by decide +kernel
theorem dX7_formatBerth_21 : decode cX7_formatBerth 21 = .ok (.invokevirtual 194, 3) := by decide +kernel
theorem dX7_formatBerth_24 : decode cX7_formatBerth 24 = .ok (.aload_n 0, 1) := by decide +kernel
theorem dX7_formatBerth_25 : decode cX7_formatBerth 25 = .ok (.iload_n 1, 1) := by decide +kernel
theorem dX7_formatBerth_26 : decode cX7_formatBerth 26 = .ok (.invokevirtual 197, 3) := by decide +kernel
theorem dX7_formatBerth_29 : decode cX7_formatBerth 29 = .ok (.aload_n 0, 1) := by decide +kernel
theorem dX7_formatBerth_30 : decode cX7_formatBerth 30 = .ok (.getfield 7, 3) := by decide +kernel
theorem dX7_formatBerth_33 : decode cX7_formatBerth 33 = .ok (.bipush 7, 2) := by decide +kernel
theorem dX7_formatBerth_35 : decode cX7_formatBerth 35 = .ok (.iload_n 1, 1) := by decide +kernel
theorem dX7_formatBerth_36 : decode cX7_formatBerth 36 = .ok (.iadd, 1) := by decide +kernel
theorem dX7_formatBerth_37 : decode cX7_formatBerth 37 = .ok (.iaload, 1) := by decide +kernel
theorem dX7_formatBerth_38 : decode cX7_formatBerth 38 = .ok (.ifCond .ne 24, 3) := by decide +kernel
theorem dX7_formatBerth_41 : decode cX7_formatBerth 41 = .ok (.aload_n 0, 1) := by decide +kernel
theorem dX7_formatBerth_42 : decode cX7_formatBerth 42 = .ok (.bipush 32, 2) := by decide +kernel
theorem dX7_formatBerth_44 : decode cX7_formatBerth 44 = .ok (.invokevirtual 194, 3) := by decide +kernel
theorem dX7_formatBerth_47 : decode cX7_formatBerth 47 = .ok (.aload_n 0, 1) := by decide +kernel
theorem dX7_formatBerth_48 : decode cX7_formatBerth 48 = .ok (.bipush 45, 2) := by decide +kernel
theorem dX7_formatBerth_50 : decode cX7_formatBerth 50 = .ok (.invokevirtual 194, 3) := by decide +kernel
theorem dX7_formatBerth_53 : decode cX7_formatBerth 53 = .ok (.aload_n 0, 1) := by decide +kernel
theorem dX7_formatBerth_54 : decode cX7_formatBerth 54 = .ok (.aload_n 0, 1) := by decide +kernel
theorem dX7_formatBerth_55 : decode cX7_formatBerth 55 = .ok (.getfield 191, 3) := by decide +kernel
theorem dX7_formatBerth_58 : decode cX7_formatBerth 58 = .ok (.invokevirtual 75, 3) := by decide +kernel
theorem dX7_formatBerth_61 : decode cX7_formatBerth 61 = .ok (.ireturn, 1) := by decide +kernel
theorem dX7_formatBerth_62 : decode cX7_formatBerth 62 = .ok (.aload_n 0, 1) := by decide +kernel
theorem dX7_formatBerth_63 : decode cX7_formatBerth 63 = .ok (.bipush 100, 2) := by decide +kernel
theorem dX7_formatBerth_65 : decode cX7_formatBerth 65 = .ok (.aload_n 0, 1) := by decide +kernel
theorem dX7_formatBerth_66 : decode cX7_formatBerth 66 = .ok (.getfield 7, 3) := by decide +kernel
theorem dX7_formatBerth_69 : decode cX7_formatBerth 69 = .ok (.bipush 10, 2) := by decide +kernel
theorem dX7_formatBerth_71 : decode cX7_formatBerth 71 = .ok (.iload_n 1, 1) := by decide +kernel
theorem dX7_formatBerth_72 : decode cX7_formatBerth 72 = .ok (.iadd, 1) := by decide +kernel
theorem dX7_formatBerth_73 : decode cX7_formatBerth 73 = .ok (.iaload, 1) := by decide +kernel
theorem dX7_formatBerth_74 : decode cX7_formatBerth 74 = .ok (.invokevirtual 200, 3) := by decide +kernel
theorem dX7_formatBerth_77 : decode cX7_formatBerth 77 = .ok (.aload_n 0, 1) := by decide +kernel
theorem dX7_formatBerth_78 : decode cX7_formatBerth 78 = .ok (.bipush 104, 2) := by decide +kernel
theorem dX7_formatBerth_80 : decode cX7_formatBerth 80 = .ok (.aload_n 0, 1) := by decide +kernel
theorem dX7_formatBerth_81 : decode cX7_formatBerth 81 = .ok (.getfield 7, 3) := by decide +kernel
theorem dX7_formatBerth_84 : decode cX7_formatBerth 84 = .ok (.bipush 13, 2) := by decide +kernel
theorem dX7_formatBerth_86 : decode cX7_formatBerth 86 = .ok (.iload_n 1, 1) := by decide +kernel
theorem dX7_formatBerth_87 : decode cX7_formatBerth 87 = .ok (.iadd, 1) := by decide +kernel
theorem dX7_formatBerth_88 : decode cX7_formatBerth 88 = .ok (.iaload, 1) := by decide +kernel
theorem dX7_formatBerth_89 : decode cX7_formatBerth 89 = .ok (.invokevirtual 200, 3) := by decide +kernel
theorem dX7_formatBerth_92 : decode cX7_formatBerth 92 = .ok (.aload_n 0, 1) := by decide +kernel
theorem dX7_formatBerth_93 : decode cX7_formatBerth 93 = .ok (.iconst 0, 1) := by decide +kernel
theorem dX7_formatBerth_94 : decode cX7_formatBerth 94 = .ok (.aload_n 0, 1) := by decide +kernel
theorem dX7_formatBerth_95 : decode cX7_formatBerth 95 = .ok (.iload_n 1, 1) := by decide +kernel
theorem dX7_formatBerth_96 : decode cX7_formatBerth 96 = .ok (.invokevirtual 125, 3) := by decide +kernel
theorem dX7_formatBerth_99 : decode cX7_formatBerth 99 = .ok (.invokevirtual 200, 3) := by decide +kernel
theorem dX7_formatBerth_102 : decode cX7_formatBerth 102 = .ok (.aload_n 0, 1) := by decide +kernel
theorem dX7_formatBerth_103 : decode cX7_formatBerth 103 = .ok (.getfield 7, 3) := by decide +kernel
theorem dX7_formatBerth_106 : decode cX7_formatBerth 106 = .ok (.bipush 16, 2) := by decide +kernel
theorem dX7_formatBerth_108 : decode cX7_formatBerth 108 = .ok (.iload_n 1, 1) := by decide +kernel
theorem dX7_formatBerth_109 : decode cX7_formatBerth 109 = .ok (.iadd, 1) := by decide +kernel
theorem dX7_formatBerth_110 : decode cX7_formatBerth 110 = .ok (.iaload, 1) := by decide +kernel
theorem dX7_formatBerth_111 : decode cX7_formatBerth 111 = .ok (.ifCond .le 18, 3) := by decide +kernel
theorem dX7_formatBerth_114 : decode cX7_formatBerth 114 = .ok (.aload_n 0, 1) := by decide +kernel
theorem dX7_formatBerth_115 : decode cX7_formatBerth 115 = .ok (.bipush 120, 2) := by decide +kernel
theorem dX7_formatBerth_117 : decode cX7_formatBerth 117 = .ok (.aload_n 0, 1) := by decide +kernel
theorem dX7_formatBerth_118 : decode cX7_formatBerth 118 = .ok (.getfield 7, 3) := by decide +kernel
theorem dX7_formatBerth_121 : decode cX7_formatBerth 121 = .ok (.bipush 16, 2) := by decide +kernel
theorem dX7_formatBerth_123 : decode cX7_formatBerth 123 = .ok (.iload_n 1, 1) := by decide +kernel
theorem dX7_formatBerth_124 : decode cX7_formatBerth 124 = .ok (.iadd, 1) := by decide +kernel
theorem dX7_formatBerth_125 : decode cX7_formatBerth 125 = .ok (.iaload, 1) := by decide +kernel
theorem dX7_formatBerth_126 : decode cX7_formatBerth 126 = .ok (.invokevirtual 200, 3) := by decide +kernel
theorem dX7_formatBerth_129 : decode cX7_formatBerth 129 = .ok (.aload_n 0, 1) := by decide +kernel
theorem dX7_formatBerth_130 : decode cX7_formatBerth 130 = .ok (.getfield 7, 3) := by decide +kernel
theorem dX7_formatBerth_133 : decode cX7_formatBerth 133 = .ok (.bipush 19, 2) := by decide +kernel
theorem dX7_formatBerth_135 : decode cX7_formatBerth 135 = .ok (.iload_n 1, 1) := by decide +kernel
theorem dX7_formatBerth_136 : decode cX7_formatBerth 136 = .ok (.iadd, 1) := by decide +kernel
theorem dX7_formatBerth_137 : decode cX7_formatBerth 137 = .ok (.iaload, 1) := by decide +kernel
theorem dX7_formatBerth_138 : decode cX7_formatBerth 138 = .ok (.ifCond .le 18, 3) := by decide +kernel
theorem dX7_formatBerth_141 : decode cX7_formatBerth 141 = .ok (.aload_n 0, 1) := by decide +kernel
theorem dX7_formatBerth_142 : decode cX7_formatBerth 142 = .ok (.bipush 76, 2) := by decide +kernel
theorem dX7_formatBerth_144 : decode cX7_formatBerth 144 = .ok (.aload_n 0, 1) := by decide +kernel
theorem dX7_formatBerth_145 : decode cX7_formatBerth 145 = .ok (.getfield 7, 3) := by decide +kernel
theorem dX7_formatBerth_148 : decode cX7_formatBerth 148 = .ok (.bipush 19, 2) := by decide +kernel
theorem dX7_formatBerth_150 : decode cX7_formatBerth 150 = .ok (.iload_n 1, 1) := by decide +kernel
theorem dX7_formatBerth_151 : decode cX7_formatBerth 151 = .ok (.iadd, 1) := by decide +kernel
theorem dX7_formatBerth_152 : decode cX7_formatBerth 152 = .ok (.iaload, 1) := by decide +kernel
theorem dX7_formatBerth_153 : decode cX7_formatBerth 153 = .ok (.invokevirtual 200, 3) := by decide +kernel
theorem dX7_formatBerth_156 : decode cX7_formatBerth 156 = .ok (.aload_n 0, 1) := by decide +kernel
theorem dX7_formatBerth_157 : decode cX7_formatBerth 157 = .ok (.aload_n 0, 1) := by decide +kernel
theorem dX7_formatBerth_158 : decode cX7_formatBerth 158 = .ok (.getfield 191, 3) := by decide +kernel
theorem dX7_formatBerth_161 : decode cX7_formatBerth 161 = .ok (.invokevirtual 75, 3) := by decide +kernel
theorem dX7_formatBerth_164 : decode cX7_formatBerth 164 = .ok (.ireturn, 1) := by decide +kernel
set_option maxRecDepth 100000 in
set_option maxHeartbeats 4000000 in
theorem C_X7_formatBerth (l : Launch) (E : gE) (x : gX) {v1 : Int32} {M : gM} {r : Int32} {M' : gM} (hf : f_X7_formatBerth v1 M = some (r, M')) : gM0 l E yX7_formatBerth (.code yX7_formatBerth cX7_formatBerth 2 (some .int)) (gR 3 65) M x [.ref (E.2.1 150), .int v1] (some (.int r)) M' := by
  refine gMet (by decide +kernel) (Nat.le_of_ble_eq_true rfl) ?_
  intro p e s m args below meth c H locs ls Q hC hl hI kr kv
  replace hC : gC p s m args c cX7_formatBerth 2 RX7 E := hC
  replace hl : lv_has ls 2 [(0, .ref (E.2.1 150)), (1, .int v1)] := hl
  have hx := hC.1
  have hb := hC.2.1
  unfold f_X7_formatBerth at hf
  refine lv_iload_n hx hb dX7_formatBerth_0 rfl (lv_at hl 1 rfl) ?_
  obtain ⟨r1, hr2, hf⟩ := gbind hf
  have hr2 := C_X7_isBerth l E x  hr2
  refine g_callSi (rest := []) hC hI hr2 Y_X7_isBerth S_X7_isBerth w1395 ⟨rfl, rfl⟩ ⟨Nat.le_of_ble_eq_true rfl, Nat.le_of_ble_eq_true rfl⟩ rfl hl.1 rfl (Nat.le_of_ble_eq_true rfl) dX7_formatBerth_1 ⟨Nat.le_of_ble_eq_true rfl, Nat.le_of_ble_eq_true rfl⟩ (fun H locs hI => ?_)
  refine lv_if_ne (tgt := 13) hx hb dX7_formatBerth_4 rfl (fun h3 => ?_) (fun h3 => ?_)
  · replace hf := gifn h3 hf
    refine lv_aload_n hx hb dX7_formatBerth_13 rfl (lv_at hl 0 rfl) ?_
    refine lv_iconst (v := 0) hx hb dX7_formatBerth_14 (by decide) ?_
    obtain ⟨M4, eM4, hf⟩ := glet hf
    refine pt_X7_X7_lineLength hC hI dX7_formatBerth_15 (fun H locs hI => ?_)
    replace hI := g_mem eM4 hI
    refine lv_aload_n hx hb dX7_formatBerth_18 rfl (lv_at hl 0 rfl) ?_
    refine lv_bipush (v := 66) hx hb dX7_formatBerth_19 (by decide) ?_
    obtain ⟨r5, hr6, hf⟩ := gbind hf
    have hr6 := C_X7_writes l E x  hr6
    refine g_callVv (rest := []) hC hI hr6 Y_X7_writes V_X7_writes w1747 (rcv_X7 hC hI) ⟨rfl, rfl⟩ ⟨Nat.le_of_ble_eq_true rfl, Nat.le_of_ble_eq_true rfl⟩ rfl hl.1 rfl (Nat.le_of_ble_eq_true rfl) dX7_formatBerth_21 ⟨Nat.le_of_ble_eq_true rfl, Nat.le_of_ble_eq_true rfl⟩ (fun H locs hI => ?_)
    refine lv_aload_n hx hb dX7_formatBerth_24 rfl (lv_at hl 0 rfl) ?_
    refine lv_iload_n hx hb dX7_formatBerth_25 rfl (lv_at hl 1 rfl) ?_
    obtain ⟨r7, hr8, hf⟩ := gbind hf
    have hr8 := C_X7_writesNumber l E x  hr8
    refine g_callVv (rest := []) hC hI hr8 Y_X7_writesNumber V_X7_writesNumber w1751 (rcv_X7 hC hI) ⟨rfl, rfl⟩ ⟨Nat.le_of_ble_eq_true rfl, Nat.le_of_ble_eq_true rfl⟩ rfl hl.1 rfl (Nat.le_of_ble_eq_true rfl) dX7_formatBerth_26 ⟨Nat.le_of_ble_eq_true rfl, Nat.le_of_ble_eq_true rfl⟩ (fun H locs hI => ?_)
    refine lv_aload_n hx hb dX7_formatBerth_29 rfl (lv_at hl 0 rfl) ?_
    refine gt_X7_X7_g hC hI dX7_formatBerth_30 ?_
    refine lv_bipush (v := 7) hx hb dX7_formatBerth_33 (by decide) ?_
    refine lv_iload_n hx hb dX7_formatBerth_35 rfl (lv_at hl 1 rfl) ?_
    refine lv_iadd hx hb dX7_formatBerth_36 ?_
    obtain ⟨h9, hf⟩ := gifN hf
    refine g_iald hC hI (k := (7 + v1).toNatClampNeg) gIA_151 h9 rfl dX7_formatBerth_37 ?_
    refine lv_if_ne (tgt := 62) hx hb dX7_formatBerth_38 rfl (fun h10 => ?_) (fun h10 => ?_)
    · replace hf := gifn h10 hf
      refine lv_aload_n hx hb dX7_formatBerth_62 rfl (lv_at hl 0 rfl) ?_
      refine lv_bipush (v := 100) hx hb dX7_formatBerth_63 (by decide) ?_
      refine lv_aload_n hx hb dX7_formatBerth_65 rfl (lv_at hl 0 rfl) ?_
      refine gt_X7_X7_g hC hI dX7_formatBerth_66 ?_
      refine lv_bipush (v := 10) hx hb dX7_formatBerth_69 (by decide) ?_
      refine lv_iload_n hx hb dX7_formatBerth_71 rfl (lv_at hl 1 rfl) ?_
      refine lv_iadd hx hb dX7_formatBerth_72 ?_
      obtain ⟨h11, hf⟩ := gifN hf
      refine g_iald hC hI (k := (10 + v1).toNatClampNeg) gIA_151 h11 rfl dX7_formatBerth_73 ?_
      obtain ⟨r12, hr13, hf⟩ := gbind hf
      have hr13 := C_X7_writesBehind l E x  hr13
      refine g_callVv (rest := []) hC hI hr13 Y_X7_writesBehind V_X7_writesBehind w1759 (rcv_X7 hC hI) ⟨rfl, rfl⟩ ⟨Nat.le_of_ble_eq_true rfl, Nat.le_of_ble_eq_true rfl⟩ rfl hl.1 rfl (Nat.le_of_ble_eq_true rfl) dX7_formatBerth_74 ⟨Nat.le_of_ble_eq_true rfl, Nat.le_of_ble_eq_true rfl⟩ (fun H locs hI => ?_)
      refine lv_aload_n hx hb dX7_formatBerth_77 rfl (lv_at hl 0 rfl) ?_
      refine lv_bipush (v := 104) hx hb dX7_formatBerth_78 (by decide) ?_
      refine lv_aload_n hx hb dX7_formatBerth_80 rfl (lv_at hl 0 rfl) ?_
      refine gt_X7_X7_g hC hI dX7_formatBerth_81 ?_
      refine lv_bipush (v := 13) hx hb dX7_formatBerth_84 (by decide) ?_
      refine lv_iload_n hx hb dX7_formatBerth_86 rfl (lv_at hl 1 rfl) ?_
      refine lv_iadd hx hb dX7_formatBerth_87 ?_
      obtain ⟨h14, hf⟩ := gifN hf
      refine g_iald hC hI (k := (13 + v1).toNatClampNeg) gIA_151 h14 rfl dX7_formatBerth_88 ?_
      obtain ⟨r15, hr16, hf⟩ := gbind hf
      have hr16 := C_X7_writesBehind l E x  hr16
      refine g_callVv (rest := []) hC hI hr16 Y_X7_writesBehind V_X7_writesBehind w1759 (rcv_X7 hC hI) ⟨rfl, rfl⟩ ⟨Nat.le_of_ble_eq_true rfl, Nat.le_of_ble_eq_true rfl⟩ rfl hl.1 rfl (Nat.le_of_ble_eq_true rfl) dX7_formatBerth_89 ⟨Nat.le_of_ble_eq_true rfl, Nat.le_of_ble_eq_true rfl⟩ (fun H locs hI => ?_)
      refine lv_aload_n hx hb dX7_formatBerth_92 rfl (lv_at hl 0 rfl) ?_
      refine lv_iconst (v := 0) hx hb dX7_formatBerth_93 (by decide) ?_
      refine lv_aload_n hx hb dX7_formatBerth_94 rfl (lv_at hl 0 rfl) ?_
      refine lv_iload_n hx hb dX7_formatBerth_95 rfl (lv_at hl 1 rfl) ?_
      obtain ⟨r17, hr18, hf⟩ := gbind hf
      have hr18 := C_X7_load l E x  hr18
      refine g_callVi (rest := [.int 0, .ref (E.2.1 150)]) hC hI hr18 Y_X7_load V_X7_load w1486 (rcv_X7 hC hI) ⟨rfl, rfl⟩ ⟨Nat.le_of_ble_eq_true rfl, Nat.le_of_ble_eq_true rfl⟩ rfl hl.1 rfl (Nat.le_of_ble_eq_true rfl) dX7_formatBerth_96 ⟨Nat.le_of_ble_eq_true rfl, Nat.le_of_ble_eq_true rfl⟩ (fun H locs hI => ?_)
      obtain ⟨r19, hr20, hf⟩ := gbind hf
      have hr20 := C_X7_writesBehind l E x  hr20
      refine g_callVv (rest := []) hC hI hr20 Y_X7_writesBehind V_X7_writesBehind w1759 (rcv_X7 hC hI) ⟨rfl, rfl⟩ ⟨Nat.le_of_ble_eq_true rfl, Nat.le_of_ble_eq_true rfl⟩ rfl hl.1 rfl (Nat.le_of_ble_eq_true rfl) dX7_formatBerth_99 ⟨Nat.le_of_ble_eq_true rfl, Nat.le_of_ble_eq_true rfl⟩ (fun H locs hI => ?_)
      refine lv_aload_n hx hb dX7_formatBerth_102 rfl (lv_at hl 0 rfl) ?_
      refine gt_X7_X7_g hC hI dX7_formatBerth_103 ?_
      refine lv_bipush (v := 16) hx hb dX7_formatBerth_106 (by decide) ?_
      refine lv_iload_n hx hb dX7_formatBerth_108 rfl (lv_at hl 1 rfl) ?_
      refine lv_iadd hx hb dX7_formatBerth_109 ?_
      obtain ⟨h21, hf⟩ := gifN hf
      refine g_iald hC hI (k := (16 + v1).toNatClampNeg) gIA_151 h21 rfl dX7_formatBerth_110 ?_
      refine lv_if_le (tgt := 129) hx hb dX7_formatBerth_111 rfl (fun h22 => ?_) (fun h22 => ?_)
      · replace hf := gif h22 hf
        refine lv_aload_n hx hb dX7_formatBerth_129 rfl (lv_at hl 0 rfl) ?_
        refine gt_X7_X7_g hC hI dX7_formatBerth_130 ?_
        refine lv_bipush (v := 19) hx hb dX7_formatBerth_133 (by decide) ?_
        refine lv_iload_n hx hb dX7_formatBerth_135 rfl (lv_at hl 1 rfl) ?_
        refine lv_iadd hx hb dX7_formatBerth_136 ?_
        obtain ⟨h23, hf⟩ := gifN hf
        refine g_iald hC hI (k := (19 + v1).toNatClampNeg) gIA_151 h23 rfl dX7_formatBerth_137 ?_
        refine lv_if_le (tgt := 156) hx hb dX7_formatBerth_138 rfl (fun h24 => ?_) (fun h24 => ?_)
        · replace hf := gif h24 hf
          refine lv_aload_n hx hb dX7_formatBerth_156 rfl (lv_at hl 0 rfl) ?_
          refine lv_aload_n hx hb dX7_formatBerth_157 rfl (lv_at hl 0 rfl) ?_
          refine gt_X7_X7_lineLength hC hI dX7_formatBerth_158 ?_
          obtain ⟨r25, hr26, hf⟩ := gbind hf
          have hr26 := C_X7_done l E x  hr26
          refine g_callVi (rest := []) hC hI hr26 Y_X7_done V_X7_done w1409 (rcv_X7 hC hI) ⟨rfl, rfl⟩ ⟨Nat.le_of_ble_eq_true rfl, Nat.le_of_ble_eq_true rfl⟩ rfl hl.1 rfl (Nat.le_of_ble_eq_true rfl) dX7_formatBerth_161 ⟨Nat.le_of_ble_eq_true rfl, Nat.le_of_ble_eq_true rfl⟩ (fun H locs hI => ?_)
          exact kr _ _ _ _ _ _ (grw hf) hI ⟨.int, rfl, rfl⟩ dX7_formatBerth_164
        · replace hf := gifn h24 hf
          refine lv_aload_n hx hb dX7_formatBerth_141 rfl (lv_at hl 0 rfl) ?_
          refine lv_bipush (v := 76) hx hb dX7_formatBerth_142 (by decide) ?_
          refine lv_aload_n hx hb dX7_formatBerth_144 rfl (lv_at hl 0 rfl) ?_
          refine gt_X7_X7_g hC hI dX7_formatBerth_145 ?_
          refine lv_bipush (v := 19) hx hb dX7_formatBerth_148 (by decide) ?_
          refine lv_iload_n hx hb dX7_formatBerth_150 rfl (lv_at hl 1 rfl) ?_
          refine lv_iadd hx hb dX7_formatBerth_151 ?_
          obtain ⟨h27, hf⟩ := gifN hf
          refine g_iald hC hI (k := (19 + v1).toNatClampNeg) gIA_151 h27 rfl dX7_formatBerth_152 ?_
          obtain ⟨r28, hr29, hf⟩ := gbind hf
          have hr29 := C_X7_writesBehind l E x  hr29
          refine g_callVv (rest := []) hC hI hr29 Y_X7_writesBehind V_X7_writesBehind w1759 (rcv_X7 hC hI) ⟨rfl, rfl⟩ ⟨Nat.le_of_ble_eq_true rfl, Nat.le_of_ble_eq_true rfl⟩ rfl hl.1 rfl (Nat.le_of_ble_eq_true rfl) dX7_formatBerth_153 ⟨Nat.le_of_ble_eq_true rfl, Nat.le_of_ble_eq_true rfl⟩ (fun H locs hI => ?_)
          refine lv_aload_n hx hb dX7_formatBerth_156 rfl (lv_at hl 0 rfl) ?_
          refine lv_aload_n hx hb dX7_formatBerth_157 rfl (lv_at hl 0 rfl) ?_
          refine gt_X7_X7_lineLength hC hI dX7_formatBerth_158 ?_
          obtain ⟨r30, hr31, hf⟩ := gbind hf
          have hr31 := C_X7_done l E x  hr31
          refine g_callVi (rest := []) hC hI hr31 Y_X7_done V_X7_done w1409 (rcv_X7 hC hI) ⟨rfl, rfl⟩ ⟨Nat.le_of_ble_eq_true rfl, Nat.le_of_ble_eq_true rfl⟩ rfl hl.1 rfl (Nat.le_of_ble_eq_true rfl) dX7_formatBerth_161 ⟨Nat.le_of_ble_eq_true rfl, Nat.le_of_ble_eq_true rfl⟩ (fun H locs hI => ?_)
          exact kr _ _ _ _ _ _ (grw hf) hI ⟨.int, rfl, rfl⟩ dX7_formatBerth_164
      · replace hf := gifn h22 hf
        refine lv_aload_n hx hb dX7_formatBerth_114 rfl (lv_at hl 0 rfl) ?_
        refine lv_bipush (v := 120) hx hb dX7_formatBerth_115 (by decide) ?_
        refine lv_aload_n hx hb dX7_formatBerth_117 rfl (lv_at hl 0 rfl) ?_
        refine gt_X7_X7_g hC hI dX7_formatBerth_118 ?_
        refine lv_bipush (v := 16) hx hb dX7_formatBerth_121 (by decide) ?_
        refine lv_iload_n hx hb dX7_formatBerth_123 rfl (lv_at hl 1 rfl) ?_
        refine lv_iadd hx hb dX7_formatBerth_124 ?_
        obtain ⟨h32, hf⟩ := gifN hf
        refine g_iald hC hI (k := (16 + v1).toNatClampNeg) gIA_151 h32 rfl dX7_formatBerth_125 ?_
        obtain ⟨r33, hr34, hf⟩ := gbind hf
        have hr34 := C_X7_writesBehind l E x  hr34
        refine g_callVv (rest := []) hC hI hr34 Y_X7_writesBehind V_X7_writesBehind w1759 (rcv_X7 hC hI) ⟨rfl, rfl⟩ ⟨Nat.le_of_ble_eq_true rfl, Nat.le_of_ble_eq_true rfl⟩ rfl hl.1 rfl (Nat.le_of_ble_eq_true rfl) dX7_formatBerth_126 ⟨Nat.le_of_ble_eq_true rfl, Nat.le_of_ble_eq_true rfl⟩ (fun H locs hI => ?_)
        refine lv_aload_n hx hb dX7_formatBerth_129 rfl (lv_at hl 0 rfl) ?_
        refine gt_X7_X7_g hC hI dX7_formatBerth_130 ?_
        refine lv_bipush (v := 19) hx hb dX7_formatBerth_133 (by decide) ?_
        refine lv_iload_n hx hb dX7_formatBerth_135 rfl (lv_at hl 1 rfl) ?_
        refine lv_iadd hx hb dX7_formatBerth_136 ?_
        obtain ⟨h35, hf⟩ := gifN hf
        refine g_iald hC hI (k := (19 + v1).toNatClampNeg) gIA_151 h35 rfl dX7_formatBerth_137 ?_
        refine lv_if_le (tgt := 156) hx hb dX7_formatBerth_138 rfl (fun h36 => ?_) (fun h36 => ?_)
        · replace hf := gif h36 hf
          refine lv_aload_n hx hb dX7_formatBerth_156 rfl (lv_at hl 0 rfl) ?_
          refine lv_aload_n hx hb dX7_formatBerth_157 rfl (lv_at hl 0 rfl) ?_
          refine gt_X7_X7_lineLength hC hI dX7_formatBerth_158 ?_
          obtain ⟨r37, hr38, hf⟩ := gbind hf
          have hr38 := C_X7_done l E x  hr38
          refine g_callVi (rest := []) hC hI hr38 Y_X7_done V_X7_done w1409 (rcv_X7 hC hI) ⟨rfl, rfl⟩ ⟨Nat.le_of_ble_eq_true rfl, Nat.le_of_ble_eq_true rfl⟩ rfl hl.1 rfl (Nat.le_of_ble_eq_true rfl) dX7_formatBerth_161 ⟨Nat.le_of_ble_eq_true rfl, Nat.le_of_ble_eq_true rfl⟩ (fun H locs hI => ?_)
          exact kr _ _ _ _ _ _ (grw hf) hI ⟨.int, rfl, rfl⟩ dX7_formatBerth_164
        · replace hf := gifn h36 hf
          refine lv_aload_n hx hb dX7_formatBerth_141 rfl (lv_at hl 0 rfl) ?_
          refine lv_bipush (v := 76) hx hb dX7_formatBerth_142 (by decide) ?_
          refine lv_aload_n hx hb dX7_formatBerth_144 rfl (lv_at hl 0 rfl) ?_
          refine gt_X7_X7_g hC hI dX7_formatBerth_145 ?_
          refine lv_bipush (v := 19) hx hb dX7_formatBerth_148 (by decide) ?_
          refine lv_iload_n hx hb dX7_formatBerth_150 rfl (lv_at hl 1 rfl) ?_
          refine lv_iadd hx hb dX7_formatBerth_151 ?_
          obtain ⟨h39, hf⟩ := gifN hf
          refine g_iald hC hI (k := (19 + v1).toNatClampNeg) gIA_151 h39 rfl dX7_formatBerth_152 ?_
          obtain ⟨r40, hr41, hf⟩ := gbind hf
          have hr41 := C_X7_writesBehind l E x  hr41
          refine g_callVv (rest := []) hC hI hr41 Y_X7_writesBehind V_X7_writesBehind w1759 (rcv_X7 hC hI) ⟨rfl, rfl⟩ ⟨Nat.le_of_ble_eq_true rfl, Nat.le_of_ble_eq_true rfl⟩ rfl hl.1 rfl (Nat.le_of_ble_eq_true rfl) dX7_formatBerth_153 ⟨Nat.le_of_ble_eq_true rfl, Nat.le_of_ble_eq_true rfl⟩ (fun H locs hI => ?_)
          refine lv_aload_n hx hb dX7_formatBerth_156 rfl (lv_at hl 0 rfl) ?_
          refine lv_aload_n hx hb dX7_formatBerth_157 rfl (lv_at hl 0 rfl) ?_
          refine gt_X7_X7_lineLength hC hI dX7_formatBerth_158 ?_
          obtain ⟨r42, hr43, hf⟩ := gbind hf
          have hr43 := C_X7_done l E x  hr43
          refine g_callVi (rest := []) hC hI hr43 Y_X7_done V_X7_done w1409 (rcv_X7 hC hI) ⟨rfl, rfl⟩ ⟨Nat.le_of_ble_eq_true rfl, Nat.le_of_ble_eq_true rfl⟩ rfl hl.1 rfl (Nat.le_of_ble_eq_true rfl) dX7_formatBerth_161 ⟨Nat.le_of_ble_eq_true rfl, Nat.le_of_ble_eq_true rfl⟩ (fun H locs hI => ?_)
          exact kr _ _ _ _ _ _ (grw hf) hI ⟨.int, rfl, rfl⟩ dX7_formatBerth_164
    · replace hf := gif h10 hf
      refine lv_aload_n hx hb dX7_formatBerth_41 rfl (lv_at hl 0 rfl) ?_
      refine lv_bipush (v := 32) hx hb dX7_formatBerth_42 (by decide) ?_
      obtain ⟨r44, hr45, hf⟩ := gbind hf
      have hr45 := C_X7_writes l E x  hr45
      refine g_callVv (rest := []) hC hI hr45 Y_X7_writes V_X7_writes w1747 (rcv_X7 hC hI) ⟨rfl, rfl⟩ ⟨Nat.le_of_ble_eq_true rfl, Nat.le_of_ble_eq_true rfl⟩ rfl hl.1 rfl (Nat.le_of_ble_eq_true rfl) dX7_formatBerth_44 ⟨Nat.le_of_ble_eq_true rfl, Nat.le_of_ble_eq_true rfl⟩ (fun H locs hI => ?_)
      refine lv_aload_n hx hb dX7_formatBerth_47 rfl (lv_at hl 0 rfl) ?_
      refine lv_bipush (v := 45) hx hb dX7_formatBerth_48 (by decide) ?_
      obtain ⟨r46, hr47, hf⟩ := gbind hf
      have hr47 := C_X7_writes l E x  hr47
      refine g_callVv (rest := []) hC hI hr47 Y_X7_writes V_X7_writes w1747 (rcv_X7 hC hI) ⟨rfl, rfl⟩ ⟨Nat.le_of_ble_eq_true rfl, Nat.le_of_ble_eq_true rfl⟩ rfl hl.1 rfl (Nat.le_of_ble_eq_true rfl) dX7_formatBerth_50 ⟨Nat.le_of_ble_eq_true rfl, Nat.le_of_ble_eq_true rfl⟩ (fun H locs hI => ?_)
      refine lv_aload_n hx hb dX7_formatBerth_53 rfl (lv_at hl 0 rfl) ?_
      refine lv_aload_n hx hb dX7_formatBerth_54 rfl (lv_at hl 0 rfl) ?_
      refine gt_X7_X7_lineLength hC hI dX7_formatBerth_55 ?_
      obtain ⟨r48, hr49, hf⟩ := gbind hf
      have hr49 := C_X7_done l E x  hr49
      refine g_callVi (rest := []) hC hI hr49 Y_X7_done V_X7_done w1409 (rcv_X7 hC hI) ⟨rfl, rfl⟩ ⟨Nat.le_of_ble_eq_true rfl, Nat.le_of_ble_eq_true rfl⟩ rfl hl.1 rfl (Nat.le_of_ble_eq_true rfl) dX7_formatBerth_58 ⟨Nat.le_of_ble_eq_true rfl, Nat.le_of_ble_eq_true rfl⟩ (fun H locs hI => ?_)
      exact kr _ _ _ _ _ _ (grw hf) hI ⟨.int, rfl, rfl⟩ dX7_formatBerth_61
  · replace hf := gif h3 hf
    refine lv_aload_n hx hb dX7_formatBerth_7 rfl (lv_at hl 0 rfl) ?_
    refine lv_iconst (v := 1) hx hb dX7_formatBerth_8 (by decide) ?_
    obtain ⟨r50, hr51, hf⟩ := gbind hf
    have hr51 := C_X7_fails l E x  hr51
    refine g_callVi (rest := []) hC hI hr51 Y_X7_fails V_X7_fails w1401 (rcv_X7 hC hI) ⟨rfl, rfl⟩ ⟨Nat.le_of_ble_eq_true rfl, Nat.le_of_ble_eq_true rfl⟩ rfl hl.1 rfl (Nat.le_of_ble_eq_true rfl) dX7_formatBerth_9 ⟨Nat.le_of_ble_eq_true rfl, Nat.le_of_ble_eq_true rfl⟩ (fun H locs hI => ?_)
    exact kr _ _ _ _ _ _ (grw hf) hI ⟨.int, rfl, rfl⟩ dX7_formatBerth_12
theorem dX7_lineChar_0 : decode cX7_lineChar 0 = .ok (.aload_n 0, 1) := by decide +kernel
theorem dX7_lineChar_1 : decode cX7_lineChar 1 = .ok (.iload_n 1, 1) := by decide +kernel
theorem dX7_lineChar_2 : decode cX7_lineChar 2 = .ok (.iconst 0, 1) := by decide +kernel
theorem dX7_lineChar_3 : decode cX7_lineChar 3 = .ok (.aload_n 0, 1) := by decide +kernel
theorem dX7_lineChar_4 : decode cX7_lineChar 4 = .ok (.getfield 191, 3) := by decide +kernel
theorem dX7_lineChar_7 : decode cX7_lineChar 7 = .ok (.iconst 1, 1) := by decide +kernel
theorem dX7_lineChar_8 : decode cX7_lineChar 8 = .ok (.isub, 1) := by decide +kernel
theorem dX7_lineChar_9 : decode cX7_lineChar 9 = .ok (.invokestatic 52, 3) := by decide +kernel
theorem dX7_lineChar_12 : decode cX7_lineChar 12 = .ok (.ifCond .eq 7, 3) := by decide +kernel
theorem dX7_lineChar_15 : decode cX7_lineChar 15 = .ok (.iconst 0, 1) := by decide +kernel
theorem dX7_lineChar_16 : decode cX7_lineChar 16 = .ok (.goto 4, 3) := by decide +kernel
theorem dX7_lineChar_19 : decode cX7_lineChar 19 = .ok (.iconst 1, 1) := by decide +kernel
theorem dX7_lineChar_20 : decode cX7_lineChar 20 = .ok (.putfield 42, 3) := by decide +kernel
theorem dX7_lineChar_23 : decode cX7_lineChar 23 = .ok (.aload_n 0, 1) := by decide +kernel
theorem dX7_lineChar_24 : decode cX7_lineChar 24 = .ok (.getfield 42, 3) := by decide +kernel
theorem dX7_lineChar_27 : decode cX7_lineChar 27 = .ok (.ifCond .ne 12, 3) := by decide +kernel
theorem dX7_lineChar_30 : decode cX7_lineChar 30 = .ok (.aload_n 0, 1) := by decide +kernel
theorem dX7_lineChar_31 : decode cX7_lineChar 31 = .ok (.getfield 36, 3) := by decide +kernel
theorem dX7_lineChar_34 : decode cX7_lineChar 34 = .ok (.iload_n 1, 1) := by decide +kernel
theorem dX7_lineChar_35 : decode cX7_lineChar 35 = .ok (.caload, 1) := by decide +kernel
theorem dX7_lineChar_36 : decode cX7_lineChar 36 = .ok (.goto 4, 3) := by decide +kernel
theorem dX7_lineChar_39 : decode cX7_lineChar 39 = .ok (.iconst 0, 1) := by decide +kernel
theorem dX7_lineChar_40 : decode cX7_lineChar 40 = .ok (.ireturn, 1) := by decide +kernel
set_option maxRecDepth 100000 in
set_option maxHeartbeats 4000000 in
theorem C_X7_lineChar (l : Launch) (E : gE) (x : gX) {v1 : Int32} {M : gM} {r : Int32} {M' : gM} (hf : f_X7_lineChar v1 M = some (r, M')) : gM0 l E yX7_lineChar (.code yX7_lineChar cX7_lineChar 2 (some .char)) (gR 1 22) M x [.ref (E.2.1 150), .int v1] (some (.int r)) M' := by
  refine gMet (by decide +kernel) (Nat.le_of_ble_eq_true rfl) ?_
  intro p e s m args below meth c H locs ls Q hC hl hI kr kv
  replace hC : gC p s m args c cX7_lineChar 2 RX7 E := hC
  replace hl : lv_has ls 2 [(0, .ref (E.2.1 150)), (1, .int v1)] := hl
  have hx := hC.1
  have hb := hC.2.1
  unfold f_X7_lineChar at hf
  refine lv_aload_n hx hb dX7_lineChar_0 rfl (lv_at hl 0 rfl) ?_
  refine lv_iload_n hx hb dX7_lineChar_1 rfl (lv_at hl 1 rfl) ?_
  refine lv_iconst (v := 0) hx hb dX7_lineChar_2 (by decide) ?_
  refine lv_aload_n hx hb dX7_lineChar_3 rfl (lv_at hl 0 rfl) ?_
  refine gt_X7_X7_lineLength hC hI dX7_lineChar_4 ?_
  refine lv_iconst (v := 1) hx hb dX7_lineChar_7 (by decide) ?_
  refine lv_isub hx hb dX7_lineChar_8 ?_
  obtain ⟨r1, hr2, hf⟩ := gbind hf
  have hr2 := C_X7_in l E x  hr2
  refine g_callSi (rest := [.ref (E.2.1 150)]) hC hI hr2 Y_X7_in S_X7_in w1398 ⟨rfl, rfl⟩ ⟨Nat.le_of_ble_eq_true rfl, Nat.le_of_ble_eq_true rfl⟩ rfl hl.1 rfl (Nat.le_of_ble_eq_true rfl) dX7_lineChar_9 ⟨Nat.le_of_ble_eq_true rfl, Nat.le_of_ble_eq_true rfl⟩ (fun H locs hI => ?_)
  refine lv_if_eq (tgt := 19) hx hb dX7_lineChar_12 rfl (fun h3 => ?_) (fun h3 => ?_)
  · replace hf := gif h3 hf
    refine lv_iconst (v := 1) hx hb dX7_lineChar_19 (by decide) ?_
    obtain ⟨M4, eM4, hf⟩ := glet hf
    refine pt_X7_X7_thrown hC hI dX7_lineChar_20 (fun H locs hI => ?_)
    replace hI := g_mem eM4 hI
    refine lv_aload_n hx hb dX7_lineChar_23 rfl (lv_at hl 0 rfl) ?_
    refine gt_X7_X7_thrown hC hI dX7_lineChar_24 ?_
    refine lv_if_ne (tgt := 39) hx hb dX7_lineChar_27 rfl (fun h5 => ?_) (fun h5 => ?_)
    · replace hf := gifn h5 hf
      refine lv_iconst (v := 0) hx hb dX7_lineChar_39 (by decide) ?_
      obtain ⟨h6, hf⟩ := gifN hf
      exact kr _ _ _ _ _ _ (grw hf) hI ⟨.char, rfl, gin_char h6⟩ dX7_lineChar_40
    · replace hf := gif h5 hf
      refine lv_aload_n hx hb dX7_lineChar_30 rfl (lv_at hl 0 rfl) ?_
      refine gt_X7_X7_letters hC hI dX7_lineChar_31 ?_
      refine lv_iload_n hx hb dX7_lineChar_34 rfl (lv_at hl 1 rfl) ?_
      obtain ⟨h7, hf⟩ := gifN hf
      refine g_cald hC hI (k := v1.toNatClampNeg) gCA_157 h7 rfl dX7_lineChar_35 ?_
      refine lv_goto (tgt := 40) hx hb dX7_lineChar_36 rfl ?_
      obtain ⟨h8, hf⟩ := gifN hf
      exact kr _ _ _ _ _ _ (grw hf) hI ⟨.char, rfl, gin_char h8⟩ dX7_lineChar_40
  · replace hf := gifn h3 hf
    refine lv_iconst (v := 0) hx hb dX7_lineChar_15 (by decide) ?_
    refine lv_goto (tgt := 20) hx hb dX7_lineChar_16 rfl ?_
    obtain ⟨M9, eM9, hf⟩ := glet hf
    refine pt_X7_X7_thrown hC hI dX7_lineChar_20 (fun H locs hI => ?_)
    replace hI := g_mem eM9 hI
    refine lv_aload_n hx hb dX7_lineChar_23 rfl (lv_at hl 0 rfl) ?_
    refine gt_X7_X7_thrown hC hI dX7_lineChar_24 ?_
    refine lv_if_ne (tgt := 39) hx hb dX7_lineChar_27 rfl (fun h10 => ?_) (fun h10 => ?_)
    · replace hf := gifn h10 hf
      refine lv_iconst (v := 0) hx hb dX7_lineChar_39 (by decide) ?_
      obtain ⟨h11, hf⟩ := gifN hf
      exact kr _ _ _ _ _ _ (grw hf) hI ⟨.char, rfl, gin_char h11⟩ dX7_lineChar_40
    · replace hf := gif h10 hf
      refine lv_aload_n hx hb dX7_lineChar_30 rfl (lv_at hl 0 rfl) ?_
      refine gt_X7_X7_letters hC hI dX7_lineChar_31 ?_
      refine lv_iload_n hx hb dX7_lineChar_34 rfl (lv_at hl 1 rfl) ?_
      obtain ⟨h12, hf⟩ := gifN hf
      refine g_cald hC hI (k := v1.toNatClampNeg) gCA_157 h12 rfl dX7_lineChar_35 ?_
      refine lv_goto (tgt := 40) hx hb dX7_lineChar_36 rfl ?_
      obtain ⟨h13, hf⟩ := gifN hf
      exact kr _ _ _ _ _ _ (grw hf) hI ⟨.char, rfl, gin_char h13⟩ dX7_lineChar_40
theorem dX7_append_0 : decode cX7_append 0 = .ok (.iload_n 1, 1) := by decide +kernel
theorem dX7_append_1 : decode cX7_append 1 = .ok (.bipush 32, 2) := by decide +kernel
theorem dX7_append_3 : decode cX7_append 3 = .ok (.bipush 126, 2) := by decide +kernel
theorem dX7_append_5 : decode cX7_append 5 = .ok (.invokestatic 52, 3) := by decide +kernel
theorem dX7_append_8 : decode cX7_append 8 = .ok (.ifCond .ne 9, 3) := by decide +kernel
theorem dX7_append_11 : decode cX7_append 11 = .ok (.aload_n 0, 1) := by decide +kernel
theorem dX7_append_12 : decode cX7_append 12 = .ok (.iconst 1, 1) := by decide +kernel
theorem dX7_append_13 : decode cX7_append 13 = .ok (.invokevirtual 67, 3) := by decide +kernel
theorem dX7_append_16 : decode cX7_append 16 = .ok (.ireturn, 1) := by decide +kernel
theorem dX7_append_17 : decode cX7_append 17 = .ok (.aload_n 0, 1) := by decide +kernel
theorem dX7_append_18 : decode cX7_append 18 = .ok (.getfield 204, 3) := by decide +kernel
theorem dX7_append_21 : decode cX7_append 21 = .ok (.bipush 60, 2) := by decide +kernel
theorem dX7_append_23 : decode cX7_append 23 = .ok (.if_icmp .ne 9, 3) := by decide +kernel
theorem dX7_append_26 : decode cX7_append 26 = .ok (.aload_n 0, 1) := by decide +kernel
theorem dX7_append_27 : decode cX7_append 27 = .ok (.iconst 2, 1) := by decide +kernel
theorem dX7_append_28 : decode cX7_append 28 = .ok (.invokevirtual 67, 3) := by decide +kernel
theorem dX7_append_31 : decode cX7_append 31 = .ok (.ireturn, 1) := by decide +kernel
theorem dX7_append_32 : decode cX7_append 32 = .ok (.aload_n 0, 1) := by decide +kernel
theorem dX7_append_33 : decode cX7_append 33 = .ok (.getfield 25, 3) := by decide +kernel
theorem dX7_append_36 : decode cX7_append 36 = .ok (.aload_n 0, 1) := by decide +kernel
theorem dX7_append_37 : decode cX7_append 37 = .ok (.getfield 204, 3) := by decide +kernel
theorem dX7_append_40 : decode cX7_append 40 = .ok (.iload_n 1, 1) := by decide +kernel
theorem dX7_append_41 : decode cX7_append 41 = .ok (.castore, 1) := by decide +kernel
theorem dX7_append_42 : decode cX7_append 42 = .ok (.aload_n 0, 1) := by decide +kernel
theorem dX7_append_43 : decode cX7_append 43 = .ok (.dup, 1) := by decide +kernel
theorem dX7_append_44 : decode cX7_append 44 = .ok (.getfield 204, 3) := by decide +kernel
theorem dX7_append_47 : decode cX7_append 47 = .ok (.iconst 1, 1) := by decide +kernel
theorem dX7_append_48 : decode cX7_append 48 = .ok (.iadd, 1) := by decide +kernel
theorem dX7_append_49 : decode cX7_append 49 = .ok (.putfield 204, 3) := by decide +kernel
theorem dX7_append_52 : decode cX7_append 52 = .ok (.aload_n 0, 1) := by decide +kernel
theorem dX7_append_53 : decode cX7_append 53 = .ok (.aload_n 0, 1) := by decide +kernel
theorem dX7_append_54 : decode cX7_append 54 = .ok (.getfield 204, 3) := by decide +kernel
theorem dX7_append_57 : decode cX7_append 57 = .ok (.invokevirtual 75, 3) := by decide +kernel
theorem dX7_append_60 : decode cX7_append 60 = .ok (.ireturn, 1) := by decide +kernel
set_option maxRecDepth 100000 in
set_option maxHeartbeats 4000000 in
theorem C_X7_append (l : Launch) (E : gE) (x : gX) {v1 : Int32} {M : gM} {r : Int32} {M' : gM} (hf : f_X7_append v1 M = some (r, M')) : gM0 l E yX7_append (.code yX7_append cX7_append 2 (some .int)) (gR 1 22) M x [.ref (E.2.1 150), .int v1] (some (.int r)) M' := by
  refine gMet (by decide +kernel) (Nat.le_of_ble_eq_true rfl) ?_
  intro p e s m args below meth c H locs ls Q hC hl hI kr kv
  replace hC : gC p s m args c cX7_append 2 RX7 E := hC
  replace hl : lv_has ls 2 [(0, .ref (E.2.1 150)), (1, .int v1)] := hl
  have hx := hC.1
  have hb := hC.2.1
  unfold f_X7_append at hf
  refine lv_iload_n hx hb dX7_append_0 rfl (lv_at hl 1 rfl) ?_
  refine lv_bipush (v := 32) hx hb dX7_append_1 (by decide) ?_
  refine lv_bipush (v := 126) hx hb dX7_append_3 (by decide) ?_
  obtain ⟨r1, hr2, hf⟩ := gbind hf
  have hr2 := C_X7_in l E x  hr2
  refine g_callSi (rest := []) hC hI hr2 Y_X7_in S_X7_in w1398 ⟨rfl, rfl⟩ ⟨Nat.le_of_ble_eq_true rfl, Nat.le_of_ble_eq_true rfl⟩ rfl hl.1 rfl (Nat.le_of_ble_eq_true rfl) dX7_append_5 ⟨Nat.le_of_ble_eq_true rfl, Nat.le_of_ble_eq_true rfl⟩ (fun H locs hI => ?_)
  refine lv_if_ne (tgt := 17) hx hb dX7_append_8 rfl (fun h3 => ?_) (fun h3 => ?_)
  · replace hf := gifn h3 hf
    refine lv_aload_n hx hb dX7_append_17 rfl (lv_at hl 0 rfl) ?_
    refine gt_X7_X7_typed hC hI dX7_append_18 ?_
    refine lv_bipush (v := 60) hx hb dX7_append_21 (by decide) ?_
    refine lv_icmp_ne (tgt := 32) hx hb dX7_append_23 rfl (fun h4 => ?_) (fun h4 => ?_)
    · replace hf := gifn h4 hf
      refine lv_aload_n hx hb dX7_append_32 rfl (lv_at hl 0 rfl) ?_
      refine gt_X7_X7_buffer hC hI dX7_append_33 ?_
      refine lv_aload_n hx hb dX7_append_36 rfl (lv_at hl 0 rfl) ?_
      refine gt_X7_X7_typed hC hI dX7_append_37 ?_
      refine lv_iload_n hx hb dX7_append_40 rfl (lv_at hl 1 rfl) ?_
      obtain ⟨h5, hf⟩ := gifN hf
      obtain ⟨M6, eM6, hf⟩ := glet hf
      refine g_cast hC hI (k := (M 150 8).toNatClampNeg) gCA_156 h5 rfl dX7_append_41 (fun H locs hI => ?_)
      replace hI := g_mem eM6 hI
      refine lv_aload_n hx hb dX7_append_42 rfl (lv_at hl 0 rfl) ?_
      refine lv_dup hx hb dX7_append_43 rfl ?_
      refine gt_X7_X7_typed hC hI dX7_append_44 ?_
      refine lv_iconst (v := 1) hx hb dX7_append_47 (by decide) ?_
      refine lv_iadd hx hb dX7_append_48 ?_
      obtain ⟨M7, eM7, hf⟩ := glet hf
      refine pt_X7_X7_typed hC hI dX7_append_49 (fun H locs hI => ?_)
      replace hI := g_mem eM7 hI
      refine lv_aload_n hx hb dX7_append_52 rfl (lv_at hl 0 rfl) ?_
      refine lv_aload_n hx hb dX7_append_53 rfl (lv_at hl 0 rfl) ?_
      refine gt_X7_X7_typed hC hI dX7_append_54 ?_
      obtain ⟨r8, hr9, hf⟩ := gbind hf
      have hr9 := C_X7_done l E x  hr9
      refine g_callVi (rest := []) hC hI hr9 Y_X7_done V_X7_done w1409 (rcv_X7 hC hI) ⟨rfl, rfl⟩ ⟨Nat.le_of_ble_eq_true rfl, Nat.le_of_ble_eq_true rfl⟩ rfl hl.1 rfl (Nat.le_of_ble_eq_true rfl) dX7_append_57 ⟨Nat.le_of_ble_eq_true rfl, Nat.le_of_ble_eq_true rfl⟩ (fun H locs hI => ?_)
      exact kr _ _ _ _ _ _ (grw hf) hI ⟨.int, rfl, rfl⟩ dX7_append_60
    · replace hf := gif h4 hf
      refine lv_aload_n hx hb dX7_append_26 rfl (lv_at hl 0 rfl) ?_
      refine lv_iconst (v := 2) hx hb dX7_append_27 (by decide) ?_
      obtain ⟨r10, hr11, hf⟩ := gbind hf
      have hr11 := C_X7_fails l E x  hr11
      refine g_callVi (rest := []) hC hI hr11 Y_X7_fails V_X7_fails w1401 (rcv_X7 hC hI) ⟨rfl, rfl⟩ ⟨Nat.le_of_ble_eq_true rfl, Nat.le_of_ble_eq_true rfl⟩ rfl hl.1 rfl (Nat.le_of_ble_eq_true rfl) dX7_append_28 ⟨Nat.le_of_ble_eq_true rfl, Nat.le_of_ble_eq_true rfl⟩ (fun H locs hI => ?_)
      exact kr _ _ _ _ _ _ (grw hf) hI ⟨.int, rfl, rfl⟩ dX7_append_31
  · replace hf := gif h3 hf
    refine lv_aload_n hx hb dX7_append_11 rfl (lv_at hl 0 rfl) ?_
    refine lv_iconst (v := 1) hx hb dX7_append_12 (by decide) ?_
    obtain ⟨r12, hr13, hf⟩ := gbind hf
    have hr13 := C_X7_fails l E x  hr13
    refine g_callVi (rest := []) hC hI hr13 Y_X7_fails V_X7_fails w1401 (rcv_X7 hC hI) ⟨rfl, rfl⟩ ⟨Nat.le_of_ble_eq_true rfl, Nat.le_of_ble_eq_true rfl⟩ rfl hl.1 rfl (Nat.le_of_ble_eq_true rfl) dX7_append_13 ⟨Nat.le_of_ble_eq_true rfl, Nat.le_of_ble_eq_true rfl⟩ (fun H locs hI => ?_)
    exact kr _ _ _ _ _ _ (grw hf) hI ⟨.int, rfl, rfl⟩ dX7_append_16
theorem dX7_here_0 : decode cX7_here 0 = .ok (.aload_n 0, 1) := by decide +kernel
theorem dX7_here_1 : decode cX7_here 1 = .ok (.getfield 207, 3) := by decide +kernel
theorem dX7_here_4 : decode cX7_here 4 = .ok (.aload_n 0, 1) := by decide +kernel
theorem dX7_here_5 : decode cX7_here 5 = .ok (.getfield 204, 3) := by decide +kernel
theorem dX7_here_8 : decode cX7_here 8 = .ok (.if_icmp .ge 15, 3) := by decide +kernel
theorem dX7_here_11 : decode cX7_here 11 = .ok (.aload_n 0, 1) := by decide +kernel
theorem dX7_here_12 : decode cX7_here 12 = .ok (.getfield 25, 3) := by decide +kernel
theorem dX7_here_15 : decode cX7_here 15 = .ok (.aload_n 0, 1) := by decide +kernel
theorem dX7_here_16 : decode cX7_here 16 = .ok (.getfield 207, 3) := by decide +kernel
theorem dX7_here_19 : decode cX7_here 19 = .ok (.caload, 1) := by decide +kernel
theorem dX7_here_20 : decode cX7_here 20 = .ok (.goto 4, 3) := by decide +kernel
theorem dX7_here_23 : decode cX7_here 23 = .ok (.iconst (-1), 1) := by decide +kernel
theorem dX7_here_24 : decode cX7_here 24 = .ok (.ireturn, 1) := by decide +kernel
set_option maxRecDepth 100000 in
set_option maxHeartbeats 4000000 in
theorem C_X7_here (l : Launch) (E : gE) (x : gX) {M : gM} {r : Int32} (hf : f_X7_here M = some r) : gM0 l E yX7_here (.code yX7_here cX7_here 1 (some .int)) (gR 0 0) M x [.ref (E.2.1 150)] (some (.int r)) M := by
  refine gMet (by decide +kernel) (Nat.le_of_ble_eq_true rfl) ?_
  intro p e s m args below meth c H locs ls Q hC hl hI kr kv
  replace hC : gC p s m args c cX7_here 1 RX7 E := hC
  replace hl : lv_has ls 1 [(0, .ref (E.2.1 150))] := hl
  have hx := hC.1
  have hb := hC.2.1
  unfold f_X7_here at hf
  refine lv_aload_n hx hb dX7_here_0 rfl (lv_at hl 0 rfl) ?_
  refine gt_X7_X7_spot hC hI dX7_here_1 ?_
  refine lv_aload_n hx hb dX7_here_4 rfl (lv_at hl 0 rfl) ?_
  refine gt_X7_X7_typed hC hI dX7_here_5 ?_
  refine lv_icmp_ge (tgt := 23) hx hb dX7_here_8 rfl (fun h1 => ?_) (fun h1 => ?_)
  · replace hf := gif h1 hf
    refine lv_iconst (v := (-1)) hx hb dX7_here_23 (by decide) ?_
    exact kr _ _ _ _ _ _ (gri hf) hI ⟨.int, rfl, rfl⟩ dX7_here_24
  · replace hf := gifn h1 hf
    refine lv_aload_n hx hb dX7_here_11 rfl (lv_at hl 0 rfl) ?_
    refine gt_X7_X7_buffer hC hI dX7_here_12 ?_
    refine lv_aload_n hx hb dX7_here_15 rfl (lv_at hl 0 rfl) ?_
    refine gt_X7_X7_spot hC hI dX7_here_16 ?_
    obtain ⟨h2, hf⟩ := gifN hf
    refine g_cald hC hI (k := (M 150 14).toNatClampNeg) gCA_156 h2 rfl dX7_here_19 ?_
    refine lv_goto (tgt := 24) hx hb dX7_here_20 rfl ?_
    exact kr _ _ _ _ _ _ (gri hf) hI ⟨.int, rfl, rfl⟩ dX7_here_24
theorem dX7_needs_0 : decode cX7_needs 0 = .ok (.aload_n 0, 1) := by decide +kernel
theorem dX7_needs_1 : decode cX7_needs 1 = .ok (.aload_n 0, 1) := by decide +kernel
theorem dX7_needs_2 : decode cX7_needs 2 = .ok (.getfield 210, 3) := by decide +kernel
theorem dX7_needs_5 : decode cX7_needs 5 = .ok (.ifCond .ne 11, 3) := by decide +kernel
theorem dX7_needs_8 : decode cX7_needs 8 = .ok (.aload_n 0, 1) := by decide +kernel
theorem dX7_needs_9 : decode cX7_needs 9 = .ok (.invokevirtual 214, 3) := by decide +kernel
theorem dX7_needs_12 : decode cX7_needs 12 = .ok (.iload_n 1, 1) := by decide +kernel
theorem dX7_needs_13 : decode cX7_needs 13 = .ok (.if_icmp .eq 7, 3) := by decide +kernel
theorem dX7_needs_16 : decode cX7_needs 16 = .ok (.iconst 1, 1) := by decide +kernel
theorem dX7_needs_17 : decode cX7_needs 17 = .ok (.goto 4, 3) := by decide +kernel
theorem dX7_needs_20 : decode cX7_needs 20 = .ok (.iconst 0, 1) := by decide +kernel
theorem dX7_needs_21 : decode cX7_needs 21 = .ok (.putfield 210, 3) := by decide +kernel
theorem dX7_needs_24 : decode cX7_needs 24 = .ok (.aload_n 0, 1) := by decide +kernel
theorem dX7_needs_25 : decode cX7_needs 25 = .ok (.dup, 1) := by decide +kernel
theorem dX7_needs_26 : decode cX7_needs 26 = .ok (.getfield 207, 3) := by decide +kernel
theorem dX7_needs_29 : decode cX7_needs 29 = .ok (.aload_n 0, 1) := by decide +kernel
theorem dX7_needs_30 : decode cX7_needs 30 = .ok (.getfield 210, 3) := by decide +kernel
theorem dX7_needs_33 : decode cX7_needs 33 = .ok (.ifCond .eq 7, 3) := by decide +kernel
theorem dX7_needs_36 : decode cX7_needs 36 = .ok (.iconst 0, 1) := by decide +kernel
theorem dX7_needs_37 : decode cX7_needs 37 = .ok (.goto 4, 3) := by decide +kernel
theorem dX7_needs_40 : decode cX7_needs 40 = .ok (.iconst 1, 1) := by decide +kernel
theorem dX7_needs_41 : decode cX7_needs 41 = .ok (.iadd, 1) := by decide +kernel
theorem dX7_needs_42 : decode cX7_needs 42 = .ok (.putfield 207, 3) := by decide +kernel
theorem dX7_needs_45 : decode cX7_needs 45 = .ok (.return_, 1) := by decide +kernel
set_option maxRecDepth 100000 in
set_option maxHeartbeats 4000000 in
theorem C_X7_needs (l : Launch) (E : gE) (x : gX) {v1 : Int32} {M : gM} {M' : gM} (hf : f_X7_needs v1 M = some M') : gM0 l E yX7_needs (.code yX7_needs cX7_needs 2 none) (gR 1 20) M x [.ref (E.2.1 150), .int v1] none M' := by
  refine gMet (by decide +kernel) (Nat.le_of_ble_eq_true rfl) ?_
  intro p e s m args below meth c H locs ls Q hC hl hI kr kv
  replace hC : gC p s m args c cX7_needs 2 RX7 E := hC
  replace hl : lv_has ls 2 [(0, .ref (E.2.1 150)), (1, .int v1)] := hl
  have hx := hC.1
  have hb := hC.2.1
  unfold f_X7_needs at hf
  refine lv_aload_n hx hb dX7_needs_0 rfl (lv_at hl 0 rfl) ?_
  refine lv_aload_n hx hb dX7_needs_1 rfl (lv_at hl 0 rfl) ?_
  refine gt_X7_X7_isWrong hC hI dX7_needs_2 ?_
  refine lv_if_ne (tgt := 16) hx hb dX7_needs_5 rfl (fun h1 => ?_) (fun h1 => ?_)
  · replace hf := gifn h1 hf
    refine lv_iconst (v := 1) hx hb dX7_needs_16 (by decide) ?_
    refine lv_goto (tgt := 21) hx hb dX7_needs_17 rfl ?_
    obtain ⟨M2, eM2, hf⟩ := glet hf
    refine pt_X7_X7_isWrong hC hI rfl rfl dX7_needs_21 (fun H locs hI => ?_)
    replace hI := g_mem eM2 hI
    refine lv_aload_n hx hb dX7_needs_24 rfl (lv_at hl 0 rfl) ?_
    refine lv_dup hx hb dX7_needs_25 rfl ?_
    refine gt_X7_X7_spot hC hI dX7_needs_26 ?_
    refine lv_aload_n hx hb dX7_needs_29 rfl (lv_at hl 0 rfl) ?_
    refine gt_X7_X7_isWrong hC hI dX7_needs_30 ?_
    refine lv_if_eq (tgt := 40) hx hb dX7_needs_33 rfl (fun h3 => ?_) (fun h3 => ?_)
    · replace hf := gif h3 hf
      refine lv_iconst (v := 1) hx hb dX7_needs_40 (by decide) ?_
      refine lv_iadd hx hb dX7_needs_41 ?_
      obtain ⟨M4, eM4, hf⟩ := glet hf
      refine pt_X7_X7_spot hC hI dX7_needs_42 (fun H locs hI => ?_)
      replace hI := g_mem eM4 hI
      exact kv _ _ _ _ _ (grv hf) hI rfl dX7_needs_45
    · replace hf := gifn h3 hf
      refine lv_iconst (v := 0) hx hb dX7_needs_36 (by decide) ?_
      refine lv_goto (tgt := 41) hx hb dX7_needs_37 rfl ?_
      refine lv_iadd hx hb dX7_needs_41 ?_
      obtain ⟨M5, eM5, hf⟩ := glet hf
      refine pt_X7_X7_spot hC hI dX7_needs_42 (fun H locs hI => ?_)
      replace hI := g_mem eM5 hI
      exact kv _ _ _ _ _ (grv hf) hI rfl dX7_needs_45
  · replace hf := gif h1 hf
    refine lv_aload_n hx hb dX7_needs_8 rfl (lv_at hl 0 rfl) ?_
    obtain ⟨r6, hr7, hf⟩ := gbind hf
    have hr7 := C_X7_here l E x  hr7
    refine g_callVi (rest := [.ref (E.2.1 150)]) hC hI hr7 Y_X7_here V_X7_here w1779 (rcv_X7 hC hI) ⟨rfl, rfl⟩ ⟨Nat.le_of_ble_eq_true rfl, Nat.le_of_ble_eq_true rfl⟩ rfl hl.1 rfl (Nat.le_of_ble_eq_true rfl) dX7_needs_9 ⟨Nat.le_of_ble_eq_true rfl, Nat.le_of_ble_eq_true rfl⟩ (fun H locs hI => ?_)
    refine lv_iload_n hx hb dX7_needs_12 rfl (lv_at hl 1 rfl) ?_
    refine lv_icmp_eq (tgt := 20) hx hb dX7_needs_13 rfl (fun h8 => ?_) (fun h8 => ?_)
    · replace hf := gif h8 hf
      refine lv_iconst (v := 0) hx hb dX7_needs_20 (by decide) ?_
      obtain ⟨M9, eM9, hf⟩ := glet hf
      refine pt_X7_X7_isWrong hC hI rfl rfl dX7_needs_21 (fun H locs hI => ?_)
      replace hI := g_mem eM9 hI
      refine lv_aload_n hx hb dX7_needs_24 rfl (lv_at hl 0 rfl) ?_
      refine lv_dup hx hb dX7_needs_25 rfl ?_
      refine gt_X7_X7_spot hC hI dX7_needs_26 ?_
      refine lv_aload_n hx hb dX7_needs_29 rfl (lv_at hl 0 rfl) ?_
      refine gt_X7_X7_isWrong hC hI dX7_needs_30 ?_
      refine lv_if_eq (tgt := 40) hx hb dX7_needs_33 rfl (fun h10 => ?_) (fun h10 => ?_)
      · replace hf := gif h10 hf
        refine lv_iconst (v := 1) hx hb dX7_needs_40 (by decide) ?_
        refine lv_iadd hx hb dX7_needs_41 ?_
        obtain ⟨M11, eM11, hf⟩ := glet hf
        refine pt_X7_X7_spot hC hI dX7_needs_42 (fun H locs hI => ?_)
        replace hI := g_mem eM11 hI
        exact kv _ _ _ _ _ (grv hf) hI rfl dX7_needs_45
      · replace hf := gifn h10 hf
        refine lv_iconst (v := 0) hx hb dX7_needs_36 (by decide) ?_
        refine lv_goto (tgt := 41) hx hb dX7_needs_37 rfl ?_
        refine lv_iadd hx hb dX7_needs_41 ?_
        obtain ⟨M12, eM12, hf⟩ := glet hf
        refine pt_X7_X7_spot hC hI dX7_needs_42 (fun H locs hI => ?_)
        replace hI := g_mem eM12 hI
        exact kv _ _ _ _ _ (grv hf) hI rfl dX7_needs_45
    · replace hf := gifn h8 hf
      refine lv_iconst (v := 1) hx hb dX7_needs_16 (by decide) ?_
      refine lv_goto (tgt := 21) hx hb dX7_needs_17 rfl ?_
      obtain ⟨M13, eM13, hf⟩ := glet hf
      refine pt_X7_X7_isWrong hC hI rfl rfl dX7_needs_21 (fun H locs hI => ?_)
      replace hI := g_mem eM13 hI
      refine lv_aload_n hx hb dX7_needs_24 rfl (lv_at hl 0 rfl) ?_
      refine lv_dup hx hb dX7_needs_25 rfl ?_
      refine gt_X7_X7_spot hC hI dX7_needs_26 ?_
      refine lv_aload_n hx hb dX7_needs_29 rfl (lv_at hl 0 rfl) ?_
      refine gt_X7_X7_isWrong hC hI dX7_needs_30 ?_
      refine lv_if_eq (tgt := 40) hx hb dX7_needs_33 rfl (fun h14 => ?_) (fun h14 => ?_)
      · replace hf := gif h14 hf
        refine lv_iconst (v := 1) hx hb dX7_needs_40 (by decide) ?_
        refine lv_iadd hx hb dX7_needs_41 ?_
        obtain ⟨M15, eM15, hf⟩ := glet hf
        refine pt_X7_X7_spot hC hI dX7_needs_42 (fun H locs hI => ?_)
        replace hI := g_mem eM15 hI
        exact kv _ _ _ _ _ (grv hf) hI rfl dX7_needs_45
      · replace hf := gifn h14 hf
        refine lv_iconst (v := 0) hx hb dX7_needs_36 (by decide) ?_
        refine lv_goto (tgt := 41) hx hb dX7_needs_37 rfl ?_
        refine lv_iadd hx hb dX7_needs_41 ?_
        obtain ⟨M16, eM16, hf⟩ := glet hf
        refine pt_X7_X7_spot hC hI dX7_needs_42 (fun H locs hI => ?_)
        replace hI := g_mem eM16 hI
        exact kv _ _ _ _ _ (grv hf) hI rfl dX7_needs_45
theorem dX7_needsThree_0 : decode cX7_needsThree 0 = .ok (.aload_n 0, 1) := by decide +kernel
theorem dX7_needsThree_1 : decode cX7_needsThree 1 = .ok (.iload_n 1, 1) := by decide +kernel
theorem dX7_needsThree_2 : decode cX7_needsThree 2 = .ok (.invokevirtual 217, 3) := by decide +kernel
theorem dX7_needsThree_5 : decode cX7_needsThree 5 = .ok (.aload_n 0, 1) := by decide +kernel
theorem dX7_needsThree_6 : decode cX7_needsThree 6 = .ok (.iload_n 2, 1) := by decide +kernel
theorem dX7_needsThree_7 : decode cX7_needsThree 7 = .ok (.invokevirtual 217, 3) := by decide +kernel
theorem dX7_needsThree_10 : decode cX7_needsThree 10 = .ok (.aload_n 0, 1) := by decide +kernel
theorem dX7_needsThree_11 : decode cX7_needsThree 11 = .ok (.iload_n 3, 1) := by decide +kernel
theorem dX7_needsThree_12 : decode cX7_needsThree 12 = .ok (.invokevirtual 217, 3) := by decide +kernel
theorem dX7_needsThree_15 : decode cX7_needsThree 15 = .ok (.return_, 1) := by decide +kernel
set_option maxRecDepth 100000 in
set_option maxHeartbeats 4000000 in
theorem C_X7_needsThree (l : Launch) (E : gE) (x : gX) {v1 v2 v3 : Int32} {M : gM} {M' : gM} (hf : f_X7_needsThree v1 v2 v3 M = some M') : gM0 l E yX7_needsThree (.code yX7_needsThree cX7_needsThree 4 none) (gR 2 41) M x [.ref (E.2.1 150), .int v1, .int v2, .int v3] none M' := by
  refine gMet (by decide +kernel) (Nat.le_of_ble_eq_true rfl) ?_
  intro p e s m args below meth c H locs ls Q hC hl hI kr kv
  replace hC : gC p s m args c cX7_needsThree 4 RX7 E := hC
  replace hl : lv_has ls 4 [(0, .ref (E.2.1 150)), (1, .int v1), (2, .int v2), (3, .int v3)] := hl
  have hx := hC.1
  have hb := hC.2.1
  unfold f_X7_needsThree at hf
  refine lv_aload_n hx hb dX7_needsThree_0 rfl (lv_at hl 0 rfl) ?_
  refine lv_iload_n hx hb dX7_needsThree_1 rfl (lv_at hl 1 rfl) ?_
  obtain ⟨r1, hr2, hf⟩ := gbind hf
  have hr2 := C_X7_needs l E x  hr2
  refine g_callVv (rest := []) hC hI hr2 Y_X7_needs V_X7_needs w1787 (rcv_X7 hC hI) ⟨rfl, rfl⟩ ⟨Nat.le_of_ble_eq_true rfl, Nat.le_of_ble_eq_true rfl⟩ rfl hl.1 rfl (Nat.le_of_ble_eq_true rfl) dX7_needsThree_2 ⟨Nat.le_of_ble_eq_true rfl, Nat.le_of_ble_eq_true rfl⟩ (fun H locs hI => ?_)
  refine lv_aload_n hx hb dX7_needsThree_5 rfl (lv_at hl 0 rfl) ?_
  refine lv_iload_n hx hb dX7_needsThree_6 rfl (lv_at hl 2 rfl) ?_
  obtain ⟨r3, hr4, hf⟩ := gbind hf
  have hr4 := C_X7_needs l E x  hr4
  refine g_callVv (rest := []) hC hI hr4 Y_X7_needs V_X7_needs w1787 (rcv_X7 hC hI) ⟨rfl, rfl⟩ ⟨Nat.le_of_ble_eq_true rfl, Nat.le_of_ble_eq_true rfl⟩ rfl hl.1 rfl (Nat.le_of_ble_eq_true rfl) dX7_needsThree_7 ⟨Nat.le_of_ble_eq_true rfl, Nat.le_of_ble_eq_true rfl⟩ (fun H locs hI => ?_)
  refine lv_aload_n hx hb dX7_needsThree_10 rfl (lv_at hl 0 rfl) ?_
  refine lv_iload_n hx hb dX7_needsThree_11 rfl (lv_at hl 3 rfl) ?_
  obtain ⟨r5, hr6, hf⟩ := gbind hf
  have hr6 := C_X7_needs l E x  hr6
  refine g_callVv (rest := []) hC hI hr6 Y_X7_needs V_X7_needs w1787 (rcv_X7 hC hI) ⟨rfl, rfl⟩ ⟨Nat.le_of_ble_eq_true rfl, Nat.le_of_ble_eq_true rfl⟩ rfl hl.1 rfl (Nat.le_of_ble_eq_true rfl) dX7_needsThree_12 ⟨Nat.le_of_ble_eq_true rfl, Nat.le_of_ble_eq_true rfl⟩ (fun H locs hI => ?_)
  exact kv _ _ _ _ _ (grv hf) hI rfl dX7_needsThree_15
theorem dX7_digits_0 : decode cX7_digits 0 = .ok (.aload_n 0, 1) := by decide +kernel
theorem dX7_digits_1 : decode cX7_digits 1 = .ok (.aload_n 0, 1) := by decide +kernel
theorem dX7_digits_2 : decode cX7_digits 2 = .ok (.getfield 210, 3) := by decide +kernel
theorem dX7_digits_5 : decode cX7_digits 5 = .ok (.ifCond .ne 17, 3) := by decide +kernel
theorem dX7_digits_8 : decode cX7_digits 8 = .ok (.aload_n 0, 1) := by decide +kernel
theorem dX7_digits_9 : decode cX7_digits 9 = .ok (.invokevirtual 214, 3) := by decide +kernel
theorem dX7_digits_12 : decode cX7_digits 12 = .ok (.bipush 48, 2) := by decide +kernel
theorem dX7_digits_14 : decode cX7_digits 14 = .ok (.bipush 57, 2) := by decide +kernel
theorem dX7_digits_16 : decode cX7_digits 16 = .ok (.invokestatic 52, 3) := by decide +kernel
theorem dX7_digits_19 : decode cX7_digits 19 = .ok (.ifCond .ne 7, 3) := by decide +kernel
theorem dX7_digits_22 : decode cX7_digits 22 = .ok (.iconst 1, 1) := by decide +kernel
theorem dX7_digits_23 : decode cX7_digits 23 = .ok (.goto 4, 3) := by decide +kernel
theorem dX7_digits_26 : decode cX7_digits 26 = .ok (.iconst 0, 1) := by decide +kernel
theorem dX7_digits_27 : decode cX7_digits 27 = .ok (.putfield 210, 3) := by decide +kernel
theorem dX7_digits_30 : decode cX7_digits 30 = .ok (.iconst 0, 1) := by decide +kernel
theorem dX7_digits_31 : decode cX7_digits 31 = .ok (.istore_n 2, 1) := by decide +kernel
theorem dX7_digits_32 : decode cX7_digits 32 = .ok (.iconst 0, 1) := by decide +kernel
theorem dX7_digits_33 : decode cX7_digits 33 = .ok (.istore_n 3, 1) := by decide +kernel
theorem dX7_digits_34 : decode cX7_digits 34 = .ok (.aload_n 0, 1) := by decide +kernel
theorem dX7_digits_35 : decode cX7_digits 35 = .ok (.getfield 210, 3) := by decide +kernel
theorem dX7_digits_38 : decode cX7_digits 38 = .ok (.ifCond .ne 51, 3) := by decide +kernel
theorem dX7_digits_41 : decode cX7_digits 41 = .ok (.iload_n 3, 1) := by decide +kernel
theorem dX7_digits_42 : decode cX7_digits 42 = .ok (.iload_n 1, 1) := by decide +kernel
theorem dX7_digits_43 : decode cX7_digits 43 = .ok (.if_icmp .ge 46, 3) := by decide +kernel
theorem dX7_digits_46 : decode cX7_digits 46 = .ok (.aload_n 0, 1) := by decide +kernel
theorem dX7_digits_47 : decode cX7_digits 47 = .ok (.invokevirtual 214, 3) := by decide +kernel
theorem dX7_digits_50 : decode cX7_digits 50 = .ok (.bipush 48, 2) := by decide +kernel
theorem dX7_digits_52 : decode cX7_digits 52 = .ok (.bipush 57, 2) := by decide +kernel
theorem dX7_digits_54 : decode cX7_digits 54 = .ok (.invokestatic 52, 3) := by decide +kernel
theorem dX7_digits_57 : decode cX7_digits 57 = .ok (.ifCond .eq 32, 3) := by decide +kernel
theorem dX7_digits_60 : decode cX7_digits 60 = .ok (.bipush 10, 2) := by decide +kernel
theorem dX7_digits_62 : decode cX7_digits 62 = .ok (.iload_n 2, 1) := by decide +kernel
theorem dX7_digits_63 : decode cX7_digits 63 = .ok (.imul, 1) := by decide +kernel
theorem dX7_digits_64 : decode cX7_digits 64 = .ok (.aload_n 0, 1) := by decide +kernel
theorem dX7_digits_65 : decode cX7_digits 65 = .ok (.invokevirtual 214, 3) := by decide +kernel
theorem dX7_digits_68 : decode cX7_digits 68 = .ok (.iadd, 1) := by decide +kernel
theorem dX7_digits_69 : decode cX7_digits 69 = .ok (.bipush 48, 2) := by decide +kernel
theorem dX7_digits_71 : decode cX7_digits 71 = .ok (.isub, 1) := by decide +kernel
theorem dX7_digits_72 : decode cX7_digits 72 = .ok (.istore_n 2, 1) := by decide +kernel
theorem dX7_digits_73 : decode cX7_digits 73 = .ok (.aload_n 0, 1) := by decide +kernel
theorem dX7_digits_74 : decode cX7_digits 74 = .ok (.dup, 1) := by decide +kernel
theorem dX7_digits_75 : decode cX7_digits 75 = .ok (.getfield 207, 3) := by decide +kernel
theorem dX7_digits_78 : decode cX7_digits 78 = .ok (.iconst 1, 1) := by decide +kernel
theorem dX7_digits_79 : decode cX7_digits 79 = .ok (.iadd, 1) := by decide +kernel
theorem dX7_digits_80 : decode cX7_digits 80 = .ok (.putfield 207, 3) := by decide +kernel
theorem dX7_digits_83 : decode cX7_digits 83 = .ok (.iinc 3 1, 3) := by decide +kernel
theorem dX7_digits_86 : decode cX7_digits 86 = .ok (.goto (-52), 3) := by decide +kernel
theorem dX7_digits_89 : decode cX7_digits 89 = .ok (.iload_n 2, 1) := by decide +kernel
theorem dX7_digits_90 : decode cX7_digits 90 = .ok (.ireturn, 1) := by decide +kernel
set_option maxRecDepth 100000 in
set_option maxHeartbeats 4000000 in
theorem C_X7_digits (l : Launch) (E : gE) (x : gX) {v1 : Int32} {M : gM} {r : Int32} {M' : gM} (hf : f_X7_digits v1 M = some (r, M')) : gM0 l E yX7_digits (.code yX7_digits cX7_digits 4 (some .int)) (gR 1 22) M x [.ref (E.2.1 150), .int v1] (some (.int r)) M' := by
  refine gMet (by decide +kernel) (Nat.le_of_ble_eq_true rfl) ?_
  intro p e s m args below meth c H locs ls Q hC hl hI kr kv
  replace hC : gC p s m args c cX7_digits 4 RX7 E := hC
  replace hl : lv_has ls 4 [(0, .ref (E.2.1 150)), (1, .int v1)] := hl
  have hx := hC.1
  have hb := hC.2.1
  have L34 : ∀ (v1 : Int32) (n : Nat) (v3 : Int32) (v2 : Int32) (M : gM), f_X7_digits_L34 v1 n v3 v2 M = some (r, M') → ∀ (H : Heap) (locs : List Loc) (ls : Array Slot), gI E s M x H locs → lv_has ls 4 [(3, .int v3), (2, .int v2), (0, .ref (E.2.1 150)), (1, .int v1)] → W p l e (gR 1 22) s m args below meth c H locs 0 0 Q (F0 m 34 ls []) := by
    intro v1 n
    induction n with
    | zero => intro v3 v2 M hf; rw [f_X7_digits_L34] at hf; cases hf
    | succ n ih =>
      intro v3 v2 M hf H locs ls hI hl
      rw [f_X7_digits_L34] at hf
      refine lv_aload_n hx hb dX7_digits_34 rfl (lv_at hl 2 rfl) ?_
      refine gt_X7_X7_isWrong hC hI dX7_digits_35 ?_
      refine lv_if_ne (tgt := 89) hx hb dX7_digits_38 rfl (fun h3 => ?_) (fun h3 => ?_)
      · replace hf := gifn h3 hf
        refine lv_iload_n hx hb dX7_digits_89 rfl (lv_at hl 1 rfl) ?_
        exact kr _ _ _ _ _ _ (grw hf) hI ⟨.int, rfl, rfl⟩ dX7_digits_90
      · replace hf := gif h3 hf
        refine lv_iload_n hx hb dX7_digits_41 rfl (lv_at hl 0 rfl) ?_
        refine lv_iload_n hx hb dX7_digits_42 rfl (lv_at hl 3 rfl) ?_
        refine lv_icmp_ge (tgt := 89) hx hb dX7_digits_43 rfl (fun h4 => ?_) (fun h4 => ?_)
        · replace hf := gif h4 hf
          refine lv_iload_n hx hb dX7_digits_89 rfl (lv_at hl 1 rfl) ?_
          exact kr _ _ _ _ _ _ (grw hf) hI ⟨.int, rfl, rfl⟩ dX7_digits_90
        · replace hf := gifn h4 hf
          refine lv_aload_n hx hb dX7_digits_46 rfl (lv_at hl 2 rfl) ?_
          obtain ⟨r5, hr6, hf⟩ := gbind hf
          have hr6 := C_X7_here l E x  hr6
          refine g_callVi (rest := []) hC hI hr6 Y_X7_here V_X7_here w1779 (rcv_X7 hC hI) ⟨rfl, rfl⟩ ⟨Nat.le_of_ble_eq_true rfl, Nat.le_of_ble_eq_true rfl⟩ rfl hl.1 rfl (Nat.le_of_ble_eq_true rfl) dX7_digits_47 ⟨Nat.le_of_ble_eq_true rfl, Nat.le_of_ble_eq_true rfl⟩ (fun H locs hI => ?_)
          refine lv_bipush (v := 48) hx hb dX7_digits_50 (by decide) ?_
          refine lv_bipush (v := 57) hx hb dX7_digits_52 (by decide) ?_
          obtain ⟨r7, hr8, hf⟩ := gbind hf
          have hr8 := C_X7_in l E x  hr8
          refine g_callSi (rest := []) hC hI hr8 Y_X7_in S_X7_in w1398 ⟨rfl, rfl⟩ ⟨Nat.le_of_ble_eq_true rfl, Nat.le_of_ble_eq_true rfl⟩ rfl hl.1 rfl (Nat.le_of_ble_eq_true rfl) dX7_digits_54 ⟨Nat.le_of_ble_eq_true rfl, Nat.le_of_ble_eq_true rfl⟩ (fun H locs hI => ?_)
          refine lv_if_eq (tgt := 89) hx hb dX7_digits_57 rfl (fun h9 => ?_) (fun h9 => ?_)
          · replace hf := gif h9 hf
            refine lv_iload_n hx hb dX7_digits_89 rfl (lv_at hl 1 rfl) ?_
            exact kr _ _ _ _ _ _ (grw hf) hI ⟨.int, rfl, rfl⟩ dX7_digits_90
          · replace hf := gifn h9 hf
            refine lv_bipush (v := 10) hx hb dX7_digits_60 (by decide) ?_
            refine lv_iload_n hx hb dX7_digits_62 rfl (lv_at hl 1 rfl) ?_
            refine lv_imul hx hb dX7_digits_63 ?_
            refine lv_aload_n hx hb dX7_digits_64 rfl (lv_at hl 2 rfl) ?_
            obtain ⟨r10, hr11, hf⟩ := gbind hf
            have hr11 := C_X7_here l E x  hr11
            refine g_callVi (rest := [.int (10 * v2)]) hC hI hr11 Y_X7_here V_X7_here w1779 (rcv_X7 hC hI) ⟨rfl, rfl⟩ ⟨Nat.le_of_ble_eq_true rfl, Nat.le_of_ble_eq_true rfl⟩ rfl hl.1 rfl (Nat.le_of_ble_eq_true rfl) dX7_digits_65 ⟨Nat.le_of_ble_eq_true rfl, Nat.le_of_ble_eq_true rfl⟩ (fun H locs hI => ?_)
            refine lv_iadd hx hb dX7_digits_68 ?_
            refine lv_bipush (v := 48) hx hb dX7_digits_69 (by decide) ?_
            refine lv_isub hx hb dX7_digits_71 ?_
            obtain ⟨z12, ez12, hf⟩ := glet hf
            refine g_top ez12 ?_
            refine lv_istore_n (lv' := [(2, .int z12), (3, .int v3), (0, .ref (E.2.1 150)), (1, .int v1)]) hx hb dX7_digits_72 rfl hl (by decide) rfl (fun ls hl => ?_)
            refine lv_aload_n hx hb dX7_digits_73 rfl (lv_at hl 2 rfl) ?_
            refine lv_dup hx hb dX7_digits_74 rfl ?_
            refine gt_X7_X7_spot hC hI dX7_digits_75 ?_
            refine lv_iconst (v := 1) hx hb dX7_digits_78 (by decide) ?_
            refine lv_iadd hx hb dX7_digits_79 ?_
            obtain ⟨M13, eM13, hf⟩ := glet hf
            refine pt_X7_X7_spot hC hI dX7_digits_80 (fun H locs hI => ?_)
            replace hI := g_mem eM13 hI
            refine lv_iinc (k := 1) (v := v3 + 1) (lv' := [(3, .int (v3 + 1)), (2, .int z12), (0, .ref (E.2.1 150)), (1, .int v1)]) hx hb dX7_digits_83 hl rfl rfl (by decide) rfl (fun ls hl => ?_)
            refine lv_goto (tgt := 34) hx hb dX7_digits_86 rfl ?_
            exact ih (v3 + 1) z12 M13 hf _ _ _ hI (lv_sub hl [0, 1, 2, 3] rfl)
  unfold f_X7_digits at hf
  refine lv_aload_n hx hb dX7_digits_0 rfl (lv_at hl 0 rfl) ?_
  refine lv_aload_n hx hb dX7_digits_1 rfl (lv_at hl 0 rfl) ?_
  refine gt_X7_X7_isWrong hC hI dX7_digits_2 ?_
  refine lv_if_ne (tgt := 22) hx hb dX7_digits_5 rfl (fun h1 => ?_) (fun h1 => ?_)
  · replace hf := gifn h1 hf
    refine lv_iconst (v := 1) hx hb dX7_digits_22 (by decide) ?_
    refine lv_goto (tgt := 27) hx hb dX7_digits_23 rfl ?_
    obtain ⟨M2, eM2, hf⟩ := glet hf
    refine pt_X7_X7_isWrong hC hI rfl rfl dX7_digits_27 (fun H locs hI => ?_)
    replace hI := g_mem eM2 hI
    refine lv_iconst (v := 0) hx hb dX7_digits_30 (by decide) ?_
    refine lv_istore_n (lv' := [(2, .int 0), (0, .ref (E.2.1 150)), (1, .int v1)]) hx hb dX7_digits_31 rfl hl (by decide) rfl (fun ls hl => ?_)
    refine lv_iconst (v := 0) hx hb dX7_digits_32 (by decide) ?_
    refine lv_istore_n (lv' := [(3, .int 0), (2, .int 0), (0, .ref (E.2.1 150)), (1, .int v1)]) hx hb dX7_digits_33 rfl hl (by decide) rfl (fun ls hl => ?_)
    exact L34 v1 gF 0 0 M2 hf _ _ _ hI (lv_sub hl [0, 1, 2, 3] rfl)
  · replace hf := gif h1 hf
    refine lv_aload_n hx hb dX7_digits_8 rfl (lv_at hl 0 rfl) ?_
    obtain ⟨r14, hr15, hf⟩ := gbind hf
    have hr15 := C_X7_here l E x  hr15
    refine g_callVi (rest := [.ref (E.2.1 150)]) hC hI hr15 Y_X7_here V_X7_here w1779 (rcv_X7 hC hI) ⟨rfl, rfl⟩ ⟨Nat.le_of_ble_eq_true rfl, Nat.le_of_ble_eq_true rfl⟩ rfl hl.1 rfl (Nat.le_of_ble_eq_true rfl) dX7_digits_9 ⟨Nat.le_of_ble_eq_true rfl, Nat.le_of_ble_eq_true rfl⟩ (fun H locs hI => ?_)
    refine lv_bipush (v := 48) hx hb dX7_digits_12 (by decide) ?_
    refine lv_bipush (v := 57) hx hb dX7_digits_14 (by decide) ?_
    obtain ⟨r16, hr17, hf⟩ := gbind hf
    have hr17 := C_X7_in l E x  hr17
    refine g_callSi (rest := [.ref (E.2.1 150)]) hC hI hr17 Y_X7_in S_X7_in w1398 ⟨rfl, rfl⟩ ⟨Nat.le_of_ble_eq_true rfl, Nat.le_of_ble_eq_true rfl⟩ rfl hl.1 rfl (Nat.le_of_ble_eq_true rfl) dX7_digits_16 ⟨Nat.le_of_ble_eq_true rfl, Nat.le_of_ble_eq_true rfl⟩ (fun H locs hI => ?_)
    refine lv_if_ne (tgt := 26) hx hb dX7_digits_19 rfl (fun h18 => ?_) (fun h18 => ?_)
    · replace hf := gifn h18 hf
      refine lv_iconst (v := 0) hx hb dX7_digits_26 (by decide) ?_
      obtain ⟨M19, eM19, hf⟩ := glet hf
      refine pt_X7_X7_isWrong hC hI rfl rfl dX7_digits_27 (fun H locs hI => ?_)
      replace hI := g_mem eM19 hI
      refine lv_iconst (v := 0) hx hb dX7_digits_30 (by decide) ?_
      refine lv_istore_n (lv' := [(2, .int 0), (0, .ref (E.2.1 150)), (1, .int v1)]) hx hb dX7_digits_31 rfl hl (by decide) rfl (fun ls hl => ?_)
      refine lv_iconst (v := 0) hx hb dX7_digits_32 (by decide) ?_
      refine lv_istore_n (lv' := [(3, .int 0), (2, .int 0), (0, .ref (E.2.1 150)), (1, .int v1)]) hx hb dX7_digits_33 rfl hl (by decide) rfl (fun ls hl => ?_)
      exact L34 v1 gF 0 0 M19 hf _ _ _ hI (lv_sub hl [0, 1, 2, 3] rfl)
    · replace hf := gif h18 hf
      refine lv_iconst (v := 1) hx hb dX7_digits_22 (by decide) ?_
      refine lv_goto (tgt := 27) hx hb dX7_digits_23 rfl ?_
      obtain ⟨M20, eM20, hf⟩ := glet hf
      refine pt_X7_X7_isWrong hC hI rfl rfl dX7_digits_27 (fun H locs hI => ?_)
      replace hI := g_mem eM20 hI
      refine lv_iconst (v := 0) hx hb dX7_digits_30 (by decide) ?_
      refine lv_istore_n (lv' := [(2, .int 0), (0, .ref (E.2.1 150)), (1, .int v1)]) hx hb dX7_digits_31 rfl hl (by decide) rfl (fun ls hl => ?_)
      refine lv_iconst (v := 0) hx hb dX7_digits_32 (by decide) ?_
      refine lv_istore_n (lv' := [(3, .int 0), (2, .int 0), (0, .ref (E.2.1 150)), (1, .int v1)]) hx hb dX7_digits_33 rfl hl (by decide) rfl (fun ls hl => ?_)
      exact L34 v1 gF 0 0 M20 hf _ _ _ hI (lv_sub hl [0, 1, 2, 3] rfl)
theorem dX7_digitsAfter_0 : decode cX7_digitsAfter 0 = .ok (.aload_n 0, 1) := by decide +kernel
theorem dX7_digitsAfter_1 : decode cX7_digitsAfter 1 = .ok (.iload_n 1, 1) := by decide +kernel
theorem dX7_digitsAfter_2 : decode cX7_digitsAfter 2 = .ok (.invokevirtual 217, 3) := by decide +kernel
theorem dX7_digitsAfter_5 : decode cX7_digitsAfter 5 = .ok (.aload_n 0, 1) := by decide +kernel
theorem dX7_digitsAfter_6 : decode cX7_digitsAfter 6 = .ok (.iload_n 2, 1) := by decide +kernel
theorem dX7_digitsAfter_7 : decode cX7_digitsAfter 7 = .ok (.invokevirtual 220, 3) := by decide +kernel
theorem dX7_digitsAfter_10 : decode cX7_digitsAfter 10 = .ok (.ireturn, 1) := by decide +kernel
set_option maxRecDepth 100000 in
set_option maxHeartbeats 4000000 in
theorem C_X7_digitsAfter (l : Launch) (E : gE) (x : gX) {v1 v2 : Int32} {M : gM} {r : Int32} {M' : gM} (hf : f_X7_digitsAfter v1 v2 M = some (r, M')) : gM0 l E yX7_digitsAfter (.code yX7_digitsAfter cX7_digitsAfter 3 (some .int)) (gR 2 45) M x [.ref (E.2.1 150), .int v1, .int v2] (some (.int r)) M' := by
  refine gMet (by decide +kernel) (Nat.le_of_ble_eq_true rfl) ?_
  intro p e s m args below meth c H locs ls Q hC hl hI kr kv
  replace hC : gC p s m args c cX7_digitsAfter 3 RX7 E := hC
  replace hl : lv_has ls 3 [(0, .ref (E.2.1 150)), (1, .int v1), (2, .int v2)] := hl
  have hx := hC.1
  have hb := hC.2.1
  unfold f_X7_digitsAfter at hf
  refine lv_aload_n hx hb dX7_digitsAfter_0 rfl (lv_at hl 0 rfl) ?_
  refine lv_iload_n hx hb dX7_digitsAfter_1 rfl (lv_at hl 1 rfl) ?_
  obtain ⟨r1, hr2, hf⟩ := gbind hf
  have hr2 := C_X7_needs l E x  hr2
  refine g_callVv (rest := []) hC hI hr2 Y_X7_needs V_X7_needs w1787 (rcv_X7 hC hI) ⟨rfl, rfl⟩ ⟨Nat.le_of_ble_eq_true rfl, Nat.le_of_ble_eq_true rfl⟩ rfl hl.1 rfl (Nat.le_of_ble_eq_true rfl) dX7_digitsAfter_2 ⟨Nat.le_of_ble_eq_true rfl, Nat.le_of_ble_eq_true rfl⟩ (fun H locs hI => ?_)
  refine lv_aload_n hx hb dX7_digitsAfter_5 rfl (lv_at hl 0 rfl) ?_
  refine lv_iload_n hx hb dX7_digitsAfter_6 rfl (lv_at hl 2 rfl) ?_
  obtain ⟨r3, hr4, hf⟩ := gbind hf
  have hr4 := C_X7_digits l E x  hr4
  refine g_callVi (rest := []) hC hI hr4 Y_X7_digits V_X7_digits w1795 (rcv_X7 hC hI) ⟨rfl, rfl⟩ ⟨Nat.le_of_ble_eq_true rfl, Nat.le_of_ble_eq_true rfl⟩ rfl hl.1 rfl (Nat.le_of_ble_eq_true rfl) dX7_digitsAfter_7 ⟨Nat.le_of_ble_eq_true rfl, Nat.le_of_ble_eq_true rfl⟩ (fun H locs hI => ?_)
  exact kr _ _ _ _ _ _ (grw hf) hI ⟨.int, rfl, rfl⟩ dX7_digitsAfter_10
theorem dX7_parsesM_0 : decode cX7_parsesM 0 = .ok (.aload_n 0, 1) := by decide +kernel
theorem dX7_parsesM_1 : decode cX7_parsesM 1 = .ok (.bipush 111, 2) := by decide +kernel
theorem dX7_parsesM_3 : decode cX7_parsesM 3 = .ok (.invokevirtual 217, 3) := by decide +kernel
theorem dX7_parsesM_6 : decode cX7_parsesM 6 = .ok (.aload_n 0, 1) := by decide +kernel
theorem dX7_parsesM_7 : decode cX7_parsesM 7 = .ok (.getfield 210, 3) := by decide +kernel
theorem dX7_parsesM_10 : decode cX7_parsesM 10 = .ok (.ifCond .ne 76, 3) := by decide +kernel
theorem dX7_parsesM_13 : decode cX7_parsesM 13 = .ok (.aload_n 0, 1) := by decide +kernel
theorem dX7_parsesM_14 : decode cX7_parsesM 14 = .ok (.invokevirtual 214, 3) := by decide +kernel
theorem dX7_parsesM_17 : decode cX7_parsesM 17 = .ok (.bipush 118, 2) := by decide +kernel
theorem dX7_parsesM_19 : decode cX7_parsesM 19 = .ok (.if_icmp .ne 67, 3) := by decide +kernel
theorem dX7_parsesM_22 : decode cX7_parsesM 22 = .ok (.aload_n 0, 1) := by decide +kernel
theorem dX7_parsesM_23 : decode cX7_parsesM 23 = .ok (.getfield 39, 3) := by decide +kernel
theorem dX7_parsesM_26 : decode cX7_parsesM 26 = .ok (.iload_n 1, 1) := by decide +kernel
theorem dX7_parsesM_27 : decode cX7_parsesM 27 = .ok (.bipush 118, 2) := by decide +kernel
theorem dX7_parsesM_29 : decode cX7_parsesM 29 = .ok (.iastore, 1) := by decide +kernel
theorem dX7_parsesM_30 : decode cX7_parsesM 30 = .ok (.aload_n 0, 1) := by decide +kernel
theorem dX7_parsesM_31 : decode cX7_parsesM 31 = .ok (.bipush 118, 2) := by decide +kernel
theorem dX7_parsesM_33 : decode cX7_parsesM 33 = .ok (.invokevirtual 217, 3) := by decide +kernel
theorem dX7_parsesM_36 : decode cX7_parsesM 36 = .ok (.aload_n 0, 1) := by decide +kernel
theorem dX7_parsesM_37 : decode cX7_parsesM 37 = .ok (.bipush 101, 2) := by decide +kernel
theorem dX7_parsesM_39 : decode cX7_parsesM 39 = .ok (.invokevirtual 217, 3) := by decide +kernel
theorem dX7_parsesM_42 : decode cX7_parsesM 42 = .ok (.aload_n 0, 1) := by decide +kernel
theorem dX7_parsesM_43 : decode cX7_parsesM 43 = .ok (.getfield 39, 3) := by decide +kernel
theorem dX7_parsesM_46 : decode cX7_parsesM 46 = .ok (.iload_n 1, 1) := by decide +kernel
theorem dX7_parsesM_47 : decode cX7_parsesM 47 = .ok (.iconst 1, 1) := by decide +kernel
theorem dX7_parsesM_48 : decode cX7_parsesM 48 = .ok (.iadd, 1) := by decide +kernel
theorem dX7_parsesM_49 : decode cX7_parsesM 49 = .ok (.aload_n 0, 1) := by decide +kernel
theorem dX7_parsesM_50 : decode cX7_parsesM 50 = .ok (.bipush 32, 2) := by decide +kernel
theorem dX7_parsesM_52 : decode cX7_parsesM 52 = .ok (.iconst 1, 1) := by decide +kernel
theorem dX7_parsesM_53 : decode cX7_parsesM 53 = .ok (.invokevirtual 223, 3) := by decide +kernel
theorem dX7_parsesM_56 : decode cX7_parsesM 56 = .ok (.iastore, 1) := by decide +kernel
theorem dX7_parsesM_57 : decode cX7_parsesM 57 = .ok (.aload_n 0, 1) := by decide +kernel
theorem dX7_parsesM_58 : decode cX7_parsesM 58 = .ok (.getfield 39, 3) := by decide +kernel
theorem dX7_parsesM_61 : decode cX7_parsesM 61 = .ok (.iload_n 1, 1) := by decide +kernel
theorem dX7_parsesM_62 : decode cX7_parsesM 62 = .ok (.iconst 2, 1) := by decide +kernel
theorem dX7_parsesM_63 : decode cX7_parsesM 63 = .ok (.iadd, 1) := by decide +kernel
theorem dX7_parsesM_64 : decode cX7_parsesM 64 = .ok (.aload_n 0, 1) := by decide +kernel
theorem dX7_parsesM_65 : decode cX7_parsesM 65 = .ok (.iconst 1, 1) := by decide +kernel
theorem dX7_parsesM_66 : decode cX7_parsesM 66 = .ok (.invokevirtual 220, 3) := by decide +kernel
theorem dX7_parsesM_69 : decode cX7_parsesM 69 = .ok (.iastore, 1) := by decide +kernel
theorem dX7_parsesM_70 : decode cX7_parsesM 70 = .ok (.aload_n 0, 1) := by decide +kernel
theorem dX7_parsesM_71 : decode cX7_parsesM 71 = .ok (.getfield 39, 3) := by decide +kernel
theorem dX7_parsesM_74 : decode cX7_parsesM 74 = .ok (.iload_n 1, 1) := by decide +kernel
theorem dX7_parsesM_75 : decode cX7_parsesM 75 = .ok (.iconst 3, 1) := by decide +kernel
theorem dX7_parsesM_76 : decode cX7_parsesM 76 = .ok (.iadd, 1) := by decide +kernel
theorem dX7_parsesM_77 : decode cX7_parsesM 77 = .ok (.aload_n 0, 1) := by decide +kernel
theorem dX7_parsesM_78 : decode cX7_parsesM 78 = .ok (.iconst 1, 1) := by decide +kernel
theorem dX7_parsesM_79 : decode cX7_parsesM 79 = .ok (.invokevirtual 220, 3) := by decide +kernel
theorem dX7_parsesM_82 : decode cX7_parsesM 82 = .ok (.iastore, 1) := by decide +kernel
theorem dX7_parsesM_83 : decode cX7_parsesM 83 = .ok (.goto 60, 3) := by decide +kernel
theorem dX7_parsesM_86 : decode cX7_parsesM 86 = .ok (.aload_n 0, 1) := by decide +kernel
theorem dX7_parsesM_87 : decode cX7_parsesM 87 = .ok (.bipush 111, 2) := by decide +kernel
theorem dX7_parsesM_89 : decode cX7_parsesM 89 = .ok (.invokevirtual 217, 3) := by decide +kernel
theorem dX7_parsesM_92 : decode cX7_parsesM 92 = .ok (.aload_n 0, 1) := by decide +kernel
theorem dX7_parsesM_93 : decode cX7_parsesM 93 = .ok (.bipush 114, 2) := by decide +kernel
theorem dX7_parsesM_95 : decode cX7_parsesM 95 = .ok (.invokevirtual 217, 3) := by decide +kernel
theorem dX7_parsesM_98 : decode cX7_parsesM 98 = .ok (.aload_n 0, 1) := by decide +kernel
theorem dX7_parsesM_99 : decode cX7_parsesM 99 = .ok (.getfield 39, 3) := by decide +kernel
theorem dX7_parsesM_102 : decode cX7_parsesM 102 = .ok (.iload_n 1, 1) := by decide +kernel
theorem dX7_parsesM_103 : decode cX7_parsesM 103 = .ok (.iconst 1, 1) := by decide +kernel
theorem dX7_parsesM_104 : decode cX7_parsesM 104 = .ok (.iadd, 1) := by decide +kernel
theorem dX7_parsesM_105 : decode cX7_parsesM 105 = .ok (.aload_n 0, 1) := by decide +kernel
theorem dX7_parsesM_106 : decode cX7_parsesM 106 = .ok (.bipush 32, 2) := by decide +kernel
theorem dX7_parsesM_108 : decode cX7_parsesM 108 = .ok (.iconst 1, 1) := by decide +kernel
theorem dX7_parsesM_109 : decode cX7_parsesM 109 = .ok (.invokevirtual 223, 3) := by decide +kernel
theorem dX7_parsesM_112 : decode cX7_parsesM 112 = .ok (.iastore, 1) := by decide +kernel
theorem dX7_parsesM_113 : decode cX7_parsesM 113 = .ok (.aload_n 0, 1) := by decide +kernel
theorem dX7_parsesM_114 : decode cX7_parsesM 114 = .ok (.getfield 39, 3) := by decide +kernel
theorem dX7_parsesM_117 : decode cX7_parsesM 117 = .ok (.iload_n 1, 1) := by decide +kernel
theorem dX7_parsesM_118 : decode cX7_parsesM 118 = .ok (.iconst 2, 1) := by decide +kernel
theorem dX7_parsesM_119 : decode cX7_parsesM 119 = .ok (.iadd, 1) := by decide +kernel
theorem dX7_parsesM_120 : decode cX7_parsesM 120 = .ok (.aload_n 0, 1) := by decide +kernel
theorem dX7_parsesM_121 : decode cX7_parsesM 121 = .ok (.bipush 32, 2) := by decide +kernel
theorem dX7_parsesM_123 : decode cX7_parsesM 123 = .ok (.iconst 1, 1) := by decide +kernel
theorem dX7_parsesM_124 : decode cX7_parsesM 124 = .ok (.invokevirtual 223, 3) := by decide +kernel
theorem dX7_parsesM_127 : decode cX7_parsesM 127 = .ok (.iastore, 1) := by decide +kernel
theorem dX7_parsesM_128 : decode cX7_parsesM 128 = .ok (.aload_n 0, 1) := by decide +kernel
theorem dX7_parsesM_129 : decode cX7_parsesM 129 = .ok (.getfield 39, 3) := by decide +kernel
theorem dX7_parsesM_132 : decode cX7_parsesM 132 = .ok (.iload_n 1, 1) := by decide +kernel
theorem dX7_parsesM_133 : decode cX7_parsesM 133 = .ok (.iconst 3, 1) := by decide +kernel
theorem dX7_parsesM_134 : decode cX7_parsesM 134 = .ok (.iadd, 1) := by decide +kernel
theorem dX7_parsesM_135 : decode cX7_parsesM 135 = .ok (.aload_n 0, 1) := by decide +kernel
theorem dX7_parsesM_136 : decode cX7_parsesM 136 = .ok (.bipush 32, 2) := by decide +kernel
theorem dX7_parsesM_138 : decode cX7_parsesM 138 = .ok (.iconst 3, 1) := by decide +kernel
theorem dX7_parsesM_139 : decode cX7_parsesM 139 = .ok (.invokevirtual 223, 3) := by decide +kernel
theorem dX7_parsesM_142 : decode cX7_parsesM 142 = .ok (.iastore, 1) := by decide +kernel
theorem dX7_parsesM_143 : decode cX7_parsesM 143 = .ok (.return_, 1) := by decide +kernel
set_option maxRecDepth 100000 in
set_option maxHeartbeats 4000000 in
theorem C_X7_parsesM (l : Launch) (E : gE) (x : gX) {v1 : Int32} {M : gM} {M' : gM} (hf : f_X7_parsesM v1 M = some M') : gM0 l E yX7_parsesM (.code yX7_parsesM cX7_parsesM 2 none) (gR 3 67) M x [.ref (E.2.1 150), .int v1] none M' := by
  refine gMet (by decide +kernel) (Nat.le_of_ble_eq_true rfl) ?_
  intro p e s m args below meth c H locs ls Q hC hl hI kr kv
  replace hC : gC p s m args c cX7_parsesM 2 RX7 E := hC
  replace hl : lv_has ls 2 [(0, .ref (E.2.1 150)), (1, .int v1)] := hl
  have hx := hC.1
  have hb := hC.2.1
  unfold f_X7_parsesM at hf
  refine lv_aload_n hx hb dX7_parsesM_0 rfl (lv_at hl 0 rfl) ?_
  refine lv_bipush (v := 111) hx hb dX7_parsesM_1 (by decide) ?_
  obtain ⟨r1, hr2, hf⟩ := gbind hf
  have hr2 := C_X7_needs l E x  hr2
  refine g_callVv (rest := []) hC hI hr2 Y_X7_needs V_X7_needs w1787 (rcv_X7 hC hI) ⟨rfl, rfl⟩ ⟨Nat.le_of_ble_eq_true rfl, Nat.le_of_ble_eq_true rfl⟩ rfl hl.1 rfl (Nat.le_of_ble_eq_true rfl) dX7_parsesM_3 ⟨Nat.le_of_ble_eq_true rfl, Nat.le_of_ble_eq_true rfl⟩ (fun H locs hI => ?_)
  refine lv_aload_n hx hb dX7_parsesM_6 rfl (lv_at hl 0 rfl) ?_
  refine gt_X7_X7_isWrong hC hI dX7_parsesM_7 ?_
  refine lv_if_ne (tgt := 86) hx hb dX7_parsesM_10 rfl (fun h3 => ?_) (fun h3 => ?_)
  · replace hf := gifn h3 hf
    refine lv_aload_n hx hb dX7_parsesM_86 rfl (lv_at hl 0 rfl) ?_
    refine lv_bipush (v := 111) hx hb dX7_parsesM_87 (by decide) ?_
    obtain ⟨r4, hr5, hf⟩ := gbind hf
    have hr5 := C_X7_needs l E x  hr5
    refine g_callVv (rest := []) hC hI hr5 Y_X7_needs V_X7_needs w1787 (rcv_X7 hC hI) ⟨rfl, rfl⟩ ⟨Nat.le_of_ble_eq_true rfl, Nat.le_of_ble_eq_true rfl⟩ rfl hl.1 rfl (Nat.le_of_ble_eq_true rfl) dX7_parsesM_89 ⟨Nat.le_of_ble_eq_true rfl, Nat.le_of_ble_eq_true rfl⟩ (fun H locs hI => ?_)
    refine lv_aload_n hx hb dX7_parsesM_92 rfl (lv_at hl 0 rfl) ?_
    refine lv_bipush (v := 114) hx hb dX7_parsesM_93 (by decide) ?_
    obtain ⟨r6, hr7, hf⟩ := gbind hf
    have hr7 := C_X7_needs l E x  hr7
    refine g_callVv (rest := []) hC hI hr7 Y_X7_needs V_X7_needs w1787 (rcv_X7 hC hI) ⟨rfl, rfl⟩ ⟨Nat.le_of_ble_eq_true rfl, Nat.le_of_ble_eq_true rfl⟩ rfl hl.1 rfl (Nat.le_of_ble_eq_true rfl) dX7_parsesM_95 ⟨Nat.le_of_ble_eq_true rfl, Nat.le_of_ble_eq_true rfl⟩ (fun H locs hI => ?_)
    refine lv_aload_n hx hb dX7_parsesM_98 rfl (lv_at hl 0 rfl) ?_
    refine gt_X7_X7_parsed hC hI dX7_parsesM_99 ?_
    refine lv_iload_n hx hb dX7_parsesM_102 rfl (lv_at hl 1 rfl) ?_
    refine lv_iconst (v := 1) hx hb dX7_parsesM_103 (by decide) ?_
    refine lv_iadd hx hb dX7_parsesM_104 ?_
    refine lv_aload_n hx hb dX7_parsesM_105 rfl (lv_at hl 0 rfl) ?_
    refine lv_bipush (v := 32) hx hb dX7_parsesM_106 (by decide) ?_
    refine lv_iconst (v := 1) hx hb dX7_parsesM_108 (by decide) ?_
    obtain ⟨r8, hr9, hf⟩ := gbind hf
    have hr9 := C_X7_digitsAfter l E x  hr9
    refine g_callVi (rest := [.int (v1 + 1), .ref (E.2.1 158)]) hC hI hr9 Y_X7_digitsAfter V_X7_digitsAfter w1791 (rcv_X7 hC hI) ⟨rfl, rfl⟩ ⟨Nat.le_of_ble_eq_true rfl, Nat.le_of_ble_eq_true rfl⟩ rfl hl.1 rfl (Nat.le_of_ble_eq_true rfl) dX7_parsesM_109 ⟨Nat.le_of_ble_eq_true rfl, Nat.le_of_ble_eq_true rfl⟩ (fun H locs hI => ?_)
    obtain ⟨h10, hf⟩ := gifN hf
    obtain ⟨M11, eM11, hf⟩ := glet hf
    refine g_iast hC hI (k := (v1 + 1).toNatClampNeg) gIA_158 h10 rfl dX7_parsesM_112 (fun H locs hI => ?_)
    replace hI := g_mem eM11 hI
    refine lv_aload_n hx hb dX7_parsesM_113 rfl (lv_at hl 0 rfl) ?_
    refine gt_X7_X7_parsed hC hI dX7_parsesM_114 ?_
    refine lv_iload_n hx hb dX7_parsesM_117 rfl (lv_at hl 1 rfl) ?_
    refine lv_iconst (v := 2) hx hb dX7_parsesM_118 (by decide) ?_
    refine lv_iadd hx hb dX7_parsesM_119 ?_
    refine lv_aload_n hx hb dX7_parsesM_120 rfl (lv_at hl 0 rfl) ?_
    refine lv_bipush (v := 32) hx hb dX7_parsesM_121 (by decide) ?_
    refine lv_iconst (v := 1) hx hb dX7_parsesM_123 (by decide) ?_
    obtain ⟨r12, hr13, hf⟩ := gbind hf
    have hr13 := C_X7_digitsAfter l E x  hr13
    refine g_callVi (rest := [.int (v1 + 2), .ref (E.2.1 158)]) hC hI hr13 Y_X7_digitsAfter V_X7_digitsAfter w1791 (rcv_X7 hC hI) ⟨rfl, rfl⟩ ⟨Nat.le_of_ble_eq_true rfl, Nat.le_of_ble_eq_true rfl⟩ rfl hl.1 rfl (Nat.le_of_ble_eq_true rfl) dX7_parsesM_124 ⟨Nat.le_of_ble_eq_true rfl, Nat.le_of_ble_eq_true rfl⟩ (fun H locs hI => ?_)
    obtain ⟨h14, hf⟩ := gifN hf
    obtain ⟨M15, eM15, hf⟩ := glet hf
    refine g_iast hC hI (k := (v1 + 2).toNatClampNeg) gIA_158 h14 rfl dX7_parsesM_127 (fun H locs hI => ?_)
    replace hI := g_mem eM15 hI
    refine lv_aload_n hx hb dX7_parsesM_128 rfl (lv_at hl 0 rfl) ?_
    refine gt_X7_X7_parsed hC hI dX7_parsesM_129 ?_
    refine lv_iload_n hx hb dX7_parsesM_132 rfl (lv_at hl 1 rfl) ?_
    refine lv_iconst (v := 3) hx hb dX7_parsesM_133 (by decide) ?_
    refine lv_iadd hx hb dX7_parsesM_134 ?_
    refine lv_aload_n hx hb dX7_parsesM_135 rfl (lv_at hl 0 rfl) ?_
    refine lv_bipush (v := 32) hx hb dX7_parsesM_136 (by decide) ?_
    refine lv_iconst (v := 3) hx hb dX7_parsesM_138 (by decide) ?_
    obtain ⟨r16, hr17, hf⟩ := gbind hf
    have hr17 := C_X7_digitsAfter l E x  hr17
    refine g_callVi (rest := [.int (v1 + 3), .ref (E.2.1 158)]) hC hI hr17 Y_X7_digitsAfter V_X7_digitsAfter w1791 (rcv_X7 hC hI) ⟨rfl, rfl⟩ ⟨Nat.le_of_ble_eq_true rfl, Nat.le_of_ble_eq_true rfl⟩ rfl hl.1 rfl (Nat.le_of_ble_eq_true rfl) dX7_parsesM_139 ⟨Nat.le_of_ble_eq_true rfl, Nat.le_of_ble_eq_true rfl⟩ (fun H locs hI => ?_)
    obtain ⟨h18, hf⟩ := gifN hf
    obtain ⟨M19, eM19, hf⟩ := glet hf
    refine g_iast hC hI (k := (v1 + 3).toNatClampNeg) gIA_158 h18 rfl dX7_parsesM_142 (fun H locs hI => ?_)
    replace hI := g_mem eM19 hI
    exact kv _ _ _ _ _ (grv hf) hI rfl dX7_parsesM_143
  · replace hf := gif h3 hf
    refine lv_aload_n hx hb dX7_parsesM_13 rfl (lv_at hl 0 rfl) ?_
    obtain ⟨r20, hr21, hf⟩ := gbind hf
    have hr21 := C_X7_here l E x  hr21
    refine g_callVi (rest := []) hC hI hr21 Y_X7_here V_X7_here w1779 (rcv_X7 hC hI) ⟨rfl, rfl⟩ ⟨Nat.le_of_ble_eq_true rfl, Nat.le_of_ble_eq_true rfl⟩ rfl hl.1 rfl (Nat.le_of_ble_eq_true rfl) dX7_parsesM_14 ⟨Nat.le_of_ble_eq_true rfl, Nat.le_of_ble_eq_true rfl⟩ (fun H locs hI => ?_)
    refine lv_bipush (v := 118) hx hb dX7_parsesM_17 (by decide) ?_
    refine lv_icmp_ne (tgt := 86) hx hb dX7_parsesM_19 rfl (fun h22 => ?_) (fun h22 => ?_)
    · replace hf := gifn h22 hf
      refine lv_aload_n hx hb dX7_parsesM_86 rfl (lv_at hl 0 rfl) ?_
      refine lv_bipush (v := 111) hx hb dX7_parsesM_87 (by decide) ?_
      obtain ⟨r23, hr24, hf⟩ := gbind hf
      have hr24 := C_X7_needs l E x  hr24
      refine g_callVv (rest := []) hC hI hr24 Y_X7_needs V_X7_needs w1787 (rcv_X7 hC hI) ⟨rfl, rfl⟩ ⟨Nat.le_of_ble_eq_true rfl, Nat.le_of_ble_eq_true rfl⟩ rfl hl.1 rfl (Nat.le_of_ble_eq_true rfl) dX7_parsesM_89 ⟨Nat.le_of_ble_eq_true rfl, Nat.le_of_ble_eq_true rfl⟩ (fun H locs hI => ?_)
      refine lv_aload_n hx hb dX7_parsesM_92 rfl (lv_at hl 0 rfl) ?_
      refine lv_bipush (v := 114) hx hb dX7_parsesM_93 (by decide) ?_
      obtain ⟨r25, hr26, hf⟩ := gbind hf
      have hr26 := C_X7_needs l E x  hr26
      refine g_callVv (rest := []) hC hI hr26 Y_X7_needs V_X7_needs w1787 (rcv_X7 hC hI) ⟨rfl, rfl⟩ ⟨Nat.le_of_ble_eq_true rfl, Nat.le_of_ble_eq_true rfl⟩ rfl hl.1 rfl (Nat.le_of_ble_eq_true rfl) dX7_parsesM_95 ⟨Nat.le_of_ble_eq_true rfl, Nat.le_of_ble_eq_true rfl⟩ (fun H locs hI => ?_)
      refine lv_aload_n hx hb dX7_parsesM_98 rfl (lv_at hl 0 rfl) ?_
      refine gt_X7_X7_parsed hC hI dX7_parsesM_99 ?_
      refine lv_iload_n hx hb dX7_parsesM_102 rfl (lv_at hl 1 rfl) ?_
      refine lv_iconst (v := 1) hx hb dX7_parsesM_103 (by decide) ?_
      refine lv_iadd hx hb dX7_parsesM_104 ?_
      refine lv_aload_n hx hb dX7_parsesM_105 rfl (lv_at hl 0 rfl) ?_
      refine lv_bipush (v := 32) hx hb dX7_parsesM_106 (by decide) ?_
      refine lv_iconst (v := 1) hx hb dX7_parsesM_108 (by decide) ?_
      obtain ⟨r27, hr28, hf⟩ := gbind hf
      have hr28 := C_X7_digitsAfter l E x  hr28
      refine g_callVi (rest := [.int (v1 + 1), .ref (E.2.1 158)]) hC hI hr28 Y_X7_digitsAfter V_X7_digitsAfter w1791 (rcv_X7 hC hI) ⟨rfl, rfl⟩ ⟨Nat.le_of_ble_eq_true rfl, Nat.le_of_ble_eq_true rfl⟩ rfl hl.1 rfl (Nat.le_of_ble_eq_true rfl) dX7_parsesM_109 ⟨Nat.le_of_ble_eq_true rfl, Nat.le_of_ble_eq_true rfl⟩ (fun H locs hI => ?_)
      obtain ⟨h29, hf⟩ := gifN hf
      obtain ⟨M30, eM30, hf⟩ := glet hf
      refine g_iast hC hI (k := (v1 + 1).toNatClampNeg) gIA_158 h29 rfl dX7_parsesM_112 (fun H locs hI => ?_)
      replace hI := g_mem eM30 hI
      refine lv_aload_n hx hb dX7_parsesM_113 rfl (lv_at hl 0 rfl) ?_
      refine gt_X7_X7_parsed hC hI dX7_parsesM_114 ?_
      refine lv_iload_n hx hb dX7_parsesM_117 rfl (lv_at hl 1 rfl) ?_
      refine lv_iconst (v := 2) hx hb dX7_parsesM_118 (by decide) ?_
      refine lv_iadd hx hb dX7_parsesM_119 ?_
      refine lv_aload_n hx hb dX7_parsesM_120 rfl (lv_at hl 0 rfl) ?_
      refine lv_bipush (v := 32) hx hb dX7_parsesM_121 (by decide) ?_
      refine lv_iconst (v := 1) hx hb dX7_parsesM_123 (by decide) ?_
      obtain ⟨r31, hr32, hf⟩ := gbind hf
      have hr32 := C_X7_digitsAfter l E x  hr32
      refine g_callVi (rest := [.int (v1 + 2), .ref (E.2.1 158)]) hC hI hr32 Y_X7_digitsAfter V_X7_digitsAfter w1791 (rcv_X7 hC hI) ⟨rfl, rfl⟩ ⟨Nat.le_of_ble_eq_true rfl, Nat.le_of_ble_eq_true rfl⟩ rfl hl.1 rfl (Nat.le_of_ble_eq_true rfl) dX7_parsesM_124 ⟨Nat.le_of_ble_eq_true rfl, Nat.le_of_ble_eq_true rfl⟩ (fun H locs hI => ?_)
      obtain ⟨h33, hf⟩ := gifN hf
      obtain ⟨M34, eM34, hf⟩ := glet hf
      refine g_iast hC hI (k := (v1 + 2).toNatClampNeg) gIA_158 h33 rfl dX7_parsesM_127 (fun H locs hI => ?_)
      replace hI := g_mem eM34 hI
      refine lv_aload_n hx hb dX7_parsesM_128 rfl (lv_at hl 0 rfl) ?_
      refine gt_X7_X7_parsed hC hI dX7_parsesM_129 ?_
      refine lv_iload_n hx hb dX7_parsesM_132 rfl (lv_at hl 1 rfl) ?_
      refine lv_iconst (v := 3) hx hb dX7_parsesM_133 (by decide) ?_
      refine lv_iadd hx hb dX7_parsesM_134 ?_
      refine lv_aload_n hx hb dX7_parsesM_135 rfl (lv_at hl 0 rfl) ?_
      refine lv_bipush (v := 32) hx hb dX7_parsesM_136 (by decide) ?_
      refine lv_iconst (v := 3) hx hb dX7_parsesM_138 (by decide) ?_
      obtain ⟨r35, hr36, hf⟩ := gbind hf
      have hr36 := C_X7_digitsAfter l E x  hr36
      refine g_callVi (rest := [.int (v1 + 3), .ref (E.2.1 158)]) hC hI hr36 Y_X7_digitsAfter V_X7_digitsAfter w1791 (rcv_X7 hC hI) ⟨rfl, rfl⟩ ⟨Nat.le_of_ble_eq_true rfl, Nat.le_of_ble_eq_true rfl⟩ rfl hl.1 rfl (Nat.le_of_ble_eq_true rfl) dX7_parsesM_139 ⟨Nat.le_of_ble_eq_true rfl, Nat.le_of_ble_eq_true rfl⟩ (fun H locs hI => ?_)
      obtain ⟨h37, hf⟩ := gifN hf
      obtain ⟨M38, eM38, hf⟩ := glet hf
      refine g_iast hC hI (k := (v1 + 3).toNatClampNeg) gIA_158 h37 rfl dX7_parsesM_142 (fun H locs hI => ?_)
      replace hI := g_mem eM38 hI
      exact kv _ _ _ _ _ (grv hf) hI rfl dX7_parsesM_143
    · replace hf := gif h22 hf
      refine lv_aload_n hx hb dX7_parsesM_22 rfl (lv_at hl 0 rfl) ?_
      refine gt_X7_X7_parsed hC hI dX7_parsesM_23 ?_
      refine lv_iload_n hx hb dX7_parsesM_26 rfl (lv_at hl 1 rfl) ?_
      refine lv_bipush (v := 118) hx hb dX7_parsesM_27 (by decide) ?_
      obtain ⟨h39, hf⟩ := gifN hf
      obtain ⟨M40, eM40, hf⟩ := glet hf
      refine g_iast hC hI (k := v1.toNatClampNeg) gIA_158 h39 rfl dX7_parsesM_29 (fun H locs hI => ?_)
      replace hI := g_mem eM40 hI
      refine lv_aload_n hx hb dX7_parsesM_30 rfl (lv_at hl 0 rfl) ?_
      refine lv_bipush (v := 118) hx hb dX7_parsesM_31 (by decide) ?_
      obtain ⟨r41, hr42, hf⟩ := gbind hf
      have hr42 := C_X7_needs l E x  hr42
      refine g_callVv (rest := []) hC hI hr42 Y_X7_needs V_X7_needs w1787 (rcv_X7 hC hI) ⟨rfl, rfl⟩ ⟨Nat.le_of_ble_eq_true rfl, Nat.le_of_ble_eq_true rfl⟩ rfl hl.1 rfl (Nat.le_of_ble_eq_true rfl) dX7_parsesM_33 ⟨Nat.le_of_ble_eq_true rfl, Nat.le_of_ble_eq_true rfl⟩ (fun H locs hI => ?_)
      refine lv_aload_n hx hb dX7_parsesM_36 rfl (lv_at hl 0 rfl) ?_
      refine lv_bipush (v := 101) hx hb dX7_parsesM_37 (by decide) ?_
      obtain ⟨r43, hr44, hf⟩ := gbind hf
      have hr44 := C_X7_needs l E x  hr44
      refine g_callVv (rest := []) hC hI hr44 Y_X7_needs V_X7_needs w1787 (rcv_X7 hC hI) ⟨rfl, rfl⟩ ⟨Nat.le_of_ble_eq_true rfl, Nat.le_of_ble_eq_true rfl⟩ rfl hl.1 rfl (Nat.le_of_ble_eq_true rfl) dX7_parsesM_39 ⟨Nat.le_of_ble_eq_true rfl, Nat.le_of_ble_eq_true rfl⟩ (fun H locs hI => ?_)
      refine lv_aload_n hx hb dX7_parsesM_42 rfl (lv_at hl 0 rfl) ?_
      refine gt_X7_X7_parsed hC hI dX7_parsesM_43 ?_
      refine lv_iload_n hx hb dX7_parsesM_46 rfl (lv_at hl 1 rfl) ?_
      refine lv_iconst (v := 1) hx hb dX7_parsesM_47 (by decide) ?_
      refine lv_iadd hx hb dX7_parsesM_48 ?_
      refine lv_aload_n hx hb dX7_parsesM_49 rfl (lv_at hl 0 rfl) ?_
      refine lv_bipush (v := 32) hx hb dX7_parsesM_50 (by decide) ?_
      refine lv_iconst (v := 1) hx hb dX7_parsesM_52 (by decide) ?_
      obtain ⟨r45, hr46, hf⟩ := gbind hf
      have hr46 := C_X7_digitsAfter l E x  hr46
      refine g_callVi (rest := [.int (v1 + 1), .ref (E.2.1 158)]) hC hI hr46 Y_X7_digitsAfter V_X7_digitsAfter w1791 (rcv_X7 hC hI) ⟨rfl, rfl⟩ ⟨Nat.le_of_ble_eq_true rfl, Nat.le_of_ble_eq_true rfl⟩ rfl hl.1 rfl (Nat.le_of_ble_eq_true rfl) dX7_parsesM_53 ⟨Nat.le_of_ble_eq_true rfl, Nat.le_of_ble_eq_true rfl⟩ (fun H locs hI => ?_)
      obtain ⟨h47, hf⟩ := gifN hf
      obtain ⟨M48, eM48, hf⟩ := glet hf
      refine g_iast hC hI (k := (v1 + 1).toNatClampNeg) gIA_158 h47 rfl dX7_parsesM_56 (fun H locs hI => ?_)
      replace hI := g_mem eM48 hI
      refine lv_aload_n hx hb dX7_parsesM_57 rfl (lv_at hl 0 rfl) ?_
      refine gt_X7_X7_parsed hC hI dX7_parsesM_58 ?_
      refine lv_iload_n hx hb dX7_parsesM_61 rfl (lv_at hl 1 rfl) ?_
      refine lv_iconst (v := 2) hx hb dX7_parsesM_62 (by decide) ?_
      refine lv_iadd hx hb dX7_parsesM_63 ?_
      refine lv_aload_n hx hb dX7_parsesM_64 rfl (lv_at hl 0 rfl) ?_
      refine lv_iconst (v := 1) hx hb dX7_parsesM_65 (by decide) ?_
      obtain ⟨r49, hr50, hf⟩ := gbind hf
      have hr50 := C_X7_digits l E x  hr50
      refine g_callVi (rest := [.int (v1 + 2), .ref (E.2.1 158)]) hC hI hr50 Y_X7_digits V_X7_digits w1795 (rcv_X7 hC hI) ⟨rfl, rfl⟩ ⟨Nat.le_of_ble_eq_true rfl, Nat.le_of_ble_eq_true rfl⟩ rfl hl.1 rfl (Nat.le_of_ble_eq_true rfl) dX7_parsesM_66 ⟨Nat.le_of_ble_eq_true rfl, Nat.le_of_ble_eq_true rfl⟩ (fun H locs hI => ?_)
      obtain ⟨h51, hf⟩ := gifN hf
      obtain ⟨M52, eM52, hf⟩ := glet hf
      refine g_iast hC hI (k := (v1 + 2).toNatClampNeg) gIA_158 h51 rfl dX7_parsesM_69 (fun H locs hI => ?_)
      replace hI := g_mem eM52 hI
      refine lv_aload_n hx hb dX7_parsesM_70 rfl (lv_at hl 0 rfl) ?_
      refine gt_X7_X7_parsed hC hI dX7_parsesM_71 ?_
      refine lv_iload_n hx hb dX7_parsesM_74 rfl (lv_at hl 1 rfl) ?_
      refine lv_iconst (v := 3) hx hb dX7_parsesM_75 (by decide) ?_
      refine lv_iadd hx hb dX7_parsesM_76 ?_
      refine lv_aload_n hx hb dX7_parsesM_77 rfl (lv_at hl 0 rfl) ?_
      refine lv_iconst (v := 1) hx hb dX7_parsesM_78 (by decide) ?_
      obtain ⟨r53, hr54, hf⟩ := gbind hf
      have hr54 := C_X7_digits l E x  hr54
      refine g_callVi (rest := [.int (v1 + 3), .ref (E.2.1 158)]) hC hI hr54 Y_X7_digits V_X7_digits w1795 (rcv_X7 hC hI) ⟨rfl, rfl⟩ ⟨Nat.le_of_ble_eq_true rfl, Nat.le_of_ble_eq_true rfl⟩ rfl hl.1 rfl (Nat.le_of_ble_eq_true rfl) dX7_parsesM_79 ⟨Nat.le_of_ble_eq_true rfl, Nat.le_of_ble_eq_true rfl⟩ (fun H locs hI => ?_)
      obtain ⟨h55, hf⟩ := gifN hf
      obtain ⟨M56, eM56, hf⟩ := glet hf
      refine g_iast hC hI (k := (v1 + 3).toNatClampNeg) gIA_158 h55 rfl dX7_parsesM_82 (fun H locs hI => ?_)
      replace hI := g_mem eM56 hI
      refine lv_goto (tgt := 143) hx hb dX7_parsesM_83 rfl ?_
      exact kv _ _ _ _ _ (grv hf) hI rfl dX7_parsesM_143
theorem dX7_parsesStow_0 : decode cX7_parsesStow 0 = .ok (.aload_n 0, 1) := by decide +kernel
theorem dX7_parsesStow_1 : decode cX7_parsesStow 1 = .ok (.bipush 116, 2) := by decide +kernel
theorem dX7_parsesStow_3 : decode cX7_parsesStow 3 = .ok (.bipush 111, 2) := by decide +kernel
theorem dX7_parsesStow_5 : decode cX7_parsesStow 5 = .ok (.bipush 119, 2) := by decide +kernel
theorem dX7_parsesStow_7 : decode cX7_parsesStow 7 = .ok (.invokevirtual 226, 3) := by decide +kernel
theorem dX7_parsesStow_10 : decode cX7_parsesStow 10 = .ok (.aload_n 0, 1) := by decide +kernel
theorem dX7_parsesStow_11 : decode cX7_parsesStow 11 = .ok (.getfield 39, 3) := by decide +kernel
theorem dX7_parsesStow_14 : decode cX7_parsesStow 14 = .ok (.iload_n 1, 1) := by decide +kernel
theorem dX7_parsesStow_15 : decode cX7_parsesStow 15 = .ok (.iconst 1, 1) := by decide +kernel
theorem dX7_parsesStow_16 : decode cX7_parsesStow 16 = .ok (.iadd, 1) := by decide +kernel
theorem dX7_parsesStow_17 : decode cX7_parsesStow 17 = .ok (.aload_n 0, 1) := by decide +kernel
theorem dX7_parsesStow_18 : decode cX7_parsesStow 18 = .ok (.bipush 32, 2) := by decide +kernel
theorem dX7_parsesStow_20 : decode cX7_parsesStow 20 = .ok (.iconst 1, 1) := by decide +kernel
theorem dX7_parsesStow_21 : decode cX7_parsesStow 21 = .ok (.invokevirtual 223, 3) := by decide +kernel
theorem dX7_parsesStow_24 : decode cX7_parsesStow 24 = .ok (.iastore, 1) := by decide +kernel
theorem dX7_parsesStow_25 : decode cX7_parsesStow 25 = .ok (.aload_n 0, 1) := by decide +kernel
theorem dX7_parsesStow_26 : decode cX7_parsesStow 26 = .ok (.getfield 39, 3) := by decide +kernel
theorem dX7_parsesStow_29 : decode cX7_parsesStow 29 = .ok (.iload_n 1, 1) := by decide +kernel
theorem dX7_parsesStow_30 : decode cX7_parsesStow 30 = .ok (.iconst 2, 1) := by decide +kernel
theorem dX7_parsesStow_31 : decode cX7_parsesStow 31 = .ok (.iadd, 1) := by decide +kernel
theorem dX7_parsesStow_32 : decode cX7_parsesStow 32 = .ok (.aload_n 0, 1) := by decide +kernel
theorem dX7_parsesStow_33 : decode cX7_parsesStow 33 = .ok (.iconst 1, 1) := by decide +kernel
theorem dX7_parsesStow_34 : decode cX7_parsesStow 34 = .ok (.invokevirtual 220, 3) := by decide +kernel
theorem dX7_parsesStow_37 : decode cX7_parsesStow 37 = .ok (.iastore, 1) := by decide +kernel
theorem dX7_parsesStow_38 : decode cX7_parsesStow 38 = .ok (.aload_n 0, 1) := by decide +kernel
theorem dX7_parsesStow_39 : decode cX7_parsesStow 39 = .ok (.getfield 39, 3) := by decide +kernel
theorem dX7_parsesStow_42 : decode cX7_parsesStow 42 = .ok (.iload_n 1, 1) := by decide +kernel
theorem dX7_parsesStow_43 : decode cX7_parsesStow 43 = .ok (.iconst 3, 1) := by decide +kernel
theorem dX7_parsesStow_44 : decode cX7_parsesStow 44 = .ok (.iadd, 1) := by decide +kernel
theorem dX7_parsesStow_45 : decode cX7_parsesStow 45 = .ok (.aload_n 0, 1) := by decide +kernel
theorem dX7_parsesStow_46 : decode cX7_parsesStow 46 = .ok (.bipush 32, 2) := by decide +kernel
theorem dX7_parsesStow_48 : decode cX7_parsesStow 48 = .ok (.iconst 3, 1) := by decide +kernel
theorem dX7_parsesStow_49 : decode cX7_parsesStow 49 = .ok (.invokevirtual 223, 3) := by decide +kernel
theorem dX7_parsesStow_52 : decode cX7_parsesStow 52 = .ok (.iastore, 1) := by decide +kernel
theorem dX7_parsesStow_53 : decode cX7_parsesStow 53 = .ok (.aload_n 0, 1) := by decide +kernel
theorem dX7_parsesStow_54 : decode cX7_parsesStow 54 = .ok (.getfield 39, 3) := by decide +kernel
theorem dX7_parsesStow_57 : decode cX7_parsesStow 57 = .ok (.iload_n 1, 1) := by decide +kernel
theorem dX7_parsesStow_58 : decode cX7_parsesStow 58 = .ok (.iconst 4, 1) := by decide +kernel
theorem dX7_parsesStow_59 : decode cX7_parsesStow 59 = .ok (.iadd, 1) := by decide +kernel
theorem dX7_parsesStow_60 : decode cX7_parsesStow 60 = .ok (.aload_n 0, 1) := by decide +kernel
theorem dX7_parsesStow_61 : decode cX7_parsesStow 61 = .ok (.bipush 47, 2) := by decide +kernel
theorem dX7_parsesStow_63 : decode cX7_parsesStow 63 = .ok (.iconst 3, 1) := by decide +kernel
theorem dX7_parsesStow_64 : decode cX7_parsesStow 64 = .ok (.invokevirtual 223, 3) := by decide +kernel
theorem dX7_parsesStow_67 : decode cX7_parsesStow 67 = .ok (.iastore, 1) := by decide +kernel
theorem dX7_parsesStow_68 : decode cX7_parsesStow 68 = .ok (.return_, 1) := by decide +kernel
set_option maxRecDepth 100000 in
set_option maxHeartbeats 4000000 in
theorem C_X7_parsesStow (l : Launch) (E : gE) (x : gX) {v1 : Int32} {M : gM} {M' : gM} (hf : f_X7_parsesStow v1 M = some M') : gM0 l E yX7_parsesStow (.code yX7_parsesStow cX7_parsesStow 2 none) (gR 3 67) M x [.ref (E.2.1 150), .int v1] none M' := by
  refine gMet (by decide +kernel) (Nat.le_of_ble_eq_true rfl) ?_
  intro p e s m args below meth c H locs ls Q hC hl hI kr kv
  replace hC : gC p s m args c cX7_parsesStow 2 RX7 E := hC
  replace hl : lv_has ls 2 [(0, .ref (E.2.1 150)), (1, .int v1)] := hl
  have hx := hC.1
  have hb := hC.2.1
  unfold f_X7_parsesStow at hf
  refine lv_aload_n hx hb dX7_parsesStow_0 rfl (lv_at hl 0 rfl) ?_
  refine lv_bipush (v := 116) hx hb dX7_parsesStow_1 (by decide) ?_
  refine lv_bipush (v := 111) hx hb dX7_parsesStow_3 (by decide) ?_
  refine lv_bipush (v := 119) hx hb dX7_parsesStow_5 (by decide) ?_
  obtain ⟨r1, hr2, hf⟩ := gbind hf
  have hr2 := C_X7_needsThree l E x  hr2
  refine g_callVv (rest := []) hC hI hr2 Y_X7_needsThree V_X7_needsThree w1803 (rcv_X7 hC hI) ⟨rfl, rfl⟩ ⟨Nat.le_of_ble_eq_true rfl, Nat.le_of_ble_eq_true rfl⟩ rfl hl.1 rfl (Nat.le_of_ble_eq_true rfl) dX7_parsesStow_7 ⟨Nat.le_of_ble_eq_true rfl, Nat.le_of_ble_eq_true rfl⟩ (fun H locs hI => ?_)
  refine lv_aload_n hx hb dX7_parsesStow_10 rfl (lv_at hl 0 rfl) ?_
  refine gt_X7_X7_parsed hC hI dX7_parsesStow_11 ?_
  refine lv_iload_n hx hb dX7_parsesStow_14 rfl (lv_at hl 1 rfl) ?_
  refine lv_iconst (v := 1) hx hb dX7_parsesStow_15 (by decide) ?_
  refine lv_iadd hx hb dX7_parsesStow_16 ?_
  refine lv_aload_n hx hb dX7_parsesStow_17 rfl (lv_at hl 0 rfl) ?_
  refine lv_bipush (v := 32) hx hb dX7_parsesStow_18 (by decide) ?_
  refine lv_iconst (v := 1) hx hb dX7_parsesStow_20 (by decide) ?_
  obtain ⟨r3, hr4, hf⟩ := gbind hf
  have hr4 := C_X7_digitsAfter l E x  hr4
  refine g_callVi (rest := [.int (v1 + 1), .ref (E.2.1 158)]) hC hI hr4 Y_X7_digitsAfter V_X7_digitsAfter w1791 (rcv_X7 hC hI) ⟨rfl, rfl⟩ ⟨Nat.le_of_ble_eq_true rfl, Nat.le_of_ble_eq_true rfl⟩ rfl hl.1 rfl (Nat.le_of_ble_eq_true rfl) dX7_parsesStow_21 ⟨Nat.le_of_ble_eq_true rfl, Nat.le_of_ble_eq_true rfl⟩ (fun H locs hI => ?_)
  obtain ⟨h5, hf⟩ := gifN hf
  obtain ⟨M6, eM6, hf⟩ := glet hf
  refine g_iast hC hI (k := (v1 + 1).toNatClampNeg) gIA_158 h5 rfl dX7_parsesStow_24 (fun H locs hI => ?_)
  replace hI := g_mem eM6 hI
  refine lv_aload_n hx hb dX7_parsesStow_25 rfl (lv_at hl 0 rfl) ?_
  refine gt_X7_X7_parsed hC hI dX7_parsesStow_26 ?_
  refine lv_iload_n hx hb dX7_parsesStow_29 rfl (lv_at hl 1 rfl) ?_
  refine lv_iconst (v := 2) hx hb dX7_parsesStow_30 (by decide) ?_
  refine lv_iadd hx hb dX7_parsesStow_31 ?_
  refine lv_aload_n hx hb dX7_parsesStow_32 rfl (lv_at hl 0 rfl) ?_
  refine lv_iconst (v := 1) hx hb dX7_parsesStow_33 (by decide) ?_
  obtain ⟨r7, hr8, hf⟩ := gbind hf
  have hr8 := C_X7_digits l E x  hr8
  refine g_callVi (rest := [.int (v1 + 2), .ref (E.2.1 158)]) hC hI hr8 Y_X7_digits V_X7_digits w1795 (rcv_X7 hC hI) ⟨rfl, rfl⟩ ⟨Nat.le_of_ble_eq_true rfl, Nat.le_of_ble_eq_true rfl⟩ rfl hl.1 rfl (Nat.le_of_ble_eq_true rfl) dX7_parsesStow_34 ⟨Nat.le_of_ble_eq_true rfl, Nat.le_of_ble_eq_true rfl⟩ (fun H locs hI => ?_)
  obtain ⟨h9, hf⟩ := gifN hf
  obtain ⟨M10, eM10, hf⟩ := glet hf
  refine g_iast hC hI (k := (v1 + 2).toNatClampNeg) gIA_158 h9 rfl dX7_parsesStow_37 (fun H locs hI => ?_)
  replace hI := g_mem eM10 hI
  refine lv_aload_n hx hb dX7_parsesStow_38 rfl (lv_at hl 0 rfl) ?_
  refine gt_X7_X7_parsed hC hI dX7_parsesStow_39 ?_
  refine lv_iload_n hx hb dX7_parsesStow_42 rfl (lv_at hl 1 rfl) ?_
  refine lv_iconst (v := 3) hx hb dX7_parsesStow_43 (by decide) ?_
  refine lv_iadd hx hb dX7_parsesStow_44 ?_
  refine lv_aload_n hx hb dX7_parsesStow_45 rfl (lv_at hl 0 rfl) ?_
  refine lv_bipush (v := 32) hx hb dX7_parsesStow_46 (by decide) ?_
  refine lv_iconst (v := 3) hx hb dX7_parsesStow_48 (by decide) ?_
  obtain ⟨r11, hr12, hf⟩ := gbind hf
  have hr12 := C_X7_digitsAfter l E x  hr12
  refine g_callVi (rest := [.int (v1 + 3), .ref (E.2.1 158)]) hC hI hr12 Y_X7_digitsAfter V_X7_digitsAfter w1791 (rcv_X7 hC hI) ⟨rfl, rfl⟩ ⟨Nat.le_of_ble_eq_true rfl, Nat.le_of_ble_eq_true rfl⟩ rfl hl.1 rfl (Nat.le_of_ble_eq_true rfl) dX7_parsesStow_49 ⟨Nat.le_of_ble_eq_true rfl, Nat.le_of_ble_eq_true rfl⟩ (fun H locs hI => ?_)
  obtain ⟨h13, hf⟩ := gifN hf
  obtain ⟨M14, eM14, hf⟩ := glet hf
  refine g_iast hC hI (k := (v1 + 3).toNatClampNeg) gIA_158 h13 rfl dX7_parsesStow_52 (fun H locs hI => ?_)
  replace hI := g_mem eM14 hI
  refine lv_aload_n hx hb dX7_parsesStow_53 rfl (lv_at hl 0 rfl) ?_
  refine gt_X7_X7_parsed hC hI dX7_parsesStow_54 ?_
  refine lv_iload_n hx hb dX7_parsesStow_57 rfl (lv_at hl 1 rfl) ?_
  refine lv_iconst (v := 4) hx hb dX7_parsesStow_58 (by decide) ?_
  refine lv_iadd hx hb dX7_parsesStow_59 ?_
  refine lv_aload_n hx hb dX7_parsesStow_60 rfl (lv_at hl 0 rfl) ?_
  refine lv_bipush (v := 47) hx hb dX7_parsesStow_61 (by decide) ?_
  refine lv_iconst (v := 3) hx hb dX7_parsesStow_63 (by decide) ?_
  obtain ⟨r15, hr16, hf⟩ := gbind hf
  have hr16 := C_X7_digitsAfter l E x  hr16
  refine g_callVi (rest := [.int (v1 + 4), .ref (E.2.1 158)]) hC hI hr16 Y_X7_digitsAfter V_X7_digitsAfter w1791 (rcv_X7 hC hI) ⟨rfl, rfl⟩ ⟨Nat.le_of_ble_eq_true rfl, Nat.le_of_ble_eq_true rfl⟩ rfl hl.1 rfl (Nat.le_of_ble_eq_true rfl) dX7_parsesStow_64 ⟨Nat.le_of_ble_eq_true rfl, Nat.le_of_ble_eq_true rfl⟩ (fun H locs hI => ?_)
  obtain ⟨h17, hf⟩ := gifN hf
  obtain ⟨M18, eM18, hf⟩ := glet hf
  refine g_iast hC hI (k := (v1 + 4).toNatClampNeg) gIA_158 h17 rfl dX7_parsesStow_67 (fun H locs hI => ?_)
  replace hI := g_mem eM18 hI
  exact kv _ _ _ _ _ (grv hf) hI rfl dX7_parsesStow_68
theorem dX7_parsesClear_0 : decode cX7_parsesClear 0 = .ok (.aload_n 0, 1) := by decide +kernel
theorem dX7_parsesClear_1 : decode cX7_parsesClear 1 = .ok (.bipush 108, 2) := by decide +kernel
theorem dX7_parsesClear_3 : decode cX7_parsesClear 3 = .ok (.bipush 101, 2) := by decide +kernel
theorem dX7_parsesClear_5 : decode cX7_parsesClear 5 = .ok (.bipush 97, 2) := by decide +kernel
theorem dX7_parsesClear_7 : decode cX7_parsesClear 7 = .ok (.invokevirtual 226, 3) := by decide +kernel
theorem dX7_parsesClear_10 : decode cX7_parsesClear 10 = .ok (.aload_n 0, 1) := by decide +kernel
theorem dX7_parsesClear_11 : decode cX7_parsesClear 11 = .ok (.bipush 114, 2) := by decide +kernel
theorem dX7_parsesClear_13 : decode cX7_parsesClear 13 = .ok (.invokevirtual 217, 3) := by decide +kernel
theorem dX7_parsesClear_16 : decode cX7_parsesClear 16 = .ok (.aload_n 0, 1) := by decide +kernel
theorem dX7_parsesClear_17 : decode cX7_parsesClear 17 = .ok (.getfield 39, 3) := by decide +kernel
theorem dX7_parsesClear_20 : decode cX7_parsesClear 20 = .ok (.iload_n 1, 1) := by decide +kernel
theorem dX7_parsesClear_21 : decode cX7_parsesClear 21 = .ok (.iconst 1, 1) := by decide +kernel
theorem dX7_parsesClear_22 : decode cX7_parsesClear 22 = .ok (.iadd, 1) := by decide +kernel
theorem dX7_parsesClear_23 : decode cX7_parsesClear 23 = .ok (.aload_n 0, 1) := by decide +kernel
theorem dX7_parsesClear_24 : decode cX7_parsesClear 24 = .ok (.bipush 32, 2) := by decide +kernel
theorem dX7_parsesClear_26 : decode cX7_parsesClear 26 = .ok (.iconst 1, 1) := by decide +kernel
theorem dX7_parsesClear_27 : decode cX7_parsesClear 27 = .ok (.invokevirtual 223, 3) := by decide +kernel
theorem dX7_parsesClear_30 : decode cX7_parsesClear 30 = .ok (.iastore, 1) := by decide +kernel
theorem dX7_parsesClear_31 : decode cX7_parsesClear 31 = .ok (.aload_n 0, 1) := by decide +kernel
theorem dX7_parsesClear_32 : decode cX7_parsesClear 32 = .ok (.getfield 39, 3) := by decide +kernel
theorem dX7_parsesClear_35 : decode cX7_parsesClear 35 = .ok (.iload_n 1, 1) := by decide +kernel
theorem dX7_parsesClear_36 : decode cX7_parsesClear 36 = .ok (.iconst 2, 1) := by decide +kernel
theorem dX7_parsesClear_37 : decode cX7_parsesClear 37 = .ok (.iadd, 1) := by decide +kernel
theorem dX7_parsesClear_38 : decode cX7_parsesClear 38 = .ok (.aload_n 0, 1) := by decide +kernel
theorem dX7_parsesClear_39 : decode cX7_parsesClear 39 = .ok (.iconst 1, 1) := by decide +kernel
theorem dX7_parsesClear_40 : decode cX7_parsesClear 40 = .ok (.invokevirtual 220, 3) := by decide +kernel
theorem dX7_parsesClear_43 : decode cX7_parsesClear 43 = .ok (.iastore, 1) := by decide +kernel
theorem dX7_parsesClear_44 : decode cX7_parsesClear 44 = .ok (.aload_n 0, 1) := by decide +kernel
theorem dX7_parsesClear_45 : decode cX7_parsesClear 45 = .ok (.getfield 39, 3) := by decide +kernel
theorem dX7_parsesClear_48 : decode cX7_parsesClear 48 = .ok (.iload_n 1, 1) := by decide +kernel
theorem dX7_parsesClear_49 : decode cX7_parsesClear 49 = .ok (.iconst 3, 1) := by decide +kernel
theorem dX7_parsesClear_50 : decode cX7_parsesClear 50 = .ok (.iadd, 1) := by decide +kernel
theorem dX7_parsesClear_51 : decode cX7_parsesClear 51 = .ok (.aload_n 0, 1) := by decide +kernel
theorem dX7_parsesClear_52 : decode cX7_parsesClear 52 = .ok (.bipush 61, 2) := by decide +kernel
theorem dX7_parsesClear_54 : decode cX7_parsesClear 54 = .ok (.iconst 1, 1) := by decide +kernel
theorem dX7_parsesClear_55 : decode cX7_parsesClear 55 = .ok (.invokevirtual 223, 3) := by decide +kernel
theorem dX7_parsesClear_58 : decode cX7_parsesClear 58 = .ok (.iastore, 1) := by decide +kernel
theorem dX7_parsesClear_59 : decode cX7_parsesClear 59 = .ok (.return_, 1) := by decide +kernel
set_option maxRecDepth 100000 in
set_option maxHeartbeats 4000000 in
theorem C_X7_parsesClear (l : Launch) (E : gE) (x : gX) {v1 : Int32} {M : gM} {M' : gM} (hf : f_X7_parsesClear v1 M = some M') : gM0 l E yX7_parsesClear (.code yX7_parsesClear cX7_parsesClear 2 none) (gR 3 67) M x [.ref (E.2.1 150), .int v1] none M' := by
  refine gMet (by decide +kernel) (Nat.le_of_ble_eq_true rfl) ?_
  intro p e s m args below meth c H locs ls Q hC hl hI kr kv
  replace hC : gC p s m args c cX7_parsesClear 2 RX7 E := hC
  replace hl : lv_has ls 2 [(0, .ref (E.2.1 150)), (1, .int v1)] := hl
  have hx := hC.1
  have hb := hC.2.1
  unfold f_X7_parsesClear at hf
  refine lv_aload_n hx hb dX7_parsesClear_0 rfl (lv_at hl 0 rfl) ?_
  refine lv_bipush (v := 108) hx hb dX7_parsesClear_1 (by decide) ?_
  refine lv_bipush (v := 101) hx hb dX7_parsesClear_3 (by decide) ?_
  refine lv_bipush (v := 97) hx hb dX7_parsesClear_5 (by decide) ?_
  obtain ⟨r1, hr2, hf⟩ := gbind hf
  have hr2 := C_X7_needsThree l E x  hr2
  refine g_callVv (rest := []) hC hI hr2 Y_X7_needsThree V_X7_needsThree w1803 (rcv_X7 hC hI) ⟨rfl, rfl⟩ ⟨Nat.le_of_ble_eq_true rfl, Nat.le_of_ble_eq_true rfl⟩ rfl hl.1 rfl (Nat.le_of_ble_eq_true rfl) dX7_parsesClear_7 ⟨Nat.le_of_ble_eq_true rfl, Nat.le_of_ble_eq_true rfl⟩ (fun H locs hI => ?_)
  refine lv_aload_n hx hb dX7_parsesClear_10 rfl (lv_at hl 0 rfl) ?_
  refine lv_bipush (v := 114) hx hb dX7_parsesClear_11 (by decide) ?_
  obtain ⟨r3, hr4, hf⟩ := gbind hf
  have hr4 := C_X7_needs l E x  hr4
  refine g_callVv (rest := []) hC hI hr4 Y_X7_needs V_X7_needs w1787 (rcv_X7 hC hI) ⟨rfl, rfl⟩ ⟨Nat.le_of_ble_eq_true rfl, Nat.le_of_ble_eq_true rfl⟩ rfl hl.1 rfl (Nat.le_of_ble_eq_true rfl) dX7_parsesClear_13 ⟨Nat.le_of_ble_eq_true rfl, Nat.le_of_ble_eq_true rfl⟩ (fun H locs hI => ?_)
  refine lv_aload_n hx hb dX7_parsesClear_16 rfl (lv_at hl 0 rfl) ?_
  refine gt_X7_X7_parsed hC hI dX7_parsesClear_17 ?_
  refine lv_iload_n hx hb dX7_parsesClear_20 rfl (lv_at hl 1 rfl) ?_
  refine lv_iconst (v := 1) hx hb dX7_parsesClear_21 (by decide) ?_
  refine lv_iadd hx hb dX7_parsesClear_22 ?_
  refine lv_aload_n hx hb dX7_parsesClear_23 rfl (lv_at hl 0 rfl) ?_
  refine lv_bipush (v := 32) hx hb dX7_parsesClear_24 (by decide) ?_
  refine lv_iconst (v := 1) hx hb dX7_parsesClear_26 (by decide) ?_
  obtain ⟨r5, hr6, hf⟩ := gbind hf
  have hr6 := C_X7_digitsAfter l E x  hr6
  refine g_callVi (rest := [.int (v1 + 1), .ref (E.2.1 158)]) hC hI hr6 Y_X7_digitsAfter V_X7_digitsAfter w1791 (rcv_X7 hC hI) ⟨rfl, rfl⟩ ⟨Nat.le_of_ble_eq_true rfl, Nat.le_of_ble_eq_true rfl⟩ rfl hl.1 rfl (Nat.le_of_ble_eq_true rfl) dX7_parsesClear_27 ⟨Nat.le_of_ble_eq_true rfl, Nat.le_of_ble_eq_true rfl⟩ (fun H locs hI => ?_)
  obtain ⟨h7, hf⟩ := gifN hf
  obtain ⟨M8, eM8, hf⟩ := glet hf
  refine g_iast hC hI (k := (v1 + 1).toNatClampNeg) gIA_158 h7 rfl dX7_parsesClear_30 (fun H locs hI => ?_)
  replace hI := g_mem eM8 hI
  refine lv_aload_n hx hb dX7_parsesClear_31 rfl (lv_at hl 0 rfl) ?_
  refine gt_X7_X7_parsed hC hI dX7_parsesClear_32 ?_
  refine lv_iload_n hx hb dX7_parsesClear_35 rfl (lv_at hl 1 rfl) ?_
  refine lv_iconst (v := 2) hx hb dX7_parsesClear_36 (by decide) ?_
  refine lv_iadd hx hb dX7_parsesClear_37 ?_
  refine lv_aload_n hx hb dX7_parsesClear_38 rfl (lv_at hl 0 rfl) ?_
  refine lv_iconst (v := 1) hx hb dX7_parsesClear_39 (by decide) ?_
  obtain ⟨r9, hr10, hf⟩ := gbind hf
  have hr10 := C_X7_digits l E x  hr10
  refine g_callVi (rest := [.int (v1 + 2), .ref (E.2.1 158)]) hC hI hr10 Y_X7_digits V_X7_digits w1795 (rcv_X7 hC hI) ⟨rfl, rfl⟩ ⟨Nat.le_of_ble_eq_true rfl, Nat.le_of_ble_eq_true rfl⟩ rfl hl.1 rfl (Nat.le_of_ble_eq_true rfl) dX7_parsesClear_40 ⟨Nat.le_of_ble_eq_true rfl, Nat.le_of_ble_eq_true rfl⟩ (fun H locs hI => ?_)
  obtain ⟨h11, hf⟩ := gifN hf
  obtain ⟨M12, eM12, hf⟩ := glet hf
  refine g_iast hC hI (k := (v1 + 2).toNatClampNeg) gIA_158 h11 rfl dX7_parsesClear_43 (fun H locs hI => ?_)
  replace hI := g_mem eM12 hI
  refine lv_aload_n hx hb dX7_parsesClear_44 rfl (lv_at hl 0 rfl) ?_
  refine gt_X7_X7_parsed hC hI dX7_parsesClear_45 ?_
  refine lv_iload_n hx hb dX7_parsesClear_48 rfl (lv_at hl 1 rfl) ?_
  refine lv_iconst (v := 3) hx hb dX7_parsesClear_49 (by decide) ?_
  refine lv_iadd hx hb dX7_parsesClear_50 ?_
  refine lv_aload_n hx hb dX7_parsesClear_51 rfl (lv_at hl 0 rfl) ?_
  refine lv_bipush (v := 61) hx hb dX7_parsesClear_52 (by decide) ?_
  refine lv_iconst (v := 1) hx hb dX7_parsesClear_54 (by decide) ?_
  obtain ⟨r13, hr14, hf⟩ := gbind hf
  have hr14 := C_X7_digitsAfter l E x  hr14
  refine g_callVi (rest := [.int (v1 + 3), .ref (E.2.1 158)]) hC hI hr14 Y_X7_digitsAfter V_X7_digitsAfter w1791 (rcv_X7 hC hI) ⟨rfl, rfl⟩ ⟨Nat.le_of_ble_eq_true rfl, Nat.le_of_ble_eq_true rfl⟩ rfl hl.1 rfl (Nat.le_of_ble_eq_true rfl) dX7_parsesClear_55 ⟨Nat.le_of_ble_eq_true rfl, Nat.le_of_ble_eq_true rfl⟩ (fun H locs hI => ?_)
  obtain ⟨h15, hf⟩ := gifN hf
  obtain ⟨M16, eM16, hf⟩ := glet hf
  refine g_iast hC hI (k := (v1 + 3).toNatClampNeg) gIA_158 h15 rfl dX7_parsesClear_58 (fun H locs hI => ?_)
  replace hI := g_mem eM16 hI
  exact kv _ _ _ _ _ (grv hf) hI rfl dX7_parsesClear_59
theorem dX7_parsesCommand_0 : decode cX7_parsesCommand 0 = .ok (.aload_n 0, 1) := by decide +kernel
theorem dX7_parsesCommand_1 : decode cX7_parsesCommand 1 = .ok (.invokevirtual 214, 3) := by decide +kernel
theorem dX7_parsesCommand_4 : decode cX7_parsesCommand 4 = .ok (.istore_n 2, 1) := by decide +kernel
theorem dX7_parsesCommand_5 : decode cX7_parsesCommand 5 = .ok (.aload_n 0, 1) := by decide +kernel
theorem dX7_parsesCommand_6 : decode cX7_parsesCommand 6 = .ok (.dup, 1) := by decide +kernel
theorem dX7_parsesCommand_7 : decode cX7_parsesCommand 7 = .ok (.getfield 207, 3) := by decide +kernel
theorem dX7_parsesCommand_10 : decode cX7_parsesCommand 10 = .ok (.iconst 1, 1) := by decide +kernel
theorem dX7_parsesCommand_11 : decode cX7_parsesCommand 11 = .ok (.iadd, 1) := by decide +kernel
theorem dX7_parsesCommand_12 : decode cX7_parsesCommand 12 = .ok (.putfield 207, 3) := by decide +kernel
theorem dX7_parsesCommand_15 : decode cX7_parsesCommand 15 = .ok (.aload_n 0, 1) := by decide +kernel
theorem dX7_parsesCommand_16 : decode cX7_parsesCommand 16 = .ok (.getfield 39, 3) := by decide +kernel
theorem dX7_parsesCommand_19 : decode cX7_parsesCommand 19 = .ok (.iload_n 1, 1) := by decide +kernel
theorem dX7_parsesCommand_20 : decode cX7_parsesCommand 20 = .ok (.iload_n 2, 1) := by decide +kernel
theorem dX7_parsesCommand_21 : decode cX7_parsesCommand 21 = .ok (.iastore, 1) := by decide +kernel
theorem dX7_parsesCommand_22 : decode cX7_parsesCommand 22 = .ok (.iload_n 2, 1) := by decide +kernel
theorem dX7_parsesCommand_23 : decode cX7_parsesCommand 23 = .ok (.tableswitch 211 99 115 #[97, 105, 211, 211, 211, 177, 211, 211, 211, 143, 81, 211, 211, 211, 211, 211, 89], 81) := by decide +kernel
theorem dX7_parsesCommand_104 : decode cX7_parsesCommand 104 = .ok (.aload_n 0, 1) := by decide +kernel
theorem dX7_parsesCommand_105 : decode cX7_parsesCommand 105 = .ok (.iload_n 1, 1) := by decide +kernel
theorem dX7_parsesCommand_106 : decode cX7_parsesCommand 106 = .ok (.invokevirtual 230, 3) := by decide +kernel
theorem dX7_parsesCommand_109 : decode cX7_parsesCommand 109 = .ok (.goto 140, 3) := by decide +kernel
theorem dX7_parsesCommand_112 : decode cX7_parsesCommand 112 = .ok (.aload_n 0, 1) := by decide +kernel
theorem dX7_parsesCommand_113 : decode cX7_parsesCommand 113 = .ok (.iload_n 1, 1) := by decide +kernel
theorem dX7_parsesCommand_114 : decode cX7_parsesCommand 114 = .ok (.invokevirtual 233, 3) := by decide +kernel
theorem dX7_parsesCommand_117 : decode cX7_parsesCommand 117 = .ok (.goto 132, 3) := by decide +kernel
theorem dX7_parsesCommand_120 : decode cX7_parsesCommand 120 = .ok (.aload_n 0, 1) := by decide +kernel
theorem dX7_parsesCommand_121 : decode cX7_parsesCommand 121 = .ok (.iload_n 1, 1) := by decide +kernel
theorem dX7_parsesCommand_122 : decode cX7_parsesCommand 122 = .ok (.invokevirtual 236, 3) := by decide +kernel
theorem dX7_parsesCommand_125 : decode cX7_parsesCommand 125 = .ok (.goto 124, 3) := by decide +kernel
theorem dX7_parsesCommand_128 : decode cX7_parsesCommand 128 = .ok (.aload_n 0, 1) := by decide +kernel
theorem dX7_parsesCommand_129 : decode cX7_parsesCommand 129 = .ok (.bipush 101, 2) := by decide +kernel
theorem dX7_parsesCommand_131 : decode cX7_parsesCommand 131 = .ok (.bipush 108, 2) := by decide +kernel
theorem dX7_parsesCommand_133 : decode cX7_parsesCommand 133 = .ok (.bipush 105, 2) := by decide +kernel
theorem dX7_parsesCommand_135 : decode cX7_parsesCommand 135 = .ok (.invokevirtual 226, 3) := by decide +kernel
theorem dX7_parsesCommand_138 : decode cX7_parsesCommand 138 = .ok (.aload_n 0, 1) := by decide +kernel
theorem dX7_parsesCommand_139 : decode cX7_parsesCommand 139 = .ok (.bipush 118, 2) := by decide +kernel
theorem dX7_parsesCommand_141 : decode cX7_parsesCommand 141 = .ok (.bipush 101, 2) := by decide +kernel
theorem dX7_parsesCommand_143 : decode cX7_parsesCommand 143 = .ok (.bipush 114, 2) := by decide +kernel
theorem dX7_parsesCommand_145 : decode cX7_parsesCommand 145 = .ok (.invokevirtual 226, 3) := by decide +kernel
theorem dX7_parsesCommand_148 : decode cX7_parsesCommand 148 = .ok (.aload_n 0, 1) := by decide +kernel
theorem dX7_parsesCommand_149 : decode cX7_parsesCommand 149 = .ok (.getfield 39, 3) := by decide +kernel
theorem dX7_parsesCommand_152 : decode cX7_parsesCommand 152 = .ok (.iload_n 1, 1) := by decide +kernel
theorem dX7_parsesCommand_153 : decode cX7_parsesCommand 153 = .ok (.iconst 1, 1) := by decide +kernel
theorem dX7_parsesCommand_154 : decode cX7_parsesCommand 154 = .ok (.iadd, 1) := by decide +kernel
theorem dX7_parsesCommand_155 : decode cX7_parsesCommand 155 = .ok (.aload_n 0, 1) := by decide +kernel
theorem dX7_parsesCommand_156 : decode cX7_parsesCommand 156 = .ok (.bipush 32, 2) := by decide +kernel
theorem dX7_parsesCommand_158 : decode cX7_parsesCommand 158 = .ok (.iconst 3, 1) := by decide +kernel
theorem dX7_parsesCommand_159 : decode cX7_parsesCommand 159 = .ok (.invokevirtual 223, 3) := by decide +kernel
theorem dX7_parsesCommand_162 : decode cX7_parsesCommand 162 = .ok (.iastore, 1) := by decide +kernel
theorem dX7_parsesCommand_163 : decode cX7_parsesCommand 163 = .ok (.goto 86, 3) := by decide +kernel
theorem dX7_parsesCommand_166 : decode cX7_parsesCommand 166 = .ok (.aload_n 0, 1) := by decide +kernel
theorem dX7_parsesCommand_167 : decode cX7_parsesCommand 167 = .ok (.bipush 101, 2) := by decide +kernel
theorem dX7_parsesCommand_169 : decode cX7_parsesCommand 169 = .ok (.bipush 97, 2) := by decide +kernel
theorem dX7_parsesCommand_171 : decode cX7_parsesCommand 171 = .ok (.bipush 118, 2) := by decide +kernel
theorem dX7_parsesCommand_173 : decode cX7_parsesCommand 173 = .ok (.invokevirtual 226, 3) := by decide +kernel
theorem dX7_parsesCommand_176 : decode cX7_parsesCommand 176 = .ok (.aload_n 0, 1) := by decide +kernel
theorem dX7_parsesCommand_177 : decode cX7_parsesCommand 177 = .ok (.bipush 101, 2) := by decide +kernel
theorem dX7_parsesCommand_179 : decode cX7_parsesCommand 179 = .ok (.invokevirtual 217, 3) := by decide +kernel
theorem dX7_parsesCommand_182 : decode cX7_parsesCommand 182 = .ok (.aload_n 0, 1) := by decide +kernel
theorem dX7_parsesCommand_183 : decode cX7_parsesCommand 183 = .ok (.getfield 39, 3) := by decide +kernel
theorem dX7_parsesCommand_186 : decode cX7_parsesCommand 186 = .ok (.iload_n 1, 1) := by decide +kernel
theorem dX7_parsesCommand_187 : decode cX7_parsesCommand 187 = .ok (.iconst 1, 1) := by decide +kernel
theorem dX7_parsesCommand_188 : decode cX7_parsesCommand 188 = .ok (.iadd, 1) := by decide +kernel
theorem dX7_parsesCommand_189 : decode cX7_parsesCommand 189 = .ok (.aload_n 0, 1) := by decide +kernel
theorem dX7_parsesCommand_190 : decode cX7_parsesCommand 190 = .ok (.bipush 32, 2) := by decide +kernel
theorem dX7_parsesCommand_192 : decode cX7_parsesCommand 192 = .ok (.iconst 1, 1) := by decide +kernel
theorem dX7_parsesCommand_193 : decode cX7_parsesCommand 193 = .ok (.invokevirtual 223, 3) := by decide +kernel
theorem dX7_parsesCommand_196 : decode cX7_parsesCommand 196 = .ok (.iastore, 1) := by decide +kernel
theorem dX7_parsesCommand_197 : decode cX7_parsesCommand 197 = .ok (.goto 52, 3) := by decide +kernel
theorem dX7_parsesCommand_200 : decode cX7_parsesCommand 200 = .ok (.aload_n 0, 1) := by decide +kernel
theorem dX7_parsesCommand_201 : decode cX7_parsesCommand 201 = .ok (.bipush 111, 2) := by decide +kernel
theorem dX7_parsesCommand_203 : decode cX7_parsesCommand 203 = .ok (.bipush 117, 2) := by decide +kernel
theorem dX7_parsesCommand_205 : decode cX7_parsesCommand 205 = .ok (.bipush 114, 2) := by decide +kernel
theorem dX7_parsesCommand_207 : decode cX7_parsesCommand 207 = .ok (.invokevirtual 226, 3) := by decide +kernel
theorem dX7_parsesCommand_210 : decode cX7_parsesCommand 210 = .ok (.aload_n 0, 1) := by decide +kernel
theorem dX7_parsesCommand_211 : decode cX7_parsesCommand 211 = .ok (.bipush 115, 2) := by decide +kernel
theorem dX7_parsesCommand_213 : decode cX7_parsesCommand 213 = .ok (.invokevirtual 217, 3) := by decide +kernel
theorem dX7_parsesCommand_216 : decode cX7_parsesCommand 216 = .ok (.aload_n 0, 1) := by decide +kernel
theorem dX7_parsesCommand_217 : decode cX7_parsesCommand 217 = .ok (.getfield 39, 3) := by decide +kernel
theorem dX7_parsesCommand_220 : decode cX7_parsesCommand 220 = .ok (.iload_n 1, 1) := by decide +kernel
theorem dX7_parsesCommand_221 : decode cX7_parsesCommand 221 = .ok (.iconst 1, 1) := by decide +kernel
theorem dX7_parsesCommand_222 : decode cX7_parsesCommand 222 = .ok (.iadd, 1) := by decide +kernel
theorem dX7_parsesCommand_223 : decode cX7_parsesCommand 223 = .ok (.aload_n 0, 1) := by decide +kernel
theorem dX7_parsesCommand_224 : decode cX7_parsesCommand 224 = .ok (.bipush 32, 2) := by decide +kernel
theorem dX7_parsesCommand_226 : decode cX7_parsesCommand 226 = .ok (.iconst 3, 1) := by decide +kernel
theorem dX7_parsesCommand_227 : decode cX7_parsesCommand 227 = .ok (.invokevirtual 223, 3) := by decide +kernel
theorem dX7_parsesCommand_230 : decode cX7_parsesCommand 230 = .ok (.iastore, 1) := by decide +kernel
theorem dX7_parsesCommand_231 : decode cX7_parsesCommand 231 = .ok (.goto 18, 3) := by decide +kernel
theorem dX7_parsesCommand_234 : decode cX7_parsesCommand 234 = .ok (.aload_n 0, 1) := by decide +kernel
theorem dX7_parsesCommand_235 : decode cX7_parsesCommand 235 = .ok (.iconst 1, 1) := by decide +kernel
theorem dX7_parsesCommand_236 : decode cX7_parsesCommand 236 = .ok (.putfield 210, 3) := by decide +kernel
theorem dX7_parsesCommand_239 : decode cX7_parsesCommand 239 = .ok (.aload_n 0, 1) := by decide +kernel
theorem dX7_parsesCommand_240 : decode cX7_parsesCommand 240 = .ok (.dup, 1) := by decide +kernel
theorem dX7_parsesCommand_241 : decode cX7_parsesCommand 241 = .ok (.getfield 207, 3) := by decide +kernel
theorem dX7_parsesCommand_244 : decode cX7_parsesCommand 244 = .ok (.iconst 1, 1) := by decide +kernel
theorem dX7_parsesCommand_245 : decode cX7_parsesCommand 245 = .ok (.isub, 1) := by decide +kernel
theorem dX7_parsesCommand_246 : decode cX7_parsesCommand 246 = .ok (.putfield 207, 3) := by decide +kernel
theorem dX7_parsesCommand_249 : decode cX7_parsesCommand 249 = .ok (.return_, 1) := by decide +kernel
set_option maxRecDepth 100000 in
set_option maxHeartbeats 4000000 in
theorem C_X7_parsesCommand (l : Launch) (E : gE) (x : gX) {v1 : Int32} {M : gM} {M' : gM} (hf : f_X7_parsesCommand v1 M = some M') : gM0 l E yX7_parsesCommand (.code yX7_parsesCommand cX7_parsesCommand 3 none) (gR 4 88) M x [.ref (E.2.1 150), .int v1] none M' := by
  refine gMet (by decide +kernel) (Nat.le_of_ble_eq_true rfl) ?_
  intro p e s m args below meth c H locs ls Q hC hl hI kr kv
  replace hC : gC p s m args c cX7_parsesCommand 3 RX7 E := hC
  replace hl : lv_has ls 3 [(0, .ref (E.2.1 150)), (1, .int v1)] := hl
  have hx := hC.1
  have hb := hC.2.1
  unfold f_X7_parsesCommand at hf
  refine lv_aload_n hx hb dX7_parsesCommand_0 rfl (lv_at hl 0 rfl) ?_
  obtain ⟨r1, hr2, hf⟩ := gbind hf
  have hr2 := C_X7_here l E x  hr2
  refine g_callVi (rest := []) hC hI hr2 Y_X7_here V_X7_here w1779 (rcv_X7 hC hI) ⟨rfl, rfl⟩ ⟨Nat.le_of_ble_eq_true rfl, Nat.le_of_ble_eq_true rfl⟩ rfl hl.1 rfl (Nat.le_of_ble_eq_true rfl) dX7_parsesCommand_1 ⟨Nat.le_of_ble_eq_true rfl, Nat.le_of_ble_eq_true rfl⟩ (fun H locs hI => ?_)
  refine lv_istore_n (lv' := [(2, .int r1), (0, .ref (E.2.1 150)), (1, .int v1)]) hx hb dX7_parsesCommand_4 rfl hl (by decide) rfl (fun ls hl => ?_)
  refine lv_aload_n hx hb dX7_parsesCommand_5 rfl (lv_at hl 1 rfl) ?_
  refine lv_dup hx hb dX7_parsesCommand_6 rfl ?_
  refine gt_X7_X7_spot hC hI dX7_parsesCommand_7 ?_
  refine lv_iconst (v := 1) hx hb dX7_parsesCommand_10 (by decide) ?_
  refine lv_iadd hx hb dX7_parsesCommand_11 ?_
  obtain ⟨M3, eM3, hf⟩ := glet hf
  refine pt_X7_X7_spot hC hI dX7_parsesCommand_12 (fun H locs hI => ?_)
  replace hI := g_mem eM3 hI
  refine lv_aload_n hx hb dX7_parsesCommand_15 rfl (lv_at hl 1 rfl) ?_
  refine gt_X7_X7_parsed hC hI dX7_parsesCommand_16 ?_
  refine lv_iload_n hx hb dX7_parsesCommand_19 rfl (lv_at hl 2 rfl) ?_
  refine lv_iload_n hx hb dX7_parsesCommand_20 rfl (lv_at hl 0 rfl) ?_
  obtain ⟨h4, hf⟩ := gifN hf
  obtain ⟨M5, eM5, hf⟩ := glet hf
  refine g_iast hC hI (k := v1.toNatClampNeg) gIA_158 h4 rfl dX7_parsesCommand_21 (fun H locs hI => ?_)
  replace hI := g_mem eM5 hI
  refine lv_iload_n hx hb dX7_parsesCommand_22 rfl (lv_at hl 0 rfl) ?_
  by_cases h6 : r1 = 99
  · replace hf := gif h6 hf
    refine g_tabK (k := 99) (tgt := 120) hC dX7_parsesCommand_23 h6 (by decide) (by decide) rfl rfl ?_
    refine lv_aload_n hx hb dX7_parsesCommand_120 rfl (lv_at hl 1 rfl) ?_
    refine lv_iload_n hx hb dX7_parsesCommand_121 rfl (lv_at hl 2 rfl) ?_
    obtain ⟨r7, hr8, hf⟩ := gbind hf
    have hr8 := C_X7_parsesClear l E x  hr8
    refine g_callVv (rest := []) hC hI hr8 Y_X7_parsesClear V_X7_parsesClear w1807 (rcv_X7 hC hI) ⟨rfl, rfl⟩ ⟨Nat.le_of_ble_eq_true rfl, Nat.le_of_ble_eq_true rfl⟩ rfl hl.1 rfl (Nat.le_of_ble_eq_true rfl) dX7_parsesCommand_122 ⟨Nat.le_of_ble_eq_true rfl, Nat.le_of_ble_eq_true rfl⟩ (fun H locs hI => ?_)
    refine lv_goto (tgt := 249) hx hb dX7_parsesCommand_125 rfl ?_
    exact kv _ _ _ _ _ (grv hf) hI rfl dX7_parsesCommand_249
  · replace hf := gifn h6 hf
    by_cases h9 : r1 = 100
    · replace hf := gif h9 hf
      refine g_tabK (k := 100) (tgt := 128) hC dX7_parsesCommand_23 h9 (by decide) (by decide) rfl rfl ?_
      refine lv_aload_n hx hb dX7_parsesCommand_128 rfl (lv_at hl 1 rfl) ?_
      refine lv_bipush (v := 101) hx hb dX7_parsesCommand_129 (by decide) ?_
      refine lv_bipush (v := 108) hx hb dX7_parsesCommand_131 (by decide) ?_
      refine lv_bipush (v := 105) hx hb dX7_parsesCommand_133 (by decide) ?_
      obtain ⟨r10, hr11, hf⟩ := gbind hf
      have hr11 := C_X7_needsThree l E x  hr11
      refine g_callVv (rest := []) hC hI hr11 Y_X7_needsThree V_X7_needsThree w1803 (rcv_X7 hC hI) ⟨rfl, rfl⟩ ⟨Nat.le_of_ble_eq_true rfl, Nat.le_of_ble_eq_true rfl⟩ rfl hl.1 rfl (Nat.le_of_ble_eq_true rfl) dX7_parsesCommand_135 ⟨Nat.le_of_ble_eq_true rfl, Nat.le_of_ble_eq_true rfl⟩ (fun H locs hI => ?_)
      refine lv_aload_n hx hb dX7_parsesCommand_138 rfl (lv_at hl 1 rfl) ?_
      refine lv_bipush (v := 118) hx hb dX7_parsesCommand_139 (by decide) ?_
      refine lv_bipush (v := 101) hx hb dX7_parsesCommand_141 (by decide) ?_
      refine lv_bipush (v := 114) hx hb dX7_parsesCommand_143 (by decide) ?_
      obtain ⟨r12, hr13, hf⟩ := gbind hf
      have hr13 := C_X7_needsThree l E x  hr13
      refine g_callVv (rest := []) hC hI hr13 Y_X7_needsThree V_X7_needsThree w1803 (rcv_X7 hC hI) ⟨rfl, rfl⟩ ⟨Nat.le_of_ble_eq_true rfl, Nat.le_of_ble_eq_true rfl⟩ rfl hl.1 rfl (Nat.le_of_ble_eq_true rfl) dX7_parsesCommand_145 ⟨Nat.le_of_ble_eq_true rfl, Nat.le_of_ble_eq_true rfl⟩ (fun H locs hI => ?_)
      refine lv_aload_n hx hb dX7_parsesCommand_148 rfl (lv_at hl 1 rfl) ?_
      refine gt_X7_X7_parsed hC hI dX7_parsesCommand_149 ?_
      refine lv_iload_n hx hb dX7_parsesCommand_152 rfl (lv_at hl 2 rfl) ?_
      refine lv_iconst (v := 1) hx hb dX7_parsesCommand_153 (by decide) ?_
      refine lv_iadd hx hb dX7_parsesCommand_154 ?_
      refine lv_aload_n hx hb dX7_parsesCommand_155 rfl (lv_at hl 1 rfl) ?_
      refine lv_bipush (v := 32) hx hb dX7_parsesCommand_156 (by decide) ?_
      refine lv_iconst (v := 3) hx hb dX7_parsesCommand_158 (by decide) ?_
      obtain ⟨r14, hr15, hf⟩ := gbind hf
      have hr15 := C_X7_digitsAfter l E x  hr15
      refine g_callVi (rest := [.int (v1 + 1), .ref (E.2.1 158)]) hC hI hr15 Y_X7_digitsAfter V_X7_digitsAfter w1791 (rcv_X7 hC hI) ⟨rfl, rfl⟩ ⟨Nat.le_of_ble_eq_true rfl, Nat.le_of_ble_eq_true rfl⟩ rfl hl.1 rfl (Nat.le_of_ble_eq_true rfl) dX7_parsesCommand_159 ⟨Nat.le_of_ble_eq_true rfl, Nat.le_of_ble_eq_true rfl⟩ (fun H locs hI => ?_)
      obtain ⟨h16, hf⟩ := gifN hf
      obtain ⟨M17, eM17, hf⟩ := glet hf
      refine g_iast hC hI (k := (v1 + 1).toNatClampNeg) gIA_158 h16 rfl dX7_parsesCommand_162 (fun H locs hI => ?_)
      replace hI := g_mem eM17 hI
      refine lv_goto (tgt := 249) hx hb dX7_parsesCommand_163 rfl ?_
      exact kv _ _ _ _ _ (grv hf) hI rfl dX7_parsesCommand_249
    · replace hf := gifn h9 hf
      by_cases h18 : r1 = 104
      · replace hf := gif h18 hf
        refine g_tabK (k := 104) (tgt := 200) hC dX7_parsesCommand_23 h18 (by decide) (by decide) rfl rfl ?_
        refine lv_aload_n hx hb dX7_parsesCommand_200 rfl (lv_at hl 1 rfl) ?_
        refine lv_bipush (v := 111) hx hb dX7_parsesCommand_201 (by decide) ?_
        refine lv_bipush (v := 117) hx hb dX7_parsesCommand_203 (by decide) ?_
        refine lv_bipush (v := 114) hx hb dX7_parsesCommand_205 (by decide) ?_
        obtain ⟨r19, hr20, hf⟩ := gbind hf
        have hr20 := C_X7_needsThree l E x  hr20
        refine g_callVv (rest := []) hC hI hr20 Y_X7_needsThree V_X7_needsThree w1803 (rcv_X7 hC hI) ⟨rfl, rfl⟩ ⟨Nat.le_of_ble_eq_true rfl, Nat.le_of_ble_eq_true rfl⟩ rfl hl.1 rfl (Nat.le_of_ble_eq_true rfl) dX7_parsesCommand_207 ⟨Nat.le_of_ble_eq_true rfl, Nat.le_of_ble_eq_true rfl⟩ (fun H locs hI => ?_)
        refine lv_aload_n hx hb dX7_parsesCommand_210 rfl (lv_at hl 1 rfl) ?_
        refine lv_bipush (v := 115) hx hb dX7_parsesCommand_211 (by decide) ?_
        obtain ⟨r21, hr22, hf⟩ := gbind hf
        have hr22 := C_X7_needs l E x  hr22
        refine g_callVv (rest := []) hC hI hr22 Y_X7_needs V_X7_needs w1787 (rcv_X7 hC hI) ⟨rfl, rfl⟩ ⟨Nat.le_of_ble_eq_true rfl, Nat.le_of_ble_eq_true rfl⟩ rfl hl.1 rfl (Nat.le_of_ble_eq_true rfl) dX7_parsesCommand_213 ⟨Nat.le_of_ble_eq_true rfl, Nat.le_of_ble_eq_true rfl⟩ (fun H locs hI => ?_)
        refine lv_aload_n hx hb dX7_parsesCommand_216 rfl (lv_at hl 1 rfl) ?_
        refine gt_X7_X7_parsed hC hI dX7_parsesCommand_217 ?_
        refine lv_iload_n hx hb dX7_parsesCommand_220 rfl (lv_at hl 2 rfl) ?_
        refine lv_iconst (v := 1) hx hb dX7_parsesCommand_221 (by decide) ?_
        refine lv_iadd hx hb dX7_parsesCommand_222 ?_
        refine lv_aload_n hx hb dX7_parsesCommand_223 rfl (lv_at hl 1 rfl) ?_
        refine lv_bipush (v := 32) hx hb dX7_parsesCommand_224 (by decide) ?_
        refine lv_iconst (v := 3) hx hb dX7_parsesCommand_226 (by decide) ?_
        obtain ⟨r23, hr24, hf⟩ := gbind hf
        have hr24 := C_X7_digitsAfter l E x  hr24
        refine g_callVi (rest := [.int (v1 + 1), .ref (E.2.1 158)]) hC hI hr24 Y_X7_digitsAfter V_X7_digitsAfter w1791 (rcv_X7 hC hI) ⟨rfl, rfl⟩ ⟨Nat.le_of_ble_eq_true rfl, Nat.le_of_ble_eq_true rfl⟩ rfl hl.1 rfl (Nat.le_of_ble_eq_true rfl) dX7_parsesCommand_227 ⟨Nat.le_of_ble_eq_true rfl, Nat.le_of_ble_eq_true rfl⟩ (fun H locs hI => ?_)
        obtain ⟨h25, hf⟩ := gifN hf
        obtain ⟨M26, eM26, hf⟩ := glet hf
        refine g_iast hC hI (k := (v1 + 1).toNatClampNeg) gIA_158 h25 rfl dX7_parsesCommand_230 (fun H locs hI => ?_)
        replace hI := g_mem eM26 hI
        refine lv_goto (tgt := 249) hx hb dX7_parsesCommand_231 rfl ?_
        exact kv _ _ _ _ _ (grv hf) hI rfl dX7_parsesCommand_249
      · replace hf := gifn h18 hf
        by_cases h27 : r1 = 108
        · replace hf := gif h27 hf
          refine g_tabK (k := 108) (tgt := 166) hC dX7_parsesCommand_23 h27 (by decide) (by decide) rfl rfl ?_
          refine lv_aload_n hx hb dX7_parsesCommand_166 rfl (lv_at hl 1 rfl) ?_
          refine lv_bipush (v := 101) hx hb dX7_parsesCommand_167 (by decide) ?_
          refine lv_bipush (v := 97) hx hb dX7_parsesCommand_169 (by decide) ?_
          refine lv_bipush (v := 118) hx hb dX7_parsesCommand_171 (by decide) ?_
          obtain ⟨r28, hr29, hf⟩ := gbind hf
          have hr29 := C_X7_needsThree l E x  hr29
          refine g_callVv (rest := []) hC hI hr29 Y_X7_needsThree V_X7_needsThree w1803 (rcv_X7 hC hI) ⟨rfl, rfl⟩ ⟨Nat.le_of_ble_eq_true rfl, Nat.le_of_ble_eq_true rfl⟩ rfl hl.1 rfl (Nat.le_of_ble_eq_true rfl) dX7_parsesCommand_173 ⟨Nat.le_of_ble_eq_true rfl, Nat.le_of_ble_eq_true rfl⟩ (fun H locs hI => ?_)
          refine lv_aload_n hx hb dX7_parsesCommand_176 rfl (lv_at hl 1 rfl) ?_
          refine lv_bipush (v := 101) hx hb dX7_parsesCommand_177 (by decide) ?_
          obtain ⟨r30, hr31, hf⟩ := gbind hf
          have hr31 := C_X7_needs l E x  hr31
          refine g_callVv (rest := []) hC hI hr31 Y_X7_needs V_X7_needs w1787 (rcv_X7 hC hI) ⟨rfl, rfl⟩ ⟨Nat.le_of_ble_eq_true rfl, Nat.le_of_ble_eq_true rfl⟩ rfl hl.1 rfl (Nat.le_of_ble_eq_true rfl) dX7_parsesCommand_179 ⟨Nat.le_of_ble_eq_true rfl, Nat.le_of_ble_eq_true rfl⟩ (fun H locs hI => ?_)
          refine lv_aload_n hx hb dX7_parsesCommand_182 rfl (lv_at hl 1 rfl) ?_
          refine gt_X7_X7_parsed hC hI dX7_parsesCommand_183 ?_
          refine lv_iload_n hx hb dX7_parsesCommand_186 rfl (lv_at hl 2 rfl) ?_
          refine lv_iconst (v := 1) hx hb dX7_parsesCommand_187 (by decide) ?_
          refine lv_iadd hx hb dX7_parsesCommand_188 ?_
          refine lv_aload_n hx hb dX7_parsesCommand_189 rfl (lv_at hl 1 rfl) ?_
          refine lv_bipush (v := 32) hx hb dX7_parsesCommand_190 (by decide) ?_
          refine lv_iconst (v := 1) hx hb dX7_parsesCommand_192 (by decide) ?_
          obtain ⟨r32, hr33, hf⟩ := gbind hf
          have hr33 := C_X7_digitsAfter l E x  hr33
          refine g_callVi (rest := [.int (v1 + 1), .ref (E.2.1 158)]) hC hI hr33 Y_X7_digitsAfter V_X7_digitsAfter w1791 (rcv_X7 hC hI) ⟨rfl, rfl⟩ ⟨Nat.le_of_ble_eq_true rfl, Nat.le_of_ble_eq_true rfl⟩ rfl hl.1 rfl (Nat.le_of_ble_eq_true rfl) dX7_parsesCommand_193 ⟨Nat.le_of_ble_eq_true rfl, Nat.le_of_ble_eq_true rfl⟩ (fun H locs hI => ?_)
          obtain ⟨h34, hf⟩ := gifN hf
          obtain ⟨M35, eM35, hf⟩ := glet hf
          refine g_iast hC hI (k := (v1 + 1).toNatClampNeg) gIA_158 h34 rfl dX7_parsesCommand_196 (fun H locs hI => ?_)
          replace hI := g_mem eM35 hI
          refine lv_goto (tgt := 249) hx hb dX7_parsesCommand_197 rfl ?_
          exact kv _ _ _ _ _ (grv hf) hI rfl dX7_parsesCommand_249
        · replace hf := gifn h27 hf
          by_cases h36 : r1 = 109
          · replace hf := gif h36 hf
            refine g_tabK (k := 109) (tgt := 104) hC dX7_parsesCommand_23 h36 (by decide) (by decide) rfl rfl ?_
            refine lv_aload_n hx hb dX7_parsesCommand_104 rfl (lv_at hl 1 rfl) ?_
            refine lv_iload_n hx hb dX7_parsesCommand_105 rfl (lv_at hl 2 rfl) ?_
            obtain ⟨r37, hr38, hf⟩ := gbind hf
            have hr38 := C_X7_parsesM l E x  hr38
            refine g_callVv (rest := []) hC hI hr38 Y_X7_parsesM V_X7_parsesM w1783 (rcv_X7 hC hI) ⟨rfl, rfl⟩ ⟨Nat.le_of_ble_eq_true rfl, Nat.le_of_ble_eq_true rfl⟩ rfl hl.1 rfl (Nat.le_of_ble_eq_true rfl) dX7_parsesCommand_106 ⟨Nat.le_of_ble_eq_true rfl, Nat.le_of_ble_eq_true rfl⟩ (fun H locs hI => ?_)
            refine lv_goto (tgt := 249) hx hb dX7_parsesCommand_109 rfl ?_
            exact kv _ _ _ _ _ (grv hf) hI rfl dX7_parsesCommand_249
          · replace hf := gifn h36 hf
            by_cases h39 : r1 = 115
            · replace hf := gif h39 hf
              refine g_tabK (k := 115) (tgt := 112) hC dX7_parsesCommand_23 h39 (by decide) (by decide) rfl rfl ?_
              refine lv_aload_n hx hb dX7_parsesCommand_112 rfl (lv_at hl 1 rfl) ?_
              refine lv_iload_n hx hb dX7_parsesCommand_113 rfl (lv_at hl 2 rfl) ?_
              obtain ⟨r40, hr41, hf⟩ := gbind hf
              have hr41 := C_X7_parsesStow l E x  hr41
              refine g_callVv (rest := []) hC hI hr41 Y_X7_parsesStow V_X7_parsesStow w1799 (rcv_X7 hC hI) ⟨rfl, rfl⟩ ⟨Nat.le_of_ble_eq_true rfl, Nat.le_of_ble_eq_true rfl⟩ rfl hl.1 rfl (Nat.le_of_ble_eq_true rfl) dX7_parsesCommand_114 ⟨Nat.le_of_ble_eq_true rfl, Nat.le_of_ble_eq_true rfl⟩ (fun H locs hI => ?_)
              refine lv_goto (tgt := 249) hx hb dX7_parsesCommand_117 rfl ?_
              exact kv _ _ _ _ _ (grv hf) hI rfl dX7_parsesCommand_249
            · replace hf := gifn h39 hf
              refine g_tabD (tgt := 234) [99, 100, 104, 108, 109, 115] hC dX7_parsesCommand_23 (List.forall_mem_cons.mpr ⟨h6, List.forall_mem_cons.mpr ⟨h9, List.forall_mem_cons.mpr ⟨h18, List.forall_mem_cons.mpr ⟨h27, List.forall_mem_cons.mpr ⟨h36, List.forall_mem_cons.mpr ⟨h39, fun _ h => absurd h List.not_mem_nil⟩⟩⟩⟩⟩⟩) (by decide) rfl ?_
              refine lv_aload_n hx hb dX7_parsesCommand_234 rfl (lv_at hl 1 rfl) ?_
              refine lv_iconst (v := 1) hx hb dX7_parsesCommand_235 (by decide) ?_
              obtain ⟨M42, eM42, hf⟩ := glet hf
              refine pt_X7_X7_isWrong hC hI rfl rfl dX7_parsesCommand_236 (fun H locs hI => ?_)
              replace hI := g_mem eM42 hI
              refine lv_aload_n hx hb dX7_parsesCommand_239 rfl (lv_at hl 1 rfl) ?_
              refine lv_dup hx hb dX7_parsesCommand_240 rfl ?_
              refine gt_X7_X7_spot hC hI dX7_parsesCommand_241 ?_
              refine lv_iconst (v := 1) hx hb dX7_parsesCommand_244 (by decide) ?_
              refine lv_isub hx hb dX7_parsesCommand_245 ?_
              obtain ⟨M43, eM43, hf⟩ := glet hf
              refine pt_X7_X7_spot hC hI dX7_parsesCommand_246 (fun H locs hI => ?_)
              replace hI := g_mem eM43 hI
              exact kv _ _ _ _ _ (grv hf) hI rfl dX7_parsesCommand_249
theorem dX7_carriesOut_0 : decode cX7_carriesOut 0 = .ok (.aload_n 0, 1) := by decide +kernel
theorem dX7_carriesOut_1 : decode cX7_carriesOut 1 = .ok (.getfield 39, 3) := by decide +kernel
theorem dX7_carriesOut_4 : decode cX7_carriesOut 4 = .ok (.iload_n 1, 1) := by decide +kernel
theorem dX7_carriesOut_5 : decode cX7_carriesOut 5 = .ok (.iconst 1, 1) := by decide +kernel
theorem dX7_carriesOut_6 : decode cX7_carriesOut 6 = .ok (.iadd, 1) := by decide +kernel
theorem dX7_carriesOut_7 : decode cX7_carriesOut 7 = .ok (.iaload, 1) := by decide +kernel
theorem dX7_carriesOut_8 : decode cX7_carriesOut 8 = .ok (.istore_n 2, 1) := by decide +kernel
theorem dX7_carriesOut_9 : decode cX7_carriesOut 9 = .ok (.aload_n 0, 1) := by decide +kernel
theorem dX7_carriesOut_10 : decode cX7_carriesOut 10 = .ok (.getfield 39, 3) := by decide +kernel
theorem dX7_carriesOut_13 : decode cX7_carriesOut 13 = .ok (.iload_n 1, 1) := by decide +kernel
theorem dX7_carriesOut_14 : decode cX7_carriesOut 14 = .ok (.iconst 2, 1) := by decide +kernel
theorem dX7_carriesOut_15 : decode cX7_carriesOut 15 = .ok (.iadd, 1) := by decide +kernel
theorem dX7_carriesOut_16 : decode cX7_carriesOut 16 = .ok (.iaload, 1) := by decide +kernel
theorem dX7_carriesOut_17 : decode cX7_carriesOut 17 = .ok (.istore_n 3, 1) := by decide +kernel
theorem dX7_carriesOut_18 : decode cX7_carriesOut 18 = .ok (.aload_n 0, 1) := by decide +kernel
theorem dX7_carriesOut_19 : decode cX7_carriesOut 19 = .ok (.getfield 39, 3) := by decide +kernel
theorem dX7_carriesOut_22 : decode cX7_carriesOut 22 = .ok (.iload_n 1, 1) := by decide +kernel
theorem dX7_carriesOut_23 : decode cX7_carriesOut 23 = .ok (.iaload, 1) := by decide +kernel
theorem dX7_carriesOut_24 : decode cX7_carriesOut 24 = .ok (.tableswitch 176 99 118 #[134, 164, 176, 176, 176, 176, 176, 176, 176, 170, 96, 176, 176, 176, 176, 176, 111, 176, 176, 149], 96) := by decide +kernel
theorem dX7_carriesOut_120 : decode cX7_carriesOut 120 = .ok (.aload_n 0, 1) := by decide +kernel
theorem dX7_carriesOut_121 : decode cX7_carriesOut 121 = .ok (.iload_n 2, 1) := by decide +kernel
theorem dX7_carriesOut_122 : decode cX7_carriesOut 122 = .ok (.iload_n 3, 1) := by decide +kernel
theorem dX7_carriesOut_123 : decode cX7_carriesOut 123 = .ok (.aload_n 0, 1) := by decide +kernel
theorem dX7_carriesOut_124 : decode cX7_carriesOut 124 = .ok (.getfield 39, 3) := by decide +kernel
theorem dX7_carriesOut_127 : decode cX7_carriesOut 127 = .ok (.iload_n 1, 1) := by decide +kernel
theorem dX7_carriesOut_128 : decode cX7_carriesOut 128 = .ok (.iconst 3, 1) := by decide +kernel
theorem dX7_carriesOut_129 : decode cX7_carriesOut 129 = .ok (.iadd, 1) := by decide +kernel
theorem dX7_carriesOut_130 : decode cX7_carriesOut 130 = .ok (.iaload, 1) := by decide +kernel
theorem dX7_carriesOut_131 : decode cX7_carriesOut 131 = .ok (.invokevirtual 81, 3) := by decide +kernel
theorem dX7_carriesOut_134 : decode cX7_carriesOut 134 = .ok (.ireturn, 1) := by decide +kernel
theorem dX7_carriesOut_135 : decode cX7_carriesOut 135 = .ok (.aload_n 0, 1) := by decide +kernel
theorem dX7_carriesOut_136 : decode cX7_carriesOut 136 = .ok (.iload_n 2, 1) := by decide +kernel
theorem dX7_carriesOut_137 : decode cX7_carriesOut 137 = .ok (.iload_n 3, 1) := by decide +kernel
theorem dX7_carriesOut_138 : decode cX7_carriesOut 138 = .ok (.aload_n 0, 1) := by decide +kernel
theorem dX7_carriesOut_139 : decode cX7_carriesOut 139 = .ok (.getfield 39, 3) := by decide +kernel
theorem dX7_carriesOut_142 : decode cX7_carriesOut 142 = .ok (.iload_n 1, 1) := by decide +kernel
theorem dX7_carriesOut_143 : decode cX7_carriesOut 143 = .ok (.iconst 3, 1) := by decide +kernel
theorem dX7_carriesOut_144 : decode cX7_carriesOut 144 = .ok (.iadd, 1) := by decide +kernel
theorem dX7_carriesOut_145 : decode cX7_carriesOut 145 = .ok (.iaload, 1) := by decide +kernel
theorem dX7_carriesOut_146 : decode cX7_carriesOut 146 = .ok (.aload_n 0, 1) := by decide +kernel
theorem dX7_carriesOut_147 : decode cX7_carriesOut 147 = .ok (.getfield 39, 3) := by decide +kernel
theorem dX7_carriesOut_150 : decode cX7_carriesOut 150 = .ok (.iload_n 1, 1) := by decide +kernel
theorem dX7_carriesOut_151 : decode cX7_carriesOut 151 = .ok (.iconst 4, 1) := by decide +kernel
theorem dX7_carriesOut_152 : decode cX7_carriesOut 152 = .ok (.iadd, 1) := by decide +kernel
theorem dX7_carriesOut_153 : decode cX7_carriesOut 153 = .ok (.iaload, 1) := by decide +kernel
theorem dX7_carriesOut_154 : decode cX7_carriesOut 154 = .ok (.invokevirtual 99, 3) := by decide +kernel
theorem dX7_carriesOut_157 : decode cX7_carriesOut 157 = .ok (.ireturn, 1) := by decide +kernel
theorem dX7_carriesOut_158 : decode cX7_carriesOut 158 = .ok (.aload_n 0, 1) := by decide +kernel
theorem dX7_carriesOut_159 : decode cX7_carriesOut 159 = .ok (.iload_n 2, 1) := by decide +kernel
theorem dX7_carriesOut_160 : decode cX7_carriesOut 160 = .ok (.iload_n 3, 1) := by decide +kernel
theorem dX7_carriesOut_161 : decode cX7_carriesOut 161 = .ok (.aload_n 0, 1) := by decide +kernel
theorem dX7_carriesOut_162 : decode cX7_carriesOut 162 = .ok (.getfield 39, 3) := by decide +kernel
theorem dX7_carriesOut_165 : decode cX7_carriesOut 165 = .ok (.iload_n 1, 1) := by decide +kernel
theorem dX7_carriesOut_166 : decode cX7_carriesOut 166 = .ok (.iconst 3, 1) := by decide +kernel
theorem dX7_carriesOut_167 : decode cX7_carriesOut 167 = .ok (.iadd, 1) := by decide +kernel
theorem dX7_carriesOut_168 : decode cX7_carriesOut 168 = .ok (.iaload, 1) := by decide +kernel
theorem dX7_carriesOut_169 : decode cX7_carriesOut 169 = .ok (.invokevirtual 110, 3) := by decide +kernel
theorem dX7_carriesOut_172 : decode cX7_carriesOut 172 = .ok (.ireturn, 1) := by decide +kernel
theorem dX7_carriesOut_173 : decode cX7_carriesOut 173 = .ok (.aload_n 0, 1) := by decide +kernel
theorem dX7_carriesOut_174 : decode cX7_carriesOut 174 = .ok (.iload_n 2, 1) := by decide +kernel
theorem dX7_carriesOut_175 : decode cX7_carriesOut 175 = .ok (.iload_n 3, 1) := by decide +kernel
theorem dX7_carriesOut_176 : decode cX7_carriesOut 176 = .ok (.aload_n 0, 1) := by decide +kernel
theorem dX7_carriesOut_177 : decode cX7_carriesOut 177 = .ok (.getfield 39, 3) := by decide +kernel
theorem dX7_carriesOut_180 : decode cX7_carriesOut 180 = .ok (.iload_n 1, 1) := by decide +kernel
theorem dX7_carriesOut_181 : decode cX7_carriesOut 181 = .ok (.iconst 3, 1) := by decide +kernel
theorem dX7_carriesOut_182 : decode cX7_carriesOut 182 = .ok (.iadd, 1) := by decide +kernel
theorem dX7_carriesOut_183 : decode cX7_carriesOut 183 = .ok (.iaload, 1) := by decide +kernel
theorem dX7_carriesOut_184 : decode cX7_carriesOut 184 = .ok (.invokevirtual 113, 3) := by decide +kernel
theorem dX7_carriesOut_187 : decode cX7_carriesOut 187 = .ok (.ireturn, 1) := by decide +kernel
theorem dX7_carriesOut_188 : decode cX7_carriesOut 188 = .ok (.aload_n 0, 1) := by decide +kernel
theorem dX7_carriesOut_189 : decode cX7_carriesOut 189 = .ok (.iload_n 2, 1) := by decide +kernel
theorem dX7_carriesOut_190 : decode cX7_carriesOut 190 = .ok (.invokevirtual 119, 3) := by decide +kernel
theorem dX7_carriesOut_193 : decode cX7_carriesOut 193 = .ok (.ireturn, 1) := by decide +kernel
theorem dX7_carriesOut_194 : decode cX7_carriesOut 194 = .ok (.aload_n 0, 1) := by decide +kernel
theorem dX7_carriesOut_195 : decode cX7_carriesOut 195 = .ok (.iload_n 2, 1) := by decide +kernel
theorem dX7_carriesOut_196 : decode cX7_carriesOut 196 = .ok (.invokevirtual 134, 3) := by decide +kernel
theorem dX7_carriesOut_199 : decode cX7_carriesOut 199 = .ok (.ireturn, 1) := by decide +kernel
theorem dX7_carriesOut_200 : decode cX7_carriesOut 200 = .ok (.aload_n 0, 1) := by decide +kernel
theorem dX7_carriesOut_201 : decode cX7_carriesOut 201 = .ok (.iload_n 2, 1) := by decide +kernel
theorem dX7_carriesOut_202 : decode cX7_carriesOut 202 = .ok (.invokevirtual 140, 3) := by decide +kernel
theorem dX7_carriesOut_205 : decode cX7_carriesOut 205 = .ok (.ireturn, 1) := by decide +kernel
set_option maxRecDepth 100000 in
set_option maxHeartbeats 4000000 in
theorem C_X7_carriesOut (l : Launch) (E : gE) (x : gX) {v1 : Int32} {M : gM} {r : Int32} {M' : gM} (hf : f_X7_carriesOut v1 M = some (r, M')) : gM0 l E yX7_carriesOut (.code yX7_carriesOut cX7_carriesOut 4 (some .int)) (gR 4 90) M x [.ref (E.2.1 150), .int v1] (some (.int r)) M' := by
  refine gMet (by decide +kernel) (Nat.le_of_ble_eq_true rfl) ?_
  intro p e s m args below meth c H locs ls Q hC hl hI kr kv
  replace hC : gC p s m args c cX7_carriesOut 4 RX7 E := hC
  replace hl : lv_has ls 4 [(0, .ref (E.2.1 150)), (1, .int v1)] := hl
  have hx := hC.1
  have hb := hC.2.1
  unfold f_X7_carriesOut at hf
  refine lv_aload_n hx hb dX7_carriesOut_0 rfl (lv_at hl 0 rfl) ?_
  refine gt_X7_X7_parsed hC hI dX7_carriesOut_1 ?_
  refine lv_iload_n hx hb dX7_carriesOut_4 rfl (lv_at hl 1 rfl) ?_
  refine lv_iconst (v := 1) hx hb dX7_carriesOut_5 (by decide) ?_
  refine lv_iadd hx hb dX7_carriesOut_6 ?_
  obtain ⟨h1, hf⟩ := gifN hf
  refine g_iald hC hI (k := (v1 + 1).toNatClampNeg) gIA_158 h1 rfl dX7_carriesOut_7 ?_
  obtain ⟨z2, ez2, hf⟩ := glet hf
  refine g_top ez2 ?_
  refine lv_istore_n (lv' := [(2, .int z2), (0, .ref (E.2.1 150)), (1, .int v1)]) hx hb dX7_carriesOut_8 rfl hl (by decide) rfl (fun ls hl => ?_)
  refine lv_aload_n hx hb dX7_carriesOut_9 rfl (lv_at hl 1 rfl) ?_
  refine gt_X7_X7_parsed hC hI dX7_carriesOut_10 ?_
  refine lv_iload_n hx hb dX7_carriesOut_13 rfl (lv_at hl 2 rfl) ?_
  refine lv_iconst (v := 2) hx hb dX7_carriesOut_14 (by decide) ?_
  refine lv_iadd hx hb dX7_carriesOut_15 ?_
  obtain ⟨h3, hf⟩ := gifN hf
  refine g_iald hC hI (k := (v1 + 2).toNatClampNeg) gIA_158 h3 rfl dX7_carriesOut_16 ?_
  obtain ⟨z4, ez4, hf⟩ := glet hf
  refine g_top ez4 ?_
  refine lv_istore_n (lv' := [(3, .int z4), (2, .int z2), (0, .ref (E.2.1 150)), (1, .int v1)]) hx hb dX7_carriesOut_17 rfl hl (by decide) rfl (fun ls hl => ?_)
  refine lv_aload_n hx hb dX7_carriesOut_18 rfl (lv_at hl 2 rfl) ?_
  refine gt_X7_X7_parsed hC hI dX7_carriesOut_19 ?_
  refine lv_iload_n hx hb dX7_carriesOut_22 rfl (lv_at hl 3 rfl) ?_
  obtain ⟨h5, hf⟩ := gifN hf
  refine g_iald hC hI (k := v1.toNatClampNeg) gIA_158 h5 rfl dX7_carriesOut_23 ?_
  by_cases h6 : (M 158 v1.toNatClampNeg) = 99
  · replace hf := gif h6 hf
    refine g_tabK (k := 99) (tgt := 158) hC dX7_carriesOut_24 h6 (by decide) (by decide) rfl rfl ?_
    refine lv_aload_n hx hb dX7_carriesOut_158 rfl (lv_at hl 2 rfl) ?_
    refine lv_iload_n hx hb dX7_carriesOut_159 rfl (lv_at hl 1 rfl) ?_
    refine lv_iload_n hx hb dX7_carriesOut_160 rfl (lv_at hl 0 rfl) ?_
    refine lv_aload_n hx hb dX7_carriesOut_161 rfl (lv_at hl 2 rfl) ?_
    refine gt_X7_X7_parsed hC hI dX7_carriesOut_162 ?_
    refine lv_iload_n hx hb dX7_carriesOut_165 rfl (lv_at hl 3 rfl) ?_
    refine lv_iconst (v := 3) hx hb dX7_carriesOut_166 (by decide) ?_
    refine lv_iadd hx hb dX7_carriesOut_167 ?_
    obtain ⟨h7, hf⟩ := gifN hf
    refine g_iald hC hI (k := (v1 + 3).toNatClampNeg) gIA_158 h7 rfl dX7_carriesOut_168 ?_
    obtain ⟨r8, hr9, hf⟩ := gbind hf
    have hr9 := C_X7_clears l E x  hr9
    refine g_callVi (rest := []) hC hI hr9 Y_X7_clears V_X7_clears w1443 (rcv_X7 hC hI) ⟨rfl, rfl⟩ ⟨Nat.le_of_ble_eq_true rfl, Nat.le_of_ble_eq_true rfl⟩ rfl hl.1 rfl (Nat.le_of_ble_eq_true rfl) dX7_carriesOut_169 ⟨Nat.le_of_ble_eq_true rfl, Nat.le_of_ble_eq_true rfl⟩ (fun H locs hI => ?_)
    exact kr _ _ _ _ _ _ (grw hf) hI ⟨.int, rfl, rfl⟩ dX7_carriesOut_172
  · replace hf := gifn h6 hf
    by_cases h10 : (M 158 v1.toNatClampNeg) = 100
    · replace hf := gif h10 hf
      refine g_tabK (k := 100) (tgt := 188) hC dX7_carriesOut_24 h10 (by decide) (by decide) rfl rfl ?_
      refine lv_aload_n hx hb dX7_carriesOut_188 rfl (lv_at hl 2 rfl) ?_
      refine lv_iload_n hx hb dX7_carriesOut_189 rfl (lv_at hl 1 rfl) ?_
      obtain ⟨r11, hr12, hf⟩ := gbind hf
      have hr12 := C_X7_delivers l E x  hr12
      refine g_callVi (rest := []) hC hI hr12 Y_X7_delivers V_X7_delivers w1466 (rcv_X7 hC hI) ⟨rfl, rfl⟩ ⟨Nat.le_of_ble_eq_true rfl, Nat.le_of_ble_eq_true rfl⟩ rfl hl.1 rfl (Nat.le_of_ble_eq_true rfl) dX7_carriesOut_190 ⟨Nat.le_of_ble_eq_true rfl, Nat.le_of_ble_eq_true rfl⟩ (fun H locs hI => ?_)
      exact kr _ _ _ _ _ _ (grw hf) hI ⟨.int, rfl, rfl⟩ dX7_carriesOut_193
    · replace hf := gifn h10 hf
      by_cases h13 : (M 158 v1.toNatClampNeg) = 108
      · replace hf := gif h13 hf
        refine g_tabK (k := 108) (tgt := 194) hC dX7_carriesOut_24 h13 (by decide) (by decide) rfl rfl ?_
        refine lv_aload_n hx hb dX7_carriesOut_194 rfl (lv_at hl 2 rfl) ?_
        refine lv_iload_n hx hb dX7_carriesOut_195 rfl (lv_at hl 1 rfl) ?_
        obtain ⟨r14, hr15, hf⟩ := gbind hf
        have hr15 := C_X7_leaves l E x  hr15
        refine g_callVi (rest := []) hC hI hr15 Y_X7_leaves V_X7_leaves w1478 (rcv_X7 hC hI) ⟨rfl, rfl⟩ ⟨Nat.le_of_ble_eq_true rfl, Nat.le_of_ble_eq_true rfl⟩ rfl hl.1 rfl (Nat.le_of_ble_eq_true rfl) dX7_carriesOut_196 ⟨Nat.le_of_ble_eq_true rfl, Nat.le_of_ble_eq_true rfl⟩ (fun H locs hI => ?_)
        exact kr _ _ _ _ _ _ (grw hf) hI ⟨.int, rfl, rfl⟩ dX7_carriesOut_199
      · replace hf := gifn h13 hf
        by_cases h16 : (M 158 v1.toNatClampNeg) = 109
        · replace hf := gif h16 hf
          refine g_tabK (k := 109) (tgt := 120) hC dX7_carriesOut_24 h16 (by decide) (by decide) rfl rfl ?_
          refine lv_aload_n hx hb dX7_carriesOut_120 rfl (lv_at hl 2 rfl) ?_
          refine lv_iload_n hx hb dX7_carriesOut_121 rfl (lv_at hl 1 rfl) ?_
          refine lv_iload_n hx hb dX7_carriesOut_122 rfl (lv_at hl 0 rfl) ?_
          refine lv_aload_n hx hb dX7_carriesOut_123 rfl (lv_at hl 2 rfl) ?_
          refine gt_X7_X7_parsed hC hI dX7_carriesOut_124 ?_
          refine lv_iload_n hx hb dX7_carriesOut_127 rfl (lv_at hl 3 rfl) ?_
          refine lv_iconst (v := 3) hx hb dX7_carriesOut_128 (by decide) ?_
          refine lv_iadd hx hb dX7_carriesOut_129 ?_
          obtain ⟨h17, hf⟩ := gifN hf
          refine g_iald hC hI (k := (v1 + 3).toNatClampNeg) gIA_158 h17 rfl dX7_carriesOut_130 ?_
          obtain ⟨r18, hr19, hf⟩ := gbind hf
          have hr19 := C_X7_moors l E x  hr19
          refine g_callVi (rest := []) hC hI hr19 Y_X7_moors V_X7_moors w1391 (rcv_X7 hC hI) ⟨rfl, rfl⟩ ⟨Nat.le_of_ble_eq_true rfl, Nat.le_of_ble_eq_true rfl⟩ rfl hl.1 rfl (Nat.le_of_ble_eq_true rfl) dX7_carriesOut_131 ⟨Nat.le_of_ble_eq_true rfl, Nat.le_of_ble_eq_true rfl⟩ (fun H locs hI => ?_)
          exact kr _ _ _ _ _ _ (grw hf) hI ⟨.int, rfl, rfl⟩ dX7_carriesOut_134
        · replace hf := gifn h16 hf
          by_cases h20 : (M 158 v1.toNatClampNeg) = 115
          · replace hf := gif h20 hf
            refine g_tabK (k := 115) (tgt := 135) hC dX7_carriesOut_24 h20 (by decide) (by decide) rfl rfl ?_
            refine lv_aload_n hx hb dX7_carriesOut_135 rfl (lv_at hl 2 rfl) ?_
            refine lv_iload_n hx hb dX7_carriesOut_136 rfl (lv_at hl 1 rfl) ?_
            refine lv_iload_n hx hb dX7_carriesOut_137 rfl (lv_at hl 0 rfl) ?_
            refine lv_aload_n hx hb dX7_carriesOut_138 rfl (lv_at hl 2 rfl) ?_
            refine gt_X7_X7_parsed hC hI dX7_carriesOut_139 ?_
            refine lv_iload_n hx hb dX7_carriesOut_142 rfl (lv_at hl 3 rfl) ?_
            refine lv_iconst (v := 3) hx hb dX7_carriesOut_143 (by decide) ?_
            refine lv_iadd hx hb dX7_carriesOut_144 ?_
            obtain ⟨h21, hf⟩ := gifN hf
            refine g_iald hC hI (k := (v1 + 3).toNatClampNeg) gIA_158 h21 rfl dX7_carriesOut_145 ?_
            refine lv_aload_n hx hb dX7_carriesOut_146 rfl (lv_at hl 2 rfl) ?_
            refine gt_X7_X7_parsed hC hI dX7_carriesOut_147 ?_
            refine lv_iload_n hx hb dX7_carriesOut_150 rfl (lv_at hl 3 rfl) ?_
            refine lv_iconst (v := 4) hx hb dX7_carriesOut_151 (by decide) ?_
            refine lv_iadd hx hb dX7_carriesOut_152 ?_
            obtain ⟨h22, hf⟩ := gifN hf
            refine g_iald hC hI (k := (v1 + 4).toNatClampNeg) gIA_158 h22 rfl dX7_carriesOut_153 ?_
            obtain ⟨r23, hr24, hf⟩ := gbind hf
            have hr24 := C_X7_stows l E x  hr24
            refine g_callVi (rest := []) hC hI hr24 Y_X7_stows V_X7_stows w1421 (rcv_X7 hC hI) ⟨rfl, rfl⟩ ⟨Nat.le_of_ble_eq_true rfl, Nat.le_of_ble_eq_true rfl⟩ rfl hl.1 rfl (Nat.le_of_ble_eq_true rfl) dX7_carriesOut_154 ⟨Nat.le_of_ble_eq_true rfl, Nat.le_of_ble_eq_true rfl⟩ (fun H locs hI => ?_)
            exact kr _ _ _ _ _ _ (grw hf) hI ⟨.int, rfl, rfl⟩ dX7_carriesOut_157
          · replace hf := gifn h20 hf
            by_cases h25 : (M 158 v1.toNatClampNeg) = 118
            · replace hf := gif h25 hf
              refine g_tabK (k := 118) (tgt := 173) hC dX7_carriesOut_24 h25 (by decide) (by decide) rfl rfl ?_
              refine lv_aload_n hx hb dX7_carriesOut_173 rfl (lv_at hl 2 rfl) ?_
              refine lv_iload_n hx hb dX7_carriesOut_174 rfl (lv_at hl 1 rfl) ?_
              refine lv_iload_n hx hb dX7_carriesOut_175 rfl (lv_at hl 0 rfl) ?_
              refine lv_aload_n hx hb dX7_carriesOut_176 rfl (lv_at hl 2 rfl) ?_
              refine gt_X7_X7_parsed hC hI dX7_carriesOut_177 ?_
              refine lv_iload_n hx hb dX7_carriesOut_180 rfl (lv_at hl 3 rfl) ?_
              refine lv_iconst (v := 3) hx hb dX7_carriesOut_181 (by decide) ?_
              refine lv_iadd hx hb dX7_carriesOut_182 ?_
              obtain ⟨h26, hf⟩ := gifN hf
              refine g_iald hC hI (k := (v1 + 3).toNatClampNeg) gIA_158 h26 rfl dX7_carriesOut_183 ?_
              obtain ⟨r27, hr28, hf⟩ := gbind hf
              have hr28 := C_X7_moves l E x  hr28
              refine g_callVi (rest := []) hC hI hr28 Y_X7_moves V_X7_moves w1458 (rcv_X7 hC hI) ⟨rfl, rfl⟩ ⟨Nat.le_of_ble_eq_true rfl, Nat.le_of_ble_eq_true rfl⟩ rfl hl.1 rfl (Nat.le_of_ble_eq_true rfl) dX7_carriesOut_184 ⟨Nat.le_of_ble_eq_true rfl, Nat.le_of_ble_eq_true rfl⟩ (fun H locs hI => ?_)
              exact kr _ _ _ _ _ _ (grw hf) hI ⟨.int, rfl, rfl⟩ dX7_carriesOut_187
            · replace hf := gifn h25 hf
              refine g_tabD (tgt := 200) [99, 100, 108, 109, 115, 118] hC dX7_carriesOut_24 (List.forall_mem_cons.mpr ⟨h6, List.forall_mem_cons.mpr ⟨h10, List.forall_mem_cons.mpr ⟨h13, List.forall_mem_cons.mpr ⟨h16, List.forall_mem_cons.mpr ⟨h20, List.forall_mem_cons.mpr ⟨h25, fun _ h => absurd h List.not_mem_nil⟩⟩⟩⟩⟩⟩) (by decide) rfl ?_
              refine lv_aload_n hx hb dX7_carriesOut_200 rfl (lv_at hl 2 rfl) ?_
              refine lv_iload_n hx hb dX7_carriesOut_201 rfl (lv_at hl 1 rfl) ?_
              obtain ⟨r29, hr30, hf⟩ := gbind hf
              have hr30 := C_X7_passes l E x  hr30
              refine g_callVi (rest := []) hC hI hr30 Y_X7_passes V_X7_passes w1501 (rcv_X7 hC hI) ⟨rfl, rfl⟩ ⟨Nat.le_of_ble_eq_true rfl, Nat.le_of_ble_eq_true rfl⟩ rfl hl.1 rfl (Nat.le_of_ble_eq_true rfl) dX7_carriesOut_202 ⟨Nat.le_of_ble_eq_true rfl, Nat.le_of_ble_eq_true rfl⟩ (fun H locs hI => ?_)
              exact kr _ _ _ _ _ _ (grw hf) hI ⟨.int, rfl, rfl⟩ dX7_carriesOut_205
theorem dX7_run_0 : decode cX7_run 0 = .ok (.aload_n 0, 1) := by decide +kernel
theorem dX7_run_1 : decode cX7_run 1 = .ok (.iconst 0, 1) := by decide +kernel
theorem dX7_run_2 : decode cX7_run 2 = .ok (.putfield 207, 3) := by decide +kernel
theorem dX7_run_5 : decode cX7_run 5 = .ok (.aload_n 0, 1) := by decide +kernel
theorem dX7_run_6 : decode cX7_run 6 = .ok (.iconst 0, 1) := by decide +kernel
theorem dX7_run_7 : decode cX7_run 7 = .ok (.putfield 210, 3) := by decide +kernel
theorem dX7_run_10 : decode cX7_run 10 = .ok (.iconst 0, 1) := by decide +kernel
theorem dX7_run_11 : decode cX7_run 11 = .ok (.istore_n 1, 1) := by decide +kernel
theorem dX7_run_12 : decode cX7_run 12 = .ok (.iconst 1, 1) := by decide +kernel
theorem dX7_run_13 : decode cX7_run 13 = .ok (.istore_n 2, 1) := by decide +kernel
theorem dX7_run_14 : decode cX7_run 14 = .ok (.iload_n 2, 1) := by decide +kernel
theorem dX7_run_15 : decode cX7_run 15 = .ok (.ifCond .eq 56, 3) := by decide +kernel
theorem dX7_run_18 : decode cX7_run 18 = .ok (.aload_n 0, 1) := by decide +kernel
theorem dX7_run_19 : decode cX7_run 19 = .ok (.iconst 5, 1) := by decide +kernel
theorem dX7_run_20 : decode cX7_run 20 = .ok (.iload_n 1, 1) := by decide +kernel
theorem dX7_run_21 : decode cX7_run 21 = .ok (.imul, 1) := by decide +kernel
theorem dX7_run_22 : decode cX7_run 22 = .ok (.invokevirtual 239, 3) := by decide +kernel
theorem dX7_run_25 : decode cX7_run 25 = .ok (.iinc 1 1, 3) := by decide +kernel
theorem dX7_run_28 : decode cX7_run 28 = .ok (.aload_n 0, 1) := by decide +kernel
theorem dX7_run_29 : decode cX7_run 29 = .ok (.getfield 210, 3) := by decide +kernel
theorem dX7_run_32 : decode cX7_run 32 = .ok (.ifCond .ne 16, 3) := by decide +kernel
theorem dX7_run_35 : decode cX7_run 35 = .ok (.aload_n 0, 1) := by decide +kernel
theorem dX7_run_36 : decode cX7_run 36 = .ok (.invokevirtual 214, 3) := by decide +kernel
theorem dX7_run_39 : decode cX7_run 39 = .ok (.bipush 59, 2) := by decide +kernel
theorem dX7_run_41 : decode cX7_run 41 = .ok (.if_icmp .ne 7, 3) := by decide +kernel
theorem dX7_run_44 : decode cX7_run 44 = .ok (.iconst 1, 1) := by decide +kernel
theorem dX7_run_45 : decode cX7_run 45 = .ok (.goto 4, 3) := by decide +kernel
theorem dX7_run_48 : decode cX7_run 48 = .ok (.iconst 0, 1) := by decide +kernel
theorem dX7_run_49 : decode cX7_run 49 = .ok (.istore_n 2, 1) := by decide +kernel
theorem dX7_run_50 : decode cX7_run 50 = .ok (.aload_n 0, 1) := by decide +kernel
theorem dX7_run_51 : decode cX7_run 51 = .ok (.dup, 1) := by decide +kernel
theorem dX7_run_52 : decode cX7_run 52 = .ok (.getfield 207, 3) := by decide +kernel
theorem dX7_run_55 : decode cX7_run 55 = .ok (.iload_n 2, 1) := by decide +kernel
theorem dX7_run_56 : decode cX7_run 56 = .ok (.ifCond .eq 7, 3) := by decide +kernel
theorem dX7_run_59 : decode cX7_run 59 = .ok (.iconst 1, 1) := by decide +kernel
theorem dX7_run_60 : decode cX7_run 60 = .ok (.goto 4, 3) := by decide +kernel
theorem dX7_run_63 : decode cX7_run 63 = .ok (.iconst 0, 1) := by decide +kernel
theorem dX7_run_64 : decode cX7_run 64 = .ok (.iadd, 1) := by decide +kernel
theorem dX7_run_65 : decode cX7_run 65 = .ok (.putfield 207, 3) := by decide +kernel
theorem dX7_run_68 : decode cX7_run 68 = .ok (.goto (-54), 3) := by decide +kernel
theorem dX7_run_71 : decode cX7_run 71 = .ok (.aload_n 0, 1) := by decide +kernel
theorem dX7_run_72 : decode cX7_run 72 = .ok (.aload_n 0, 1) := by decide +kernel
theorem dX7_run_73 : decode cX7_run 73 = .ok (.getfield 210, 3) := by decide +kernel
theorem dX7_run_76 : decode cX7_run 76 = .ok (.ifCond .ne 14, 3) := by decide +kernel
theorem dX7_run_79 : decode cX7_run 79 = .ok (.aload_n 0, 1) := by decide +kernel
theorem dX7_run_80 : decode cX7_run 80 = .ok (.getfield 207, 3) := by decide +kernel
theorem dX7_run_83 : decode cX7_run 83 = .ok (.aload_n 0, 1) := by decide +kernel
theorem dX7_run_84 : decode cX7_run 84 = .ok (.getfield 204, 3) := by decide +kernel
theorem dX7_run_87 : decode cX7_run 87 = .ok (.if_icmp .ge 7, 3) := by decide +kernel
theorem dX7_run_90 : decode cX7_run 90 = .ok (.iconst 1, 1) := by decide +kernel
theorem dX7_run_91 : decode cX7_run 91 = .ok (.goto 4, 3) := by decide +kernel
theorem dX7_run_94 : decode cX7_run 94 = .ok (.iconst 0, 1) := by decide +kernel
theorem dX7_run_95 : decode cX7_run 95 = .ok (.putfield 210, 3) := by decide +kernel
theorem dX7_run_98 : decode cX7_run 98 = .ok (.aload_n 0, 1) := by decide +kernel
theorem dX7_run_99 : decode cX7_run 99 = .ok (.iconst 0, 1) := by decide +kernel
theorem dX7_run_100 : decode cX7_run 100 = .ok (.putfield 204, 3) := by decide +kernel
theorem dX7_run_103 : decode cX7_run 103 = .ok (.aload_n 0, 1) := by decide +kernel
theorem dX7_run_104 : decode cX7_run 104 = .ok (.getfield 210, 3) := by decide +kernel
theorem dX7_run_107 : decode cX7_run 107 = .ok (.ifCond .eq 17, 3) := by decide +kernel
theorem dX7_run_110 : decode cX7_run 110 = .ok (.aload_n 0, 1) := by decide +kernel
theorem dX7_run_111 : decode cX7_run 111 = .ok (.aload_n 0, 1) := by decide +kernel
theorem dX7_run_112 : decode cX7_run 112 = .ok (.getfield 207, 3) := by decide +kernel
theorem dX7_run_115 : decode cX7_run 115 = .ok (.putfield 29, 3) := by decide +kernel
theorem dX7_run_118 : decode cX7_run 118 = .ok (.aload_n 0, 1) := by decide +kernel
theorem dX7_run_119 : decode cX7_run 119 = .ok (.iconst 1, 1) := by decide +kernel
theorem dX7_run_120 : decode cX7_run 120 = .ok (.invokevirtual 67, 3) := by decide +kernel
theorem dX7_run_123 : decode cX7_run 123 = .ok (.ireturn, 1) := by decide +kernel
theorem dX7_run_124 : decode cX7_run 124 = .ok (.aload_n 0, 1) := by decide +kernel
theorem dX7_run_125 : decode cX7_run 125 = .ok (.invokevirtual 78, 3) := by decide +kernel
theorem dX7_run_128 : decode cX7_run 128 = .ok (.iconst 0, 1) := by decide +kernel
theorem dX7_run_129 : decode cX7_run 129 = .ok (.istore_n 3, 1) := by decide +kernel
theorem dX7_run_130 : decode cX7_run 130 = .ok (.iload_n 3, 1) := by decide +kernel
theorem dX7_run_131 : decode cX7_run 131 = .ok (.iload_n 1, 1) := by decide +kernel
theorem dX7_run_132 : decode cX7_run 132 = .ok (.if_icmp .ge 42, 3) := by decide +kernel
theorem dX7_run_135 : decode cX7_run 135 = .ok (.aload_n 0, 1) := by decide +kernel
theorem dX7_run_136 : decode cX7_run 136 = .ok (.iconst 5, 1) := by decide +kernel
theorem dX7_run_137 : decode cX7_run 137 = .ok (.iload_n 3, 1) := by decide +kernel
theorem dX7_run_138 : decode cX7_run 138 = .ok (.imul, 1) := by decide +kernel
theorem dX7_run_139 : decode cX7_run 139 = .ok (.invokevirtual 242, 3) := by decide +kernel
theorem dX7_run_142 : decode cX7_run 142 = .ok (.istore 4, 2) := by decide +kernel
theorem dX7_run_144 : decode cX7_run 144 = .ok (.aload_n 0, 1) := by decide +kernel
theorem dX7_run_145 : decode cX7_run 145 = .ok (.getfield 42, 3) := by decide +kernel
theorem dX7_run_148 : decode cX7_run 148 = .ok (.ifCond .eq 20, 3) := by decide +kernel
theorem dX7_run_151 : decode cX7_run 151 = .ok (.aload_n 0, 1) := by decide +kernel
theorem dX7_run_152 : decode cX7_run 152 = .ok (.iload_n 3, 1) := by decide +kernel
theorem dX7_run_153 : decode cX7_run 153 = .ok (.putfield 33, 3) := by decide +kernel
theorem dX7_run_156 : decode cX7_run 156 = .ok (.aload_n 0, 1) := by decide +kernel
theorem dX7_run_157 : decode cX7_run 157 = .ok (.iconst 2, 1) := by decide +kernel
theorem dX7_run_158 : decode cX7_run 158 = .ok (.putfield 42, 3) := by decide +kernel
theorem dX7_run_161 : decode cX7_run 161 = .ok (.aload_n 0, 1) := by decide +kernel
theorem dX7_run_162 : decode cX7_run 162 = .ok (.iload 4, 2) := by decide +kernel
theorem dX7_run_164 : decode cX7_run 164 = .ok (.invokevirtual 85, 3) := by decide +kernel
theorem dX7_run_167 : decode cX7_run 167 = .ok (.ireturn, 1) := by decide +kernel
theorem dX7_run_168 : decode cX7_run 168 = .ok (.iinc 3 1, 3) := by decide +kernel
theorem dX7_run_171 : decode cX7_run 171 = .ok (.goto (-41), 3) := by decide +kernel
theorem dX7_run_174 : decode cX7_run 174 = .ok (.aload_n 0, 1) := by decide +kernel
theorem dX7_run_175 : decode cX7_run 175 = .ok (.aload_n 0, 1) := by decide +kernel
theorem dX7_run_176 : decode cX7_run 176 = .ok (.iload_n 1, 1) := by decide +kernel
theorem dX7_run_177 : decode cX7_run 177 = .ok (.invokevirtual 75, 3) := by decide +kernel
theorem dX7_run_180 : decode cX7_run 180 = .ok (.invokevirtual 85, 3) := by decide +kernel
theorem dX7_run_183 : decode cX7_run 183 = .ok (.ireturn, 1) := by decide +kernel
set_option maxRecDepth 100000 in
set_option maxHeartbeats 4000000 in
theorem C_X7_run (l : Launch) (E : gE) (x : gX) {M : gM} {r : Int32} {M' : gM} (hf : f_X7_run M = some (r, M')) : gM0 l E yX7_run (.code yX7_run cX7_run 5 (some .int)) (gR 5 113) M x [.ref (E.2.1 150)] (some (.int r)) M' := by
  refine gMet (by decide +kernel) (Nat.le_of_ble_eq_true rfl) ?_
  intro p e s m args below meth c H locs ls Q hC hl hI kr kv
  replace hC : gC p s m args c cX7_run 5 RX7 E := hC
  replace hl : lv_has ls 5 [(0, .ref (E.2.1 150))] := hl
  have hx := hC.1
  have hb := hC.2.1
  have L130 : ∀ (v2 : Int32) (v1 : Int32) (n : Nat) (v3 : Int32) (M : gM), f_X7_run_L130 v2 v1 n v3 M = some (r, M') → ∀ (H : Heap) (locs : List Loc) (ls : Array Slot), gI E s M x H locs → lv_has ls 5 [(3, .int v3), (2, .int v2), (1, .int v1), (0, .ref (E.2.1 150))] → W p l e (gR 5 113) s m args below meth c H locs 0 0 Q (F0 m 130 ls []) := by
    intro v2 v1 n
    induction n with
    | zero => intro v3 M hf; rw [f_X7_run_L130] at hf; cases hf
    | succ n ih =>
      intro v3 M hf H locs ls hI hl
      rw [f_X7_run_L130] at hf
      refine lv_iload_n hx hb dX7_run_130 rfl (lv_at hl 0 rfl) ?_
      refine lv_iload_n hx hb dX7_run_131 rfl (lv_at hl 2 rfl) ?_
      refine lv_icmp_ge (tgt := 174) hx hb dX7_run_132 rfl (fun h10 => ?_) (fun h10 => ?_)
      · replace hf := gif h10 hf
        refine lv_aload_n hx hb dX7_run_174 rfl (lv_at hl 3 rfl) ?_
        refine lv_aload_n hx hb dX7_run_175 rfl (lv_at hl 3 rfl) ?_
        refine lv_iload_n hx hb dX7_run_176 rfl (lv_at hl 2 rfl) ?_
        obtain ⟨r11, hr12, hf⟩ := gbind hf
        have hr12 := C_X7_done l E x  hr12
        refine g_callVi (rest := [.ref (E.2.1 150)]) hC hI hr12 Y_X7_done V_X7_done w1409 (rcv_X7 hC hI) ⟨rfl, rfl⟩ ⟨Nat.le_of_ble_eq_true rfl, Nat.le_of_ble_eq_true rfl⟩ rfl hl.1 rfl (Nat.le_of_ble_eq_true rfl) dX7_run_177 ⟨Nat.le_of_ble_eq_true rfl, Nat.le_of_ble_eq_true rfl⟩ (fun H locs hI => ?_)
        obtain ⟨r13, hr14, hf⟩ := gbind hf
        have hr14 := C_X7_kept l E x  hr14
        refine g_callVi (rest := []) hC hI hr14 Y_X7_kept V_X7_kept w1413 (rcv_X7 hC hI) ⟨rfl, rfl⟩ ⟨Nat.le_of_ble_eq_true rfl, Nat.le_of_ble_eq_true rfl⟩ rfl hl.1 rfl (Nat.le_of_ble_eq_true rfl) dX7_run_180 ⟨Nat.le_of_ble_eq_true rfl, Nat.le_of_ble_eq_true rfl⟩ (fun H locs hI => ?_)
        exact kr _ _ _ _ _ _ (grw hf) hI ⟨.int, rfl, rfl⟩ dX7_run_183
      · replace hf := gifn h10 hf
        refine lv_aload_n hx hb dX7_run_135 rfl (lv_at hl 3 rfl) ?_
        refine lv_iconst (v := 5) hx hb dX7_run_136 (by decide) ?_
        refine lv_iload_n hx hb dX7_run_137 rfl (lv_at hl 0 rfl) ?_
        refine lv_imul hx hb dX7_run_138 ?_
        obtain ⟨r15, hr16, hf⟩ := gbind hf
        have hr16 := C_X7_carriesOut l E x  hr16
        refine g_callVi (rest := []) hC hI hr16 Y_X7_carriesOut V_X7_carriesOut w1811 (rcv_X7 hC hI) ⟨rfl, rfl⟩ ⟨Nat.le_of_ble_eq_true rfl, Nat.le_of_ble_eq_true rfl⟩ rfl hl.1 rfl (Nat.le_of_ble_eq_true rfl) dX7_run_139 ⟨Nat.le_of_ble_eq_true rfl, Nat.le_of_ble_eq_true rfl⟩ (fun H locs hI => ?_)
        refine lv_istore (lv' := [(4, .int r15.1), (3, .int v3), (2, .int v2), (1, .int v1), (0, .ref (E.2.1 150))]) hx hb dX7_run_142 hl (by decide) rfl (fun ls hl => ?_)
        refine lv_aload_n hx hb dX7_run_144 rfl (lv_at hl 4 rfl) ?_
        refine gt_X7_X7_thrown hC hI dX7_run_145 ?_
        refine lv_if_eq (tgt := 168) hx hb dX7_run_148 rfl (fun h17 => ?_) (fun h17 => ?_)
        · replace hf := gif h17 hf
          refine lv_iinc (k := 1) (v := v3 + 1) (lv' := [(3, .int (v3 + 1)), (4, .int r15.1), (2, .int v2), (1, .int v1), (0, .ref (E.2.1 150))]) hx hb dX7_run_168 hl rfl rfl (by decide) rfl (fun ls hl => ?_)
          refine lv_goto (tgt := 130) hx hb dX7_run_171 rfl ?_
          exact ih (v3 + 1) r15.2 hf _ _ _ hI (lv_sub hl [0, 2, 3, 4] rfl)
        · replace hf := gifn h17 hf
          refine lv_aload_n hx hb dX7_run_151 rfl (lv_at hl 4 rfl) ?_
          refine lv_iload_n hx hb dX7_run_152 rfl (lv_at hl 1 rfl) ?_
          obtain ⟨M18, eM18, hf⟩ := glet hf
          refine pt_X7_X7_failedAt hC hI dX7_run_153 (fun H locs hI => ?_)
          replace hI := g_mem eM18 hI
          refine lv_aload_n hx hb dX7_run_156 rfl (lv_at hl 4 rfl) ?_
          refine lv_iconst (v := 2) hx hb dX7_run_157 (by decide) ?_
          obtain ⟨M19, eM19, hf⟩ := glet hf
          refine pt_X7_X7_thrown hC hI dX7_run_158 (fun H locs hI => ?_)
          replace hI := g_mem eM19 hI
          refine lv_aload_n hx hb dX7_run_161 rfl (lv_at hl 4 rfl) ?_
          refine lv_iload hx hb dX7_run_162 (lv_at hl 0 rfl) ?_
          obtain ⟨r20, hr21, hf⟩ := gbind hf
          have hr21 := C_X7_kept l E x  hr21
          refine g_callVi (rest := []) hC hI hr21 Y_X7_kept V_X7_kept w1413 (rcv_X7 hC hI) ⟨rfl, rfl⟩ ⟨Nat.le_of_ble_eq_true rfl, Nat.le_of_ble_eq_true rfl⟩ rfl hl.1 rfl (Nat.le_of_ble_eq_true rfl) dX7_run_164 ⟨Nat.le_of_ble_eq_true rfl, Nat.le_of_ble_eq_true rfl⟩ (fun H locs hI => ?_)
          exact kr _ _ _ _ _ _ (grw hf) hI ⟨.int, rfl, rfl⟩ dX7_run_167
  have L14 : ∀ (n : Nat) (v2 : Int32) (v1 : Int32) (M : gM), f_X7_run_L14  n v2 v1 M = some (r, M') → ∀ (H : Heap) (locs : List Loc) (ls : Array Slot), gI E s M x H locs → lv_has ls 5 [(2, .int v2), (1, .int v1), (0, .ref (E.2.1 150))] → W p l e (gR 5 113) s m args below meth c H locs 0 0 Q (F0 m 14 ls []) := by
    intro  n
    induction n with
    | zero => intro v2 v1 M hf; rw [f_X7_run_L14] at hf; cases hf
    | succ n ih =>
      intro v2 v1 M hf H locs ls hI hl
      rw [f_X7_run_L14] at hf
      refine lv_iload_n hx hb dX7_run_14 rfl (lv_at hl 0 rfl) ?_
      refine lv_if_eq (tgt := 71) hx hb dX7_run_15 rfl (fun h3 => ?_) (fun h3 => ?_)
      · replace hf := gif h3 hf
        refine lv_aload_n hx hb dX7_run_71 rfl (lv_at hl 2 rfl) ?_
        refine lv_aload_n hx hb dX7_run_72 rfl (lv_at hl 2 rfl) ?_
        refine gt_X7_X7_isWrong hC hI dX7_run_73 ?_
        refine lv_if_ne (tgt := 90) hx hb dX7_run_76 rfl (fun h4 => ?_) (fun h4 => ?_)
        · replace hf := gifn h4 hf
          refine lv_iconst (v := 1) hx hb dX7_run_90 (by decide) ?_
          refine lv_goto (tgt := 95) hx hb dX7_run_91 rfl ?_
          obtain ⟨M5, eM5, hf⟩ := glet hf
          refine pt_X7_X7_isWrong hC hI rfl rfl dX7_run_95 (fun H locs hI => ?_)
          replace hI := g_mem eM5 hI
          refine lv_aload_n hx hb dX7_run_98 rfl (lv_at hl 2 rfl) ?_
          refine lv_iconst (v := 0) hx hb dX7_run_99 (by decide) ?_
          obtain ⟨M6, eM6, hf⟩ := glet hf
          refine pt_X7_X7_typed hC hI dX7_run_100 (fun H locs hI => ?_)
          replace hI := g_mem eM6 hI
          refine lv_aload_n hx hb dX7_run_103 rfl (lv_at hl 2 rfl) ?_
          refine gt_X7_X7_isWrong hC hI dX7_run_104 ?_
          refine lv_if_eq (tgt := 124) hx hb dX7_run_107 rfl (fun h7 => ?_) (fun h7 => ?_)
          · replace hf := gif h7 hf
            refine lv_aload_n hx hb dX7_run_124 rfl (lv_at hl 2 rfl) ?_
            obtain ⟨r8, hr9, hf⟩ := gbind hf
            have hr9 := C_X7_begin l E x  hr9
            refine g_callVv (rest := []) hC hI hr9 Y_X7_begin V_X7_begin w1384 (rcv_X7 hC hI) ⟨rfl, rfl⟩ ⟨Nat.le_of_ble_eq_true rfl, Nat.le_of_ble_eq_true rfl⟩ rfl hl.1 rfl (Nat.le_of_ble_eq_true rfl) dX7_run_125 ⟨Nat.le_of_ble_eq_true rfl, Nat.le_of_ble_eq_true rfl⟩ (fun H locs hI => ?_)
            refine lv_iconst (v := 0) hx hb dX7_run_128 (by decide) ?_
            refine lv_istore_n (lv' := [(3, .int 0), (2, .int v2), (1, .int v1), (0, .ref (E.2.1 150))]) hx hb dX7_run_129 rfl hl (by decide) rfl (fun ls hl => ?_)
            exact L130 v2 v1 gF 0 r8 hf _ _ _ hI (lv_sub hl [0, 1, 2, 3] rfl)
          · replace hf := gifn h7 hf
            refine lv_aload_n hx hb dX7_run_110 rfl (lv_at hl 2 rfl) ?_
            refine lv_aload_n hx hb dX7_run_111 rfl (lv_at hl 2 rfl) ?_
            refine gt_X7_X7_spot hC hI dX7_run_112 ?_
            obtain ⟨M22, eM22, hf⟩ := glet hf
            refine pt_X7_X7_errorAt hC hI dX7_run_115 (fun H locs hI => ?_)
            replace hI := g_mem eM22 hI
            refine lv_aload_n hx hb dX7_run_118 rfl (lv_at hl 2 rfl) ?_
            refine lv_iconst (v := 1) hx hb dX7_run_119 (by decide) ?_
            obtain ⟨r23, hr24, hf⟩ := gbind hf
            have hr24 := C_X7_fails l E x  hr24
            refine g_callVi (rest := []) hC hI hr24 Y_X7_fails V_X7_fails w1401 (rcv_X7 hC hI) ⟨rfl, rfl⟩ ⟨Nat.le_of_ble_eq_true rfl, Nat.le_of_ble_eq_true rfl⟩ rfl hl.1 rfl (Nat.le_of_ble_eq_true rfl) dX7_run_120 ⟨Nat.le_of_ble_eq_true rfl, Nat.le_of_ble_eq_true rfl⟩ (fun H locs hI => ?_)
            exact kr _ _ _ _ _ _ (grw hf) hI ⟨.int, rfl, rfl⟩ dX7_run_123
        · replace hf := gif h4 hf
          refine lv_aload_n hx hb dX7_run_79 rfl (lv_at hl 2 rfl) ?_
          refine gt_X7_X7_spot hC hI dX7_run_80 ?_
          refine lv_aload_n hx hb dX7_run_83 rfl (lv_at hl 2 rfl) ?_
          refine gt_X7_X7_typed hC hI dX7_run_84 ?_
          refine lv_icmp_ge (tgt := 94) hx hb dX7_run_87 rfl (fun h25 => ?_) (fun h25 => ?_)
          · replace hf := gif h25 hf
            refine lv_iconst (v := 0) hx hb dX7_run_94 (by decide) ?_
            obtain ⟨M26, eM26, hf⟩ := glet hf
            refine pt_X7_X7_isWrong hC hI rfl rfl dX7_run_95 (fun H locs hI => ?_)
            replace hI := g_mem eM26 hI
            refine lv_aload_n hx hb dX7_run_98 rfl (lv_at hl 2 rfl) ?_
            refine lv_iconst (v := 0) hx hb dX7_run_99 (by decide) ?_
            obtain ⟨M27, eM27, hf⟩ := glet hf
            refine pt_X7_X7_typed hC hI dX7_run_100 (fun H locs hI => ?_)
            replace hI := g_mem eM27 hI
            refine lv_aload_n hx hb dX7_run_103 rfl (lv_at hl 2 rfl) ?_
            refine gt_X7_X7_isWrong hC hI dX7_run_104 ?_
            refine lv_if_eq (tgt := 124) hx hb dX7_run_107 rfl (fun h28 => ?_) (fun h28 => ?_)
            · replace hf := gif h28 hf
              refine lv_aload_n hx hb dX7_run_124 rfl (lv_at hl 2 rfl) ?_
              obtain ⟨r29, hr30, hf⟩ := gbind hf
              have hr30 := C_X7_begin l E x  hr30
              refine g_callVv (rest := []) hC hI hr30 Y_X7_begin V_X7_begin w1384 (rcv_X7 hC hI) ⟨rfl, rfl⟩ ⟨Nat.le_of_ble_eq_true rfl, Nat.le_of_ble_eq_true rfl⟩ rfl hl.1 rfl (Nat.le_of_ble_eq_true rfl) dX7_run_125 ⟨Nat.le_of_ble_eq_true rfl, Nat.le_of_ble_eq_true rfl⟩ (fun H locs hI => ?_)
              refine lv_iconst (v := 0) hx hb dX7_run_128 (by decide) ?_
              refine lv_istore_n (lv' := [(3, .int 0), (2, .int v2), (1, .int v1), (0, .ref (E.2.1 150))]) hx hb dX7_run_129 rfl hl (by decide) rfl (fun ls hl => ?_)
              exact L130 v2 v1 gF 0 r29 hf _ _ _ hI (lv_sub hl [0, 1, 2, 3] rfl)
            · replace hf := gifn h28 hf
              refine lv_aload_n hx hb dX7_run_110 rfl (lv_at hl 2 rfl) ?_
              refine lv_aload_n hx hb dX7_run_111 rfl (lv_at hl 2 rfl) ?_
              refine gt_X7_X7_spot hC hI dX7_run_112 ?_
              obtain ⟨M31, eM31, hf⟩ := glet hf
              refine pt_X7_X7_errorAt hC hI dX7_run_115 (fun H locs hI => ?_)
              replace hI := g_mem eM31 hI
              refine lv_aload_n hx hb dX7_run_118 rfl (lv_at hl 2 rfl) ?_
              refine lv_iconst (v := 1) hx hb dX7_run_119 (by decide) ?_
              obtain ⟨r32, hr33, hf⟩ := gbind hf
              have hr33 := C_X7_fails l E x  hr33
              refine g_callVi (rest := []) hC hI hr33 Y_X7_fails V_X7_fails w1401 (rcv_X7 hC hI) ⟨rfl, rfl⟩ ⟨Nat.le_of_ble_eq_true rfl, Nat.le_of_ble_eq_true rfl⟩ rfl hl.1 rfl (Nat.le_of_ble_eq_true rfl) dX7_run_120 ⟨Nat.le_of_ble_eq_true rfl, Nat.le_of_ble_eq_true rfl⟩ (fun H locs hI => ?_)
              exact kr _ _ _ _ _ _ (grw hf) hI ⟨.int, rfl, rfl⟩ dX7_run_123
          · replace hf := gifn h25 hf
            refine lv_iconst (v := 1) hx hb dX7_run_90 (by decide) ?_
            refine lv_goto (tgt := 95) hx hb dX7_run_91 rfl ?_
            obtain ⟨M34, eM34, hf⟩ := glet hf
            refine pt_X7_X7_isWrong hC hI rfl rfl dX7_run_95 (fun H locs hI => ?_)
            replace hI := g_mem eM34 hI
            refine lv_aload_n hx hb dX7_run_98 rfl (lv_at hl 2 rfl) ?_
            refine lv_iconst (v := 0) hx hb dX7_run_99 (by decide) ?_
            obtain ⟨M35, eM35, hf⟩ := glet hf
            refine pt_X7_X7_typed hC hI dX7_run_100 (fun H locs hI => ?_)
            replace hI := g_mem eM35 hI
            refine lv_aload_n hx hb dX7_run_103 rfl (lv_at hl 2 rfl) ?_
            refine gt_X7_X7_isWrong hC hI dX7_run_104 ?_
            refine lv_if_eq (tgt := 124) hx hb dX7_run_107 rfl (fun h36 => ?_) (fun h36 => ?_)
            · replace hf := gif h36 hf
              refine lv_aload_n hx hb dX7_run_124 rfl (lv_at hl 2 rfl) ?_
              obtain ⟨r37, hr38, hf⟩ := gbind hf
              have hr38 := C_X7_begin l E x  hr38
              refine g_callVv (rest := []) hC hI hr38 Y_X7_begin V_X7_begin w1384 (rcv_X7 hC hI) ⟨rfl, rfl⟩ ⟨Nat.le_of_ble_eq_true rfl, Nat.le_of_ble_eq_true rfl⟩ rfl hl.1 rfl (Nat.le_of_ble_eq_true rfl) dX7_run_125 ⟨Nat.le_of_ble_eq_true rfl, Nat.le_of_ble_eq_true rfl⟩ (fun H locs hI => ?_)
              refine lv_iconst (v := 0) hx hb dX7_run_128 (by decide) ?_
              refine lv_istore_n (lv' := [(3, .int 0), (2, .int v2), (1, .int v1), (0, .ref (E.2.1 150))]) hx hb dX7_run_129 rfl hl (by decide) rfl (fun ls hl => ?_)
              exact L130 v2 v1 gF 0 r37 hf _ _ _ hI (lv_sub hl [0, 1, 2, 3] rfl)
            · replace hf := gifn h36 hf
              refine lv_aload_n hx hb dX7_run_110 rfl (lv_at hl 2 rfl) ?_
              refine lv_aload_n hx hb dX7_run_111 rfl (lv_at hl 2 rfl) ?_
              refine gt_X7_X7_spot hC hI dX7_run_112 ?_
              obtain ⟨M39, eM39, hf⟩ := glet hf
              refine pt_X7_X7_errorAt hC hI dX7_run_115 (fun H locs hI => ?_)
              replace hI := g_mem eM39 hI
              refine lv_aload_n hx hb dX7_run_118 rfl (lv_at hl 2 rfl) ?_
              refine lv_iconst (v := 1) hx hb dX7_run_119 (by decide) ?_
              obtain ⟨r40, hr41, hf⟩ := gbind hf
              have hr41 := C_X7_fails l E x  hr41
              refine g_callVi (rest := []) hC hI hr41 Y_X7_fails V_X7_fails w1401 (rcv_X7 hC hI) ⟨rfl, rfl⟩ ⟨Nat.le_of_ble_eq_true rfl, Nat.le_of_ble_eq_true rfl⟩ rfl hl.1 rfl (Nat.le_of_ble_eq_true rfl) dX7_run_120 ⟨Nat.le_of_ble_eq_true rfl, Nat.le_of_ble_eq_true rfl⟩ (fun H locs hI => ?_)
              exact kr _ _ _ _ _ _ (grw hf) hI ⟨.int, rfl, rfl⟩ dX7_run_123
      · replace hf := gifn h3 hf
        refine lv_aload_n hx hb dX7_run_18 rfl (lv_at hl 2 rfl) ?_
        refine lv_iconst (v := 5) hx hb dX7_run_19 (by decide) ?_
        refine lv_iload_n hx hb dX7_run_20 rfl (lv_at hl 1 rfl) ?_
        refine lv_imul hx hb dX7_run_21 ?_
        obtain ⟨r42, hr43, hf⟩ := gbind hf
        have hr43 := C_X7_parsesCommand l E x  hr43
        refine g_callVv (rest := []) hC hI hr43 Y_X7_parsesCommand V_X7_parsesCommand w1775 (rcv_X7 hC hI) ⟨rfl, rfl⟩ ⟨Nat.le_of_ble_eq_true rfl, Nat.le_of_ble_eq_true rfl⟩ rfl hl.1 rfl (Nat.le_of_ble_eq_true rfl) dX7_run_22 ⟨Nat.le_of_ble_eq_true rfl, Nat.le_of_ble_eq_true rfl⟩ (fun H locs hI => ?_)
        refine lv_iinc (k := 1) (v := v1 + 1) (lv' := [(1, .int (v1 + 1)), (2, .int v2), (0, .ref (E.2.1 150))]) hx hb dX7_run_25 hl rfl rfl (by decide) rfl (fun ls hl => ?_)
        refine lv_aload_n hx hb dX7_run_28 rfl (lv_at hl 2 rfl) ?_
        refine gt_X7_X7_isWrong hC hI dX7_run_29 ?_
        refine lv_if_ne (tgt := 48) hx hb dX7_run_32 rfl (fun h44 => ?_) (fun h44 => ?_)
        · replace hf := gifn h44 hf
          refine lv_iconst (v := 0) hx hb dX7_run_48 (by decide) ?_
          refine lv_istore_n (lv' := [(2, .int 0), (1, .int (v1 + 1)), (0, .ref (E.2.1 150))]) hx hb dX7_run_49 rfl hl (by decide) rfl (fun ls hl => ?_)
          refine lv_aload_n hx hb dX7_run_50 rfl (lv_at hl 2 rfl) ?_
          refine lv_dup hx hb dX7_run_51 rfl ?_
          refine gt_X7_X7_spot hC hI dX7_run_52 ?_
          refine lv_iload_n hx hb dX7_run_55 rfl (lv_at hl 0 rfl) ?_
          refine lv_if_eq (tgt := 63) hx hb dX7_run_56 rfl (fun h45 => ?_) (fun h45 => absurd (by decide) h45)
          refine lv_iconst (v := 0) hx hb dX7_run_63 (by decide) ?_
          refine lv_iadd hx hb dX7_run_64 ?_
          obtain ⟨M46, eM46, hf⟩ := glet hf
          refine pt_X7_X7_spot hC hI dX7_run_65 (fun H locs hI => ?_)
          replace hI := g_mem eM46 hI
          refine lv_goto (tgt := 14) hx hb dX7_run_68 rfl ?_
          exact ih 0 (v1 + 1) M46 hf _ _ _ hI (lv_sub hl [0, 1, 2] rfl)
        · replace hf := gif h44 hf
          refine lv_aload_n hx hb dX7_run_35 rfl (lv_at hl 2 rfl) ?_
          obtain ⟨r47, hr48, hf⟩ := gbind hf
          have hr48 := C_X7_here l E x  hr48
          refine g_callVi (rest := []) hC hI hr48 Y_X7_here V_X7_here w1779 (rcv_X7 hC hI) ⟨rfl, rfl⟩ ⟨Nat.le_of_ble_eq_true rfl, Nat.le_of_ble_eq_true rfl⟩ rfl hl.1 rfl (Nat.le_of_ble_eq_true rfl) dX7_run_36 ⟨Nat.le_of_ble_eq_true rfl, Nat.le_of_ble_eq_true rfl⟩ (fun H locs hI => ?_)
          refine lv_bipush (v := 59) hx hb dX7_run_39 (by decide) ?_
          refine lv_icmp_ne (tgt := 48) hx hb dX7_run_41 rfl (fun h49 => ?_) (fun h49 => ?_)
          · replace hf := gifn h49 hf
            refine lv_iconst (v := 0) hx hb dX7_run_48 (by decide) ?_
            refine lv_istore_n (lv' := [(2, .int 0), (1, .int (v1 + 1)), (0, .ref (E.2.1 150))]) hx hb dX7_run_49 rfl hl (by decide) rfl (fun ls hl => ?_)
            refine lv_aload_n hx hb dX7_run_50 rfl (lv_at hl 2 rfl) ?_
            refine lv_dup hx hb dX7_run_51 rfl ?_
            refine gt_X7_X7_spot hC hI dX7_run_52 ?_
            refine lv_iload_n hx hb dX7_run_55 rfl (lv_at hl 0 rfl) ?_
            refine lv_if_eq (tgt := 63) hx hb dX7_run_56 rfl (fun h50 => ?_) (fun h50 => absurd (by decide) h50)
            refine lv_iconst (v := 0) hx hb dX7_run_63 (by decide) ?_
            refine lv_iadd hx hb dX7_run_64 ?_
            obtain ⟨M51, eM51, hf⟩ := glet hf
            refine pt_X7_X7_spot hC hI dX7_run_65 (fun H locs hI => ?_)
            replace hI := g_mem eM51 hI
            refine lv_goto (tgt := 14) hx hb dX7_run_68 rfl ?_
            exact ih 0 (v1 + 1) M51 hf _ _ _ hI (lv_sub hl [0, 1, 2] rfl)
          · replace hf := gif h49 hf
            refine lv_iconst (v := 1) hx hb dX7_run_44 (by decide) ?_
            refine lv_goto (tgt := 49) hx hb dX7_run_45 rfl ?_
            refine lv_istore_n (lv' := [(2, .int 1), (1, .int (v1 + 1)), (0, .ref (E.2.1 150))]) hx hb dX7_run_49 rfl hl (by decide) rfl (fun ls hl => ?_)
            refine lv_aload_n hx hb dX7_run_50 rfl (lv_at hl 2 rfl) ?_
            refine lv_dup hx hb dX7_run_51 rfl ?_
            refine gt_X7_X7_spot hC hI dX7_run_52 ?_
            refine lv_iload_n hx hb dX7_run_55 rfl (lv_at hl 0 rfl) ?_
            refine lv_if_eq (tgt := 63) hx hb dX7_run_56 rfl (fun h52 => absurd h52 (by decide)) (fun h52 => ?_)
            refine lv_iconst (v := 1) hx hb dX7_run_59 (by decide) ?_
            refine lv_goto (tgt := 64) hx hb dX7_run_60 rfl ?_
            refine lv_iadd hx hb dX7_run_64 ?_
            obtain ⟨M53, eM53, hf⟩ := glet hf
            refine pt_X7_X7_spot hC hI dX7_run_65 (fun H locs hI => ?_)
            replace hI := g_mem eM53 hI
            refine lv_goto (tgt := 14) hx hb dX7_run_68 rfl ?_
            exact ih 1 (v1 + 1) M53 hf _ _ _ hI (lv_sub hl [0, 1, 2] rfl)
  unfold f_X7_run at hf
  refine lv_aload_n hx hb dX7_run_0 rfl (lv_at hl 0 rfl) ?_
  refine lv_iconst (v := 0) hx hb dX7_run_1 (by decide) ?_
  obtain ⟨M1, eM1, hf⟩ := glet hf
  refine pt_X7_X7_spot hC hI dX7_run_2 (fun H locs hI => ?_)
  replace hI := g_mem eM1 hI
  refine lv_aload_n hx hb dX7_run_5 rfl (lv_at hl 0 rfl) ?_
  refine lv_iconst (v := 0) hx hb dX7_run_6 (by decide) ?_
  obtain ⟨M2, eM2, hf⟩ := glet hf
  refine pt_X7_X7_isWrong hC hI rfl rfl dX7_run_7 (fun H locs hI => ?_)
  replace hI := g_mem eM2 hI
  refine lv_iconst (v := 0) hx hb dX7_run_10 (by decide) ?_
  refine lv_istore_n (lv' := [(1, .int 0), (0, .ref (E.2.1 150))]) hx hb dX7_run_11 rfl hl (by decide) rfl (fun ls hl => ?_)
  refine lv_iconst (v := 1) hx hb dX7_run_12 (by decide) ?_
  refine lv_istore_n (lv' := [(2, .int 1), (1, .int 0), (0, .ref (E.2.1 150))]) hx hb dX7_run_13 rfl hl (by decide) rfl (fun ls hl => ?_)
  exact L14 gF 1 0 M2 hf _ _ _ hI (lv_sub hl [0, 1, 2] rfl)
theorem dX7_errorPosition_0 : decode cX7_errorPosition 0 = .ok (.aload_n 0, 1) := by decide +kernel
theorem dX7_errorPosition_1 : decode cX7_errorPosition 1 = .ok (.getfield 29, 3) := by decide +kernel
theorem dX7_errorPosition_4 : decode cX7_errorPosition 4 = .ok (.iconst (-1), 1) := by decide +kernel
theorem dX7_errorPosition_5 : decode cX7_errorPosition 5 = .ok (.if_icmp .ne 11, 3) := by decide +kernel
theorem dX7_errorPosition_8 : decode cX7_errorPosition 8 = .ok (.aload_n 0, 1) := by decide +kernel
theorem dX7_errorPosition_9 : decode cX7_errorPosition 9 = .ok (.iconst 1, 1) := by decide +kernel
theorem dX7_errorPosition_10 : decode cX7_errorPosition 10 = .ok (.invokevirtual 67, 3) := by decide +kernel
theorem dX7_errorPosition_13 : decode cX7_errorPosition 13 = .ok (.goto 11, 3) := by decide +kernel
theorem dX7_errorPosition_16 : decode cX7_errorPosition 16 = .ok (.aload_n 0, 1) := by decide +kernel
theorem dX7_errorPosition_17 : decode cX7_errorPosition 17 = .ok (.aload_n 0, 1) := by decide +kernel
theorem dX7_errorPosition_18 : decode cX7_errorPosition 18 = .ok (.getfield 29, 3) := by decide +kernel
theorem dX7_errorPosition_21 : decode cX7_errorPosition 21 = .ok (.invokevirtual 75, 3) := by decide +kernel
theorem dX7_errorPosition_24 : decode cX7_errorPosition 24 = .ok (.ireturn, 1) := by decide +kernel
set_option maxRecDepth 100000 in
set_option maxHeartbeats 4000000 in
theorem C_X7_errorPosition (l : Launch) (E : gE) (x : gX) {M : gM} {r : Int32} {M' : gM} (hf : f_X7_errorPosition M = some (r, M')) : gM0 l E yX7_errorPosition (.code yX7_errorPosition cX7_errorPosition 1 (some .int)) (gR 1 21) M x [.ref (E.2.1 150)] (some (.int r)) M' := by
  refine gMet (by decide +kernel) (Nat.le_of_ble_eq_true rfl) ?_
  intro p e s m args below meth c H locs ls Q hC hl hI kr kv
  replace hC : gC p s m args c cX7_errorPosition 1 RX7 E := hC
  replace hl : lv_has ls 1 [(0, .ref (E.2.1 150))] := hl
  have hx := hC.1
  have hb := hC.2.1
  unfold f_X7_errorPosition at hf
  refine lv_aload_n hx hb dX7_errorPosition_0 rfl (lv_at hl 0 rfl) ?_
  refine gt_X7_X7_errorAt hC hI dX7_errorPosition_1 ?_
  refine lv_iconst (v := (-1)) hx hb dX7_errorPosition_4 (by decide) ?_
  refine lv_icmp_ne (tgt := 16) hx hb dX7_errorPosition_5 rfl (fun h1 => ?_) (fun h1 => ?_)
  · replace hf := gifn h1 hf
    refine lv_aload_n hx hb dX7_errorPosition_16 rfl (lv_at hl 0 rfl) ?_
    refine lv_aload_n hx hb dX7_errorPosition_17 rfl (lv_at hl 0 rfl) ?_
    refine gt_X7_X7_errorAt hC hI dX7_errorPosition_18 ?_
    obtain ⟨r2, hr3, hf⟩ := gbind hf
    have hr3 := C_X7_done l E x  hr3
    refine g_callVi (rest := []) hC hI hr3 Y_X7_done V_X7_done w1409 (rcv_X7 hC hI) ⟨rfl, rfl⟩ ⟨Nat.le_of_ble_eq_true rfl, Nat.le_of_ble_eq_true rfl⟩ rfl hl.1 rfl (Nat.le_of_ble_eq_true rfl) dX7_errorPosition_21 ⟨Nat.le_of_ble_eq_true rfl, Nat.le_of_ble_eq_true rfl⟩ (fun H locs hI => ?_)
    exact kr _ _ _ _ _ _ (grw hf) hI ⟨.int, rfl, rfl⟩ dX7_errorPosition_24
  · replace hf := gif h1 hf
    refine lv_aload_n hx hb dX7_errorPosition_8 rfl (lv_at hl 0 rfl) ?_
    refine lv_iconst (v := 1) hx hb dX7_errorPosition_9 (by decide) ?_
    obtain ⟨r4, hr5, hf⟩ := gbind hf
    have hr5 := C_X7_fails l E x  hr5
    refine g_callVi (rest := []) hC hI hr5 Y_X7_fails V_X7_fails w1401 (rcv_X7 hC hI) ⟨rfl, rfl⟩ ⟨Nat.le_of_ble_eq_true rfl, Nat.le_of_ble_eq_true rfl⟩ rfl hl.1 rfl (Nat.le_of_ble_eq_true rfl) dX7_errorPosition_10 ⟨Nat.le_of_ble_eq_true rfl, Nat.le_of_ble_eq_true rfl⟩ (fun H locs hI => ?_)
    refine lv_goto (tgt := 24) hx hb dX7_errorPosition_13 rfl ?_
    exact kr _ _ _ _ _ _ (grw hf) hI ⟨.int, rfl, rfl⟩ dX7_errorPosition_24
theorem dX7_failedCommand_0 : decode cX7_failedCommand 0 = .ok (.aload_n 0, 1) := by decide +kernel
theorem dX7_failedCommand_1 : decode cX7_failedCommand 1 = .ok (.getfield 33, 3) := by decide +kernel
theorem dX7_failedCommand_4 : decode cX7_failedCommand 4 = .ok (.iconst (-1), 1) := by decide +kernel
theorem dX7_failedCommand_5 : decode cX7_failedCommand 5 = .ok (.if_icmp .ne 11, 3) := by decide +kernel
theorem dX7_failedCommand_8 : decode cX7_failedCommand 8 = .ok (.aload_n 0, 1) := by decide +kernel
theorem dX7_failedCommand_9 : decode cX7_failedCommand 9 = .ok (.iconst 1, 1) := by decide +kernel
theorem dX7_failedCommand_10 : decode cX7_failedCommand 10 = .ok (.invokevirtual 67, 3) := by decide +kernel
theorem dX7_failedCommand_13 : decode cX7_failedCommand 13 = .ok (.goto 11, 3) := by decide +kernel
theorem dX7_failedCommand_16 : decode cX7_failedCommand 16 = .ok (.aload_n 0, 1) := by decide +kernel
theorem dX7_failedCommand_17 : decode cX7_failedCommand 17 = .ok (.aload_n 0, 1) := by decide +kernel
theorem dX7_failedCommand_18 : decode cX7_failedCommand 18 = .ok (.getfield 33, 3) := by decide +kernel
theorem dX7_failedCommand_21 : decode cX7_failedCommand 21 = .ok (.invokevirtual 75, 3) := by decide +kernel
theorem dX7_failedCommand_24 : decode cX7_failedCommand 24 = .ok (.ireturn, 1) := by decide +kernel
set_option maxRecDepth 100000 in
set_option maxHeartbeats 4000000 in
theorem C_X7_failedCommand (l : Launch) (E : gE) (x : gX) {M : gM} {r : Int32} {M' : gM} (hf : f_X7_failedCommand M = some (r, M')) : gM0 l E yX7_failedCommand (.code yX7_failedCommand cX7_failedCommand 1 (some .int)) (gR 1 21) M x [.ref (E.2.1 150)] (some (.int r)) M' := by
  refine gMet (by decide +kernel) (Nat.le_of_ble_eq_true rfl) ?_
  intro p e s m args below meth c H locs ls Q hC hl hI kr kv
  replace hC : gC p s m args c cX7_failedCommand 1 RX7 E := hC
  replace hl : lv_has ls 1 [(0, .ref (E.2.1 150))] := hl
  have hx := hC.1
  have hb := hC.2.1
  unfold f_X7_failedCommand at hf
  refine lv_aload_n hx hb dX7_failedCommand_0 rfl (lv_at hl 0 rfl) ?_
  refine gt_X7_X7_failedAt hC hI dX7_failedCommand_1 ?_
  refine lv_iconst (v := (-1)) hx hb dX7_failedCommand_4 (by decide) ?_
  refine lv_icmp_ne (tgt := 16) hx hb dX7_failedCommand_5 rfl (fun h1 => ?_) (fun h1 => ?_)
  · replace hf := gifn h1 hf
    refine lv_aload_n hx hb dX7_failedCommand_16 rfl (lv_at hl 0 rfl) ?_
    refine lv_aload_n hx hb dX7_failedCommand_17 rfl (lv_at hl 0 rfl) ?_
    refine gt_X7_X7_failedAt hC hI dX7_failedCommand_18 ?_
    obtain ⟨r2, hr3, hf⟩ := gbind hf
    have hr3 := C_X7_done l E x  hr3
    refine g_callVi (rest := []) hC hI hr3 Y_X7_done V_X7_done w1409 (rcv_X7 hC hI) ⟨rfl, rfl⟩ ⟨Nat.le_of_ble_eq_true rfl, Nat.le_of_ble_eq_true rfl⟩ rfl hl.1 rfl (Nat.le_of_ble_eq_true rfl) dX7_failedCommand_21 ⟨Nat.le_of_ble_eq_true rfl, Nat.le_of_ble_eq_true rfl⟩ (fun H locs hI => ?_)
    exact kr _ _ _ _ _ _ (grw hf) hI ⟨.int, rfl, rfl⟩ dX7_failedCommand_24
  · replace hf := gif h1 hf
    refine lv_aload_n hx hb dX7_failedCommand_8 rfl (lv_at hl 0 rfl) ?_
    refine lv_iconst (v := 1) hx hb dX7_failedCommand_9 (by decide) ?_
    obtain ⟨r4, hr5, hf⟩ := gbind hf
    have hr5 := C_X7_fails l E x  hr5
    refine g_callVi (rest := []) hC hI hr5 Y_X7_fails V_X7_fails w1401 (rcv_X7 hC hI) ⟨rfl, rfl⟩ ⟨Nat.le_of_ble_eq_true rfl, Nat.le_of_ble_eq_true rfl⟩ rfl hl.1 rfl (Nat.le_of_ble_eq_true rfl) dX7_failedCommand_10 ⟨Nat.le_of_ble_eq_true rfl, Nat.le_of_ble_eq_true rfl⟩ (fun H locs hI => ?_)
    refine lv_goto (tgt := 24) hx hb dX7_failedCommand_13 rfl ?_
    exact kr _ _ _ _ _ _ (grw hf) hI ⟨.int, rfl, rfl⟩ dX7_failedCommand_24
theorem dX7_undoableCount_0 : decode cX7_undoableCount 0 = .ok (.aload_n 0, 1) := by decide +kernel
theorem dX7_undoableCount_1 : decode cX7_undoableCount 1 = .ok (.aload_n 0, 1) := by decide +kernel
theorem dX7_undoableCount_2 : decode cX7_undoableCount 2 = .ok (.getfield 49, 3) := by decide +kernel
theorem dX7_undoableCount_5 : decode cX7_undoableCount 5 = .ok (.invokevirtual 75, 3) := by decide +kernel
theorem dX7_undoableCount_8 : decode cX7_undoableCount 8 = .ok (.ireturn, 1) := by decide +kernel
set_option maxRecDepth 100000 in
set_option maxHeartbeats 4000000 in
theorem C_X7_undoableCount (l : Launch) (E : gE) (x : gX) {M : gM} {r : Int32} {M' : gM} (hf : f_X7_undoableCount M = some (r, M')) : gM0 l E yX7_undoableCount (.code yX7_undoableCount cX7_undoableCount 1 (some .int)) (gR 1 21) M x [.ref (E.2.1 150)] (some (.int r)) M' := by
  refine gMet (by decide +kernel) (Nat.le_of_ble_eq_true rfl) ?_
  intro p e s m args below meth c H locs ls Q hC hl hI kr kv
  replace hC : gC p s m args c cX7_undoableCount 1 RX7 E := hC
  replace hl : lv_has ls 1 [(0, .ref (E.2.1 150))] := hl
  have hx := hC.1
  have hb := hC.2.1
  unfold f_X7_undoableCount at hf
  refine lv_aload_n hx hb dX7_undoableCount_0 rfl (lv_at hl 0 rfl) ?_
  refine lv_aload_n hx hb dX7_undoableCount_1 rfl (lv_at hl 0 rfl) ?_
  refine gt_X7_X7_changes hC hI dX7_undoableCount_2 ?_
  obtain ⟨r1, hr2, hf⟩ := gbind hf
  have hr2 := C_X7_done l E x  hr2
  refine g_callVi (rest := []) hC hI hr2 Y_X7_done V_X7_done w1409 (rcv_X7 hC hI) ⟨rfl, rfl⟩ ⟨Nat.le_of_ble_eq_true rfl, Nat.le_of_ble_eq_true rfl⟩ rfl hl.1 rfl (Nat.le_of_ble_eq_true rfl) dX7_undoableCount_5 ⟨Nat.le_of_ble_eq_true rfl, Nat.le_of_ble_eq_true rfl⟩ (fun H locs hI => ?_)
  exact kr _ _ _ _ _ _ (grw hf) hI ⟨.int, rfl, rfl⟩ dX7_undoableCount_8
theorem dX7_undo_0 : decode cX7_undo 0 = .ok (.aload_n 0, 1) := by decide +kernel
theorem dX7_undo_1 : decode cX7_undo 1 = .ok (.getfield 49, 3) := by decide +kernel
theorem dX7_undo_4 : decode cX7_undo 4 = .ok (.ifCond .ne 9, 3) := by decide +kernel
theorem dX7_undo_7 : decode cX7_undo 7 = .ok (.aload_n 0, 1) := by decide +kernel
theorem dX7_undo_8 : decode cX7_undo 8 = .ok (.iconst 1, 1) := by decide +kernel
theorem dX7_undo_9 : decode cX7_undo 9 = .ok (.invokevirtual 67, 3) := by decide +kernel
theorem dX7_undo_12 : decode cX7_undo 12 = .ok (.ireturn, 1) := by decide +kernel
theorem dX7_undo_13 : decode cX7_undo 13 = .ok (.aload_n 0, 1) := by decide +kernel
theorem dX7_undo_14 : decode cX7_undo 14 = .ok (.dup, 1) := by decide +kernel
theorem dX7_undo_15 : decode cX7_undo 15 = .ok (.getfield 49, 3) := by decide +kernel
theorem dX7_undo_18 : decode cX7_undo 18 = .ok (.iconst 1, 1) := by decide +kernel
theorem dX7_undo_19 : decode cX7_undo 19 = .ok (.isub, 1) := by decide +kernel
theorem dX7_undo_20 : decode cX7_undo 20 = .ok (.putfield 49, 3) := by decide +kernel
theorem dX7_undo_23 : decode cX7_undo 23 = .ok (.aload_n 0, 1) := by decide +kernel
theorem dX7_undo_24 : decode cX7_undo 24 = .ok (.getfield 19, 3) := by decide +kernel
theorem dX7_undo_27 : decode cX7_undo 27 = .ok (.aload_n 0, 1) := by decide +kernel
theorem dX7_undo_28 : decode cX7_undo 28 = .ok (.getfield 49, 3) := by decide +kernel
theorem dX7_undo_31 : decode cX7_undo 31 = .ok (.sipush 259, 3) := by decide +kernel
theorem dX7_undo_34 : decode cX7_undo 34 = .ok (.imul, 1) := by decide +kernel
theorem dX7_undo_35 : decode cX7_undo 35 = .ok (.aload_n 0, 1) := by decide +kernel
theorem dX7_undo_36 : decode cX7_undo 36 = .ok (.getfield 7, 3) := by decide +kernel
theorem dX7_undo_39 : decode cX7_undo 39 = .ok (.iconst 0, 1) := by decide +kernel
theorem dX7_undo_40 : decode cX7_undo 40 = .ok (.invokestatic 45, 3) := by decide +kernel
theorem dX7_undo_43 : decode cX7_undo 43 = .ok (.aload_n 0, 1) := by decide +kernel
theorem dX7_undo_44 : decode cX7_undo 44 = .ok (.aload_n 0, 1) := by decide +kernel
theorem dX7_undo_45 : decode cX7_undo 45 = .ok (.getfield 49, 3) := by decide +kernel
theorem dX7_undo_48 : decode cX7_undo 48 = .ok (.invokevirtual 75, 3) := by decide +kernel
theorem dX7_undo_51 : decode cX7_undo 51 = .ok (.ireturn, 1) := by decide +kernel
set_option maxRecDepth 100000 in
set_option maxHeartbeats 4000000 in
theorem C_X7_undo (l : Launch) (E : gE) (x : gX) {M : gM} {r : Int32} {M' : gM} (hf : f_X7_undo M = some (r, M')) : gM0 l E yX7_undo (.code yX7_undo cX7_undo 1 (some .int)) (gR 1 24) M x [.ref (E.2.1 150)] (some (.int r)) M' := by
  refine gMet (by decide +kernel) (Nat.le_of_ble_eq_true rfl) ?_
  intro p e s m args below meth c H locs ls Q hC hl hI kr kv
  replace hC : gC p s m args c cX7_undo 1 RX7 E := hC
  replace hl : lv_has ls 1 [(0, .ref (E.2.1 150))] := hl
  have hx := hC.1
  have hb := hC.2.1
  unfold f_X7_undo at hf
  refine lv_aload_n hx hb dX7_undo_0 rfl (lv_at hl 0 rfl) ?_
  refine gt_X7_X7_changes hC hI dX7_undo_1 ?_
  refine lv_if_ne (tgt := 13) hx hb dX7_undo_4 rfl (fun h1 => ?_) (fun h1 => ?_)
  · replace hf := gifn h1 hf
    refine lv_aload_n hx hb dX7_undo_13 rfl (lv_at hl 0 rfl) ?_
    refine lv_dup hx hb dX7_undo_14 rfl ?_
    refine gt_X7_X7_changes hC hI dX7_undo_15 ?_
    refine lv_iconst (v := 1) hx hb dX7_undo_18 (by decide) ?_
    refine lv_isub hx hb dX7_undo_19 ?_
    obtain ⟨M2, eM2, hf⟩ := glet hf
    refine pt_X7_X7_changes hC hI dX7_undo_20 (fun H locs hI => ?_)
    replace hI := g_mem eM2 hI
    refine lv_aload_n hx hb dX7_undo_23 rfl (lv_at hl 0 rfl) ?_
    refine gt_X7_X7_history hC hI dX7_undo_24 ?_
    refine lv_aload_n hx hb dX7_undo_27 rfl (lv_at hl 0 rfl) ?_
    refine gt_X7_X7_changes hC hI dX7_undo_28 ?_
    refine lv_sipush (v := 259) hx hb dX7_undo_31 (by decide) ?_
    refine lv_imul hx hb dX7_undo_34 ?_
    refine lv_aload_n hx hb dX7_undo_35 rfl (lv_at hl 0 rfl) ?_
    refine gt_X7_X7_g hC hI dX7_undo_36 ?_
    refine lv_iconst (v := 0) hx hb dX7_undo_39 (by decide) ?_
    obtain ⟨r3, hr4, hf⟩ := gbind hf
    have hr4 := C_X7_copy l E x gIA_154 gIA_151 hr4
    refine g_callSv (rest := []) hC hI hr4 Y_X7_copy S_X7_copy w1388 ⟨rfl, rfl⟩ ⟨Nat.le_of_ble_eq_true rfl, Nat.le_of_ble_eq_true rfl⟩ rfl hl.1 rfl (Nat.le_of_ble_eq_true rfl) dX7_undo_40 ⟨Nat.le_of_ble_eq_true rfl, Nat.le_of_ble_eq_true rfl⟩ (fun H locs hI => ?_)
    refine lv_aload_n hx hb dX7_undo_43 rfl (lv_at hl 0 rfl) ?_
    refine lv_aload_n hx hb dX7_undo_44 rfl (lv_at hl 0 rfl) ?_
    refine gt_X7_X7_changes hC hI dX7_undo_45 ?_
    obtain ⟨r5, hr6, hf⟩ := gbind hf
    have hr6 := C_X7_done l E x  hr6
    refine g_callVi (rest := []) hC hI hr6 Y_X7_done V_X7_done w1409 (rcv_X7 hC hI) ⟨rfl, rfl⟩ ⟨Nat.le_of_ble_eq_true rfl, Nat.le_of_ble_eq_true rfl⟩ rfl hl.1 rfl (Nat.le_of_ble_eq_true rfl) dX7_undo_48 ⟨Nat.le_of_ble_eq_true rfl, Nat.le_of_ble_eq_true rfl⟩ (fun H locs hI => ?_)
    exact kr _ _ _ _ _ _ (grw hf) hI ⟨.int, rfl, rfl⟩ dX7_undo_51
  · replace hf := gif h1 hf
    refine lv_aload_n hx hb dX7_undo_7 rfl (lv_at hl 0 rfl) ?_
    refine lv_iconst (v := 1) hx hb dX7_undo_8 (by decide) ?_
    obtain ⟨r7, hr8, hf⟩ := gbind hf
    have hr8 := C_X7_fails l E x  hr8
    refine g_callVi (rest := []) hC hI hr8 Y_X7_fails V_X7_fails w1401 (rcv_X7 hC hI) ⟨rfl, rfl⟩ ⟨Nat.le_of_ble_eq_true rfl, Nat.le_of_ble_eq_true rfl⟩ rfl hl.1 rfl (Nat.le_of_ble_eq_true rfl) dX7_undo_9 ⟨Nat.le_of_ble_eq_true rfl, Nat.le_of_ble_eq_true rfl⟩ (fun H locs hI => ?_)
    exact kr _ _ _ _ _ _ (grw hf) hI ⟨.int, rfl, rfl⟩ dX7_undo_12
theorem dX7_save_0 : decode cX7_save 0 = .ok (.aload_n 0, 1) := by decide +kernel
theorem dX7_save_1 : decode cX7_save 1 = .ok (.getfield 7, 3) := by decide +kernel
theorem dX7_save_4 : decode cX7_save 4 = .ok (.iconst 0, 1) := by decide +kernel
theorem dX7_save_5 : decode cX7_save 5 = .ok (.aload_n 0, 1) := by decide +kernel
theorem dX7_save_6 : decode cX7_save 6 = .ok (.getfield 22, 3) := by decide +kernel
theorem dX7_save_9 : decode cX7_save 9 = .ok (.iconst 0, 1) := by decide +kernel
theorem dX7_save_10 : decode cX7_save 10 = .ok (.invokestatic 45, 3) := by decide +kernel
theorem dX7_save_13 : decode cX7_save 13 = .ok (.aload_n 0, 1) := by decide +kernel
theorem dX7_save_14 : decode cX7_save 14 = .ok (.iconst 1, 1) := by decide +kernel
theorem dX7_save_15 : decode cX7_save 15 = .ok (.putfield 245, 3) := by decide +kernel
theorem dX7_save_18 : decode cX7_save 18 = .ok (.aload_n 0, 1) := by decide +kernel
theorem dX7_save_19 : decode cX7_save 19 = .ok (.aload_n 0, 1) := by decide +kernel
theorem dX7_save_20 : decode cX7_save 20 = .ok (.invokevirtual 71, 3) := by decide +kernel
theorem dX7_save_23 : decode cX7_save 23 = .ok (.invokevirtual 75, 3) := by decide +kernel
theorem dX7_save_26 : decode cX7_save 26 = .ok (.ireturn, 1) := by decide +kernel
set_option maxRecDepth 100000 in
set_option maxHeartbeats 4000000 in
theorem C_X7_save (l : Launch) (E : gE) (x : gX) {M : gM} {r : Int32} {M' : gM} (hf : f_X7_save M = some (r, M')) : gM0 l E yX7_save (.code yX7_save cX7_save 1 (some .int)) (gR 1 24) M x [.ref (E.2.1 150)] (some (.int r)) M' := by
  refine gMet (by decide +kernel) (Nat.le_of_ble_eq_true rfl) ?_
  intro p e s m args below meth c H locs ls Q hC hl hI kr kv
  replace hC : gC p s m args c cX7_save 1 RX7 E := hC
  replace hl : lv_has ls 1 [(0, .ref (E.2.1 150))] := hl
  have hx := hC.1
  have hb := hC.2.1
  unfold f_X7_save at hf
  refine lv_aload_n hx hb dX7_save_0 rfl (lv_at hl 0 rfl) ?_
  refine gt_X7_X7_g hC hI dX7_save_1 ?_
  refine lv_iconst (v := 0) hx hb dX7_save_4 (by decide) ?_
  refine lv_aload_n hx hb dX7_save_5 rfl (lv_at hl 0 rfl) ?_
  refine gt_X7_X7_savedState hC hI dX7_save_6 ?_
  refine lv_iconst (v := 0) hx hb dX7_save_9 (by decide) ?_
  obtain ⟨r1, hr2, hf⟩ := gbind hf
  have hr2 := C_X7_copy l E x gIA_151 gIA_155 hr2
  refine g_callSv (rest := []) hC hI hr2 Y_X7_copy S_X7_copy w1388 ⟨rfl, rfl⟩ ⟨Nat.le_of_ble_eq_true rfl, Nat.le_of_ble_eq_true rfl⟩ rfl hl.1 rfl (Nat.le_of_ble_eq_true rfl) dX7_save_10 ⟨Nat.le_of_ble_eq_true rfl, Nat.le_of_ble_eq_true rfl⟩ (fun H locs hI => ?_)
  refine lv_aload_n hx hb dX7_save_13 rfl (lv_at hl 0 rfl) ?_
  refine lv_iconst (v := 1) hx hb dX7_save_14 (by decide) ?_
  obtain ⟨M3, eM3, hf⟩ := glet hf
  refine pt_X7_X7_hasSaved hC hI rfl rfl dX7_save_15 (fun H locs hI => ?_)
  replace hI := g_mem eM3 hI
  refine lv_aload_n hx hb dX7_save_18 rfl (lv_at hl 0 rfl) ?_
  refine lv_aload_n hx hb dX7_save_19 rfl (lv_at hl 0 rfl) ?_
  obtain ⟨r4, hr5, hf⟩ := gbind hf
  have hr5 := C_X7_ships l E x  hr5
  refine g_callVi (rest := [.ref (E.2.1 150)]) hC hI hr5 Y_X7_ships V_X7_ships w1405 (rcv_X7 hC hI) ⟨rfl, rfl⟩ ⟨Nat.le_of_ble_eq_true rfl, Nat.le_of_ble_eq_true rfl⟩ rfl hl.1 rfl (Nat.le_of_ble_eq_true rfl) dX7_save_20 ⟨Nat.le_of_ble_eq_true rfl, Nat.le_of_ble_eq_true rfl⟩ (fun H locs hI => ?_)
  obtain ⟨r6, hr7, hf⟩ := gbind hf
  have hr7 := C_X7_done l E x  hr7
  refine g_callVi (rest := []) hC hI hr7 Y_X7_done V_X7_done w1409 (rcv_X7 hC hI) ⟨rfl, rfl⟩ ⟨Nat.le_of_ble_eq_true rfl, Nat.le_of_ble_eq_true rfl⟩ rfl hl.1 rfl (Nat.le_of_ble_eq_true rfl) dX7_save_23 ⟨Nat.le_of_ble_eq_true rfl, Nat.le_of_ble_eq_true rfl⟩ (fun H locs hI => ?_)
  exact kr _ _ _ _ _ _ (grw hf) hI ⟨.int, rfl, rfl⟩ dX7_save_26
theorem dX7_restore_0 : decode cX7_restore 0 = .ok (.aload_n 0, 1) := by decide +kernel
theorem dX7_restore_1 : decode cX7_restore 1 = .ok (.getfield 245, 3) := by decide +kernel
theorem dX7_restore_4 : decode cX7_restore 4 = .ok (.ifCond .ne 9, 3) := by decide +kernel
theorem dX7_restore_7 : decode cX7_restore 7 = .ok (.aload_n 0, 1) := by decide +kernel
theorem dX7_restore_8 : decode cX7_restore 8 = .ok (.iconst 1, 1) := by decide +kernel
theorem dX7_restore_9 : decode cX7_restore 9 = .ok (.invokevirtual 67, 3) := by decide +kernel
theorem dX7_restore_12 : decode cX7_restore 12 = .ok (.ireturn, 1) := by decide +kernel
theorem dX7_restore_13 : decode cX7_restore 13 = .ok (.aload_n 0, 1) := by decide +kernel
theorem dX7_restore_14 : decode cX7_restore 14 = .ok (.getfield 22, 3) := by decide +kernel
theorem dX7_restore_17 : decode cX7_restore 17 = .ok (.iconst 0, 1) := by decide +kernel
theorem dX7_restore_18 : decode cX7_restore 18 = .ok (.aload_n 0, 1) := by decide +kernel
theorem dX7_restore_19 : decode cX7_restore 19 = .ok (.getfield 7, 3) := by decide +kernel
theorem dX7_restore_22 : decode cX7_restore 22 = .ok (.iconst 0, 1) := by decide +kernel
theorem dX7_restore_23 : decode cX7_restore 23 = .ok (.invokestatic 45, 3) := by decide +kernel
theorem dX7_restore_26 : decode cX7_restore 26 = .ok (.aload_n 0, 1) := by decide +kernel
theorem dX7_restore_27 : decode cX7_restore 27 = .ok (.iconst 0, 1) := by decide +kernel
theorem dX7_restore_28 : decode cX7_restore 28 = .ok (.putfield 49, 3) := by decide +kernel
theorem dX7_restore_31 : decode cX7_restore 31 = .ok (.aload_n 0, 1) := by decide +kernel
theorem dX7_restore_32 : decode cX7_restore 32 = .ok (.aload_n 0, 1) := by decide +kernel
theorem dX7_restore_33 : decode cX7_restore 33 = .ok (.invokevirtual 71, 3) := by decide +kernel
theorem dX7_restore_36 : decode cX7_restore 36 = .ok (.invokevirtual 75, 3) := by decide +kernel
theorem dX7_restore_39 : decode cX7_restore 39 = .ok (.ireturn, 1) := by decide +kernel
set_option maxRecDepth 100000 in
set_option maxHeartbeats 4000000 in
theorem C_X7_restore (l : Launch) (E : gE) (x : gX) {M : gM} {r : Int32} {M' : gM} (hf : f_X7_restore M = some (r, M')) : gM0 l E yX7_restore (.code yX7_restore cX7_restore 1 (some .int)) (gR 1 24) M x [.ref (E.2.1 150)] (some (.int r)) M' := by
  refine gMet (by decide +kernel) (Nat.le_of_ble_eq_true rfl) ?_
  intro p e s m args below meth c H locs ls Q hC hl hI kr kv
  replace hC : gC p s m args c cX7_restore 1 RX7 E := hC
  replace hl : lv_has ls 1 [(0, .ref (E.2.1 150))] := hl
  have hx := hC.1
  have hb := hC.2.1
  unfold f_X7_restore at hf
  refine lv_aload_n hx hb dX7_restore_0 rfl (lv_at hl 0 rfl) ?_
  refine gt_X7_X7_hasSaved hC hI dX7_restore_1 ?_
  refine lv_if_ne (tgt := 13) hx hb dX7_restore_4 rfl (fun h1 => ?_) (fun h1 => ?_)
  · replace hf := gifn h1 hf
    refine lv_aload_n hx hb dX7_restore_13 rfl (lv_at hl 0 rfl) ?_
    refine gt_X7_X7_savedState hC hI dX7_restore_14 ?_
    refine lv_iconst (v := 0) hx hb dX7_restore_17 (by decide) ?_
    refine lv_aload_n hx hb dX7_restore_18 rfl (lv_at hl 0 rfl) ?_
    refine gt_X7_X7_g hC hI dX7_restore_19 ?_
    refine lv_iconst (v := 0) hx hb dX7_restore_22 (by decide) ?_
    obtain ⟨r2, hr3, hf⟩ := gbind hf
    have hr3 := C_X7_copy l E x gIA_155 gIA_151 hr3
    refine g_callSv (rest := []) hC hI hr3 Y_X7_copy S_X7_copy w1388 ⟨rfl, rfl⟩ ⟨Nat.le_of_ble_eq_true rfl, Nat.le_of_ble_eq_true rfl⟩ rfl hl.1 rfl (Nat.le_of_ble_eq_true rfl) dX7_restore_23 ⟨Nat.le_of_ble_eq_true rfl, Nat.le_of_ble_eq_true rfl⟩ (fun H locs hI => ?_)
    refine lv_aload_n hx hb dX7_restore_26 rfl (lv_at hl 0 rfl) ?_
    refine lv_iconst (v := 0) hx hb dX7_restore_27 (by decide) ?_
    obtain ⟨M4, eM4, hf⟩ := glet hf
    refine pt_X7_X7_changes hC hI dX7_restore_28 (fun H locs hI => ?_)
    replace hI := g_mem eM4 hI
    refine lv_aload_n hx hb dX7_restore_31 rfl (lv_at hl 0 rfl) ?_
    refine lv_aload_n hx hb dX7_restore_32 rfl (lv_at hl 0 rfl) ?_
    obtain ⟨r5, hr6, hf⟩ := gbind hf
    have hr6 := C_X7_ships l E x  hr6
    refine g_callVi (rest := [.ref (E.2.1 150)]) hC hI hr6 Y_X7_ships V_X7_ships w1405 (rcv_X7 hC hI) ⟨rfl, rfl⟩ ⟨Nat.le_of_ble_eq_true rfl, Nat.le_of_ble_eq_true rfl⟩ rfl hl.1 rfl (Nat.le_of_ble_eq_true rfl) dX7_restore_33 ⟨Nat.le_of_ble_eq_true rfl, Nat.le_of_ble_eq_true rfl⟩ (fun H locs hI => ?_)
    obtain ⟨r7, hr8, hf⟩ := gbind hf
    have hr8 := C_X7_done l E x  hr8
    refine g_callVi (rest := []) hC hI hr8 Y_X7_done V_X7_done w1409 (rcv_X7 hC hI) ⟨rfl, rfl⟩ ⟨Nat.le_of_ble_eq_true rfl, Nat.le_of_ble_eq_true rfl⟩ rfl hl.1 rfl (Nat.le_of_ble_eq_true rfl) dX7_restore_36 ⟨Nat.le_of_ble_eq_true rfl, Nat.le_of_ble_eq_true rfl⟩ (fun H locs hI => ?_)
    exact kr _ _ _ _ _ _ (grw hf) hI ⟨.int, rfl, rfl⟩ dX7_restore_39
  · replace hf := gif h1 hf
    refine lv_aload_n hx hb dX7_restore_7 rfl (lv_at hl 0 rfl) ?_
    refine lv_iconst (v := 1) hx hb dX7_restore_8 (by decide) ?_
    obtain ⟨r9, hr10, hf⟩ := gbind hf
    have hr10 := C_X7_fails l E x  hr10
    refine g_callVi (rest := []) hC hI hr10 Y_X7_fails V_X7_fails w1401 (rcv_X7 hC hI) ⟨rfl, rfl⟩ ⟨Nat.le_of_ble_eq_true rfl, Nat.le_of_ble_eq_true rfl⟩ rfl hl.1 rfl (Nat.le_of_ble_eq_true rfl) dX7_restore_9 ⟨Nat.le_of_ble_eq_true rfl, Nat.le_of_ble_eq_true rfl⟩ (fun H locs hI => ?_)
    exact kr _ _ _ _ _ _ (grw hf) hI ⟨.int, rfl, rfl⟩ dX7_restore_12
