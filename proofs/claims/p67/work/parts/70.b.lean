theorem dX6_movesToReach_0 : decode cX6_movesToReach 0 = .ok (.aload_n 0, 1) := by decide +kernel
theorem dX6_movesToReach_1 : decode cX6_movesToReach 1 = .ok (.getfield 10, 3) := by decide +kernel
theorem dX6_movesToReach_4 : decode cX6_movesToReach 4 = .ok (.getfield 108, 3) := by decide +kernel
theorem dX6_movesToReach_7 : decode cX6_movesToReach 7 = .ok (.aload_n 0, 1) := by decide +kernel
theorem dX6_movesToReach_8 : decode cX6_movesToReach 8 = .ok (.getfield 10, 3) := by decide +kernel
theorem dX6_movesToReach_11 : decode cX6_movesToReach 11 = .ok (.getfield 108, 3) := by decide +kernel
theorem dX6_movesToReach_14 : decode cX6_movesToReach 14 = .ok (.iload_n 1, 1) := by decide +kernel
theorem dX6_movesToReach_15 : decode cX6_movesToReach 15 = .ok (.invokevirtual 207, 3) := by decide +kernel
theorem dX6_movesToReach_18 : decode cX6_movesToReach 18 = .ok (.invokestatic 189, 3) := by decide +kernel
theorem dX6_movesToReach_21 : decode cX6_movesToReach 21 = .ok (.invokevirtual 231, 3) := by decide +kernel
theorem dX6_movesToReach_24 : decode cX6_movesToReach 24 = .ok (.ireturn, 1) := by decide +kernel
set_option maxRecDepth 100000 in
set_option maxHeartbeats 4000000 in
theorem C_X6_movesToReach (l : Launch) (hst : l.stackTraces = false) (E : gE) (x : gX) {v1 : Int32} {M : gM} {oc : String ⊕ Int32} {M' : gM} (hf : f_X6_movesToReach v1 M = some (oc, M')) : gX0 l E yX6_movesToReach (.code yX6_movesToReach cX6_movesToReach 2 (some .int)) (gRX 8 130 1 6) M x [.ref (E.2.1 132), .int v1] (gO oc) M' 1 6 := by
  refine gMetX hst (by decide +kernel) (Nat.le_of_ble_eq_true rfl) ?_
  intro p e s m args below meth c H locs ls Q hC hl hI kr kv kx kt kd kf
  replace hC : gC p s m args c cX6_movesToReach 2 RX6 E := hC
  replace hl : lv_has ls 2 [(0, .ref (E.2.1 132)), (1, .int v1)] := hl
  have hx := hC.1
  have hb := hC.2.1
  unfold f_X6_movesToReach at hf
  refine lv_aload_n hx hb dX6_movesToReach_0 rfl (lv_at hl 0 rfl) ?_
  refine gt_X6_X6_now hC hI dX6_movesToReach_1 ?_
  refine gt_X6_X5_cargo hC hI gOk_0 dX6_movesToReach_4 ?_
  refine lv_aload_n hx hb dX6_movesToReach_7 rfl (lv_at hl 0 rfl) ?_
  refine gt_X6_X6_now hC hI dX6_movesToReach_8 ?_
  refine gt_X6_X5_cargo hC hI gOk_0 dX6_movesToReach_11 ?_
  refine lv_iload_n hx hb dX6_movesToReach_14 rfl (lv_at hl 1 rfl) ?_
  obtain ⟨r1, hr2, hf⟩ := gbind hf
  have hr2 := C_X0_shipRowOf l E x gOk_0 hr2
  refine g_callVi (rest := [.ref (E.2.1 (0 + 1))]) hC hI hr2 Y_X0_shipRowOf V_X0_shipRowOf w681 (rcv_X0 hC hI gOk_0) ⟨rfl, rfl⟩ ⟨Nat.le_of_ble_eq_true rfl, Nat.le_of_ble_eq_true rfl⟩ rfl hl.1 rfl (Nat.le_of_ble_eq_true rfl) dX6_movesToReach_15 ⟨Nat.le_of_ble_eq_true rfl, Nat.le_of_ble_eq_true rfl⟩ (fun H locs hI => ?_)
  rcases gseq hf with ⟨er, Mr, hr4, hf⟩ | ⟨r3, M5, hr4, hf⟩
  · replace hr4 := C_X6_found l hst E x  hr4
    exact g_xSx (rest := [.ref (E.2.1 (0 + 1))]) hC hI hr4 Y_X6_found S_X6_found w637 ⟨rfl, rfl⟩ ⟨Nat.le_of_ble_eq_true rfl, Nat.le_of_ble_eq_true rfl⟩ rfl hl.1 rfl (Nat.le_of_ble_eq_true rfl) dX6_movesToReach_18 ⟨Nat.le_of_ble_eq_true rfl, Nat.le_of_ble_eq_true rfl⟩ (fun ce q H locs hI h1 h2 h3 => kx _ _ _ _ _ _ _ _ _ _ _ (gtx hf) hI h1 h2 h3 ⟨Nat.le_of_ble_eq_true rfl, Nat.le_of_ble_eq_true rfl⟩)
  replace hr4 := C_X6_found l hst E x  hr4
  refine g_xSi (rest := [.ref (E.2.1 (0 + 1))]) hC hI hr4 Y_X6_found S_X6_found w637 ⟨rfl, rfl⟩ ⟨Nat.le_of_ble_eq_true rfl, Nat.le_of_ble_eq_true rfl⟩ rfl hl.1 rfl (Nat.le_of_ble_eq_true rfl) dX6_movesToReach_18 ⟨Nat.le_of_ble_eq_true rfl, Nat.le_of_ble_eq_true rfl⟩ (fun H locs hI => ?_)
  obtain ⟨r6, hr7, hf⟩ := gbind hf
  have hr7 := C_X0_countAbove l E x gOk_0 hr7
  refine g_callVi (rest := []) hC hI hr7 Y_X0_countAbove V_X0_countAbove w685 (rcv_X0 hC hI gOk_0) ⟨rfl, rfl⟩ ⟨Nat.le_of_ble_eq_true rfl, Nat.le_of_ble_eq_true rfl⟩ rfl hl.1 rfl (Nat.le_of_ble_eq_true rfl) dX6_movesToReach_21 ⟨Nat.le_of_ble_eq_true rfl, Nat.le_of_ble_eq_true rfl⟩ (fun H locs hI => ?_)
  exact kr _ _ _ _ _ _ _ _ (gre hf) hI ⟨.int, rfl, rfl⟩ ⟨Nat.le_of_ble_eq_true rfl, Nat.le_of_ble_eq_true rfl⟩ dX6_movesToReach_24
theorem dX0_copyStack_0 : decode cX0_copyStack 0 = .ok (.aload_n 0, 1) := by decide +kernel
theorem dX0_copyStack_1 : decode cX0_copyStack 1 = .ok (.iload_n 1, 1) := by decide +kernel
theorem dX0_copyStack_2 : decode cX0_copyStack 2 = .ok (.invokevirtual 40, 3) := by decide +kernel
theorem dX0_copyStack_5 : decode cX0_copyStack 5 = .ok (.istore_n 2, 1) := by decide +kernel
theorem dX0_copyStack_6 : decode cX0_copyStack 6 = .ok (.iconst 0, 1) := by decide +kernel
theorem dX0_copyStack_7 : decode cX0_copyStack 7 = .ok (.istore_n 3, 1) := by decide +kernel
theorem dX0_copyStack_8 : decode cX0_copyStack 8 = .ok (.iload_n 3, 1) := by decide +kernel
theorem dX0_copyStack_9 : decode cX0_copyStack 9 = .ok (.iload_n 2, 1) := by decide +kernel
theorem dX0_copyStack_10 : decode cX0_copyStack 10 = .ok (.if_icmp .ge 30, 3) := by decide +kernel
theorem dX0_copyStack_13 : decode cX0_copyStack 13 = .ok (.iload_n 3, 1) := by decide +kernel
theorem dX0_copyStack_14 : decode cX0_copyStack 14 = .ok (.iconst 5, 1) := by decide +kernel
theorem dX0_copyStack_15 : decode cX0_copyStack 15 = .ok (.if_icmp .ge 25, 3) := by decide +kernel
theorem dX0_copyStack_18 : decode cX0_copyStack 18 = .ok (.aload_n 0, 1) := by decide +kernel
theorem dX0_copyStack_19 : decode cX0_copyStack 19 = .ok (.getfield 27, 3) := by decide +kernel
theorem dX0_copyStack_22 : decode cX0_copyStack 22 = .ok (.iload_n 3, 1) := by decide +kernel
theorem dX0_copyStack_23 : decode cX0_copyStack 23 = .ok (.aload_n 0, 1) := by decide +kernel
theorem dX0_copyStack_24 : decode cX0_copyStack 24 = .ok (.aload_n 0, 1) := by decide +kernel
theorem dX0_copyStack_25 : decode cX0_copyStack 25 = .ok (.iload_n 1, 1) := by decide +kernel
theorem dX0_copyStack_26 : decode cX0_copyStack 26 = .ok (.iload_n 3, 1) := by decide +kernel
theorem dX0_copyStack_27 : decode cX0_copyStack 27 = .ok (.invokevirtual 72, 3) := by decide +kernel
theorem dX0_copyStack_30 : decode cX0_copyStack 30 = .ok (.invokevirtual 85, 3) := by decide +kernel
theorem dX0_copyStack_33 : decode cX0_copyStack 33 = .ok (.iastore, 1) := by decide +kernel
theorem dX0_copyStack_34 : decode cX0_copyStack 34 = .ok (.iinc 3 1, 3) := by decide +kernel
theorem dX0_copyStack_37 : decode cX0_copyStack 37 = .ok (.goto (-29), 3) := by decide +kernel
theorem dX0_copyStack_40 : decode cX0_copyStack 40 = .ok (.iload_n 2, 1) := by decide +kernel
theorem dX0_copyStack_41 : decode cX0_copyStack 41 = .ok (.ireturn, 1) := by decide +kernel
set_option maxRecDepth 100000 in
set_option maxHeartbeats 4000000 in
theorem C_X0_copyStack (l : Launch) (E : gE) (x : gX) {o : Nat} (ho : gOk o) {v1 : Int32} {M : gM} {r : Int32} {M' : gM} (hf : f_X0_copyStack o v1 M = some (r, M')) : gM0 l E yX0_copyStack (.code yX0_copyStack cX0_copyStack 4 (some .int)) (gR 2 42) M x [.ref (E.2.1 (o + 1)), .int v1] (some (.int r)) M' := by
  refine gMet (by decide +kernel) (Nat.le_of_ble_eq_true rfl) ?_
  intro p e s m args below meth c H locs ls Q hC hl hI kr kv
  replace hC : gC p s m args c cX0_copyStack 4 RX0 E := hC
  replace hl : lv_has ls 4 [(0, .ref (E.2.1 (o + 1))), (1, .int v1)] := hl
  have hx := hC.1
  have hb := hC.2.1
  have L8 : ∀ (v2 : Int32) (v1 : Int32) (n : Nat) (v3 : Int32) (M : gM), f_X0_copyStack_L8 o v2 v1 n v3 M = some (r, M') → ∀ (H : Heap) (locs : List Loc) (ls : Array Slot), gI E s M x H locs → lv_has ls 4 [(3, .int v3), (2, .int v2), (0, .ref (E.2.1 (o + 1))), (1, .int v1)] → W p l e (gR 2 42) s m args below meth c H locs 0 0 Q (F0 m 8 ls []) := by
    intro v2 v1 n
    induction n with
    | zero => intro v3 M hf; rw [f_X0_copyStack_L8] at hf; cases hf
    | succ n ih =>
      intro v3 M hf H locs ls hI hl
      rw [f_X0_copyStack_L8] at hf
      refine lv_iload_n hx hb dX0_copyStack_8 rfl (lv_at hl 0 rfl) ?_
      refine lv_iload_n hx hb dX0_copyStack_9 rfl (lv_at hl 1 rfl) ?_
      refine lv_icmp_ge (tgt := 40) hx hb dX0_copyStack_10 rfl (fun h3 => ?_) (fun h3 => ?_)
      · replace hf := gif h3 hf
        refine lv_iload_n hx hb dX0_copyStack_40 rfl (lv_at hl 1 rfl) ?_
        exact kr _ _ _ _ _ _ (grw hf) hI ⟨.int, rfl, rfl⟩ dX0_copyStack_41
      · replace hf := gifn h3 hf
        refine lv_iload_n hx hb dX0_copyStack_13 rfl (lv_at hl 0 rfl) ?_
        refine lv_iconst (v := 5) hx hb dX0_copyStack_14 (by decide) ?_
        refine lv_icmp_ge (tgt := 40) hx hb dX0_copyStack_15 rfl (fun h4 => ?_) (fun h4 => ?_)
        · replace hf := gif h4 hf
          refine lv_iload_n hx hb dX0_copyStack_40 rfl (lv_at hl 1 rfl) ?_
          exact kr _ _ _ _ _ _ (grw hf) hI ⟨.int, rfl, rfl⟩ dX0_copyStack_41
        · replace hf := gifn h4 hf
          refine lv_aload_n hx hb dX0_copyStack_18 rfl (lv_at hl 2 rfl) ?_
          refine gt_X0_X0_copiedStack hC hI ho dX0_copyStack_19 ?_
          refine lv_iload_n hx hb dX0_copyStack_22 rfl (lv_at hl 0 rfl) ?_
          refine lv_aload_n hx hb dX0_copyStack_23 rfl (lv_at hl 2 rfl) ?_
          refine lv_aload_n hx hb dX0_copyStack_24 rfl (lv_at hl 2 rfl) ?_
          refine lv_iload_n hx hb dX0_copyStack_25 rfl (lv_at hl 3 rfl) ?_
          refine lv_iload_n hx hb dX0_copyStack_26 rfl (lv_at hl 0 rfl) ?_
          obtain ⟨r5, hr6, hf⟩ := gbind hf
          have hr6 := C_X0_rowAt l E x ho hr6
          refine g_callVi (rest := [.ref (E.2.1 (o + 1)), .int v3, .ref (E.2.1 (o + 7))]) hC hI hr6 Y_X0_rowAt V_X0_rowAt w422 (rcv_X0 hC hI ho) ⟨rfl, rfl⟩ ⟨Nat.le_of_ble_eq_true rfl, Nat.le_of_ble_eq_true rfl⟩ rfl hl.1 rfl (Nat.le_of_ble_eq_true rfl) dX0_copyStack_27 ⟨Nat.le_of_ble_eq_true rfl, Nat.le_of_ble_eq_true rfl⟩ (fun H locs hI => ?_)
          obtain ⟨r7, hr8, hf⟩ := gbind hf
          have hr8 := C_X0_id l E x ho hr8
          refine g_callVi (rest := [.int v3, .ref (E.2.1 (o + 7))]) hC hI hr8 Y_X0_id V_X0_id w701 (rcv_X0 hC hI ho) ⟨rfl, rfl⟩ ⟨Nat.le_of_ble_eq_true rfl, Nat.le_of_ble_eq_true rfl⟩ rfl hl.1 rfl (Nat.le_of_ble_eq_true rfl) dX0_copyStack_30 ⟨Nat.le_of_ble_eq_true rfl, Nat.le_of_ble_eq_true rfl⟩ (fun H locs hI => ?_)
          obtain ⟨h9, hf⟩ := gifN hf
          obtain ⟨M10, eM10, hf⟩ := glet hf
          refine g_iast hC hI (k := v3.toNatClampNeg) (gIA_7 ho) h9 rfl dX0_copyStack_33 (fun H locs hI => ?_)
          replace hI := g_mem eM10 hI
          refine lv_iinc (k := 0) (v := v3 + 1) (lv' := [(3, .int (v3 + 1)), (2, .int v2), (0, .ref (E.2.1 (o + 1))), (1, .int v1)]) hx hb dX0_copyStack_34 hl rfl rfl (by decide) rfl (fun ls hl => ?_)
          refine lv_goto (tgt := 8) hx hb dX0_copyStack_37 rfl ?_
          exact ih (v3 + 1) M10 hf _ _ _ hI (lv_sub hl [0, 1, 2, 3] rfl)
  unfold f_X0_copyStack at hf
  refine lv_aload_n hx hb dX0_copyStack_0 rfl (lv_at hl 0 rfl) ?_
  refine lv_iload_n hx hb dX0_copyStack_1 rfl (lv_at hl 1 rfl) ?_
  obtain ⟨r1, hr2, hf⟩ := gbind hf
  have hr2 := C_X0_height l E x ho hr2
  refine g_callVi (rest := []) hC hI hr2 Y_X0_height V_X0_height w405 (rcv_X0 hC hI ho) ⟨rfl, rfl⟩ ⟨Nat.le_of_ble_eq_true rfl, Nat.le_of_ble_eq_true rfl⟩ rfl hl.1 rfl (Nat.le_of_ble_eq_true rfl) dX0_copyStack_2 ⟨Nat.le_of_ble_eq_true rfl, Nat.le_of_ble_eq_true rfl⟩ (fun H locs hI => ?_)
  refine lv_istore_n (lv' := [(2, .int r1), (0, .ref (E.2.1 (o + 1))), (1, .int v1)]) hx hb dX0_copyStack_5 rfl hl (by decide) rfl (fun ls hl => ?_)
  refine lv_iconst (v := 0) hx hb dX0_copyStack_6 (by decide) ?_
  refine lv_istore_n (lv' := [(3, .int 0), (2, .int r1), (0, .ref (E.2.1 (o + 1))), (1, .int v1)]) hx hb dX0_copyStack_7 rfl hl (by decide) rfl (fun ls hl => ?_)
  exact L8 r1 v1 gF 0 M hf _ _ _ hI (lv_sub hl [0, 1, 2, 3] rfl)
theorem dX0_digOnCopy_0 : decode cX0_digOnCopy 0 = .ok (.aload_n 0, 1) := by decide +kernel
theorem dX0_digOnCopy_1 : decode cX0_digOnCopy 1 = .ok (.aload_n 0, 1) := by decide +kernel
theorem dX0_digOnCopy_2 : decode cX0_digOnCopy 2 = .ok (.iload_n 1, 1) := by decide +kernel
theorem dX0_digOnCopy_3 : decode cX0_digOnCopy 3 = .ok (.invokevirtual 69, 3) := by decide +kernel
theorem dX0_digOnCopy_6 : decode cX0_digOnCopy 6 = .ok (.invokevirtual 82, 3) := by decide +kernel
theorem dX0_digOnCopy_9 : decode cX0_digOnCopy 9 = .ok (.istore_n 2, 1) := by decide +kernel
theorem dX0_digOnCopy_10 : decode cX0_digOnCopy 10 = .ok (.iconst 0, 1) := by decide +kernel
theorem dX0_digOnCopy_11 : decode cX0_digOnCopy 11 = .ok (.istore_n 3, 1) := by decide +kernel
theorem dX0_digOnCopy_12 : decode cX0_digOnCopy 12 = .ok (.iload_n 2, 1) := by decide +kernel
theorem dX0_digOnCopy_13 : decode cX0_digOnCopy 13 = .ok (.ifCond .le 33, 3) := by decide +kernel
theorem dX0_digOnCopy_16 : decode cX0_digOnCopy 16 = .ok (.iload_n 2, 1) := by decide +kernel
theorem dX0_digOnCopy_17 : decode cX0_digOnCopy 17 = .ok (.iconst 5, 1) := by decide +kernel
theorem dX0_digOnCopy_18 : decode cX0_digOnCopy 18 = .ok (.if_icmp .gt 28, 3) := by decide +kernel
theorem dX0_digOnCopy_21 : decode cX0_digOnCopy 21 = .ok (.aload_n 0, 1) := by decide +kernel
theorem dX0_digOnCopy_22 : decode cX0_digOnCopy 22 = .ok (.getfield 27, 3) := by decide +kernel
theorem dX0_digOnCopy_25 : decode cX0_digOnCopy 25 = .ok (.iload_n 2, 1) := by decide +kernel
theorem dX0_digOnCopy_26 : decode cX0_digOnCopy 26 = .ok (.iconst 1, 1) := by decide +kernel
theorem dX0_digOnCopy_27 : decode cX0_digOnCopy 27 = .ok (.isub, 1) := by decide +kernel
theorem dX0_digOnCopy_28 : decode cX0_digOnCopy 28 = .ok (.iaload, 1) := by decide +kernel
theorem dX0_digOnCopy_29 : decode cX0_digOnCopy 29 = .ok (.aload_n 0, 1) := by decide +kernel
theorem dX0_digOnCopy_30 : decode cX0_digOnCopy 30 = .ok (.iload_n 1, 1) := by decide +kernel
theorem dX0_digOnCopy_31 : decode cX0_digOnCopy 31 = .ok (.invokevirtual 85, 3) := by decide +kernel
theorem dX0_digOnCopy_34 : decode cX0_digOnCopy 34 = .ok (.if_icmp .eq 12, 3) := by decide +kernel
theorem dX0_digOnCopy_37 : decode cX0_digOnCopy 37 = .ok (.iinc 2 (-1), 3) := by decide +kernel
theorem dX0_digOnCopy_40 : decode cX0_digOnCopy 40 = .ok (.iinc 3 1, 3) := by decide +kernel
theorem dX0_digOnCopy_43 : decode cX0_digOnCopy 43 = .ok (.goto (-31), 3) := by decide +kernel
theorem dX0_digOnCopy_46 : decode cX0_digOnCopy 46 = .ok (.iload_n 3, 1) := by decide +kernel
theorem dX0_digOnCopy_47 : decode cX0_digOnCopy 47 = .ok (.ireturn, 1) := by decide +kernel
set_option maxRecDepth 100000 in
set_option maxHeartbeats 4000000 in
theorem C_X0_digOnCopy (l : Launch) (E : gE) (x : gX) {o : Nat} (ho : gOk o) {v1 : Int32} {M : gM} {r : Int32} {M' : gM} (hf : f_X0_digOnCopy o v1 M = some (r, M')) : gM0 l E yX0_digOnCopy (.code yX0_digOnCopy cX0_digOnCopy 4 (some .int)) (gR 3 65) M x [.ref (E.2.1 (o + 1)), .int v1] (some (.int r)) M' := by
  refine gMet (by decide +kernel) (Nat.le_of_ble_eq_true rfl) ?_
  intro p e s m args below meth c H locs ls Q hC hl hI kr kv
  replace hC : gC p s m args c cX0_digOnCopy 4 RX0 E := hC
  replace hl : lv_has ls 4 [(0, .ref (E.2.1 (o + 1))), (1, .int v1)] := hl
  have hx := hC.1
  have hb := hC.2.1
  have L12 : ∀ (v1 : Int32) (n : Nat) (v3 : Int32) (v2 : Int32) (M : gM), f_X0_digOnCopy_L12 o v1 n v3 v2 M = some (r, M') → ∀ (H : Heap) (locs : List Loc) (ls : Array Slot), gI E s M x H locs → lv_has ls 4 [(3, .int v3), (2, .int v2), (0, .ref (E.2.1 (o + 1))), (1, .int v1)] → W p l e (gR 3 65) s m args below meth c H locs 0 0 Q (F0 m 12 ls []) := by
    intro v1 n
    induction n with
    | zero => intro v3 v2 M hf; rw [f_X0_digOnCopy_L12] at hf; cases hf
    | succ n ih =>
      intro v3 v2 M hf H locs ls hI hl
      rw [f_X0_digOnCopy_L12] at hf
      refine lv_iload_n hx hb dX0_digOnCopy_12 rfl (lv_at hl 1 rfl) ?_
      refine lv_if_le (tgt := 46) hx hb dX0_digOnCopy_13 rfl (fun h5 => ?_) (fun h5 => ?_)
      · replace hf := gif h5 hf
        refine lv_iload_n hx hb dX0_digOnCopy_46 rfl (lv_at hl 0 rfl) ?_
        exact kr _ _ _ _ _ _ (grw hf) hI ⟨.int, rfl, rfl⟩ dX0_digOnCopy_47
      · replace hf := gifn h5 hf
        refine lv_iload_n hx hb dX0_digOnCopy_16 rfl (lv_at hl 1 rfl) ?_
        refine lv_iconst (v := 5) hx hb dX0_digOnCopy_17 (by decide) ?_
        refine lv_icmp_gt (tgt := 46) hx hb dX0_digOnCopy_18 rfl (fun h6 => ?_) (fun h6 => ?_)
        · replace hf := gif h6 hf
          refine lv_iload_n hx hb dX0_digOnCopy_46 rfl (lv_at hl 0 rfl) ?_
          exact kr _ _ _ _ _ _ (grw hf) hI ⟨.int, rfl, rfl⟩ dX0_digOnCopy_47
        · replace hf := gifn h6 hf
          refine lv_aload_n hx hb dX0_digOnCopy_21 rfl (lv_at hl 2 rfl) ?_
          refine gt_X0_X0_copiedStack hC hI ho dX0_digOnCopy_22 ?_
          refine lv_iload_n hx hb dX0_digOnCopy_25 rfl (lv_at hl 1 rfl) ?_
          refine lv_iconst (v := 1) hx hb dX0_digOnCopy_26 (by decide) ?_
          refine lv_isub hx hb dX0_digOnCopy_27 ?_
          obtain ⟨h7, hf⟩ := gifN hf
          refine g_iald hC hI (k := (v2 - 1).toNatClampNeg) (gIA_7 ho) h7 rfl dX0_digOnCopy_28 ?_
          refine lv_aload_n hx hb dX0_digOnCopy_29 rfl (lv_at hl 2 rfl) ?_
          refine lv_iload_n hx hb dX0_digOnCopy_30 rfl (lv_at hl 3 rfl) ?_
          obtain ⟨r8, hr9, hf⟩ := gbind hf
          have hr9 := C_X0_id l E x ho hr9
          refine g_callVi (rest := [.int (M (o + 7) ((v2 - 1).toNatClampNeg))]) hC hI hr9 Y_X0_id V_X0_id w701 (rcv_X0 hC hI ho) ⟨rfl, rfl⟩ ⟨Nat.le_of_ble_eq_true rfl, Nat.le_of_ble_eq_true rfl⟩ rfl hl.1 rfl (Nat.le_of_ble_eq_true rfl) dX0_digOnCopy_31 ⟨Nat.le_of_ble_eq_true rfl, Nat.le_of_ble_eq_true rfl⟩ (fun H locs hI => ?_)
          refine lv_icmp_eq (tgt := 46) hx hb dX0_digOnCopy_34 rfl (fun h10 => ?_) (fun h10 => ?_)
          · replace hf := gif h10 hf
            refine lv_iload_n hx hb dX0_digOnCopy_46 rfl (lv_at hl 0 rfl) ?_
            exact kr _ _ _ _ _ _ (grw hf) hI ⟨.int, rfl, rfl⟩ dX0_digOnCopy_47
          · replace hf := gifn h10 hf
            refine lv_iinc (k := 1) (v := v2 + (-1)) (lv' := [(2, .int (v2 + (-1))), (3, .int v3), (0, .ref (E.2.1 (o + 1))), (1, .int v1)]) hx hb dX0_digOnCopy_37 hl rfl rfl (by decide) rfl (fun ls hl => ?_)
            refine lv_iinc (k := 1) (v := v3 + 1) (lv' := [(3, .int (v3 + 1)), (2, .int (v2 + (-1))), (0, .ref (E.2.1 (o + 1))), (1, .int v1)]) hx hb dX0_digOnCopy_40 hl rfl rfl (by decide) rfl (fun ls hl => ?_)
            refine lv_goto (tgt := 12) hx hb dX0_digOnCopy_43 rfl ?_
            exact ih (v3 + 1) (v2 + (-1)) M hf _ _ _ hI (lv_sub hl [0, 1, 2, 3] rfl)
  unfold f_X0_digOnCopy at hf
  refine lv_aload_n hx hb dX0_digOnCopy_0 rfl (lv_at hl 0 rfl) ?_
  refine lv_aload_n hx hb dX0_digOnCopy_1 rfl (lv_at hl 0 rfl) ?_
  refine lv_iload_n hx hb dX0_digOnCopy_2 rfl (lv_at hl 1 rfl) ?_
  obtain ⟨r1, hr2, hf⟩ := gbind hf
  have hr2 := C_X0_pile l E x ho hr2
  refine g_callVi (rest := [.ref (E.2.1 (o + 1))]) hC hI hr2 Y_X0_pile V_X0_pile w482 (rcv_X0 hC hI ho) ⟨rfl, rfl⟩ ⟨Nat.le_of_ble_eq_true rfl, Nat.le_of_ble_eq_true rfl⟩ rfl hl.1 rfl (Nat.le_of_ble_eq_true rfl) dX0_digOnCopy_3 ⟨Nat.le_of_ble_eq_true rfl, Nat.le_of_ble_eq_true rfl⟩ (fun H locs hI => ?_)
  obtain ⟨r3, hr4, hf⟩ := gbind hf
  have hr4 := C_X0_copyStack l E x ho hr4
  refine g_callVi (rest := []) hC hI hr4 Y_X0_copyStack V_X0_copyStack w697 (rcv_X0 hC hI ho) ⟨rfl, rfl⟩ ⟨Nat.le_of_ble_eq_true rfl, Nat.le_of_ble_eq_true rfl⟩ rfl hl.1 rfl (Nat.le_of_ble_eq_true rfl) dX0_digOnCopy_6 ⟨Nat.le_of_ble_eq_true rfl, Nat.le_of_ble_eq_true rfl⟩ (fun H locs hI => ?_)
  refine lv_istore_n (lv' := [(2, .int r3.1), (0, .ref (E.2.1 (o + 1))), (1, .int v1)]) hx hb dX0_digOnCopy_9 rfl hl (by decide) rfl (fun ls hl => ?_)
  refine lv_iconst (v := 0) hx hb dX0_digOnCopy_10 (by decide) ?_
  refine lv_istore_n (lv' := [(3, .int 0), (2, .int r3.1), (0, .ref (E.2.1 (o + 1))), (1, .int v1)]) hx hb dX0_digOnCopy_11 rfl hl (by decide) rfl (fun ls hl => ?_)
  exact L12 v1 gF 0 r3.1 r3.2 hf _ _ _ hI (lv_sub hl [0, 1, 2, 3] rfl)
theorem dX6_movesToReachByCopy_0 : decode cX6_movesToReachByCopy 0 = .ok (.aload_n 0, 1) := by decide +kernel
theorem dX6_movesToReachByCopy_1 : decode cX6_movesToReachByCopy 1 = .ok (.getfield 10, 3) := by decide +kernel
theorem dX6_movesToReachByCopy_4 : decode cX6_movesToReachByCopy 4 = .ok (.getfield 108, 3) := by decide +kernel
theorem dX6_movesToReachByCopy_7 : decode cX6_movesToReachByCopy 7 = .ok (.aload_n 0, 1) := by decide +kernel
theorem dX6_movesToReachByCopy_8 : decode cX6_movesToReachByCopy 8 = .ok (.getfield 10, 3) := by decide +kernel
theorem dX6_movesToReachByCopy_11 : decode cX6_movesToReachByCopy 11 = .ok (.getfield 108, 3) := by decide +kernel
theorem dX6_movesToReachByCopy_14 : decode cX6_movesToReachByCopy 14 = .ok (.iload_n 1, 1) := by decide +kernel
theorem dX6_movesToReachByCopy_15 : decode cX6_movesToReachByCopy 15 = .ok (.invokevirtual 207, 3) := by decide +kernel
theorem dX6_movesToReachByCopy_18 : decode cX6_movesToReachByCopy 18 = .ok (.invokestatic 189, 3) := by decide +kernel
theorem dX6_movesToReachByCopy_21 : decode cX6_movesToReachByCopy 21 = .ok (.invokevirtual 234, 3) := by decide +kernel
theorem dX6_movesToReachByCopy_24 : decode cX6_movesToReachByCopy 24 = .ok (.ireturn, 1) := by decide +kernel
set_option maxRecDepth 100000 in
set_option maxHeartbeats 4000000 in
theorem C_X6_movesToReachByCopy (l : Launch) (hst : l.stackTraces = false) (E : gE) (x : gX) {v1 : Int32} {M : gM} {oc : String ⊕ Int32} {M' : gM} (hf : f_X6_movesToReachByCopy v1 M = some (oc, M')) : gX0 l E yX6_movesToReachByCopy (.code yX6_movesToReachByCopy cX6_movesToReachByCopy 2 (some .int)) (gRX 8 130 1 6) M x [.ref (E.2.1 132), .int v1] (gO oc) M' 1 6 := by
  refine gMetX hst (by decide +kernel) (Nat.le_of_ble_eq_true rfl) ?_
  intro p e s m args below meth c H locs ls Q hC hl hI kr kv kx kt kd kf
  replace hC : gC p s m args c cX6_movesToReachByCopy 2 RX6 E := hC
  replace hl : lv_has ls 2 [(0, .ref (E.2.1 132)), (1, .int v1)] := hl
  have hx := hC.1
  have hb := hC.2.1
  unfold f_X6_movesToReachByCopy at hf
  refine lv_aload_n hx hb dX6_movesToReachByCopy_0 rfl (lv_at hl 0 rfl) ?_
  refine gt_X6_X6_now hC hI dX6_movesToReachByCopy_1 ?_
  refine gt_X6_X5_cargo hC hI gOk_0 dX6_movesToReachByCopy_4 ?_
  refine lv_aload_n hx hb dX6_movesToReachByCopy_7 rfl (lv_at hl 0 rfl) ?_
  refine gt_X6_X6_now hC hI dX6_movesToReachByCopy_8 ?_
  refine gt_X6_X5_cargo hC hI gOk_0 dX6_movesToReachByCopy_11 ?_
  refine lv_iload_n hx hb dX6_movesToReachByCopy_14 rfl (lv_at hl 1 rfl) ?_
  obtain ⟨r1, hr2, hf⟩ := gbind hf
  have hr2 := C_X0_shipRowOf l E x gOk_0 hr2
  refine g_callVi (rest := [.ref (E.2.1 (0 + 1))]) hC hI hr2 Y_X0_shipRowOf V_X0_shipRowOf w681 (rcv_X0 hC hI gOk_0) ⟨rfl, rfl⟩ ⟨Nat.le_of_ble_eq_true rfl, Nat.le_of_ble_eq_true rfl⟩ rfl hl.1 rfl (Nat.le_of_ble_eq_true rfl) dX6_movesToReachByCopy_15 ⟨Nat.le_of_ble_eq_true rfl, Nat.le_of_ble_eq_true rfl⟩ (fun H locs hI => ?_)
  rcases gseq hf with ⟨er, Mr, hr4, hf⟩ | ⟨r3, M5, hr4, hf⟩
  · replace hr4 := C_X6_found l hst E x  hr4
    exact g_xSx (rest := [.ref (E.2.1 (0 + 1))]) hC hI hr4 Y_X6_found S_X6_found w637 ⟨rfl, rfl⟩ ⟨Nat.le_of_ble_eq_true rfl, Nat.le_of_ble_eq_true rfl⟩ rfl hl.1 rfl (Nat.le_of_ble_eq_true rfl) dX6_movesToReachByCopy_18 ⟨Nat.le_of_ble_eq_true rfl, Nat.le_of_ble_eq_true rfl⟩ (fun ce q H locs hI h1 h2 h3 => kx _ _ _ _ _ _ _ _ _ _ _ (gtx hf) hI h1 h2 h3 ⟨Nat.le_of_ble_eq_true rfl, Nat.le_of_ble_eq_true rfl⟩)
  replace hr4 := C_X6_found l hst E x  hr4
  refine g_xSi (rest := [.ref (E.2.1 (0 + 1))]) hC hI hr4 Y_X6_found S_X6_found w637 ⟨rfl, rfl⟩ ⟨Nat.le_of_ble_eq_true rfl, Nat.le_of_ble_eq_true rfl⟩ rfl hl.1 rfl (Nat.le_of_ble_eq_true rfl) dX6_movesToReachByCopy_18 ⟨Nat.le_of_ble_eq_true rfl, Nat.le_of_ble_eq_true rfl⟩ (fun H locs hI => ?_)
  obtain ⟨r6, hr7, hf⟩ := gbind hf
  have hr7 := C_X0_digOnCopy l E x gOk_0 hr7
  refine g_callVi (rest := []) hC hI hr7 Y_X0_digOnCopy V_X0_digOnCopy w693 (rcv_X0 hC hI gOk_0) ⟨rfl, rfl⟩ ⟨Nat.le_of_ble_eq_true rfl, Nat.le_of_ble_eq_true rfl⟩ rfl hl.1 rfl (Nat.le_of_ble_eq_true rfl) dX6_movesToReachByCopy_21 ⟨Nat.le_of_ble_eq_true rfl, Nat.le_of_ble_eq_true rfl⟩ (fun H locs hI => ?_)
  exact kr _ _ _ _ _ _ _ _ (gre hf) hI ⟨.int, rfl, rfl⟩ ⟨Nat.le_of_ble_eq_true rfl, Nat.le_of_ble_eq_true rfl⟩ dX6_movesToReachByCopy_24
theorem dX0_heaviestRowAbove_0 : decode cX0_heaviestRowAbove 0 = .ok (.iconst (-1), 1) := by decide +kernel
theorem dX0_heaviestRowAbove_1 : decode cX0_heaviestRowAbove 1 = .ok (.istore_n 2, 1) := by decide +kernel
theorem dX0_heaviestRowAbove_2 : decode cX0_heaviestRowAbove 2 = .ok (.iconst 0, 1) := by decide +kernel
theorem dX0_heaviestRowAbove_3 : decode cX0_heaviestRowAbove 3 = .ok (.istore_n 3, 1) := by decide +kernel
theorem dX0_heaviestRowAbove_4 : decode cX0_heaviestRowAbove 4 = .ok (.iload_n 3, 1) := by decide +kernel
theorem dX0_heaviestRowAbove_5 : decode cX0_heaviestRowAbove 5 = .ok (.aload_n 0, 1) := by decide +kernel
theorem dX0_heaviestRowAbove_6 : decode cX0_heaviestRowAbove 6 = .ok (.getfield 30, 3) := by decide +kernel
theorem dX0_heaviestRowAbove_9 : decode cX0_heaviestRowAbove 9 = .ok (.if_icmp .ge 38, 3) := by decide +kernel
theorem dX0_heaviestRowAbove_12 : decode cX0_heaviestRowAbove 12 = .ok (.aload_n 0, 1) := by decide +kernel
theorem dX0_heaviestRowAbove_13 : decode cX0_heaviestRowAbove 13 = .ok (.iload_n 3, 1) := by decide +kernel
theorem dX0_heaviestRowAbove_14 : decode cX0_heaviestRowAbove 14 = .ok (.iload_n 1, 1) := by decide +kernel
theorem dX0_heaviestRowAbove_15 : decode cX0_heaviestRowAbove 15 = .ok (.invokevirtual 48, 3) := by decide +kernel
theorem dX0_heaviestRowAbove_18 : decode cX0_heaviestRowAbove 18 = .ok (.ifCond .eq 23, 3) := by decide +kernel
theorem dX0_heaviestRowAbove_21 : decode cX0_heaviestRowAbove 21 = .ok (.iload_n 2, 1) := by decide +kernel
theorem dX0_heaviestRowAbove_22 : decode cX0_heaviestRowAbove 22 = .ok (.iconst (-1), 1) := by decide +kernel
theorem dX0_heaviestRowAbove_23 : decode cX0_heaviestRowAbove 23 = .ok (.if_icmp .eq 16, 3) := by decide +kernel
theorem dX0_heaviestRowAbove_26 : decode cX0_heaviestRowAbove 26 = .ok (.aload_n 0, 1) := by decide +kernel
theorem dX0_heaviestRowAbove_27 : decode cX0_heaviestRowAbove 27 = .ok (.iload_n 3, 1) := by decide +kernel
theorem dX0_heaviestRowAbove_28 : decode cX0_heaviestRowAbove 28 = .ok (.invokevirtual 63, 3) := by decide +kernel
theorem dX0_heaviestRowAbove_31 : decode cX0_heaviestRowAbove 31 = .ok (.aload_n 0, 1) := by decide +kernel
theorem dX0_heaviestRowAbove_32 : decode cX0_heaviestRowAbove 32 = .ok (.iload_n 2, 1) := by decide +kernel
theorem dX0_heaviestRowAbove_33 : decode cX0_heaviestRowAbove 33 = .ok (.invokevirtual 63, 3) := by decide +kernel
theorem dX0_heaviestRowAbove_36 : decode cX0_heaviestRowAbove 36 = .ok (.if_icmp .le 5, 3) := by decide +kernel
theorem dX0_heaviestRowAbove_39 : decode cX0_heaviestRowAbove 39 = .ok (.iload_n 3, 1) := by decide +kernel
theorem dX0_heaviestRowAbove_40 : decode cX0_heaviestRowAbove 40 = .ok (.istore_n 2, 1) := by decide +kernel
theorem dX0_heaviestRowAbove_41 : decode cX0_heaviestRowAbove 41 = .ok (.iinc 3 1, 3) := by decide +kernel
theorem dX0_heaviestRowAbove_44 : decode cX0_heaviestRowAbove 44 = .ok (.goto (-40), 3) := by decide +kernel
theorem dX0_heaviestRowAbove_47 : decode cX0_heaviestRowAbove 47 = .ok (.iload_n 2, 1) := by decide +kernel
theorem dX0_heaviestRowAbove_48 : decode cX0_heaviestRowAbove 48 = .ok (.ireturn, 1) := by decide +kernel
set_option maxRecDepth 100000 in
set_option maxHeartbeats 4000000 in
theorem C_X0_heaviestRowAbove (l : Launch) (E : gE) (x : gX) {o : Nat} (ho : gOk o) {v1 : Int32} {M : gM} {r : Int32} (hf : f_X0_heaviestRowAbove o v1 M = some r) : gM0 l E yX0_heaviestRowAbove (.code yX0_heaviestRowAbove cX0_heaviestRowAbove 4 (some .int)) (gR 2 43) M x [.ref (E.2.1 (o + 1)), .int v1] (some (.int r)) M := by
  refine gMet (by decide +kernel) (Nat.le_of_ble_eq_true rfl) ?_
  intro p e s m args below meth c H locs ls Q hC hl hI kr kv
  replace hC : gC p s m args c cX0_heaviestRowAbove 4 RX0 E := hC
  replace hl : lv_has ls 4 [(0, .ref (E.2.1 (o + 1))), (1, .int v1)] := hl
  have hx := hC.1
  have hb := hC.2.1
  have L4 : ∀ (v1 : Int32) (n : Nat) (v3 : Int32) (v2 : Int32), f_X0_heaviestRowAbove_L4 o M v1 n v3 v2 = some r → ∀ (H : Heap) (locs : List Loc) (ls : Array Slot), gI E s M x H locs → lv_has ls 4 [(3, .int v3), (2, .int v2), (0, .ref (E.2.1 (o + 1))), (1, .int v1)] → W p l e (gR 2 43) s m args below meth c H locs 0 0 Q (F0 m 4 ls []) := by
    intro v1 n
    induction n with
    | zero => intro v3 v2 hf; rw [f_X0_heaviestRowAbove_L4] at hf; cases hf
    | succ n ih =>
      intro v3 v2 hf H locs ls hI hl
      rw [f_X0_heaviestRowAbove_L4] at hf
      refine lv_iload_n hx hb dX0_heaviestRowAbove_4 rfl (lv_at hl 0 rfl) ?_
      refine lv_aload_n hx hb dX0_heaviestRowAbove_5 rfl (lv_at hl 2 rfl) ?_
      refine gt_X0_X0_count hC hI ho dX0_heaviestRowAbove_6 ?_
      refine lv_icmp_ge (tgt := 47) hx hb dX0_heaviestRowAbove_9 rfl (fun h1 => ?_) (fun h1 => ?_)
      · replace hf := gif h1 hf
        refine lv_iload_n hx hb dX0_heaviestRowAbove_47 rfl (lv_at hl 1 rfl) ?_
        exact kr _ _ _ _ _ _ (gri hf) hI ⟨.int, rfl, rfl⟩ dX0_heaviestRowAbove_48
      · replace hf := gifn h1 hf
        refine lv_aload_n hx hb dX0_heaviestRowAbove_12 rfl (lv_at hl 2 rfl) ?_
        refine lv_iload_n hx hb dX0_heaviestRowAbove_13 rfl (lv_at hl 0 rfl) ?_
        refine lv_iload_n hx hb dX0_heaviestRowAbove_14 rfl (lv_at hl 3 rfl) ?_
        obtain ⟨r2, hr3, hf⟩ := gbind hf
        have hr3 := C_X0_isAbove l E x ho hr3
        refine g_callVi (rest := []) hC hI hr3 Y_X0_isAbove V_X0_isAbove w494 (rcv_X0 hC hI ho) ⟨rfl, rfl⟩ ⟨Nat.le_of_ble_eq_true rfl, Nat.le_of_ble_eq_true rfl⟩ rfl hl.1 rfl (Nat.le_of_ble_eq_true rfl) dX0_heaviestRowAbove_15 ⟨Nat.le_of_ble_eq_true rfl, Nat.le_of_ble_eq_true rfl⟩ (fun H locs hI => ?_)
        refine lv_if_eq (tgt := 41) hx hb dX0_heaviestRowAbove_18 rfl (fun h4 => ?_) (fun h4 => ?_)
        · replace hf := gif h4 hf
          refine lv_iinc (k := 0) (v := v3 + 1) (lv' := [(3, .int (v3 + 1)), (2, .int v2), (0, .ref (E.2.1 (o + 1))), (1, .int v1)]) hx hb dX0_heaviestRowAbove_41 hl rfl rfl (by decide) rfl (fun ls hl => ?_)
          refine lv_goto (tgt := 4) hx hb dX0_heaviestRowAbove_44 rfl ?_
          exact ih (v3 + 1) v2 hf _ _ _ hI (lv_sub hl [0, 1, 2, 3] rfl)
        · replace hf := gifn h4 hf
          refine lv_iload_n hx hb dX0_heaviestRowAbove_21 rfl (lv_at hl 1 rfl) ?_
          refine lv_iconst (v := (-1)) hx hb dX0_heaviestRowAbove_22 (by decide) ?_
          refine lv_icmp_eq (tgt := 39) hx hb dX0_heaviestRowAbove_23 rfl (fun h5 => ?_) (fun h5 => ?_)
          · replace hf := gif h5 hf
            refine lv_iload_n hx hb dX0_heaviestRowAbove_39 rfl (lv_at hl 0 rfl) ?_
            refine lv_istore_n (lv' := [(2, .int v3), (3, .int v3), (0, .ref (E.2.1 (o + 1))), (1, .int v1)]) hx hb dX0_heaviestRowAbove_40 rfl hl (by decide) rfl (fun ls hl => ?_)
            refine lv_iinc (k := 1) (v := v3 + 1) (lv' := [(3, .int (v3 + 1)), (2, .int v3), (0, .ref (E.2.1 (o + 1))), (1, .int v1)]) hx hb dX0_heaviestRowAbove_41 hl rfl rfl (by decide) rfl (fun ls hl => ?_)
            refine lv_goto (tgt := 4) hx hb dX0_heaviestRowAbove_44 rfl ?_
            exact ih (v3 + 1) v3 hf _ _ _ hI (lv_sub hl [0, 1, 2, 3] rfl)
          · replace hf := gifn h5 hf
            refine lv_aload_n hx hb dX0_heaviestRowAbove_26 rfl (lv_at hl 2 rfl) ?_
            refine lv_iload_n hx hb dX0_heaviestRowAbove_27 rfl (lv_at hl 0 rfl) ?_
            obtain ⟨r6, hr7, hf⟩ := gbind hf
            have hr7 := C_X0_weight l E x ho hr7
            refine g_callVi (rest := []) hC hI hr7 Y_X0_weight V_X0_weight w438 (rcv_X0 hC hI ho) ⟨rfl, rfl⟩ ⟨Nat.le_of_ble_eq_true rfl, Nat.le_of_ble_eq_true rfl⟩ rfl hl.1 rfl (Nat.le_of_ble_eq_true rfl) dX0_heaviestRowAbove_28 ⟨Nat.le_of_ble_eq_true rfl, Nat.le_of_ble_eq_true rfl⟩ (fun H locs hI => ?_)
            refine lv_aload_n hx hb dX0_heaviestRowAbove_31 rfl (lv_at hl 2 rfl) ?_
            refine lv_iload_n hx hb dX0_heaviestRowAbove_32 rfl (lv_at hl 1 rfl) ?_
            obtain ⟨r8, hr9, hf⟩ := gbind hf
            have hr9 := C_X0_weight l E x ho hr9
            refine g_callVi (rest := [.int r6]) hC hI hr9 Y_X0_weight V_X0_weight w438 (rcv_X0 hC hI ho) ⟨rfl, rfl⟩ ⟨Nat.le_of_ble_eq_true rfl, Nat.le_of_ble_eq_true rfl⟩ rfl hl.1 rfl (Nat.le_of_ble_eq_true rfl) dX0_heaviestRowAbove_33 ⟨Nat.le_of_ble_eq_true rfl, Nat.le_of_ble_eq_true rfl⟩ (fun H locs hI => ?_)
            refine lv_icmp_le (tgt := 41) hx hb dX0_heaviestRowAbove_36 rfl (fun h10 => ?_) (fun h10 => ?_)
            · replace hf := gif h10 hf
              refine lv_iinc (k := 0) (v := v3 + 1) (lv' := [(3, .int (v3 + 1)), (2, .int v2), (0, .ref (E.2.1 (o + 1))), (1, .int v1)]) hx hb dX0_heaviestRowAbove_41 hl rfl rfl (by decide) rfl (fun ls hl => ?_)
              refine lv_goto (tgt := 4) hx hb dX0_heaviestRowAbove_44 rfl ?_
              exact ih (v3 + 1) v2 hf _ _ _ hI (lv_sub hl [0, 1, 2, 3] rfl)
            · replace hf := gifn h10 hf
              refine lv_iload_n hx hb dX0_heaviestRowAbove_39 rfl (lv_at hl 0 rfl) ?_
              refine lv_istore_n (lv' := [(2, .int v3), (3, .int v3), (0, .ref (E.2.1 (o + 1))), (1, .int v1)]) hx hb dX0_heaviestRowAbove_40 rfl hl (by decide) rfl (fun ls hl => ?_)
              refine lv_iinc (k := 1) (v := v3 + 1) (lv' := [(3, .int (v3 + 1)), (2, .int v3), (0, .ref (E.2.1 (o + 1))), (1, .int v1)]) hx hb dX0_heaviestRowAbove_41 hl rfl rfl (by decide) rfl (fun ls hl => ?_)
              refine lv_goto (tgt := 4) hx hb dX0_heaviestRowAbove_44 rfl ?_
              exact ih (v3 + 1) v3 hf _ _ _ hI (lv_sub hl [0, 1, 2, 3] rfl)
  unfold f_X0_heaviestRowAbove at hf
  refine lv_iconst (v := (-1)) hx hb dX0_heaviestRowAbove_0 (by decide) ?_
  refine lv_istore_n (lv' := [(2, .int (-1)), (0, .ref (E.2.1 (o + 1))), (1, .int v1)]) hx hb dX0_heaviestRowAbove_1 rfl hl (by decide) rfl (fun ls hl => ?_)
  refine lv_iconst (v := 0) hx hb dX0_heaviestRowAbove_2 (by decide) ?_
  refine lv_istore_n (lv' := [(3, .int 0), (2, .int (-1)), (0, .ref (E.2.1 (o + 1))), (1, .int v1)]) hx hb dX0_heaviestRowAbove_3 rfl hl (by decide) rfl (fun ls hl => ?_)
  exact L4 v1 gF 0 (-1) hf _ _ _ hI (lv_sub hl [0, 1, 2, 3] rfl)
theorem dX6_heaviestAbove_0 : decode cX6_heaviestAbove 0 = .ok (.aload_n 0, 1) := by decide +kernel
theorem dX6_heaviestAbove_1 : decode cX6_heaviestAbove 1 = .ok (.getfield 10, 3) := by decide +kernel
theorem dX6_heaviestAbove_4 : decode cX6_heaviestAbove 4 = .ok (.getfield 108, 3) := by decide +kernel
theorem dX6_heaviestAbove_7 : decode cX6_heaviestAbove 7 = .ok (.aload_n 0, 1) := by decide +kernel
theorem dX6_heaviestAbove_8 : decode cX6_heaviestAbove 8 = .ok (.getfield 10, 3) := by decide +kernel
theorem dX6_heaviestAbove_11 : decode cX6_heaviestAbove 11 = .ok (.getfield 108, 3) := by decide +kernel
theorem dX6_heaviestAbove_14 : decode cX6_heaviestAbove 14 = .ok (.aload_n 0, 1) := by decide +kernel
theorem dX6_heaviestAbove_15 : decode cX6_heaviestAbove 15 = .ok (.getfield 10, 3) := by decide +kernel
theorem dX6_heaviestAbove_18 : decode cX6_heaviestAbove 18 = .ok (.getfield 108, 3) := by decide +kernel
theorem dX6_heaviestAbove_21 : decode cX6_heaviestAbove 21 = .ok (.iload_n 1, 1) := by decide +kernel
theorem dX6_heaviestAbove_22 : decode cX6_heaviestAbove 22 = .ok (.invokevirtual 207, 3) := by decide +kernel
theorem dX6_heaviestAbove_25 : decode cX6_heaviestAbove 25 = .ok (.invokestatic 189, 3) := by decide +kernel
theorem dX6_heaviestAbove_28 : decode cX6_heaviestAbove 28 = .ok (.invokevirtual 237, 3) := by decide +kernel
theorem dX6_heaviestAbove_31 : decode cX6_heaviestAbove 31 = .ok (.invokestatic 189, 3) := by decide +kernel
theorem dX6_heaviestAbove_34 : decode cX6_heaviestAbove 34 = .ok (.invokevirtual 192, 3) := by decide +kernel
theorem dX6_heaviestAbove_37 : decode cX6_heaviestAbove 37 = .ok (.ireturn, 1) := by decide +kernel
set_option maxRecDepth 100000 in
set_option maxHeartbeats 4000000 in
theorem C_X6_heaviestAbove (l : Launch) (hst : l.stackTraces = false) (E : gE) (x : gX) {v1 : Int32} {M : gM} {oc : String ⊕ Int32} {M' : gM} (hf : f_X6_heaviestAbove v1 M = some (oc, M')) : gX0 l E yX6_heaviestAbove (.code yX6_heaviestAbove cX6_heaviestAbove 2 (some .int)) (gRX 8 130 2 12) M x [.ref (E.2.1 132), .int v1] (gO oc) M' 2 12 := by
  refine gMetX hst (by decide +kernel) (Nat.le_of_ble_eq_true rfl) ?_
  intro p e s m args below meth c H locs ls Q hC hl hI kr kv kx kt kd kf
  replace hC : gC p s m args c cX6_heaviestAbove 2 RX6 E := hC
  replace hl : lv_has ls 2 [(0, .ref (E.2.1 132)), (1, .int v1)] := hl
  have hx := hC.1
  have hb := hC.2.1
  unfold f_X6_heaviestAbove at hf
  refine lv_aload_n hx hb dX6_heaviestAbove_0 rfl (lv_at hl 0 rfl) ?_
  refine gt_X6_X6_now hC hI dX6_heaviestAbove_1 ?_
  refine gt_X6_X5_cargo hC hI gOk_0 dX6_heaviestAbove_4 ?_
  refine lv_aload_n hx hb dX6_heaviestAbove_7 rfl (lv_at hl 0 rfl) ?_
  refine gt_X6_X6_now hC hI dX6_heaviestAbove_8 ?_
  refine gt_X6_X5_cargo hC hI gOk_0 dX6_heaviestAbove_11 ?_
  refine lv_aload_n hx hb dX6_heaviestAbove_14 rfl (lv_at hl 0 rfl) ?_
  refine gt_X6_X6_now hC hI dX6_heaviestAbove_15 ?_
  refine gt_X6_X5_cargo hC hI gOk_0 dX6_heaviestAbove_18 ?_
  refine lv_iload_n hx hb dX6_heaviestAbove_21 rfl (lv_at hl 1 rfl) ?_
  obtain ⟨r1, hr2, hf⟩ := gbind hf
  have hr2 := C_X0_shipRowOf l E x gOk_0 hr2
  refine g_callVi (rest := [.ref (E.2.1 (0 + 1)), .ref (E.2.1 (0 + 1))]) hC hI hr2 Y_X0_shipRowOf V_X0_shipRowOf w681 (rcv_X0 hC hI gOk_0) ⟨rfl, rfl⟩ ⟨Nat.le_of_ble_eq_true rfl, Nat.le_of_ble_eq_true rfl⟩ rfl hl.1 rfl (Nat.le_of_ble_eq_true rfl) dX6_heaviestAbove_22 ⟨Nat.le_of_ble_eq_true rfl, Nat.le_of_ble_eq_true rfl⟩ (fun H locs hI => ?_)
  rcases gseq hf with ⟨er, Mr, hr4, hf⟩ | ⟨r3, M5, hr4, hf⟩
  · replace hr4 := C_X6_found l hst E x  hr4
    exact g_xSx (rest := [.ref (E.2.1 (0 + 1)), .ref (E.2.1 (0 + 1))]) hC hI hr4 Y_X6_found S_X6_found w637 ⟨rfl, rfl⟩ ⟨Nat.le_of_ble_eq_true rfl, Nat.le_of_ble_eq_true rfl⟩ rfl hl.1 rfl (Nat.le_of_ble_eq_true rfl) dX6_heaviestAbove_25 ⟨Nat.le_of_ble_eq_true rfl, Nat.le_of_ble_eq_true rfl⟩ (fun ce q H locs hI h1 h2 h3 => kx _ _ _ _ _ _ _ _ _ _ _ (gtx hf) hI h1 h2 h3 ⟨Nat.le_of_ble_eq_true rfl, Nat.le_of_ble_eq_true rfl⟩)
  replace hr4 := C_X6_found l hst E x  hr4
  refine g_xSi (rest := [.ref (E.2.1 (0 + 1)), .ref (E.2.1 (0 + 1))]) hC hI hr4 Y_X6_found S_X6_found w637 ⟨rfl, rfl⟩ ⟨Nat.le_of_ble_eq_true rfl, Nat.le_of_ble_eq_true rfl⟩ rfl hl.1 rfl (Nat.le_of_ble_eq_true rfl) dX6_heaviestAbove_25 ⟨Nat.le_of_ble_eq_true rfl, Nat.le_of_ble_eq_true rfl⟩ (fun H locs hI => ?_)
  obtain ⟨r6, hr7, hf⟩ := gbind hf
  have hr7 := C_X0_heaviestRowAbove l E x gOk_0 hr7
  refine g_callVi (rest := [.ref (E.2.1 (0 + 1))]) hC hI hr7 Y_X0_heaviestRowAbove V_X0_heaviestRowAbove w706 (rcv_X0 hC hI gOk_0) ⟨rfl, rfl⟩ ⟨Nat.le_of_ble_eq_true rfl, Nat.le_of_ble_eq_true rfl⟩ rfl hl.1 rfl (Nat.le_of_ble_eq_true rfl) dX6_heaviestAbove_28 ⟨Nat.le_of_ble_eq_true rfl, Nat.le_of_ble_eq_true rfl⟩ (fun H locs hI => ?_)
  rcases gseq hf with ⟨er, Mr, hr9, hf⟩ | ⟨r8, M10, hr9, hf⟩
  · replace hr9 := C_X6_found l hst E x  hr9
    exact g_xSx (rest := [.ref (E.2.1 (0 + 1))]) hC hI hr9 Y_X6_found S_X6_found w637 ⟨rfl, rfl⟩ ⟨Nat.le_of_ble_eq_true rfl, Nat.le_of_ble_eq_true rfl⟩ rfl hl.1 rfl (Nat.le_of_ble_eq_true rfl) dX6_heaviestAbove_31 ⟨Nat.le_of_ble_eq_true rfl, Nat.le_of_ble_eq_true rfl⟩ (fun ce q H locs hI h1 h2 h3 => kx _ _ _ _ _ _ _ _ _ _ _ (gtx hf) hI h1 h2 h3 ⟨Nat.le_of_ble_eq_true rfl, Nat.le_of_ble_eq_true rfl⟩)
  replace hr9 := C_X6_found l hst E x  hr9
  refine g_xSi (rest := [.ref (E.2.1 (0 + 1))]) hC hI hr9 Y_X6_found S_X6_found w637 ⟨rfl, rfl⟩ ⟨Nat.le_of_ble_eq_true rfl, Nat.le_of_ble_eq_true rfl⟩ rfl hl.1 rfl (Nat.le_of_ble_eq_true rfl) dX6_heaviestAbove_31 ⟨Nat.le_of_ble_eq_true rfl, Nat.le_of_ble_eq_true rfl⟩ (fun H locs hI => ?_)
  obtain ⟨r11, hr12, hf⟩ := gbind hf
  have hr12 := C_X0_id l E x gOk_0 hr12
  refine g_callVi (rest := []) hC hI hr12 Y_X0_id V_X0_id w640 (rcv_X0 hC hI gOk_0) ⟨rfl, rfl⟩ ⟨Nat.le_of_ble_eq_true rfl, Nat.le_of_ble_eq_true rfl⟩ rfl hl.1 rfl (Nat.le_of_ble_eq_true rfl) dX6_heaviestAbove_34 ⟨Nat.le_of_ble_eq_true rfl, Nat.le_of_ble_eq_true rfl⟩ (fun H locs hI => ?_)
  exact kr _ _ _ _ _ _ _ _ (gre hf) hI ⟨.int, rfl, rfl⟩ ⟨Nat.le_of_ble_eq_true rfl, Nat.le_of_ble_eq_true rfl⟩ dX6_heaviestAbove_37
theorem dX0_rankOf_0 : decode cX0_rankOf 0 = .ok (.iconst 0, 1) := by decide +kernel
theorem dX0_rankOf_1 : decode cX0_rankOf 1 = .ok (.istore_n 2, 1) := by decide +kernel
theorem dX0_rankOf_2 : decode cX0_rankOf 2 = .ok (.iconst 0, 1) := by decide +kernel
theorem dX0_rankOf_3 : decode cX0_rankOf 3 = .ok (.istore_n 3, 1) := by decide +kernel
theorem dX0_rankOf_4 : decode cX0_rankOf 4 = .ok (.iload_n 3, 1) := by decide +kernel
theorem dX0_rankOf_5 : decode cX0_rankOf 5 = .ok (.aload_n 0, 1) := by decide +kernel
theorem dX0_rankOf_6 : decode cX0_rankOf 6 = .ok (.getfield 30, 3) := by decide +kernel
theorem dX0_rankOf_9 : decode cX0_rankOf 9 = .ok (.if_icmp .ge 65, 3) := by decide +kernel
theorem dX0_rankOf_12 : decode cX0_rankOf 12 = .ok (.aload_n 0, 1) := by decide +kernel
theorem dX0_rankOf_13 : decode cX0_rankOf 13 = .ok (.iload_n 3, 1) := by decide +kernel
theorem dX0_rankOf_14 : decode cX0_rankOf 14 = .ok (.invokevirtual 63, 3) := by decide +kernel
theorem dX0_rankOf_17 : decode cX0_rankOf 17 = .ok (.aload_n 0, 1) := by decide +kernel
theorem dX0_rankOf_18 : decode cX0_rankOf 18 = .ok (.iload_n 1, 1) := by decide +kernel
theorem dX0_rankOf_19 : decode cX0_rankOf 19 = .ok (.invokevirtual 63, 3) := by decide +kernel
theorem dX0_rankOf_22 : decode cX0_rankOf 22 = .ok (.if_icmp .gt 21, 3) := by decide +kernel
theorem dX0_rankOf_25 : decode cX0_rankOf 25 = .ok (.aload_n 0, 1) := by decide +kernel
theorem dX0_rankOf_26 : decode cX0_rankOf 26 = .ok (.iload_n 3, 1) := by decide +kernel
theorem dX0_rankOf_27 : decode cX0_rankOf 27 = .ok (.invokevirtual 63, 3) := by decide +kernel
theorem dX0_rankOf_30 : decode cX0_rankOf 30 = .ok (.aload_n 0, 1) := by decide +kernel
theorem dX0_rankOf_31 : decode cX0_rankOf 31 = .ok (.iload_n 1, 1) := by decide +kernel
theorem dX0_rankOf_32 : decode cX0_rankOf 32 = .ok (.invokevirtual 63, 3) := by decide +kernel
theorem dX0_rankOf_35 : decode cX0_rankOf 35 = .ok (.if_icmp .ne 12, 3) := by decide +kernel
theorem dX0_rankOf_38 : decode cX0_rankOf 38 = .ok (.iload_n 3, 1) := by decide +kernel
theorem dX0_rankOf_39 : decode cX0_rankOf 39 = .ok (.iload_n 1, 1) := by decide +kernel
theorem dX0_rankOf_40 : decode cX0_rankOf 40 = .ok (.if_icmp .ge 7, 3) := by decide +kernel
theorem dX0_rankOf_43 : decode cX0_rankOf 43 = .ok (.iconst 1, 1) := by decide +kernel
theorem dX0_rankOf_44 : decode cX0_rankOf 44 = .ok (.goto 4, 3) := by decide +kernel
theorem dX0_rankOf_47 : decode cX0_rankOf 47 = .ok (.iconst 0, 1) := by decide +kernel
theorem dX0_rankOf_48 : decode cX0_rankOf 48 = .ok (.istore 4, 2) := by decide +kernel
theorem dX0_rankOf_50 : decode cX0_rankOf 50 = .ok (.iload 4, 2) := by decide +kernel
theorem dX0_rankOf_52 : decode cX0_rankOf 52 = .ok (.ifCond .eq 16, 3) := by decide +kernel
theorem dX0_rankOf_55 : decode cX0_rankOf 55 = .ok (.aload_n 0, 1) := by decide +kernel
theorem dX0_rankOf_56 : decode cX0_rankOf 56 = .ok (.iload_n 3, 1) := by decide +kernel
theorem dX0_rankOf_57 : decode cX0_rankOf 57 = .ok (.invokevirtual 69, 3) := by decide +kernel
theorem dX0_rankOf_60 : decode cX0_rankOf 60 = .ok (.bipush 12, 2) := by decide +kernel
theorem dX0_rankOf_62 : decode cX0_rankOf 62 = .ok (.if_icmp .eq 6, 3) := by decide +kernel
theorem dX0_rankOf_65 : decode cX0_rankOf 65 = .ok (.iinc 2 1, 3) := by decide +kernel
theorem dX0_rankOf_68 : decode cX0_rankOf 68 = .ok (.iinc 3 1, 3) := by decide +kernel
theorem dX0_rankOf_71 : decode cX0_rankOf 71 = .ok (.goto (-67), 3) := by decide +kernel
theorem dX0_rankOf_74 : decode cX0_rankOf 74 = .ok (.iload_n 2, 1) := by decide +kernel
theorem dX0_rankOf_75 : decode cX0_rankOf 75 = .ok (.ireturn, 1) := by decide +kernel
set_option maxRecDepth 100000 in
set_option maxHeartbeats 4000000 in
theorem C_X0_rankOf (l : Launch) (E : gE) (x : gX) {o : Nat} (ho : gOk o) {v1 : Int32} {M : gM} {r : Int32} (hf : f_X0_rankOf o v1 M = some r) : gM0 l E yX0_rankOf (.code yX0_rankOf cX0_rankOf 5 (some .int)) (gR 2 42) M x [.ref (E.2.1 (o + 1)), .int v1] (some (.int r)) M := by
  refine gMet (by decide +kernel) (Nat.le_of_ble_eq_true rfl) ?_
  intro p e s m args below meth c H locs ls Q hC hl hI kr kv
  replace hC : gC p s m args c cX0_rankOf 5 RX0 E := hC
  replace hl : lv_has ls 5 [(0, .ref (E.2.1 (o + 1))), (1, .int v1)] := hl
  have hx := hC.1
  have hb := hC.2.1
  have L4 : ∀ (v1 : Int32) (n : Nat) (v3 : Int32) (v2 : Int32), f_X0_rankOf_L4 o M v1 n v3 v2 = some r → ∀ (H : Heap) (locs : List Loc) (ls : Array Slot), gI E s M x H locs → lv_has ls 5 [(3, .int v3), (2, .int v2), (0, .ref (E.2.1 (o + 1))), (1, .int v1)] → W p l e (gR 2 42) s m args below meth c H locs 0 0 Q (F0 m 4 ls []) := by
    intro v1 n
    induction n with
    | zero => intro v3 v2 hf; rw [f_X0_rankOf_L4] at hf; cases hf
    | succ n ih =>
      intro v3 v2 hf H locs ls hI hl
      rw [f_X0_rankOf_L4] at hf
      refine lv_iload_n hx hb dX0_rankOf_4 rfl (lv_at hl 0 rfl) ?_
      refine lv_aload_n hx hb dX0_rankOf_5 rfl (lv_at hl 2 rfl) ?_
      refine gt_X0_X0_count hC hI ho dX0_rankOf_6 ?_
      refine lv_icmp_ge (tgt := 74) hx hb dX0_rankOf_9 rfl (fun h1 => ?_) (fun h1 => ?_)
      · replace hf := gif h1 hf
        refine lv_iload_n hx hb dX0_rankOf_74 rfl (lv_at hl 1 rfl) ?_
        exact kr _ _ _ _ _ _ (gri hf) hI ⟨.int, rfl, rfl⟩ dX0_rankOf_75
      · replace hf := gifn h1 hf
        refine lv_aload_n hx hb dX0_rankOf_12 rfl (lv_at hl 2 rfl) ?_
        refine lv_iload_n hx hb dX0_rankOf_13 rfl (lv_at hl 0 rfl) ?_
        obtain ⟨r2, hr3, hf⟩ := gbind hf
        have hr3 := C_X0_weight l E x ho hr3
        refine g_callVi (rest := []) hC hI hr3 Y_X0_weight V_X0_weight w438 (rcv_X0 hC hI ho) ⟨rfl, rfl⟩ ⟨Nat.le_of_ble_eq_true rfl, Nat.le_of_ble_eq_true rfl⟩ rfl hl.1 rfl (Nat.le_of_ble_eq_true rfl) dX0_rankOf_14 ⟨Nat.le_of_ble_eq_true rfl, Nat.le_of_ble_eq_true rfl⟩ (fun H locs hI => ?_)
        refine lv_aload_n hx hb dX0_rankOf_17 rfl (lv_at hl 2 rfl) ?_
        refine lv_iload_n hx hb dX0_rankOf_18 rfl (lv_at hl 3 rfl) ?_
        obtain ⟨r4, hr5, hf⟩ := gbind hf
        have hr5 := C_X0_weight l E x ho hr5
        refine g_callVi (rest := [.int r2]) hC hI hr5 Y_X0_weight V_X0_weight w438 (rcv_X0 hC hI ho) ⟨rfl, rfl⟩ ⟨Nat.le_of_ble_eq_true rfl, Nat.le_of_ble_eq_true rfl⟩ rfl hl.1 rfl (Nat.le_of_ble_eq_true rfl) dX0_rankOf_19 ⟨Nat.le_of_ble_eq_true rfl, Nat.le_of_ble_eq_true rfl⟩ (fun H locs hI => ?_)
        refine lv_icmp_gt (tgt := 43) hx hb dX0_rankOf_22 rfl (fun h6 => ?_) (fun h6 => ?_)
        · replace hf := gif h6 hf
          refine lv_iconst (v := 1) hx hb dX0_rankOf_43 (by decide) ?_
          refine lv_goto (tgt := 48) hx hb dX0_rankOf_44 rfl ?_
          refine lv_istore (lv' := [(4, .int 1), (3, .int v3), (2, .int v2), (0, .ref (E.2.1 (o + 1))), (1, .int v1)]) hx hb dX0_rankOf_48 hl (by decide) rfl (fun ls hl => ?_)
          refine lv_iload hx hb dX0_rankOf_50 (lv_at hl 0 rfl) ?_
          refine lv_if_eq (tgt := 68) hx hb dX0_rankOf_52 rfl (fun h7 => absurd h7 (by decide)) (fun h7 => ?_)
          refine lv_aload_n hx hb dX0_rankOf_55 rfl (lv_at hl 3 rfl) ?_
          refine lv_iload_n hx hb dX0_rankOf_56 rfl (lv_at hl 1 rfl) ?_
          obtain ⟨r8, hr9, hf⟩ := gbind hf
          have hr9 := C_X0_pile l E x ho hr9
          refine g_callVi (rest := []) hC hI hr9 Y_X0_pile V_X0_pile w482 (rcv_X0 hC hI ho) ⟨rfl, rfl⟩ ⟨Nat.le_of_ble_eq_true rfl, Nat.le_of_ble_eq_true rfl⟩ rfl hl.1 rfl (Nat.le_of_ble_eq_true rfl) dX0_rankOf_57 ⟨Nat.le_of_ble_eq_true rfl, Nat.le_of_ble_eq_true rfl⟩ (fun H locs hI => ?_)
          refine lv_bipush (v := 12) hx hb dX0_rankOf_60 (by decide) ?_
          refine lv_icmp_eq (tgt := 68) hx hb dX0_rankOf_62 rfl (fun h10 => ?_) (fun h10 => ?_)
          · replace hf := gif h10 hf
            refine lv_iinc (k := 1) (v := v3 + 1) (lv' := [(3, .int (v3 + 1)), (4, .int 1), (2, .int v2), (0, .ref (E.2.1 (o + 1))), (1, .int v1)]) hx hb dX0_rankOf_68 hl rfl rfl (by decide) rfl (fun ls hl => ?_)
            refine lv_goto (tgt := 4) hx hb dX0_rankOf_71 rfl ?_
            exact ih (v3 + 1) v2 hf _ _ _ hI (lv_sub hl [0, 2, 3, 4] rfl)
          · replace hf := gifn h10 hf
            refine lv_iinc (k := 2) (v := v2 + 1) (lv' := [(2, .int (v2 + 1)), (4, .int 1), (3, .int v3), (0, .ref (E.2.1 (o + 1))), (1, .int v1)]) hx hb dX0_rankOf_65 hl rfl rfl (by decide) rfl (fun ls hl => ?_)
            refine lv_iinc (k := 2) (v := v3 + 1) (lv' := [(3, .int (v3 + 1)), (2, .int (v2 + 1)), (4, .int 1), (0, .ref (E.2.1 (o + 1))), (1, .int v1)]) hx hb dX0_rankOf_68 hl rfl rfl (by decide) rfl (fun ls hl => ?_)
            refine lv_goto (tgt := 4) hx hb dX0_rankOf_71 rfl ?_
            exact ih (v3 + 1) (v2 + 1) hf _ _ _ hI (lv_sub hl [0, 1, 3, 4] rfl)
        · replace hf := gifn h6 hf
          refine lv_aload_n hx hb dX0_rankOf_25 rfl (lv_at hl 2 rfl) ?_
          refine lv_iload_n hx hb dX0_rankOf_26 rfl (lv_at hl 0 rfl) ?_
          obtain ⟨r11, hr12, hf⟩ := gbind hf
          have hr12 := C_X0_weight l E x ho hr12
          refine g_callVi (rest := []) hC hI hr12 Y_X0_weight V_X0_weight w438 (rcv_X0 hC hI ho) ⟨rfl, rfl⟩ ⟨Nat.le_of_ble_eq_true rfl, Nat.le_of_ble_eq_true rfl⟩ rfl hl.1 rfl (Nat.le_of_ble_eq_true rfl) dX0_rankOf_27 ⟨Nat.le_of_ble_eq_true rfl, Nat.le_of_ble_eq_true rfl⟩ (fun H locs hI => ?_)
          refine lv_aload_n hx hb dX0_rankOf_30 rfl (lv_at hl 2 rfl) ?_
          refine lv_iload_n hx hb dX0_rankOf_31 rfl (lv_at hl 3 rfl) ?_
          obtain ⟨r13, hr14, hf⟩ := gbind hf
          have hr14 := C_X0_weight l E x ho hr14
          refine g_callVi (rest := [.int r11]) hC hI hr14 Y_X0_weight V_X0_weight w438 (rcv_X0 hC hI ho) ⟨rfl, rfl⟩ ⟨Nat.le_of_ble_eq_true rfl, Nat.le_of_ble_eq_true rfl⟩ rfl hl.1 rfl (Nat.le_of_ble_eq_true rfl) dX0_rankOf_32 ⟨Nat.le_of_ble_eq_true rfl, Nat.le_of_ble_eq_true rfl⟩ (fun H locs hI => ?_)
          refine lv_icmp_ne (tgt := 47) hx hb dX0_rankOf_35 rfl (fun h15 => ?_) (fun h15 => ?_)
          · replace hf := gifn h15 hf
            refine lv_iconst (v := 0) hx hb dX0_rankOf_47 (by decide) ?_
            refine lv_istore (lv' := [(4, .int 0), (3, .int v3), (2, .int v2), (0, .ref (E.2.1 (o + 1))), (1, .int v1)]) hx hb dX0_rankOf_48 hl (by decide) rfl (fun ls hl => ?_)
            refine lv_iload hx hb dX0_rankOf_50 (lv_at hl 0 rfl) ?_
            refine lv_if_eq (tgt := 68) hx hb dX0_rankOf_52 rfl (fun h16 => ?_) (fun h16 => absurd (by decide) h16)
            refine lv_iinc (k := 1) (v := v3 + 1) (lv' := [(3, .int (v3 + 1)), (4, .int 0), (2, .int v2), (0, .ref (E.2.1 (o + 1))), (1, .int v1)]) hx hb dX0_rankOf_68 hl rfl rfl (by decide) rfl (fun ls hl => ?_)
            refine lv_goto (tgt := 4) hx hb dX0_rankOf_71 rfl ?_
            exact ih (v3 + 1) v2 hf _ _ _ hI (lv_sub hl [0, 2, 3, 4] rfl)
          · replace hf := gif h15 hf
            refine lv_iload_n hx hb dX0_rankOf_38 rfl (lv_at hl 0 rfl) ?_
            refine lv_iload_n hx hb dX0_rankOf_39 rfl (lv_at hl 3 rfl) ?_
            refine lv_icmp_ge (tgt := 47) hx hb dX0_rankOf_40 rfl (fun h17 => ?_) (fun h17 => ?_)
            · replace hf := gif h17 hf
              refine lv_iconst (v := 0) hx hb dX0_rankOf_47 (by decide) ?_
              refine lv_istore (lv' := [(4, .int 0), (3, .int v3), (2, .int v2), (0, .ref (E.2.1 (o + 1))), (1, .int v1)]) hx hb dX0_rankOf_48 hl (by decide) rfl (fun ls hl => ?_)
              refine lv_iload hx hb dX0_rankOf_50 (lv_at hl 0 rfl) ?_
              refine lv_if_eq (tgt := 68) hx hb dX0_rankOf_52 rfl (fun h18 => ?_) (fun h18 => absurd (by decide) h18)
              refine lv_iinc (k := 1) (v := v3 + 1) (lv' := [(3, .int (v3 + 1)), (4, .int 0), (2, .int v2), (0, .ref (E.2.1 (o + 1))), (1, .int v1)]) hx hb dX0_rankOf_68 hl rfl rfl (by decide) rfl (fun ls hl => ?_)
              refine lv_goto (tgt := 4) hx hb dX0_rankOf_71 rfl ?_
              exact ih (v3 + 1) v2 hf _ _ _ hI (lv_sub hl [0, 2, 3, 4] rfl)
            · replace hf := gifn h17 hf
              refine lv_iconst (v := 1) hx hb dX0_rankOf_43 (by decide) ?_
              refine lv_goto (tgt := 48) hx hb dX0_rankOf_44 rfl ?_
              refine lv_istore (lv' := [(4, .int 1), (3, .int v3), (2, .int v2), (0, .ref (E.2.1 (o + 1))), (1, .int v1)]) hx hb dX0_rankOf_48 hl (by decide) rfl (fun ls hl => ?_)
              refine lv_iload hx hb dX0_rankOf_50 (lv_at hl 0 rfl) ?_
              refine lv_if_eq (tgt := 68) hx hb dX0_rankOf_52 rfl (fun h19 => absurd h19 (by decide)) (fun h19 => ?_)
              refine lv_aload_n hx hb dX0_rankOf_55 rfl (lv_at hl 3 rfl) ?_
              refine lv_iload_n hx hb dX0_rankOf_56 rfl (lv_at hl 1 rfl) ?_
              obtain ⟨r20, hr21, hf⟩ := gbind hf
              have hr21 := C_X0_pile l E x ho hr21
              refine g_callVi (rest := []) hC hI hr21 Y_X0_pile V_X0_pile w482 (rcv_X0 hC hI ho) ⟨rfl, rfl⟩ ⟨Nat.le_of_ble_eq_true rfl, Nat.le_of_ble_eq_true rfl⟩ rfl hl.1 rfl (Nat.le_of_ble_eq_true rfl) dX0_rankOf_57 ⟨Nat.le_of_ble_eq_true rfl, Nat.le_of_ble_eq_true rfl⟩ (fun H locs hI => ?_)
              refine lv_bipush (v := 12) hx hb dX0_rankOf_60 (by decide) ?_
              refine lv_icmp_eq (tgt := 68) hx hb dX0_rankOf_62 rfl (fun h22 => ?_) (fun h22 => ?_)
              · replace hf := gif h22 hf
                refine lv_iinc (k := 1) (v := v3 + 1) (lv' := [(3, .int (v3 + 1)), (4, .int 1), (2, .int v2), (0, .ref (E.2.1 (o + 1))), (1, .int v1)]) hx hb dX0_rankOf_68 hl rfl rfl (by decide) rfl (fun ls hl => ?_)
                refine lv_goto (tgt := 4) hx hb dX0_rankOf_71 rfl ?_
                exact ih (v3 + 1) v2 hf _ _ _ hI (lv_sub hl [0, 2, 3, 4] rfl)
              · replace hf := gifn h22 hf
                refine lv_iinc (k := 2) (v := v2 + 1) (lv' := [(2, .int (v2 + 1)), (4, .int 1), (3, .int v3), (0, .ref (E.2.1 (o + 1))), (1, .int v1)]) hx hb dX0_rankOf_65 hl rfl rfl (by decide) rfl (fun ls hl => ?_)
                refine lv_iinc (k := 2) (v := v3 + 1) (lv' := [(3, .int (v3 + 1)), (2, .int (v2 + 1)), (4, .int 1), (0, .ref (E.2.1 (o + 1))), (1, .int v1)]) hx hb dX0_rankOf_68 hl rfl rfl (by decide) rfl (fun ls hl => ?_)
                refine lv_goto (tgt := 4) hx hb dX0_rankOf_71 rfl ?_
                exact ih (v3 + 1) (v2 + 1) hf _ _ _ hI (lv_sub hl [0, 1, 3, 4] rfl)
  unfold f_X0_rankOf at hf
  refine lv_iconst (v := 0) hx hb dX0_rankOf_0 (by decide) ?_
  refine lv_istore_n (lv' := [(2, .int 0), (0, .ref (E.2.1 (o + 1))), (1, .int v1)]) hx hb dX0_rankOf_1 rfl hl (by decide) rfl (fun ls hl => ?_)
  refine lv_iconst (v := 0) hx hb dX0_rankOf_2 (by decide) ?_
  refine lv_istore_n (lv' := [(3, .int 0), (2, .int 0), (0, .ref (E.2.1 (o + 1))), (1, .int v1)]) hx hb dX0_rankOf_3 rfl hl (by decide) rfl (fun ls hl => ?_)
  exact L4 v1 gF 0 0 hf _ _ _ hI (lv_sub hl [0, 1, 2, 3] rfl)
theorem dX0_rowByWeight_0 : decode cX0_rowByWeight 0 = .ok (.iconst 0, 1) := by decide +kernel
theorem dX0_rowByWeight_1 : decode cX0_rowByWeight 1 = .ok (.istore_n 2, 1) := by decide +kernel
theorem dX0_rowByWeight_2 : decode cX0_rowByWeight 2 = .ok (.iload_n 2, 1) := by decide +kernel
theorem dX0_rowByWeight_3 : decode cX0_rowByWeight 3 = .ok (.aload_n 0, 1) := by decide +kernel
theorem dX0_rowByWeight_4 : decode cX0_rowByWeight 4 = .ok (.getfield 30, 3) := by decide +kernel
theorem dX0_rowByWeight_7 : decode cX0_rowByWeight 7 = .ok (.if_icmp .ge 30, 3) := by decide +kernel
theorem dX0_rowByWeight_10 : decode cX0_rowByWeight 10 = .ok (.aload_n 0, 1) := by decide +kernel
theorem dX0_rowByWeight_11 : decode cX0_rowByWeight 11 = .ok (.iload_n 2, 1) := by decide +kernel
theorem dX0_rowByWeight_12 : decode cX0_rowByWeight 12 = .ok (.invokevirtual 69, 3) := by decide +kernel
theorem dX0_rowByWeight_15 : decode cX0_rowByWeight 15 = .ok (.bipush 12, 2) := by decide +kernel
theorem dX0_rowByWeight_17 : decode cX0_rowByWeight 17 = .ok (.if_icmp .eq 14, 3) := by decide +kernel
theorem dX0_rowByWeight_20 : decode cX0_rowByWeight 20 = .ok (.aload_n 0, 1) := by decide +kernel
theorem dX0_rowByWeight_21 : decode cX0_rowByWeight 21 = .ok (.iload_n 2, 1) := by decide +kernel
theorem dX0_rowByWeight_22 : decode cX0_rowByWeight 22 = .ok (.invokevirtual 94, 3) := by decide +kernel
theorem dX0_rowByWeight_25 : decode cX0_rowByWeight 25 = .ok (.iload_n 1, 1) := by decide +kernel
theorem dX0_rowByWeight_26 : decode cX0_rowByWeight 26 = .ok (.if_icmp .ne 5, 3) := by decide +kernel
theorem dX0_rowByWeight_29 : decode cX0_rowByWeight 29 = .ok (.iload_n 2, 1) := by decide +kernel
theorem dX0_rowByWeight_30 : decode cX0_rowByWeight 30 = .ok (.ireturn, 1) := by decide +kernel
theorem dX0_rowByWeight_31 : decode cX0_rowByWeight 31 = .ok (.iinc 2 1, 3) := by decide +kernel
theorem dX0_rowByWeight_34 : decode cX0_rowByWeight 34 = .ok (.goto (-32), 3) := by decide +kernel
theorem dX0_rowByWeight_37 : decode cX0_rowByWeight 37 = .ok (.iconst (-1), 1) := by decide +kernel
theorem dX0_rowByWeight_38 : decode cX0_rowByWeight 38 = .ok (.ireturn, 1) := by decide +kernel
set_option maxRecDepth 100000 in
set_option maxHeartbeats 4000000 in
theorem C_X0_rowByWeight (l : Launch) (E : gE) (x : gX) {o : Nat} (ho : gOk o) {v1 : Int32} {M : gM} {r : Int32} (hf : f_X0_rowByWeight o v1 M = some r) : gM0 l E yX0_rowByWeight (.code yX0_rowByWeight cX0_rowByWeight 3 (some .int)) (gR 3 66) M x [.ref (E.2.1 (o + 1)), .int v1] (some (.int r)) M := by
  refine gMet (by decide +kernel) (Nat.le_of_ble_eq_true rfl) ?_
  intro p e s m args below meth c H locs ls Q hC hl hI kr kv
  replace hC : gC p s m args c cX0_rowByWeight 3 RX0 E := hC
  replace hl : lv_has ls 3 [(0, .ref (E.2.1 (o + 1))), (1, .int v1)] := hl
  have hx := hC.1
  have hb := hC.2.1
  have L2 : ∀ (v1 : Int32) (n : Nat) (v2 : Int32), f_X0_rowByWeight_L2 o M v1 n v2 = some r → ∀ (H : Heap) (locs : List Loc) (ls : Array Slot), gI E s M x H locs → lv_has ls 3 [(2, .int v2), (0, .ref (E.2.1 (o + 1))), (1, .int v1)] → W p l e (gR 3 66) s m args below meth c H locs 0 0 Q (F0 m 2 ls []) := by
    intro v1 n
    induction n with
    | zero => intro v2 hf; rw [f_X0_rowByWeight_L2] at hf; cases hf
    | succ n ih =>
      intro v2 hf H locs ls hI hl
      rw [f_X0_rowByWeight_L2] at hf
      refine lv_iload_n hx hb dX0_rowByWeight_2 rfl (lv_at hl 0 rfl) ?_
      refine lv_aload_n hx hb dX0_rowByWeight_3 rfl (lv_at hl 1 rfl) ?_
      refine gt_X0_X0_count hC hI ho dX0_rowByWeight_4 ?_
      refine lv_icmp_ge (tgt := 37) hx hb dX0_rowByWeight_7 rfl (fun h1 => ?_) (fun h1 => ?_)
      · replace hf := gif h1 hf
        refine lv_iconst (v := (-1)) hx hb dX0_rowByWeight_37 (by decide) ?_
        exact kr _ _ _ _ _ _ (gri hf) hI ⟨.int, rfl, rfl⟩ dX0_rowByWeight_38
      · replace hf := gifn h1 hf
        refine lv_aload_n hx hb dX0_rowByWeight_10 rfl (lv_at hl 1 rfl) ?_
        refine lv_iload_n hx hb dX0_rowByWeight_11 rfl (lv_at hl 0 rfl) ?_
        obtain ⟨r2, hr3, hf⟩ := gbind hf
        have hr3 := C_X0_pile l E x ho hr3
        refine g_callVi (rest := []) hC hI hr3 Y_X0_pile V_X0_pile w482 (rcv_X0 hC hI ho) ⟨rfl, rfl⟩ ⟨Nat.le_of_ble_eq_true rfl, Nat.le_of_ble_eq_true rfl⟩ rfl hl.1 rfl (Nat.le_of_ble_eq_true rfl) dX0_rowByWeight_12 ⟨Nat.le_of_ble_eq_true rfl, Nat.le_of_ble_eq_true rfl⟩ (fun H locs hI => ?_)
        refine lv_bipush (v := 12) hx hb dX0_rowByWeight_15 (by decide) ?_
        refine lv_icmp_eq (tgt := 31) hx hb dX0_rowByWeight_17 rfl (fun h4 => ?_) (fun h4 => ?_)
        · replace hf := gif h4 hf
          refine lv_iinc (k := 0) (v := v2 + 1) (lv' := [(2, .int (v2 + 1)), (0, .ref (E.2.1 (o + 1))), (1, .int v1)]) hx hb dX0_rowByWeight_31 hl rfl rfl (by decide) rfl (fun ls hl => ?_)
          refine lv_goto (tgt := 2) hx hb dX0_rowByWeight_34 rfl ?_
          exact ih (v2 + 1) hf _ _ _ hI (lv_sub hl [0, 1, 2] rfl)
        · replace hf := gifn h4 hf
          refine lv_aload_n hx hb dX0_rowByWeight_20 rfl (lv_at hl 1 rfl) ?_
          refine lv_iload_n hx hb dX0_rowByWeight_21 rfl (lv_at hl 0 rfl) ?_
          obtain ⟨r5, hr6, hf⟩ := gbind hf
          have hr6 := C_X0_rankOf l E x ho hr6
          refine g_callVi (rest := []) hC hI hr6 Y_X0_rankOf V_X0_rankOf w718 (rcv_X0 hC hI ho) ⟨rfl, rfl⟩ ⟨Nat.le_of_ble_eq_true rfl, Nat.le_of_ble_eq_true rfl⟩ rfl hl.1 rfl (Nat.le_of_ble_eq_true rfl) dX0_rowByWeight_22 ⟨Nat.le_of_ble_eq_true rfl, Nat.le_of_ble_eq_true rfl⟩ (fun H locs hI => ?_)
          refine lv_iload_n hx hb dX0_rowByWeight_25 rfl (lv_at hl 2 rfl) ?_
          refine lv_icmp_ne (tgt := 31) hx hb dX0_rowByWeight_26 rfl (fun h7 => ?_) (fun h7 => ?_)
          · replace hf := gifn h7 hf
            refine lv_iinc (k := 0) (v := v2 + 1) (lv' := [(2, .int (v2 + 1)), (0, .ref (E.2.1 (o + 1))), (1, .int v1)]) hx hb dX0_rowByWeight_31 hl rfl rfl (by decide) rfl (fun ls hl => ?_)
            refine lv_goto (tgt := 2) hx hb dX0_rowByWeight_34 rfl ?_
            exact ih (v2 + 1) hf _ _ _ hI (lv_sub hl [0, 1, 2] rfl)
          · replace hf := gif h7 hf
            refine lv_iload_n hx hb dX0_rowByWeight_29 rfl (lv_at hl 0 rfl) ?_
            exact kr _ _ _ _ _ _ (gri hf) hI ⟨.int, rfl, rfl⟩ dX0_rowByWeight_30
  unfold f_X0_rowByWeight at hf
  refine lv_iconst (v := 0) hx hb dX0_rowByWeight_0 (by decide) ?_
  refine lv_istore_n (lv' := [(2, .int 0), (0, .ref (E.2.1 (o + 1))), (1, .int v1)]) hx hb dX0_rowByWeight_1 rfl hl (by decide) rfl (fun ls hl => ?_)
  exact L2 v1 gF 0 hf _ _ _ hI (lv_sub hl [0, 1, 2] rfl)
theorem dX6_containerByWeight_0 : decode cX6_containerByWeight 0 = .ok (.aload_n 0, 1) := by decide +kernel
theorem dX6_containerByWeight_1 : decode cX6_containerByWeight 1 = .ok (.getfield 10, 3) := by decide +kernel
theorem dX6_containerByWeight_4 : decode cX6_containerByWeight 4 = .ok (.getfield 108, 3) := by decide +kernel
theorem dX6_containerByWeight_7 : decode cX6_containerByWeight 7 = .ok (.aload_n 0, 1) := by decide +kernel
theorem dX6_containerByWeight_8 : decode cX6_containerByWeight 8 = .ok (.getfield 10, 3) := by decide +kernel
theorem dX6_containerByWeight_11 : decode cX6_containerByWeight 11 = .ok (.getfield 108, 3) := by decide +kernel
theorem dX6_containerByWeight_14 : decode cX6_containerByWeight 14 = .ok (.iload_n 1, 1) := by decide +kernel
theorem dX6_containerByWeight_15 : decode cX6_containerByWeight 15 = .ok (.invokevirtual 240, 3) := by decide +kernel
theorem dX6_containerByWeight_18 : decode cX6_containerByWeight 18 = .ok (.invokestatic 189, 3) := by decide +kernel
theorem dX6_containerByWeight_21 : decode cX6_containerByWeight 21 = .ok (.invokevirtual 192, 3) := by decide +kernel
theorem dX6_containerByWeight_24 : decode cX6_containerByWeight 24 = .ok (.ireturn, 1) := by decide +kernel
set_option maxRecDepth 100000 in
set_option maxHeartbeats 4000000 in
theorem C_X6_containerByWeight (l : Launch) (hst : l.stackTraces = false) (E : gE) (x : gX) {v1 : Int32} {M : gM} {oc : String ⊕ Int32} {M' : gM} (hf : f_X6_containerByWeight v1 M = some (oc, M')) : gX0 l E yX6_containerByWeight (.code yX6_containerByWeight cX6_containerByWeight 2 (some .int)) (gRX 8 130 1 6) M x [.ref (E.2.1 132), .int v1] (gO oc) M' 1 6 := by
  refine gMetX hst (by decide +kernel) (Nat.le_of_ble_eq_true rfl) ?_
  intro p e s m args below meth c H locs ls Q hC hl hI kr kv kx kt kd kf
  replace hC : gC p s m args c cX6_containerByWeight 2 RX6 E := hC
  replace hl : lv_has ls 2 [(0, .ref (E.2.1 132)), (1, .int v1)] := hl
  have hx := hC.1
  have hb := hC.2.1
  unfold f_X6_containerByWeight at hf
  refine lv_aload_n hx hb dX6_containerByWeight_0 rfl (lv_at hl 0 rfl) ?_
  refine gt_X6_X6_now hC hI dX6_containerByWeight_1 ?_
  refine gt_X6_X5_cargo hC hI gOk_0 dX6_containerByWeight_4 ?_
  refine lv_aload_n hx hb dX6_containerByWeight_7 rfl (lv_at hl 0 rfl) ?_
  refine gt_X6_X6_now hC hI dX6_containerByWeight_8 ?_
  refine gt_X6_X5_cargo hC hI gOk_0 dX6_containerByWeight_11 ?_
  refine lv_iload_n hx hb dX6_containerByWeight_14 rfl (lv_at hl 1 rfl) ?_
  obtain ⟨r1, hr2, hf⟩ := gbind hf
  have hr2 := C_X0_rowByWeight l E x gOk_0 hr2
  refine g_callVi (rest := [.ref (E.2.1 (0 + 1))]) hC hI hr2 Y_X0_rowByWeight V_X0_rowByWeight w714 (rcv_X0 hC hI gOk_0) ⟨rfl, rfl⟩ ⟨Nat.le_of_ble_eq_true rfl, Nat.le_of_ble_eq_true rfl⟩ rfl hl.1 rfl (Nat.le_of_ble_eq_true rfl) dX6_containerByWeight_15 ⟨Nat.le_of_ble_eq_true rfl, Nat.le_of_ble_eq_true rfl⟩ (fun H locs hI => ?_)
  rcases gseq hf with ⟨er, Mr, hr4, hf⟩ | ⟨r3, M5, hr4, hf⟩
  · replace hr4 := C_X6_found l hst E x  hr4
    exact g_xSx (rest := [.ref (E.2.1 (0 + 1))]) hC hI hr4 Y_X6_found S_X6_found w637 ⟨rfl, rfl⟩ ⟨Nat.le_of_ble_eq_true rfl, Nat.le_of_ble_eq_true rfl⟩ rfl hl.1 rfl (Nat.le_of_ble_eq_true rfl) dX6_containerByWeight_18 ⟨Nat.le_of_ble_eq_true rfl, Nat.le_of_ble_eq_true rfl⟩ (fun ce q H locs hI h1 h2 h3 => kx _ _ _ _ _ _ _ _ _ _ _ (gtx hf) hI h1 h2 h3 ⟨Nat.le_of_ble_eq_true rfl, Nat.le_of_ble_eq_true rfl⟩)
  replace hr4 := C_X6_found l hst E x  hr4
  refine g_xSi (rest := [.ref (E.2.1 (0 + 1))]) hC hI hr4 Y_X6_found S_X6_found w637 ⟨rfl, rfl⟩ ⟨Nat.le_of_ble_eq_true rfl, Nat.le_of_ble_eq_true rfl⟩ rfl hl.1 rfl (Nat.le_of_ble_eq_true rfl) dX6_containerByWeight_18 ⟨Nat.le_of_ble_eq_true rfl, Nat.le_of_ble_eq_true rfl⟩ (fun H locs hI => ?_)
  obtain ⟨r6, hr7, hf⟩ := gbind hf
  have hr7 := C_X0_id l E x gOk_0 hr7
  refine g_callVi (rest := []) hC hI hr7 Y_X0_id V_X0_id w640 (rcv_X0 hC hI gOk_0) ⟨rfl, rfl⟩ ⟨Nat.le_of_ble_eq_true rfl, Nat.le_of_ble_eq_true rfl⟩ rfl hl.1 rfl (Nat.le_of_ble_eq_true rfl) dX6_containerByWeight_21 ⟨Nat.le_of_ble_eq_true rfl, Nat.le_of_ble_eq_true rfl⟩ (fun H locs hI => ?_)
  exact kr _ _ _ _ _ _ _ _ (gre hf) hI ⟨.int, rfl, rfl⟩ ⟨Nat.le_of_ble_eq_true rfl, Nat.le_of_ble_eq_true rfl⟩ dX6_containerByWeight_24
theorem dX0_lowestStack_0 : decode cX0_lowestStack 0 = .ok (.iconst 0, 1) := by decide +kernel
theorem dX0_lowestStack_1 : decode cX0_lowestStack 1 = .ok (.istore_n 2, 1) := by decide +kernel
theorem dX0_lowestStack_2 : decode cX0_lowestStack 2 = .ok (.iconst 1, 1) := by decide +kernel
theorem dX0_lowestStack_3 : decode cX0_lowestStack 3 = .ok (.istore_n 3, 1) := by decide +kernel
theorem dX0_lowestStack_4 : decode cX0_lowestStack 4 = .ok (.iload_n 3, 1) := by decide +kernel
theorem dX0_lowestStack_5 : decode cX0_lowestStack 5 = .ok (.iconst 4, 1) := by decide +kernel
theorem dX0_lowestStack_6 : decode cX0_lowestStack 6 = .ok (.if_icmp .ge 32, 3) := by decide +kernel
theorem dX0_lowestStack_9 : decode cX0_lowestStack 9 = .ok (.aload_n 0, 1) := by decide +kernel
theorem dX0_lowestStack_10 : decode cX0_lowestStack 10 = .ok (.iload_n 1, 1) := by decide +kernel
theorem dX0_lowestStack_11 : decode cX0_lowestStack 11 = .ok (.iload_n 3, 1) := by decide +kernel
theorem dX0_lowestStack_12 : decode cX0_lowestStack 12 = .ok (.invokestatic 76, 3) := by decide +kernel
theorem dX0_lowestStack_15 : decode cX0_lowestStack 15 = .ok (.invokevirtual 40, 3) := by decide +kernel
theorem dX0_lowestStack_18 : decode cX0_lowestStack 18 = .ok (.aload_n 0, 1) := by decide +kernel
theorem dX0_lowestStack_19 : decode cX0_lowestStack 19 = .ok (.iload_n 1, 1) := by decide +kernel
theorem dX0_lowestStack_20 : decode cX0_lowestStack 20 = .ok (.iload_n 2, 1) := by decide +kernel
theorem dX0_lowestStack_21 : decode cX0_lowestStack 21 = .ok (.invokestatic 76, 3) := by decide +kernel
theorem dX0_lowestStack_24 : decode cX0_lowestStack 24 = .ok (.invokevirtual 40, 3) := by decide +kernel
theorem dX0_lowestStack_27 : decode cX0_lowestStack 27 = .ok (.if_icmp .ge 5, 3) := by decide +kernel
theorem dX0_lowestStack_30 : decode cX0_lowestStack 30 = .ok (.iload_n 3, 1) := by decide +kernel
theorem dX0_lowestStack_31 : decode cX0_lowestStack 31 = .ok (.istore_n 2, 1) := by decide +kernel
theorem dX0_lowestStack_32 : decode cX0_lowestStack 32 = .ok (.iinc 3 1, 3) := by decide +kernel
theorem dX0_lowestStack_35 : decode cX0_lowestStack 35 = .ok (.goto (-31), 3) := by decide +kernel
theorem dX0_lowestStack_38 : decode cX0_lowestStack 38 = .ok (.iload_n 2, 1) := by decide +kernel
theorem dX0_lowestStack_39 : decode cX0_lowestStack 39 = .ok (.ireturn, 1) := by decide +kernel
set_option maxRecDepth 100000 in
set_option maxHeartbeats 4000000 in
theorem C_X0_lowestStack (l : Launch) (E : gE) (x : gX) {o : Nat} (ho : gOk o) {v1 : Int32} {M : gM} {r : Int32} (hf : f_X0_lowestStack o v1 M = some r) : gM0 l E yX0_lowestStack (.code yX0_lowestStack cX0_lowestStack 4 (some .int)) (gR 1 23) M x [.ref (E.2.1 (o + 1)), .int v1] (some (.int r)) M := by
  refine gMet (by decide +kernel) (Nat.le_of_ble_eq_true rfl) ?_
  intro p e s m args below meth c H locs ls Q hC hl hI kr kv
  replace hC : gC p s m args c cX0_lowestStack 4 RX0 E := hC
  replace hl : lv_has ls 4 [(0, .ref (E.2.1 (o + 1))), (1, .int v1)] := hl
  have hx := hC.1
  have hb := hC.2.1
  have L4 : ∀ (v1 : Int32) (n : Nat) (v3 : Int32) (v2 : Int32), f_X0_lowestStack_L4 o M v1 n v3 v2 = some r → ∀ (H : Heap) (locs : List Loc) (ls : Array Slot), gI E s M x H locs → lv_has ls 4 [(3, .int v3), (2, .int v2), (0, .ref (E.2.1 (o + 1))), (1, .int v1)] → W p l e (gR 1 23) s m args below meth c H locs 0 0 Q (F0 m 4 ls []) := by
    intro v1 n
    induction n with
    | zero => intro v3 v2 hf; rw [f_X0_lowestStack_L4] at hf; cases hf
    | succ n ih =>
      intro v3 v2 hf H locs ls hI hl
      rw [f_X0_lowestStack_L4] at hf
      refine lv_iload_n hx hb dX0_lowestStack_4 rfl (lv_at hl 0 rfl) ?_
      refine lv_iconst (v := 4) hx hb dX0_lowestStack_5 (by decide) ?_
      refine lv_icmp_ge (tgt := 38) hx hb dX0_lowestStack_6 rfl (fun h1 => ?_) (fun h1 => ?_)
      · replace hf := gif h1 hf
        refine lv_iload_n hx hb dX0_lowestStack_38 rfl (lv_at hl 1 rfl) ?_
        exact kr _ _ _ _ _ _ (gri hf) hI ⟨.int, rfl, rfl⟩ dX0_lowestStack_39
      · replace hf := gifn h1 hf
        refine lv_aload_n hx hb dX0_lowestStack_9 rfl (lv_at hl 2 rfl) ?_
        refine lv_iload_n hx hb dX0_lowestStack_10 rfl (lv_at hl 3 rfl) ?_
        refine lv_iload_n hx hb dX0_lowestStack_11 rfl (lv_at hl 0 rfl) ?_
        obtain ⟨r2, hr3, hf⟩ := gbind hf
        have hr3 := C_X6_pileOf l E x  hr3
        refine g_callSNi (rest := [.ref (E.2.1 (o + 1))]) hC hI hr3 Y_X6_pileOf S_X6_pileOf (List.mem_of_getElem? (i := 9) rfl) ⟨rfl, rfl⟩ ⟨Nat.le_of_ble_eq_true rfl, Nat.le_of_ble_eq_true rfl⟩ rfl hl.1 rfl (Nat.le_of_ble_eq_true rfl) dX0_lowestStack_12 ⟨Nat.le_of_ble_eq_true rfl, Nat.le_of_ble_eq_true rfl⟩ (fun H locs hI => ?_)
        obtain ⟨r4, hr5, hf⟩ := gbind hf
        have hr5 := C_X0_height l E x ho hr5
        refine g_callVi (rest := []) hC hI hr5 Y_X0_height V_X0_height w405 (rcv_X0 hC hI ho) ⟨rfl, rfl⟩ ⟨Nat.le_of_ble_eq_true rfl, Nat.le_of_ble_eq_true rfl⟩ rfl hl.1 rfl (Nat.le_of_ble_eq_true rfl) dX0_lowestStack_15 ⟨Nat.le_of_ble_eq_true rfl, Nat.le_of_ble_eq_true rfl⟩ (fun H locs hI => ?_)
        refine lv_aload_n hx hb dX0_lowestStack_18 rfl (lv_at hl 2 rfl) ?_
        refine lv_iload_n hx hb dX0_lowestStack_19 rfl (lv_at hl 3 rfl) ?_
        refine lv_iload_n hx hb dX0_lowestStack_20 rfl (lv_at hl 1 rfl) ?_
        obtain ⟨r6, hr7, hf⟩ := gbind hf
        have hr7 := C_X6_pileOf l E x  hr7
        refine g_callSNi (rest := [.ref (E.2.1 (o + 1)), .int r4]) hC hI hr7 Y_X6_pileOf S_X6_pileOf (List.mem_of_getElem? (i := 9) rfl) ⟨rfl, rfl⟩ ⟨Nat.le_of_ble_eq_true rfl, Nat.le_of_ble_eq_true rfl⟩ rfl hl.1 rfl (Nat.le_of_ble_eq_true rfl) dX0_lowestStack_21 ⟨Nat.le_of_ble_eq_true rfl, Nat.le_of_ble_eq_true rfl⟩ (fun H locs hI => ?_)
        obtain ⟨r8, hr9, hf⟩ := gbind hf
        have hr9 := C_X0_height l E x ho hr9
        refine g_callVi (rest := [.int r4]) hC hI hr9 Y_X0_height V_X0_height w405 (rcv_X0 hC hI ho) ⟨rfl, rfl⟩ ⟨Nat.le_of_ble_eq_true rfl, Nat.le_of_ble_eq_true rfl⟩ rfl hl.1 rfl (Nat.le_of_ble_eq_true rfl) dX0_lowestStack_24 ⟨Nat.le_of_ble_eq_true rfl, Nat.le_of_ble_eq_true rfl⟩ (fun H locs hI => ?_)
        refine lv_icmp_ge (tgt := 32) hx hb dX0_lowestStack_27 rfl (fun h10 => ?_) (fun h10 => ?_)
        · replace hf := gif h10 hf
          refine lv_iinc (k := 0) (v := v3 + 1) (lv' := [(3, .int (v3 + 1)), (2, .int v2), (0, .ref (E.2.1 (o + 1))), (1, .int v1)]) hx hb dX0_lowestStack_32 hl rfl rfl (by decide) rfl (fun ls hl => ?_)
          refine lv_goto (tgt := 4) hx hb dX0_lowestStack_35 rfl ?_
          exact ih (v3 + 1) v2 hf _ _ _ hI (lv_sub hl [0, 1, 2, 3] rfl)
        · replace hf := gifn h10 hf
          refine lv_iload_n hx hb dX0_lowestStack_30 rfl (lv_at hl 0 rfl) ?_
          refine lv_istore_n (lv' := [(2, .int v3), (3, .int v3), (0, .ref (E.2.1 (o + 1))), (1, .int v1)]) hx hb dX0_lowestStack_31 rfl hl (by decide) rfl (fun ls hl => ?_)
          refine lv_iinc (k := 1) (v := v3 + 1) (lv' := [(3, .int (v3 + 1)), (2, .int v3), (0, .ref (E.2.1 (o + 1))), (1, .int v1)]) hx hb dX0_lowestStack_32 hl rfl rfl (by decide) rfl (fun ls hl => ?_)
          refine lv_goto (tgt := 4) hx hb dX0_lowestStack_35 rfl ?_
          exact ih (v3 + 1) v3 hf _ _ _ hI (lv_sub hl [0, 1, 2, 3] rfl)
  unfold f_X0_lowestStack at hf
  refine lv_iconst (v := 0) hx hb dX0_lowestStack_0 (by decide) ?_
  refine lv_istore_n (lv' := [(2, .int 0), (0, .ref (E.2.1 (o + 1))), (1, .int v1)]) hx hb dX0_lowestStack_1 rfl hl (by decide) rfl (fun ls hl => ?_)
  refine lv_iconst (v := 1) hx hb dX0_lowestStack_2 (by decide) ?_
  refine lv_istore_n (lv' := [(3, .int 1), (2, .int 0), (0, .ref (E.2.1 (o + 1))), (1, .int v1)]) hx hb dX0_lowestStack_3 rfl hl (by decide) rfl (fun ls hl => ?_)
  exact L4 v1 gF 1 0 hf _ _ _ hI (lv_sub hl [0, 1, 2, 3] rfl)
theorem dX6_emptiestStack_0 : decode cX6_emptiestStack 0 = .ok (.aload_n 0, 1) := by decide +kernel
theorem dX6_emptiestStack_1 : decode cX6_emptiestStack 1 = .ok (.iload_n 1, 1) := by decide +kernel
theorem dX6_emptiestStack_2 : decode cX6_emptiestStack 2 = .ok (.invokevirtual 142, 3) := by decide +kernel
theorem dX6_emptiestStack_5 : decode cX6_emptiestStack 5 = .ok (.aload_n 0, 1) := by decide +kernel
theorem dX6_emptiestStack_6 : decode cX6_emptiestStack 6 = .ok (.getfield 10, 3) := by decide +kernel
theorem dX6_emptiestStack_9 : decode cX6_emptiestStack 9 = .ok (.getfield 108, 3) := by decide +kernel
theorem dX6_emptiestStack_12 : decode cX6_emptiestStack 12 = .ok (.iload_n 1, 1) := by decide +kernel
theorem dX6_emptiestStack_13 : decode cX6_emptiestStack 13 = .ok (.invokevirtual 243, 3) := by decide +kernel
theorem dX6_emptiestStack_16 : decode cX6_emptiestStack 16 = .ok (.ireturn, 1) := by decide +kernel
set_option maxRecDepth 100000 in
set_option maxHeartbeats 4000000 in
theorem C_X6_emptiestStack (l : Launch) (hst : l.stackTraces = false) (E : gE) (x : gX) {v1 : Int32} {M : gM} {oc : String ⊕ Int32} {M' : gM} (hf : f_X6_emptiestStack v1 M = some (oc, M')) : gX0 l E yX6_emptiestStack (.code yX6_emptiestStack cX6_emptiestStack 2 (some .int)) (gRX 9 151 2 12) M x [.ref (E.2.1 132), .int v1] (gO oc) M' 2 12 := by
  refine gMetX hst (by decide +kernel) (Nat.le_of_ble_eq_true rfl) ?_
  intro p e s m args below meth c H locs ls Q hC hl hI kr kv kx kt kd kf
  replace hC : gC p s m args c cX6_emptiestStack 2 RX6 E := hC
  replace hl : lv_has ls 2 [(0, .ref (E.2.1 132)), (1, .int v1)] := hl
  have hx := hC.1
  have hb := hC.2.1
  unfold f_X6_emptiestStack at hf
  refine lv_aload_n hx hb dX6_emptiestStack_0 rfl (lv_at hl 0 rfl) ?_
  refine lv_iload_n hx hb dX6_emptiestStack_1 rfl (lv_at hl 1 rfl) ?_
  rcases gseq hf with ⟨er, Mr, hr2, hf⟩ | ⟨_, M3, hr2, hf⟩
  · replace hr2 := C_X6_requireShip l hst E x  hr2
    exact g_xVx (rest := []) hC hI hr2 Y_X6_requireShip V_X6_requireShip w575 (rcv_X6 hC hI) ⟨rfl, rfl⟩ ⟨Nat.le_of_ble_eq_true rfl, Nat.le_of_ble_eq_true rfl⟩ rfl hl.1 rfl (Nat.le_of_ble_eq_true rfl) dX6_emptiestStack_2 ⟨Nat.le_of_ble_eq_true rfl, Nat.le_of_ble_eq_true rfl⟩ (fun ce q H locs hI h1 h2 h3 => kx _ _ _ _ _ _ _ _ _ _ _ (gtx hf) hI h1 h2 h3 ⟨Nat.le_of_ble_eq_true rfl, Nat.le_of_ble_eq_true rfl⟩)
  replace hr2 := C_X6_requireShip l hst E x  hr2
  refine g_xVv (rest := []) hC hI hr2 Y_X6_requireShip V_X6_requireShip w575 (rcv_X6 hC hI) ⟨rfl, rfl⟩ ⟨Nat.le_of_ble_eq_true rfl, Nat.le_of_ble_eq_true rfl⟩ rfl hl.1 rfl (Nat.le_of_ble_eq_true rfl) dX6_emptiestStack_2 ⟨Nat.le_of_ble_eq_true rfl, Nat.le_of_ble_eq_true rfl⟩ (fun H locs hI => ?_)
  refine lv_aload_n hx hb dX6_emptiestStack_5 rfl (lv_at hl 0 rfl) ?_
  refine gt_X6_X6_now hC hI dX6_emptiestStack_6 ?_
  refine gt_X6_X5_cargo hC hI gOk_0 dX6_emptiestStack_9 ?_
  refine lv_iload_n hx hb dX6_emptiestStack_12 rfl (lv_at hl 1 rfl) ?_
  obtain ⟨r4, hr5, hf⟩ := gbind hf
  have hr5 := C_X0_lowestStack l E x gOk_0 hr5
  refine g_callVi (rest := []) hC hI hr5 Y_X0_lowestStack V_X0_lowestStack w726 (rcv_X0 hC hI gOk_0) ⟨rfl, rfl⟩ ⟨Nat.le_of_ble_eq_true rfl, Nat.le_of_ble_eq_true rfl⟩ rfl hl.1 rfl (Nat.le_of_ble_eq_true rfl) dX6_emptiestStack_13 ⟨Nat.le_of_ble_eq_true rfl, Nat.le_of_ble_eq_true rfl⟩ (fun H locs hI => ?_)
  exact kr _ _ _ _ _ _ _ _ (gre hf) hI ⟨.int, rfl, rfl⟩ ⟨Nat.le_of_ble_eq_true rfl, Nat.le_of_ble_eq_true rfl⟩ dX6_emptiestStack_16
theorem dX0_heavyOverLightPairs_0 : decode cX0_heavyOverLightPairs 0 = .ok (.iconst 0, 1) := by decide +kernel
theorem dX0_heavyOverLightPairs_1 : decode cX0_heavyOverLightPairs 1 = .ok (.istore_n 2, 1) := by decide +kernel
theorem dX0_heavyOverLightPairs_2 : decode cX0_heavyOverLightPairs 2 = .ok (.iconst 1, 1) := by decide +kernel
theorem dX0_heavyOverLightPairs_3 : decode cX0_heavyOverLightPairs 3 = .ok (.istore_n 3, 1) := by decide +kernel
theorem dX0_heavyOverLightPairs_4 : decode cX0_heavyOverLightPairs 4 = .ok (.iload_n 3, 1) := by decide +kernel
theorem dX0_heavyOverLightPairs_5 : decode cX0_heavyOverLightPairs 5 = .ok (.iconst 5, 1) := by decide +kernel
theorem dX0_heavyOverLightPairs_6 : decode cX0_heavyOverLightPairs 6 = .ok (.if_icmp .ge 51, 3) := by decide +kernel
theorem dX0_heavyOverLightPairs_9 : decode cX0_heavyOverLightPairs 9 = .ok (.iconst 0, 1) := by decide +kernel
theorem dX0_heavyOverLightPairs_10 : decode cX0_heavyOverLightPairs 10 = .ok (.istore 4, 2) := by decide +kernel
theorem dX0_heavyOverLightPairs_12 : decode cX0_heavyOverLightPairs 12 = .ok (.iload 4, 2) := by decide +kernel
theorem dX0_heavyOverLightPairs_14 : decode cX0_heavyOverLightPairs 14 = .ok (.iload_n 3, 1) := by decide +kernel
theorem dX0_heavyOverLightPairs_15 : decode cX0_heavyOverLightPairs 15 = .ok (.if_icmp .ge 36, 3) := by decide +kernel
theorem dX0_heavyOverLightPairs_18 : decode cX0_heavyOverLightPairs 18 = .ok (.aload_n 0, 1) := by decide +kernel
theorem dX0_heavyOverLightPairs_19 : decode cX0_heavyOverLightPairs 19 = .ok (.aload_n 0, 1) := by decide +kernel
theorem dX0_heavyOverLightPairs_20 : decode cX0_heavyOverLightPairs 20 = .ok (.iload_n 1, 1) := by decide +kernel
theorem dX0_heavyOverLightPairs_21 : decode cX0_heavyOverLightPairs 21 = .ok (.iload_n 3, 1) := by decide +kernel
theorem dX0_heavyOverLightPairs_22 : decode cX0_heavyOverLightPairs 22 = .ok (.invokevirtual 72, 3) := by decide +kernel
theorem dX0_heavyOverLightPairs_25 : decode cX0_heavyOverLightPairs 25 = .ok (.invokevirtual 63, 3) := by decide +kernel
theorem dX0_heavyOverLightPairs_28 : decode cX0_heavyOverLightPairs 28 = .ok (.aload_n 0, 1) := by decide +kernel
theorem dX0_heavyOverLightPairs_29 : decode cX0_heavyOverLightPairs 29 = .ok (.aload_n 0, 1) := by decide +kernel
theorem dX0_heavyOverLightPairs_30 : decode cX0_heavyOverLightPairs 30 = .ok (.iload_n 1, 1) := by decide +kernel
theorem dX0_heavyOverLightPairs_31 : decode cX0_heavyOverLightPairs 31 = .ok (.iload 4, 2) := by decide +kernel
theorem dX0_heavyOverLightPairs_33 : decode cX0_heavyOverLightPairs 33 = .ok (.invokevirtual 72, 3) := by decide +kernel
theorem dX0_heavyOverLightPairs_36 : decode cX0_heavyOverLightPairs 36 = .ok (.invokevirtual 63, 3) := by decide +kernel
theorem dX0_heavyOverLightPairs_39 : decode cX0_heavyOverLightPairs 39 = .ok (.if_icmp .le 6, 3) := by decide +kernel
theorem dX0_heavyOverLightPairs_42 : decode cX0_heavyOverLightPairs 42 = .ok (.iinc 2 1, 3) := by decide +kernel
theorem dX0_heavyOverLightPairs_45 : decode cX0_heavyOverLightPairs 45 = .ok (.iinc 4 1, 3) := by decide +kernel
theorem dX0_heavyOverLightPairs_48 : decode cX0_heavyOverLightPairs 48 = .ok (.goto (-36), 3) := by decide +kernel
theorem dX0_heavyOverLightPairs_51 : decode cX0_heavyOverLightPairs 51 = .ok (.iinc 3 1, 3) := by decide +kernel
theorem dX0_heavyOverLightPairs_54 : decode cX0_heavyOverLightPairs 54 = .ok (.goto (-50), 3) := by decide +kernel
theorem dX0_heavyOverLightPairs_57 : decode cX0_heavyOverLightPairs 57 = .ok (.iload_n 2, 1) := by decide +kernel
theorem dX0_heavyOverLightPairs_58 : decode cX0_heavyOverLightPairs 58 = .ok (.ireturn, 1) := by decide +kernel
set_option maxRecDepth 100000 in
set_option maxHeartbeats 4000000 in
theorem C_X0_heavyOverLightPairs (l : Launch) (E : gE) (x : gX) {o : Nat} (ho : gOk o) {v1 : Int32} {M : gM} {r : Int32} (hf : f_X0_heavyOverLightPairs o v1 M = some r) : gM0 l E yX0_heavyOverLightPairs (.code yX0_heavyOverLightPairs cX0_heavyOverLightPairs 5 (some .int)) (gR 2 42) M x [.ref (E.2.1 (o + 1)), .int v1] (some (.int r)) M := by
  refine gMet (by decide +kernel) (Nat.le_of_ble_eq_true rfl) ?_
  intro p e s m args below meth c H locs ls Q hC hl hI kr kv
  replace hC : gC p s m args c cX0_heavyOverLightPairs 5 RX0 E := hC
  replace hl : lv_has ls 5 [(0, .ref (E.2.1 (o + 1))), (1, .int v1)] := hl
  have hx := hC.1
  have hb := hC.2.1
  have L12 : ∀ (v3 : Int32) (v1 : Int32) (n : Nat) (v4 : Int32) (v2 : Int32) (q : Int32 × Int32), f_X0_heavyOverLightPairs_L12 o M v3 v1 n v4 v2 = some q → ∀ (H : Heap) (locs : List Loc) (ls : Array Slot), gI E s M x H locs → lv_has ls 5 [(4, .int v4), (3, .int v3), (2, .int v2), (0, .ref (E.2.1 (o + 1))), (1, .int v1)] → (∀ (H : Heap) (locs : List Loc) (ls : Array Slot), gI E s M x H locs → lv_has ls 5 [(4, .int q.1), (3, .int v3), (2, .int q.2), (0, .ref (E.2.1 (o + 1))), (1, .int v1)] → W p l e (gR 2 42) s m args below meth c H locs 0 0 Q (F0 m 51 ls [])) → W p l e (gR 2 42) s m args below meth c H locs 0 0 Q (F0 m 12 ls []) := by
    intro v3 v1 n
    induction n with
    | zero => intro v4 v2 q hf; rw [f_X0_heavyOverLightPairs_L12] at hf; cases hf
    | succ n ih =>
      intro v4 v2 q hf H locs ls hI hl hk
      rw [f_X0_heavyOverLightPairs_L12] at hf
      refine lv_iload hx hb dX0_heavyOverLightPairs_12 (lv_at hl 0 rfl) ?_
      refine lv_iload_n hx hb dX0_heavyOverLightPairs_14 rfl (lv_at hl 1 rfl) ?_
      refine lv_icmp_ge (tgt := 51) hx hb dX0_heavyOverLightPairs_15 rfl (fun h2 => ?_) (fun h2 => ?_)
      · replace hf := gif h2 hf
        obtain rfl := Option.some.inj hf
        exact hk _ _ _ hI (lv_sub hl [0, 1, 2, 3, 4] rfl)
      · replace hf := gifn h2 hf
        refine lv_aload_n hx hb dX0_heavyOverLightPairs_18 rfl (lv_at hl 3 rfl) ?_
        refine lv_aload_n hx hb dX0_heavyOverLightPairs_19 rfl (lv_at hl 3 rfl) ?_
        refine lv_iload_n hx hb dX0_heavyOverLightPairs_20 rfl (lv_at hl 4 rfl) ?_
        refine lv_iload_n hx hb dX0_heavyOverLightPairs_21 rfl (lv_at hl 1 rfl) ?_
        obtain ⟨r3, hr4, hf⟩ := gbind hf
        have hr4 := C_X0_rowAt l E x ho hr4
        refine g_callVi (rest := [.ref (E.2.1 (o + 1))]) hC hI hr4 Y_X0_rowAt V_X0_rowAt w422 (rcv_X0 hC hI ho) ⟨rfl, rfl⟩ ⟨Nat.le_of_ble_eq_true rfl, Nat.le_of_ble_eq_true rfl⟩ rfl hl.1 rfl (Nat.le_of_ble_eq_true rfl) dX0_heavyOverLightPairs_22 ⟨Nat.le_of_ble_eq_true rfl, Nat.le_of_ble_eq_true rfl⟩ (fun H locs hI => ?_)
        obtain ⟨r5, hr6, hf⟩ := gbind hf
        have hr6 := C_X0_weight l E x ho hr6
        refine g_callVi (rest := []) hC hI hr6 Y_X0_weight V_X0_weight w438 (rcv_X0 hC hI ho) ⟨rfl, rfl⟩ ⟨Nat.le_of_ble_eq_true rfl, Nat.le_of_ble_eq_true rfl⟩ rfl hl.1 rfl (Nat.le_of_ble_eq_true rfl) dX0_heavyOverLightPairs_25 ⟨Nat.le_of_ble_eq_true rfl, Nat.le_of_ble_eq_true rfl⟩ (fun H locs hI => ?_)
        refine lv_aload_n hx hb dX0_heavyOverLightPairs_28 rfl (lv_at hl 3 rfl) ?_
        refine lv_aload_n hx hb dX0_heavyOverLightPairs_29 rfl (lv_at hl 3 rfl) ?_
        refine lv_iload_n hx hb dX0_heavyOverLightPairs_30 rfl (lv_at hl 4 rfl) ?_
        refine lv_iload hx hb dX0_heavyOverLightPairs_31 (lv_at hl 0 rfl) ?_
        obtain ⟨r7, hr8, hf⟩ := gbind hf
        have hr8 := C_X0_rowAt l E x ho hr8
        refine g_callVi (rest := [.ref (E.2.1 (o + 1)), .int r5]) hC hI hr8 Y_X0_rowAt V_X0_rowAt w422 (rcv_X0 hC hI ho) ⟨rfl, rfl⟩ ⟨Nat.le_of_ble_eq_true rfl, Nat.le_of_ble_eq_true rfl⟩ rfl hl.1 rfl (Nat.le_of_ble_eq_true rfl) dX0_heavyOverLightPairs_33 ⟨Nat.le_of_ble_eq_true rfl, Nat.le_of_ble_eq_true rfl⟩ (fun H locs hI => ?_)
        obtain ⟨r9, hr10, hf⟩ := gbind hf
        have hr10 := C_X0_weight l E x ho hr10
        refine g_callVi (rest := [.int r5]) hC hI hr10 Y_X0_weight V_X0_weight w438 (rcv_X0 hC hI ho) ⟨rfl, rfl⟩ ⟨Nat.le_of_ble_eq_true rfl, Nat.le_of_ble_eq_true rfl⟩ rfl hl.1 rfl (Nat.le_of_ble_eq_true rfl) dX0_heavyOverLightPairs_36 ⟨Nat.le_of_ble_eq_true rfl, Nat.le_of_ble_eq_true rfl⟩ (fun H locs hI => ?_)
        refine lv_icmp_le (tgt := 45) hx hb dX0_heavyOverLightPairs_39 rfl (fun h11 => ?_) (fun h11 => ?_)
        · replace hf := gif h11 hf
          refine lv_iinc (k := 0) (v := v4 + 1) (lv' := [(4, .int (v4 + 1)), (3, .int v3), (2, .int v2), (0, .ref (E.2.1 (o + 1))), (1, .int v1)]) hx hb dX0_heavyOverLightPairs_45 hl rfl rfl (by decide) rfl (fun ls hl => ?_)
          refine lv_goto (tgt := 12) hx hb dX0_heavyOverLightPairs_48 rfl ?_
          exact ih (v4 + 1) v2 _ hf _ _ _ hI (lv_sub hl [0, 1, 2, 3, 4] rfl) hk
        · replace hf := gifn h11 hf
          refine lv_iinc (k := 2) (v := v2 + 1) (lv' := [(2, .int (v2 + 1)), (4, .int v4), (3, .int v3), (0, .ref (E.2.1 (o + 1))), (1, .int v1)]) hx hb dX0_heavyOverLightPairs_42 hl rfl rfl (by decide) rfl (fun ls hl => ?_)
          refine lv_iinc (k := 1) (v := v4 + 1) (lv' := [(4, .int (v4 + 1)), (2, .int (v2 + 1)), (3, .int v3), (0, .ref (E.2.1 (o + 1))), (1, .int v1)]) hx hb dX0_heavyOverLightPairs_45 hl rfl rfl (by decide) rfl (fun ls hl => ?_)
          refine lv_goto (tgt := 12) hx hb dX0_heavyOverLightPairs_48 rfl ?_
          exact ih (v4 + 1) (v2 + 1) _ hf _ _ _ hI (lv_sub hl [0, 2, 1, 3, 4] rfl) hk
  have L4 : ∀ (v1 : Int32) (n : Nat) (v3 : Int32) (v2 : Int32), f_X0_heavyOverLightPairs_L4 o M v1 n v3 v2 = some r → ∀ (H : Heap) (locs : List Loc) (ls : Array Slot), gI E s M x H locs → lv_has ls 5 [(3, .int v3), (2, .int v2), (0, .ref (E.2.1 (o + 1))), (1, .int v1)] → W p l e (gR 2 42) s m args below meth c H locs 0 0 Q (F0 m 4 ls []) := by
    intro v1 n
    induction n with
    | zero => intro v3 v2 hf; rw [f_X0_heavyOverLightPairs_L4] at hf; cases hf
    | succ n ih =>
      intro v3 v2 hf H locs ls hI hl
      rw [f_X0_heavyOverLightPairs_L4] at hf
      refine lv_iload_n hx hb dX0_heavyOverLightPairs_4 rfl (lv_at hl 0 rfl) ?_
      refine lv_iconst (v := 5) hx hb dX0_heavyOverLightPairs_5 (by decide) ?_
      refine lv_icmp_ge (tgt := 57) hx hb dX0_heavyOverLightPairs_6 rfl (fun h1 => ?_) (fun h1 => ?_)
      · replace hf := gif h1 hf
        refine lv_iload_n hx hb dX0_heavyOverLightPairs_57 rfl (lv_at hl 1 rfl) ?_
        exact kr _ _ _ _ _ _ (gri hf) hI ⟨.int, rfl, rfl⟩ dX0_heavyOverLightPairs_58
      · replace hf := gifn h1 hf
        refine lv_iconst (v := 0) hx hb dX0_heavyOverLightPairs_9 (by decide) ?_
        refine lv_istore (lv' := [(4, .int 0), (3, .int v3), (2, .int v2), (0, .ref (E.2.1 (o + 1))), (1, .int v1)]) hx hb dX0_heavyOverLightPairs_10 hl (by decide) rfl (fun ls hl => ?_)
        obtain ⟨q12, hq12, hf⟩ := gbind hf
        refine L12 v3 v1 gF 0 v2 q12 hq12 _ _ _ hI (lv_sub hl [0, 1, 2, 3, 4] rfl) (fun H locs ls hI hl => ?_)
        try simp only at hI hl
        refine lv_iinc (k := 1) (v := v3 + 1) (lv' := [(3, .int (v3 + 1)), (4, .int q12.1), (2, .int q12.2), (0, .ref (E.2.1 (o + 1))), (1, .int v1)]) hx hb dX0_heavyOverLightPairs_51 hl rfl rfl (by decide) rfl (fun ls hl => ?_)
        refine lv_goto (tgt := 4) hx hb dX0_heavyOverLightPairs_54 rfl ?_
        exact ih (v3 + 1) q12.2 hf _ _ _ hI (lv_sub hl [0, 2, 3, 4] rfl)
  unfold f_X0_heavyOverLightPairs at hf
  refine lv_iconst (v := 0) hx hb dX0_heavyOverLightPairs_0 (by decide) ?_
  refine lv_istore_n (lv' := [(2, .int 0), (0, .ref (E.2.1 (o + 1))), (1, .int v1)]) hx hb dX0_heavyOverLightPairs_1 rfl hl (by decide) rfl (fun ls hl => ?_)
  refine lv_iconst (v := 1) hx hb dX0_heavyOverLightPairs_2 (by decide) ?_
  refine lv_istore_n (lv' := [(3, .int 1), (2, .int 0), (0, .ref (E.2.1 (o + 1))), (1, .int v1)]) hx hb dX0_heavyOverLightPairs_3 rfl hl (by decide) rfl (fun ls hl => ?_)
  exact L4 v1 gF 1 0 hf _ _ _ hI (lv_sub hl [0, 1, 2, 3] rfl)
theorem dX6_heavyOverLight_0 : decode cX6_heavyOverLight 0 = .ok (.aload_n 0, 1) := by decide +kernel
theorem dX6_heavyOverLight_1 : decode cX6_heavyOverLight 1 = .ok (.iload_n 1, 1) := by decide +kernel
theorem dX6_heavyOverLight_2 : decode cX6_heavyOverLight 2 = .ok (.iload_n 2, 1) := by decide +kernel
theorem dX6_heavyOverLight_3 : decode cX6_heavyOverLight 3 = .ok (.invokevirtual 178, 3) := by decide +kernel
theorem dX6_heavyOverLight_6 : decode cX6_heavyOverLight 6 = .ok (.aload_n 0, 1) := by decide +kernel
theorem dX6_heavyOverLight_7 : decode cX6_heavyOverLight 7 = .ok (.getfield 10, 3) := by decide +kernel
theorem dX6_heavyOverLight_10 : decode cX6_heavyOverLight 10 = .ok (.getfield 108, 3) := by decide +kernel
theorem dX6_heavyOverLight_13 : decode cX6_heavyOverLight 13 = .ok (.iload_n 1, 1) := by decide +kernel
theorem dX6_heavyOverLight_14 : decode cX6_heavyOverLight 14 = .ok (.iload_n 2, 1) := by decide +kernel
theorem dX6_heavyOverLight_15 : decode cX6_heavyOverLight 15 = .ok (.invokestatic 182, 3) := by decide +kernel
theorem dX6_heavyOverLight_18 : decode cX6_heavyOverLight 18 = .ok (.invokevirtual 246, 3) := by decide +kernel
theorem dX6_heavyOverLight_21 : decode cX6_heavyOverLight 21 = .ok (.ireturn, 1) := by decide +kernel
set_option maxRecDepth 100000 in
set_option maxHeartbeats 4000000 in
theorem C_X6_heavyOverLight (l : Launch) (hst : l.stackTraces = false) (E : gE) (x : gX) {v1 v2 : Int32} {M : gM} {oc : String ⊕ Int32} {M' : gM} (hf : f_X6_heavyOverLight v1 v2 M = some (oc, M')) : gX0 l E yX6_heavyOverLight (.code yX6_heavyOverLight cX6_heavyOverLight 3 (some .int)) (gRX 10 173 3 18) M x [.ref (E.2.1 132), .int v1, .int v2] (gO oc) M' 3 18 := by
  refine gMetX hst (by decide +kernel) (Nat.le_of_ble_eq_true rfl) ?_
  intro p e s m args below meth c H locs ls Q hC hl hI kr kv kx kt kd kf
  replace hC : gC p s m args c cX6_heavyOverLight 3 RX6 E := hC
  replace hl : lv_has ls 3 [(0, .ref (E.2.1 132)), (1, .int v1), (2, .int v2)] := hl
  have hx := hC.1
  have hb := hC.2.1
  unfold f_X6_heavyOverLight at hf
  refine lv_aload_n hx hb dX6_heavyOverLight_0 rfl (lv_at hl 0 rfl) ?_
  refine lv_iload_n hx hb dX6_heavyOverLight_1 rfl (lv_at hl 1 rfl) ?_
  refine lv_iload_n hx hb dX6_heavyOverLight_2 rfl (lv_at hl 2 rfl) ?_
  rcases gseq hf with ⟨er, Mr, hr2, hf⟩ | ⟨_, M3, hr2, hf⟩
  · replace hr2 := C_X6_requireStack l hst E x  hr2
    exact g_xVx (rest := []) hC hI hr2 Y_X6_requireStack V_X6_requireStack w630 (rcv_X6 hC hI) ⟨rfl, rfl⟩ ⟨Nat.le_of_ble_eq_true rfl, Nat.le_of_ble_eq_true rfl⟩ rfl hl.1 rfl (Nat.le_of_ble_eq_true rfl) dX6_heavyOverLight_3 ⟨Nat.le_of_ble_eq_true rfl, Nat.le_of_ble_eq_true rfl⟩ (fun ce q H locs hI h1 h2 h3 => kx _ _ _ _ _ _ _ _ _ _ _ (gtx hf) hI h1 h2 h3 ⟨Nat.le_of_ble_eq_true rfl, Nat.le_of_ble_eq_true rfl⟩)
  replace hr2 := C_X6_requireStack l hst E x  hr2
  refine g_xVv (rest := []) hC hI hr2 Y_X6_requireStack V_X6_requireStack w630 (rcv_X6 hC hI) ⟨rfl, rfl⟩ ⟨Nat.le_of_ble_eq_true rfl, Nat.le_of_ble_eq_true rfl⟩ rfl hl.1 rfl (Nat.le_of_ble_eq_true rfl) dX6_heavyOverLight_3 ⟨Nat.le_of_ble_eq_true rfl, Nat.le_of_ble_eq_true rfl⟩ (fun H locs hI => ?_)
  refine lv_aload_n hx hb dX6_heavyOverLight_6 rfl (lv_at hl 0 rfl) ?_
  refine gt_X6_X6_now hC hI dX6_heavyOverLight_7 ?_
  refine gt_X6_X5_cargo hC hI gOk_0 dX6_heavyOverLight_10 ?_
  refine lv_iload_n hx hb dX6_heavyOverLight_13 rfl (lv_at hl 1 rfl) ?_
  refine lv_iload_n hx hb dX6_heavyOverLight_14 rfl (lv_at hl 2 rfl) ?_
  obtain ⟨r4, hr5, hf⟩ := gbind hf
  have hr5 := C_X6_pileOf l E x  hr5
  refine g_callSi (rest := [.ref (E.2.1 (0 + 1))]) hC hI hr5 Y_X6_pileOf S_X6_pileOf w635 ⟨rfl, rfl⟩ ⟨Nat.le_of_ble_eq_true rfl, Nat.le_of_ble_eq_true rfl⟩ rfl hl.1 rfl (Nat.le_of_ble_eq_true rfl) dX6_heavyOverLight_15 ⟨Nat.le_of_ble_eq_true rfl, Nat.le_of_ble_eq_true rfl⟩ (fun H locs hI => ?_)
  obtain ⟨r6, hr7, hf⟩ := gbind hf
  have hr7 := C_X0_heavyOverLightPairs l E x gOk_0 hr7
  refine g_callVi (rest := []) hC hI hr7 Y_X0_heavyOverLightPairs V_X0_heavyOverLightPairs w734 (rcv_X0 hC hI gOk_0) ⟨rfl, rfl⟩ ⟨Nat.le_of_ble_eq_true rfl, Nat.le_of_ble_eq_true rfl⟩ rfl hl.1 rfl (Nat.le_of_ble_eq_true rfl) dX6_heavyOverLight_18 ⟨Nat.le_of_ble_eq_true rfl, Nat.le_of_ble_eq_true rfl⟩ (fun H locs hI => ?_)
  exact kr _ _ _ _ _ _ _ _ (gre hf) hI ⟨.int, rfl, rfl⟩ ⟨Nat.le_of_ble_eq_true rfl, Nat.le_of_ble_eq_true rfl⟩ dX6_heavyOverLight_21
theorem dX0_isFirstWithKey_0 : decode cX0_isFirstWithKey 0 = .ok (.iconst 0, 1) := by decide +kernel
theorem dX0_isFirstWithKey_1 : decode cX0_isFirstWithKey 1 = .ok (.istore_n 2, 1) := by decide +kernel
theorem dX0_isFirstWithKey_2 : decode cX0_isFirstWithKey 2 = .ok (.iload_n 2, 1) := by decide +kernel
theorem dX0_isFirstWithKey_3 : decode cX0_isFirstWithKey 3 = .ok (.iload_n 1, 1) := by decide +kernel
theorem dX0_isFirstWithKey_4 : decode cX0_isFirstWithKey 4 = .ok (.if_icmp .ge 24, 3) := by decide +kernel
theorem dX0_isFirstWithKey_7 : decode cX0_isFirstWithKey 7 = .ok (.aload_n 0, 1) := by decide +kernel
theorem dX0_isFirstWithKey_8 : decode cX0_isFirstWithKey 8 = .ok (.iload_n 2, 1) := by decide +kernel
theorem dX0_isFirstWithKey_9 : decode cX0_isFirstWithKey 9 = .ok (.invokevirtual 60, 3) := by decide +kernel
theorem dX0_isFirstWithKey_12 : decode cX0_isFirstWithKey 12 = .ok (.aload_n 0, 1) := by decide +kernel
theorem dX0_isFirstWithKey_13 : decode cX0_isFirstWithKey 13 = .ok (.iload_n 1, 1) := by decide +kernel
theorem dX0_isFirstWithKey_14 : decode cX0_isFirstWithKey 14 = .ok (.invokevirtual 60, 3) := by decide +kernel
theorem dX0_isFirstWithKey_17 : decode cX0_isFirstWithKey 17 = .ok (.if_icmp .ne 5, 3) := by decide +kernel
theorem dX0_isFirstWithKey_20 : decode cX0_isFirstWithKey 20 = .ok (.iconst 0, 1) := by decide +kernel
theorem dX0_isFirstWithKey_21 : decode cX0_isFirstWithKey 21 = .ok (.ireturn, 1) := by decide +kernel
theorem dX0_isFirstWithKey_22 : decode cX0_isFirstWithKey 22 = .ok (.iinc 2 1, 3) := by decide +kernel
theorem dX0_isFirstWithKey_25 : decode cX0_isFirstWithKey 25 = .ok (.goto (-23), 3) := by decide +kernel
theorem dX0_isFirstWithKey_28 : decode cX0_isFirstWithKey 28 = .ok (.iconst 1, 1) := by decide +kernel
theorem dX0_isFirstWithKey_29 : decode cX0_isFirstWithKey 29 = .ok (.ireturn, 1) := by decide +kernel
set_option maxRecDepth 100000 in
set_option maxHeartbeats 4000000 in
theorem C_X0_isFirstWithKey (l : Launch) (E : gE) (x : gX) {o : Nat} (ho : gOk o) {v1 : Int32} {M : gM} {r : Bool} (hf : f_X0_isFirstWithKey o v1 M = some r) : gM0 l E yX0_isFirstWithKey (.code yX0_isFirstWithKey cX0_isFirstWithKey 3 (some .boolean)) (gR 2 42) M x [.ref (E.2.1 (o + 1)), .int v1] (some (.int (gb r))) M := by
  refine gMet (by decide +kernel) (Nat.le_of_ble_eq_true rfl) ?_
  intro p e s m args below meth c H locs ls Q hC hl hI kr kv
  replace hC : gC p s m args c cX0_isFirstWithKey 3 RX0 E := hC
  replace hl : lv_has ls 3 [(0, .ref (E.2.1 (o + 1))), (1, .int v1)] := hl
  have hx := hC.1
  have hb := hC.2.1
  have L2 : ∀ (v1 : Int32) (n : Nat) (v2 : Int32), f_X0_isFirstWithKey_L2 o M v1 n v2 = some r → ∀ (H : Heap) (locs : List Loc) (ls : Array Slot), gI E s M x H locs → lv_has ls 3 [(2, .int v2), (0, .ref (E.2.1 (o + 1))), (1, .int v1)] → W p l e (gR 2 42) s m args below meth c H locs 0 0 Q (F0 m 2 ls []) := by
    intro v1 n
    induction n with
    | zero => intro v2 hf; rw [f_X0_isFirstWithKey_L2] at hf; cases hf
    | succ n ih =>
      intro v2 hf H locs ls hI hl
      rw [f_X0_isFirstWithKey_L2] at hf
      refine lv_iload_n hx hb dX0_isFirstWithKey_2 rfl (lv_at hl 0 rfl) ?_
      refine lv_iload_n hx hb dX0_isFirstWithKey_3 rfl (lv_at hl 2 rfl) ?_
      refine lv_icmp_ge (tgt := 28) hx hb dX0_isFirstWithKey_4 rfl (fun h1 => ?_) (fun h1 => ?_)
      · replace hf := gif h1 hf
        refine lv_iconst (v := 1) hx hb dX0_isFirstWithKey_28 (by decide) ?_
        exact kr _ _ _ _ _ _ (grb1 hf) hI ⟨.boolean, rfl, rfl⟩ dX0_isFirstWithKey_29
      · replace hf := gifn h1 hf
        refine lv_aload_n hx hb dX0_isFirstWithKey_7 rfl (lv_at hl 1 rfl) ?_
        refine lv_iload_n hx hb dX0_isFirstWithKey_8 rfl (lv_at hl 0 rfl) ?_
        obtain ⟨r2, hr3, hf⟩ := gbind hf
        have hr3 := C_X0_key l E x ho hr3
        refine g_callVi (rest := []) hC hI hr3 Y_X0_key V_X0_key w430 (rcv_X0 hC hI ho) ⟨rfl, rfl⟩ ⟨Nat.le_of_ble_eq_true rfl, Nat.le_of_ble_eq_true rfl⟩ rfl hl.1 rfl (Nat.le_of_ble_eq_true rfl) dX0_isFirstWithKey_9 ⟨Nat.le_of_ble_eq_true rfl, Nat.le_of_ble_eq_true rfl⟩ (fun H locs hI => ?_)
        refine lv_aload_n hx hb dX0_isFirstWithKey_12 rfl (lv_at hl 1 rfl) ?_
        refine lv_iload_n hx hb dX0_isFirstWithKey_13 rfl (lv_at hl 2 rfl) ?_
        obtain ⟨r4, hr5, hf⟩ := gbind hf
        have hr5 := C_X0_key l E x ho hr5
        refine g_callVi (rest := [.int r2]) hC hI hr5 Y_X0_key V_X0_key w430 (rcv_X0 hC hI ho) ⟨rfl, rfl⟩ ⟨Nat.le_of_ble_eq_true rfl, Nat.le_of_ble_eq_true rfl⟩ rfl hl.1 rfl (Nat.le_of_ble_eq_true rfl) dX0_isFirstWithKey_14 ⟨Nat.le_of_ble_eq_true rfl, Nat.le_of_ble_eq_true rfl⟩ (fun H locs hI => ?_)
        refine lv_icmp_ne (tgt := 22) hx hb dX0_isFirstWithKey_17 rfl (fun h6 => ?_) (fun h6 => ?_)
        · replace hf := gifn h6 hf
          refine lv_iinc (k := 0) (v := v2 + 1) (lv' := [(2, .int (v2 + 1)), (0, .ref (E.2.1 (o + 1))), (1, .int v1)]) hx hb dX0_isFirstWithKey_22 hl rfl rfl (by decide) rfl (fun ls hl => ?_)
          refine lv_goto (tgt := 2) hx hb dX0_isFirstWithKey_25 rfl ?_
          exact ih (v2 + 1) hf _ _ _ hI (lv_sub hl [0, 1, 2] rfl)
        · replace hf := gif h6 hf
          refine lv_iconst (v := 0) hx hb dX0_isFirstWithKey_20 (by decide) ?_
          exact kr _ _ _ _ _ _ (grb0 hf) hI ⟨.boolean, rfl, rfl⟩ dX0_isFirstWithKey_21
  unfold f_X0_isFirstWithKey at hf
  refine lv_iconst (v := 0) hx hb dX0_isFirstWithKey_0 (by decide) ?_
  refine lv_istore_n (lv' := [(2, .int 0), (0, .ref (E.2.1 (o + 1))), (1, .int v1)]) hx hb dX0_isFirstWithKey_1 rfl hl (by decide) rfl (fun ls hl => ?_)
  exact L2 v1 gF 0 hf _ _ _ hI (lv_sub hl [0, 1, 2] rfl)
theorem dX0_countKeys_0 : decode cX0_countKeys 0 = .ok (.iconst 0, 1) := by decide +kernel
theorem dX0_countKeys_1 : decode cX0_countKeys 1 = .ok (.istore_n 1, 1) := by decide +kernel
theorem dX0_countKeys_2 : decode cX0_countKeys 2 = .ok (.iconst 0, 1) := by decide +kernel
theorem dX0_countKeys_3 : decode cX0_countKeys 3 = .ok (.istore_n 2, 1) := by decide +kernel
theorem dX0_countKeys_4 : decode cX0_countKeys 4 = .ok (.iload_n 2, 1) := by decide +kernel
theorem dX0_countKeys_5 : decode cX0_countKeys 5 = .ok (.aload_n 0, 1) := by decide +kernel
theorem dX0_countKeys_6 : decode cX0_countKeys 6 = .ok (.getfield 30, 3) := by decide +kernel
theorem dX0_countKeys_9 : decode cX0_countKeys 9 = .ok (.if_icmp .ge 20, 3) := by decide +kernel
theorem dX0_countKeys_12 : decode cX0_countKeys 12 = .ok (.aload_n 0, 1) := by decide +kernel
theorem dX0_countKeys_13 : decode cX0_countKeys 13 = .ok (.iload_n 2, 1) := by decide +kernel
theorem dX0_countKeys_14 : decode cX0_countKeys 14 = .ok (.invokevirtual 97, 3) := by decide +kernel
theorem dX0_countKeys_17 : decode cX0_countKeys 17 = .ok (.ifCond .eq 6, 3) := by decide +kernel
theorem dX0_countKeys_20 : decode cX0_countKeys 20 = .ok (.iinc 1 1, 3) := by decide +kernel
theorem dX0_countKeys_23 : decode cX0_countKeys 23 = .ok (.iinc 2 1, 3) := by decide +kernel
theorem dX0_countKeys_26 : decode cX0_countKeys 26 = .ok (.goto (-22), 3) := by decide +kernel
theorem dX0_countKeys_29 : decode cX0_countKeys 29 = .ok (.iload_n 1, 1) := by decide +kernel
theorem dX0_countKeys_30 : decode cX0_countKeys 30 = .ok (.ireturn, 1) := by decide +kernel
set_option maxRecDepth 100000 in
set_option maxHeartbeats 4000000 in
theorem C_X0_countKeys (l : Launch) (E : gE) (x : gX) {o : Nat} (ho : gOk o) {M : gM} {r : Int32} (hf : f_X0_countKeys o M = some r) : gM0 l E yX0_countKeys (.code yX0_countKeys cX0_countKeys 3 (some .int)) (gR 3 64) M x [.ref (E.2.1 (o + 1))] (some (.int r)) M := by
  refine gMet (by decide +kernel) (Nat.le_of_ble_eq_true rfl) ?_
  intro p e s m args below meth c H locs ls Q hC hl hI kr kv
  replace hC : gC p s m args c cX0_countKeys 3 RX0 E := hC
  replace hl : lv_has ls 3 [(0, .ref (E.2.1 (o + 1)))] := hl
  have hx := hC.1
  have hb := hC.2.1
  have L4 : ∀ (n : Nat) (v2 : Int32) (v1 : Int32), f_X0_countKeys_L4 o M n v2 v1 = some r → ∀ (H : Heap) (locs : List Loc) (ls : Array Slot), gI E s M x H locs → lv_has ls 3 [(2, .int v2), (1, .int v1), (0, .ref (E.2.1 (o + 1)))] → W p l e (gR 3 64) s m args below meth c H locs 0 0 Q (F0 m 4 ls []) := by
    intro  n
    induction n with
    | zero => intro v2 v1 hf; rw [f_X0_countKeys_L4] at hf; cases hf
    | succ n ih =>
      intro v2 v1 hf H locs ls hI hl
      rw [f_X0_countKeys_L4] at hf
      refine lv_iload_n hx hb dX0_countKeys_4 rfl (lv_at hl 0 rfl) ?_
      refine lv_aload_n hx hb dX0_countKeys_5 rfl (lv_at hl 2 rfl) ?_
      refine gt_X0_X0_count hC hI ho dX0_countKeys_6 ?_
      refine lv_icmp_ge (tgt := 29) hx hb dX0_countKeys_9 rfl (fun h1 => ?_) (fun h1 => ?_)
      · replace hf := gif h1 hf
        refine lv_iload_n hx hb dX0_countKeys_29 rfl (lv_at hl 1 rfl) ?_
        exact kr _ _ _ _ _ _ (gri hf) hI ⟨.int, rfl, rfl⟩ dX0_countKeys_30
      · replace hf := gifn h1 hf
        refine lv_aload_n hx hb dX0_countKeys_12 rfl (lv_at hl 2 rfl) ?_
        refine lv_iload_n hx hb dX0_countKeys_13 rfl (lv_at hl 0 rfl) ?_
        obtain ⟨r2, hr3, hf⟩ := gbind hf
        have hr3 := C_X0_isFirstWithKey l E x ho hr3
        refine g_callVi (rest := []) hC hI hr3 Y_X0_isFirstWithKey V_X0_isFirstWithKey w746 (rcv_X0 hC hI ho) ⟨rfl, rfl⟩ ⟨Nat.le_of_ble_eq_true rfl, Nat.le_of_ble_eq_true rfl⟩ rfl hl.1 rfl (Nat.le_of_ble_eq_true rfl) dX0_countKeys_14 ⟨Nat.le_of_ble_eq_true rfl, Nat.le_of_ble_eq_true rfl⟩ (fun H locs hI => ?_)
        refine lv_if_eq (tgt := 23) hx hb dX0_countKeys_17 rfl (fun h4 => ?_) (fun h4 => ?_)
        · replace hf := gif h4 hf
          refine lv_iinc (k := 0) (v := v2 + 1) (lv' := [(2, .int (v2 + 1)), (1, .int v1), (0, .ref (E.2.1 (o + 1)))]) hx hb dX0_countKeys_23 hl rfl rfl (by decide) rfl (fun ls hl => ?_)
          refine lv_goto (tgt := 4) hx hb dX0_countKeys_26 rfl ?_
          exact ih (v2 + 1) v1 hf _ _ _ hI (lv_sub hl [0, 1, 2] rfl)
        · replace hf := gifn h4 hf
          refine lv_iinc (k := 1) (v := v1 + 1) (lv' := [(1, .int (v1 + 1)), (2, .int v2), (0, .ref (E.2.1 (o + 1)))]) hx hb dX0_countKeys_20 hl rfl rfl (by decide) rfl (fun ls hl => ?_)
          refine lv_iinc (k := 1) (v := v2 + 1) (lv' := [(2, .int (v2 + 1)), (1, .int (v1 + 1)), (0, .ref (E.2.1 (o + 1)))]) hx hb dX0_countKeys_23 hl rfl rfl (by decide) rfl (fun ls hl => ?_)
          refine lv_goto (tgt := 4) hx hb dX0_countKeys_26 rfl ?_
          exact ih (v2 + 1) (v1 + 1) hf _ _ _ hI (lv_sub hl [0, 1, 2] rfl)
  unfold f_X0_countKeys at hf
  refine lv_iconst (v := 0) hx hb dX0_countKeys_0 (by decide) ?_
  refine lv_istore_n (lv' := [(1, .int 0), (0, .ref (E.2.1 (o + 1)))]) hx hb dX0_countKeys_1 rfl hl (by decide) rfl (fun ls hl => ?_)
  refine lv_iconst (v := 0) hx hb dX0_countKeys_2 (by decide) ?_
  refine lv_istore_n (lv' := [(2, .int 0), (1, .int 0), (0, .ref (E.2.1 (o + 1)))]) hx hb dX0_countKeys_3 rfl hl (by decide) rfl (fun ls hl => ?_)
  exact L4 gF 0 0 hf _ _ _ hI (lv_sub hl [0, 1, 2] rfl)
theorem dX6_differentKeys_0 : decode cX6_differentKeys 0 = .ok (.aload_n 0, 1) := by decide +kernel
theorem dX6_differentKeys_1 : decode cX6_differentKeys 1 = .ok (.getfield 10, 3) := by decide +kernel
theorem dX6_differentKeys_4 : decode cX6_differentKeys 4 = .ok (.getfield 108, 3) := by decide +kernel
theorem dX6_differentKeys_7 : decode cX6_differentKeys 7 = .ok (.invokevirtual 249, 3) := by decide +kernel
theorem dX6_differentKeys_10 : decode cX6_differentKeys 10 = .ok (.ireturn, 1) := by decide +kernel
set_option maxRecDepth 100000 in
set_option maxHeartbeats 4000000 in
theorem C_X6_differentKeys (l : Launch) (E : gE) (x : gX) {M : gM} {r : Int32} (hf : f_X6_differentKeys M = some r) : gM0 l E yX6_differentKeys (.code yX6_differentKeys cX6_differentKeys 1 (some .int)) (gR 4 86) M x [.ref (E.2.1 132)] (some (.int r)) M := by
  refine gMet (by decide +kernel) (Nat.le_of_ble_eq_true rfl) ?_
  intro p e s m args below meth c H locs ls Q hC hl hI kr kv
  replace hC : gC p s m args c cX6_differentKeys 1 RX6 E := hC
  replace hl : lv_has ls 1 [(0, .ref (E.2.1 132))] := hl
  have hx := hC.1
  have hb := hC.2.1
  unfold f_X6_differentKeys at hf
  refine lv_aload_n hx hb dX6_differentKeys_0 rfl (lv_at hl 0 rfl) ?_
  refine gt_X6_X6_now hC hI dX6_differentKeys_1 ?_
  refine gt_X6_X5_cargo hC hI gOk_0 dX6_differentKeys_4 ?_
  obtain ⟨r1, hr2, hf⟩ := gbind hf
  have hr2 := C_X0_countKeys l E x gOk_0 hr2
  refine g_callVi (rest := []) hC hI hr2 Y_X0_countKeys V_X0_countKeys w742 (rcv_X0 hC hI gOk_0) ⟨rfl, rfl⟩ ⟨Nat.le_of_ble_eq_true rfl, Nat.le_of_ble_eq_true rfl⟩ rfl hl.1 rfl (Nat.le_of_ble_eq_true rfl) dX6_differentKeys_7 ⟨Nat.le_of_ble_eq_true rfl, Nat.le_of_ble_eq_true rfl⟩ (fun H locs hI => ?_)
  exact kr _ _ _ _ _ _ (gri hf) hI ⟨.int, rfl, rfl⟩ dX6_differentKeys_10
theorem dX0_areTwins_0 : decode cX0_areTwins 0 = .ok (.aload_n 0, 1) := by decide +kernel
theorem dX0_areTwins_1 : decode cX0_areTwins 1 = .ok (.iload_n 1, 1) := by decide +kernel
theorem dX0_areTwins_2 : decode cX0_areTwins 2 = .ok (.invokevirtual 60, 3) := by decide +kernel
theorem dX0_areTwins_5 : decode cX0_areTwins 5 = .ok (.aload_n 0, 1) := by decide +kernel
theorem dX0_areTwins_6 : decode cX0_areTwins 6 = .ok (.iload_n 2, 1) := by decide +kernel
theorem dX0_areTwins_7 : decode cX0_areTwins 7 = .ok (.invokevirtual 60, 3) := by decide +kernel
theorem dX0_areTwins_10 : decode cX0_areTwins 10 = .ok (.if_icmp .ne 20, 3) := by decide +kernel
theorem dX0_areTwins_13 : decode cX0_areTwins 13 = .ok (.aload_n 0, 1) := by decide +kernel
theorem dX0_areTwins_14 : decode cX0_areTwins 14 = .ok (.iload_n 1, 1) := by decide +kernel
theorem dX0_areTwins_15 : decode cX0_areTwins 15 = .ok (.invokevirtual 63, 3) := by decide +kernel
theorem dX0_areTwins_18 : decode cX0_areTwins 18 = .ok (.aload_n 0, 1) := by decide +kernel
theorem dX0_areTwins_19 : decode cX0_areTwins 19 = .ok (.iload_n 2, 1) := by decide +kernel
theorem dX0_areTwins_20 : decode cX0_areTwins 20 = .ok (.invokevirtual 63, 3) := by decide +kernel
theorem dX0_areTwins_23 : decode cX0_areTwins 23 = .ok (.if_icmp .ne 7, 3) := by decide +kernel
theorem dX0_areTwins_26 : decode cX0_areTwins 26 = .ok (.iconst 1, 1) := by decide +kernel
theorem dX0_areTwins_27 : decode cX0_areTwins 27 = .ok (.goto 4, 3) := by decide +kernel
theorem dX0_areTwins_30 : decode cX0_areTwins 30 = .ok (.iconst 0, 1) := by decide +kernel
theorem dX0_areTwins_31 : decode cX0_areTwins 31 = .ok (.ireturn, 1) := by decide +kernel
set_option maxRecDepth 100000 in
set_option maxHeartbeats 4000000 in
theorem C_X0_areTwins (l : Launch) (E : gE) (x : gX) {o : Nat} (ho : gOk o) {v1 v2 : Int32} {M : gM} {r : Bool} (hf : f_X0_areTwins o v1 v2 M = some r) : gM0 l E yX0_areTwins (.code yX0_areTwins cX0_areTwins 3 (some .boolean)) (gR 2 42) M x [.ref (E.2.1 (o + 1)), .int v1, .int v2] (some (.int (gb r))) M := by
  refine gMet (by decide +kernel) (Nat.le_of_ble_eq_true rfl) ?_
  intro p e s m args below meth c H locs ls Q hC hl hI kr kv
  replace hC : gC p s m args c cX0_areTwins 3 RX0 E := hC
  replace hl : lv_has ls 3 [(0, .ref (E.2.1 (o + 1))), (1, .int v1), (2, .int v2)] := hl
  have hx := hC.1
  have hb := hC.2.1
  unfold f_X0_areTwins at hf
  refine lv_aload_n hx hb dX0_areTwins_0 rfl (lv_at hl 0 rfl) ?_
  refine lv_iload_n hx hb dX0_areTwins_1 rfl (lv_at hl 1 rfl) ?_
  obtain ⟨r1, hr2, hf⟩ := gbind hf
  have hr2 := C_X0_key l E x ho hr2
  refine g_callVi (rest := []) hC hI hr2 Y_X0_key V_X0_key w430 (rcv_X0 hC hI ho) ⟨rfl, rfl⟩ ⟨Nat.le_of_ble_eq_true rfl, Nat.le_of_ble_eq_true rfl⟩ rfl hl.1 rfl (Nat.le_of_ble_eq_true rfl) dX0_areTwins_2 ⟨Nat.le_of_ble_eq_true rfl, Nat.le_of_ble_eq_true rfl⟩ (fun H locs hI => ?_)
  refine lv_aload_n hx hb dX0_areTwins_5 rfl (lv_at hl 0 rfl) ?_
  refine lv_iload_n hx hb dX0_areTwins_6 rfl (lv_at hl 2 rfl) ?_
  obtain ⟨r3, hr4, hf⟩ := gbind hf
  have hr4 := C_X0_key l E x ho hr4
  refine g_callVi (rest := [.int r1]) hC hI hr4 Y_X0_key V_X0_key w430 (rcv_X0 hC hI ho) ⟨rfl, rfl⟩ ⟨Nat.le_of_ble_eq_true rfl, Nat.le_of_ble_eq_true rfl⟩ rfl hl.1 rfl (Nat.le_of_ble_eq_true rfl) dX0_areTwins_7 ⟨Nat.le_of_ble_eq_true rfl, Nat.le_of_ble_eq_true rfl⟩ (fun H locs hI => ?_)
  refine lv_icmp_ne (tgt := 30) hx hb dX0_areTwins_10 rfl (fun h5 => ?_) (fun h5 => ?_)
  · replace hf := gifn h5 hf
    refine lv_iconst (v := 0) hx hb dX0_areTwins_30 (by decide) ?_
    exact kr _ _ _ _ _ _ (grb0 hf) hI ⟨.boolean, rfl, rfl⟩ dX0_areTwins_31
  · replace hf := gif h5 hf
    refine lv_aload_n hx hb dX0_areTwins_13 rfl (lv_at hl 0 rfl) ?_
    refine lv_iload_n hx hb dX0_areTwins_14 rfl (lv_at hl 1 rfl) ?_
    obtain ⟨r6, hr7, hf⟩ := gbind hf
    have hr7 := C_X0_weight l E x ho hr7
    refine g_callVi (rest := []) hC hI hr7 Y_X0_weight V_X0_weight w438 (rcv_X0 hC hI ho) ⟨rfl, rfl⟩ ⟨Nat.le_of_ble_eq_true rfl, Nat.le_of_ble_eq_true rfl⟩ rfl hl.1 rfl (Nat.le_of_ble_eq_true rfl) dX0_areTwins_15 ⟨Nat.le_of_ble_eq_true rfl, Nat.le_of_ble_eq_true rfl⟩ (fun H locs hI => ?_)
    refine lv_aload_n hx hb dX0_areTwins_18 rfl (lv_at hl 0 rfl) ?_
    refine lv_iload_n hx hb dX0_areTwins_19 rfl (lv_at hl 2 rfl) ?_
    obtain ⟨r8, hr9, hf⟩ := gbind hf
    have hr9 := C_X0_weight l E x ho hr9
    refine g_callVi (rest := [.int r6]) hC hI hr9 Y_X0_weight V_X0_weight w438 (rcv_X0 hC hI ho) ⟨rfl, rfl⟩ ⟨Nat.le_of_ble_eq_true rfl, Nat.le_of_ble_eq_true rfl⟩ rfl hl.1 rfl (Nat.le_of_ble_eq_true rfl) dX0_areTwins_20 ⟨Nat.le_of_ble_eq_true rfl, Nat.le_of_ble_eq_true rfl⟩ (fun H locs hI => ?_)
    refine lv_icmp_ne (tgt := 30) hx hb dX0_areTwins_23 rfl (fun h10 => ?_) (fun h10 => ?_)
    · replace hf := gifn h10 hf
      refine lv_iconst (v := 0) hx hb dX0_areTwins_30 (by decide) ?_
      exact kr _ _ _ _ _ _ (grb0 hf) hI ⟨.boolean, rfl, rfl⟩ dX0_areTwins_31
    · replace hf := gif h10 hf
      refine lv_iconst (v := 1) hx hb dX0_areTwins_26 (by decide) ?_
      refine lv_goto (tgt := 31) hx hb dX0_areTwins_27 rfl ?_
      exact kr _ _ _ _ _ _ (grb1 hf) hI ⟨.boolean, rfl, rfl⟩ dX0_areTwins_31
theorem dX0_twinsByPairs_0 : decode cX0_twinsByPairs 0 = .ok (.iconst 0, 1) := by decide +kernel
theorem dX0_twinsByPairs_1 : decode cX0_twinsByPairs 1 = .ok (.istore_n 1, 1) := by decide +kernel
theorem dX0_twinsByPairs_2 : decode cX0_twinsByPairs 2 = .ok (.iconst 1, 1) := by decide +kernel
theorem dX0_twinsByPairs_3 : decode cX0_twinsByPairs 3 = .ok (.istore_n 2, 1) := by decide +kernel
theorem dX0_twinsByPairs_4 : decode cX0_twinsByPairs 4 = .ok (.iload_n 2, 1) := by decide +kernel
theorem dX0_twinsByPairs_5 : decode cX0_twinsByPairs 5 = .ok (.aload_n 0, 1) := by decide +kernel
theorem dX0_twinsByPairs_6 : decode cX0_twinsByPairs 6 = .ok (.getfield 30, 3) := by decide +kernel
theorem dX0_twinsByPairs_9 : decode cX0_twinsByPairs 9 = .ok (.if_icmp .ge 34, 3) := by decide +kernel
theorem dX0_twinsByPairs_12 : decode cX0_twinsByPairs 12 = .ok (.iconst 0, 1) := by decide +kernel
theorem dX0_twinsByPairs_13 : decode cX0_twinsByPairs 13 = .ok (.istore_n 3, 1) := by decide +kernel
theorem dX0_twinsByPairs_14 : decode cX0_twinsByPairs 14 = .ok (.iload_n 3, 1) := by decide +kernel
theorem dX0_twinsByPairs_15 : decode cX0_twinsByPairs 15 = .ok (.iload_n 2, 1) := by decide +kernel
theorem dX0_twinsByPairs_16 : decode cX0_twinsByPairs 16 = .ok (.if_icmp .ge 21, 3) := by decide +kernel
theorem dX0_twinsByPairs_19 : decode cX0_twinsByPairs 19 = .ok (.aload_n 0, 1) := by decide +kernel
theorem dX0_twinsByPairs_20 : decode cX0_twinsByPairs 20 = .ok (.iload_n 3, 1) := by decide +kernel
theorem dX0_twinsByPairs_21 : decode cX0_twinsByPairs 21 = .ok (.iload_n 2, 1) := by decide +kernel
theorem dX0_twinsByPairs_22 : decode cX0_twinsByPairs 22 = .ok (.invokevirtual 100, 3) := by decide +kernel
theorem dX0_twinsByPairs_25 : decode cX0_twinsByPairs 25 = .ok (.ifCond .eq 6, 3) := by decide +kernel
theorem dX0_twinsByPairs_28 : decode cX0_twinsByPairs 28 = .ok (.iinc 1 1, 3) := by decide +kernel
theorem dX0_twinsByPairs_31 : decode cX0_twinsByPairs 31 = .ok (.iinc 3 1, 3) := by decide +kernel
theorem dX0_twinsByPairs_34 : decode cX0_twinsByPairs 34 = .ok (.goto (-20), 3) := by decide +kernel
theorem dX0_twinsByPairs_37 : decode cX0_twinsByPairs 37 = .ok (.iinc 2 1, 3) := by decide +kernel
theorem dX0_twinsByPairs_40 : decode cX0_twinsByPairs 40 = .ok (.goto (-36), 3) := by decide +kernel
theorem dX0_twinsByPairs_43 : decode cX0_twinsByPairs 43 = .ok (.iload_n 1, 1) := by decide +kernel
theorem dX0_twinsByPairs_44 : decode cX0_twinsByPairs 44 = .ok (.ireturn, 1) := by decide +kernel
set_option maxRecDepth 100000 in
set_option maxHeartbeats 4000000 in
theorem C_X0_twinsByPairs (l : Launch) (E : gE) (x : gX) {o : Nat} (ho : gOk o) {M : gM} {r : Int32} (hf : f_X0_twinsByPairs o M = some r) : gM0 l E yX0_twinsByPairs (.code yX0_twinsByPairs cX0_twinsByPairs 4 (some .int)) (gR 3 64) M x [.ref (E.2.1 (o + 1))] (some (.int r)) M := by
  refine gMet (by decide +kernel) (Nat.le_of_ble_eq_true rfl) ?_
  intro p e s m args below meth c H locs ls Q hC hl hI kr kv
  replace hC : gC p s m args c cX0_twinsByPairs 4 RX0 E := hC
  replace hl : lv_has ls 4 [(0, .ref (E.2.1 (o + 1)))] := hl
  have hx := hC.1
  have hb := hC.2.1
  have L14 : ∀ (v2 : Int32) (n : Nat) (v3 : Int32) (v1 : Int32) (q : Int32 × Int32), f_X0_twinsByPairs_L14 o M v2 n v3 v1 = some q → ∀ (H : Heap) (locs : List Loc) (ls : Array Slot), gI E s M x H locs → lv_has ls 4 [(3, .int v3), (2, .int v2), (1, .int v1), (0, .ref (E.2.1 (o + 1)))] → (∀ (H : Heap) (locs : List Loc) (ls : Array Slot), gI E s M x H locs → lv_has ls 4 [(3, .int q.1), (2, .int v2), (1, .int q.2), (0, .ref (E.2.1 (o + 1)))] → W p l e (gR 3 64) s m args below meth c H locs 0 0 Q (F0 m 37 ls [])) → W p l e (gR 3 64) s m args below meth c H locs 0 0 Q (F0 m 14 ls []) := by
    intro v2 n
    induction n with
    | zero => intro v3 v1 q hf; rw [f_X0_twinsByPairs_L14] at hf; cases hf
    | succ n ih =>
      intro v3 v1 q hf H locs ls hI hl hk
      rw [f_X0_twinsByPairs_L14] at hf
      refine lv_iload_n hx hb dX0_twinsByPairs_14 rfl (lv_at hl 0 rfl) ?_
      refine lv_iload_n hx hb dX0_twinsByPairs_15 rfl (lv_at hl 1 rfl) ?_
      refine lv_icmp_ge (tgt := 37) hx hb dX0_twinsByPairs_16 rfl (fun h2 => ?_) (fun h2 => ?_)
      · replace hf := gif h2 hf
        obtain rfl := Option.some.inj hf
        exact hk _ _ _ hI (lv_sub hl [0, 1, 2, 3] rfl)
      · replace hf := gifn h2 hf
        refine lv_aload_n hx hb dX0_twinsByPairs_19 rfl (lv_at hl 3 rfl) ?_
        refine lv_iload_n hx hb dX0_twinsByPairs_20 rfl (lv_at hl 0 rfl) ?_
        refine lv_iload_n hx hb dX0_twinsByPairs_21 rfl (lv_at hl 1 rfl) ?_
        obtain ⟨r3, hr4, hf⟩ := gbind hf
        have hr4 := C_X0_areTwins l E x ho hr4
        refine g_callVi (rest := []) hC hI hr4 Y_X0_areTwins V_X0_areTwins w758 (rcv_X0 hC hI ho) ⟨rfl, rfl⟩ ⟨Nat.le_of_ble_eq_true rfl, Nat.le_of_ble_eq_true rfl⟩ rfl hl.1 rfl (Nat.le_of_ble_eq_true rfl) dX0_twinsByPairs_22 ⟨Nat.le_of_ble_eq_true rfl, Nat.le_of_ble_eq_true rfl⟩ (fun H locs hI => ?_)
        refine lv_if_eq (tgt := 31) hx hb dX0_twinsByPairs_25 rfl (fun h5 => ?_) (fun h5 => ?_)
        · replace hf := gif h5 hf
          refine lv_iinc (k := 0) (v := v3 + 1) (lv' := [(3, .int (v3 + 1)), (2, .int v2), (1, .int v1), (0, .ref (E.2.1 (o + 1)))]) hx hb dX0_twinsByPairs_31 hl rfl rfl (by decide) rfl (fun ls hl => ?_)
          refine lv_goto (tgt := 14) hx hb dX0_twinsByPairs_34 rfl ?_
          exact ih (v3 + 1) v1 _ hf _ _ _ hI (lv_sub hl [0, 1, 2, 3] rfl) hk
        · replace hf := gifn h5 hf
          refine lv_iinc (k := 2) (v := v1 + 1) (lv' := [(1, .int (v1 + 1)), (3, .int v3), (2, .int v2), (0, .ref (E.2.1 (o + 1)))]) hx hb dX0_twinsByPairs_28 hl rfl rfl (by decide) rfl (fun ls hl => ?_)
          refine lv_iinc (k := 1) (v := v3 + 1) (lv' := [(3, .int (v3 + 1)), (1, .int (v1 + 1)), (2, .int v2), (0, .ref (E.2.1 (o + 1)))]) hx hb dX0_twinsByPairs_31 hl rfl rfl (by decide) rfl (fun ls hl => ?_)
          refine lv_goto (tgt := 14) hx hb dX0_twinsByPairs_34 rfl ?_
          exact ih (v3 + 1) (v1 + 1) _ hf _ _ _ hI (lv_sub hl [0, 2, 1, 3] rfl) hk
  have L4 : ∀ (n : Nat) (v2 : Int32) (v1 : Int32), f_X0_twinsByPairs_L4 o M n v2 v1 = some r → ∀ (H : Heap) (locs : List Loc) (ls : Array Slot), gI E s M x H locs → lv_has ls 4 [(2, .int v2), (1, .int v1), (0, .ref (E.2.1 (o + 1)))] → W p l e (gR 3 64) s m args below meth c H locs 0 0 Q (F0 m 4 ls []) := by
    intro  n
    induction n with
    | zero => intro v2 v1 hf; rw [f_X0_twinsByPairs_L4] at hf; cases hf
    | succ n ih =>
      intro v2 v1 hf H locs ls hI hl
      rw [f_X0_twinsByPairs_L4] at hf
      refine lv_iload_n hx hb dX0_twinsByPairs_4 rfl (lv_at hl 0 rfl) ?_
      refine lv_aload_n hx hb dX0_twinsByPairs_5 rfl (lv_at hl 2 rfl) ?_
      refine gt_X0_X0_count hC hI ho dX0_twinsByPairs_6 ?_
      refine lv_icmp_ge (tgt := 43) hx hb dX0_twinsByPairs_9 rfl (fun h1 => ?_) (fun h1 => ?_)
      · replace hf := gif h1 hf
        refine lv_iload_n hx hb dX0_twinsByPairs_43 rfl (lv_at hl 1 rfl) ?_
        exact kr _ _ _ _ _ _ (gri hf) hI ⟨.int, rfl, rfl⟩ dX0_twinsByPairs_44
      · replace hf := gifn h1 hf
        refine lv_iconst (v := 0) hx hb dX0_twinsByPairs_12 (by decide) ?_
        refine lv_istore_n (lv' := [(3, .int 0), (2, .int v2), (1, .int v1), (0, .ref (E.2.1 (o + 1)))]) hx hb dX0_twinsByPairs_13 rfl hl (by decide) rfl (fun ls hl => ?_)
        obtain ⟨q6, hq6, hf⟩ := gbind hf
        refine L14 v2 gF 0 v1 q6 hq6 _ _ _ hI (lv_sub hl [0, 1, 2, 3] rfl) (fun H locs ls hI hl => ?_)
        try simp only at hI hl
        refine lv_iinc (k := 1) (v := v2 + 1) (lv' := [(2, .int (v2 + 1)), (3, .int q6.1), (1, .int q6.2), (0, .ref (E.2.1 (o + 1)))]) hx hb dX0_twinsByPairs_37 hl rfl rfl (by decide) rfl (fun ls hl => ?_)
        refine lv_goto (tgt := 4) hx hb dX0_twinsByPairs_40 rfl ?_
        exact ih (v2 + 1) q6.2 hf _ _ _ hI (lv_sub hl [0, 2, 3] rfl)
  unfold f_X0_twinsByPairs at hf
  refine lv_iconst (v := 0) hx hb dX0_twinsByPairs_0 (by decide) ?_
  refine lv_istore_n (lv' := [(1, .int 0), (0, .ref (E.2.1 (o + 1)))]) hx hb dX0_twinsByPairs_1 rfl hl (by decide) rfl (fun ls hl => ?_)
  refine lv_iconst (v := 1) hx hb dX0_twinsByPairs_2 (by decide) ?_
  refine lv_istore_n (lv' := [(2, .int 1), (1, .int 0), (0, .ref (E.2.1 (o + 1)))]) hx hb dX0_twinsByPairs_3 rfl hl (by decide) rfl (fun ls hl => ?_)
  exact L4 gF 1 0 hf _ _ _ hI (lv_sub hl [0, 1, 2] rfl)
theorem dX6_keyTwins_0 : decode cX6_keyTwins 0 = .ok (.aload_n 0, 1) := by decide +kernel
theorem dX6_keyTwins_1 : decode cX6_keyTwins 1 = .ok (.getfield 10, 3) := by decide +kernel
theorem dX6_keyTwins_4 : decode cX6_keyTwins 4 = .ok (.getfield 108, 3) := by decide +kernel
theorem dX6_keyTwins_7 : decode cX6_keyTwins 7 = .ok (.invokevirtual 252, 3) := by decide +kernel
theorem dX6_keyTwins_10 : decode cX6_keyTwins 10 = .ok (.ireturn, 1) := by decide +kernel
set_option maxRecDepth 100000 in
set_option maxHeartbeats 4000000 in
theorem C_X6_keyTwins (l : Launch) (E : gE) (x : gX) {M : gM} {r : Int32} (hf : f_X6_keyTwins M = some r) : gM0 l E yX6_keyTwins (.code yX6_keyTwins cX6_keyTwins 1 (some .int)) (gR 4 87) M x [.ref (E.2.1 132)] (some (.int r)) M := by
  refine gMet (by decide +kernel) (Nat.le_of_ble_eq_true rfl) ?_
  intro p e s m args below meth c H locs ls Q hC hl hI kr kv
  replace hC : gC p s m args c cX6_keyTwins 1 RX6 E := hC
  replace hl : lv_has ls 1 [(0, .ref (E.2.1 132))] := hl
  have hx := hC.1
  have hb := hC.2.1
  unfold f_X6_keyTwins at hf
  refine lv_aload_n hx hb dX6_keyTwins_0 rfl (lv_at hl 0 rfl) ?_
  refine gt_X6_X6_now hC hI dX6_keyTwins_1 ?_
  refine gt_X6_X5_cargo hC hI gOk_0 dX6_keyTwins_4 ?_
  obtain ⟨r1, hr2, hf⟩ := gbind hf
  have hr2 := C_X0_twinsByPairs l E x gOk_0 hr2
  refine g_callVi (rest := []) hC hI hr2 Y_X0_twinsByPairs V_X0_twinsByPairs w754 (rcv_X0 hC hI gOk_0) ⟨rfl, rfl⟩ ⟨Nat.le_of_ble_eq_true rfl, Nat.le_of_ble_eq_true rfl⟩ rfl hl.1 rfl (Nat.le_of_ble_eq_true rfl) dX6_keyTwins_7 ⟨Nat.le_of_ble_eq_true rfl, Nat.le_of_ble_eq_true rfl⟩ (fun H locs hI => ?_)
  exact kr _ _ _ _ _ _ (gri hf) hI ⟨.int, rfl, rfl⟩ dX6_keyTwins_10
theorem dX0_startsGroup_0 : decode cX0_startsGroup 0 = .ok (.iconst 0, 1) := by decide +kernel
theorem dX0_startsGroup_1 : decode cX0_startsGroup 1 = .ok (.istore_n 2, 1) := by decide +kernel
theorem dX0_startsGroup_2 : decode cX0_startsGroup 2 = .ok (.iload_n 2, 1) := by decide +kernel
theorem dX0_startsGroup_3 : decode cX0_startsGroup 3 = .ok (.iload_n 1, 1) := by decide +kernel
theorem dX0_startsGroup_4 : decode cX0_startsGroup 4 = .ok (.if_icmp .ge 20, 3) := by decide +kernel
theorem dX0_startsGroup_7 : decode cX0_startsGroup 7 = .ok (.aload_n 0, 1) := by decide +kernel
theorem dX0_startsGroup_8 : decode cX0_startsGroup 8 = .ok (.iload_n 2, 1) := by decide +kernel
theorem dX0_startsGroup_9 : decode cX0_startsGroup 9 = .ok (.iload_n 1, 1) := by decide +kernel
theorem dX0_startsGroup_10 : decode cX0_startsGroup 10 = .ok (.invokevirtual 100, 3) := by decide +kernel
theorem dX0_startsGroup_13 : decode cX0_startsGroup 13 = .ok (.ifCond .eq 5, 3) := by decide +kernel
theorem dX0_startsGroup_16 : decode cX0_startsGroup 16 = .ok (.iconst 0, 1) := by decide +kernel
theorem dX0_startsGroup_17 : decode cX0_startsGroup 17 = .ok (.ireturn, 1) := by decide +kernel
theorem dX0_startsGroup_18 : decode cX0_startsGroup 18 = .ok (.iinc 2 1, 3) := by decide +kernel
theorem dX0_startsGroup_21 : decode cX0_startsGroup 21 = .ok (.goto (-19), 3) := by decide +kernel
theorem dX0_startsGroup_24 : decode cX0_startsGroup 24 = .ok (.iconst 1, 1) := by decide +kernel
theorem dX0_startsGroup_25 : decode cX0_startsGroup 25 = .ok (.ireturn, 1) := by decide +kernel
set_option maxRecDepth 100000 in
set_option maxHeartbeats 4000000 in
theorem C_X0_startsGroup (l : Launch) (E : gE) (x : gX) {o : Nat} (ho : gOk o) {v1 : Int32} {M : gM} {r : Bool} (hf : f_X0_startsGroup o v1 M = some r) : gM0 l E yX0_startsGroup (.code yX0_startsGroup cX0_startsGroup 3 (some .boolean)) (gR 3 64) M x [.ref (E.2.1 (o + 1)), .int v1] (some (.int (gb r))) M := by
  refine gMet (by decide +kernel) (Nat.le_of_ble_eq_true rfl) ?_
  intro p e s m args below meth c H locs ls Q hC hl hI kr kv
  replace hC : gC p s m args c cX0_startsGroup 3 RX0 E := hC
  replace hl : lv_has ls 3 [(0, .ref (E.2.1 (o + 1))), (1, .int v1)] := hl
  have hx := hC.1
  have hb := hC.2.1
  have L2 : ∀ (v1 : Int32) (n : Nat) (v2 : Int32), f_X0_startsGroup_L2 o M v1 n v2 = some r → ∀ (H : Heap) (locs : List Loc) (ls : Array Slot), gI E s M x H locs → lv_has ls 3 [(2, .int v2), (0, .ref (E.2.1 (o + 1))), (1, .int v1)] → W p l e (gR 3 64) s m args below meth c H locs 0 0 Q (F0 m 2 ls []) := by
    intro v1 n
    induction n with
    | zero => intro v2 hf; rw [f_X0_startsGroup_L2] at hf; cases hf
    | succ n ih =>
      intro v2 hf H locs ls hI hl
      rw [f_X0_startsGroup_L2] at hf
      refine lv_iload_n hx hb dX0_startsGroup_2 rfl (lv_at hl 0 rfl) ?_
      refine lv_iload_n hx hb dX0_startsGroup_3 rfl (lv_at hl 2 rfl) ?_
      refine lv_icmp_ge (tgt := 24) hx hb dX0_startsGroup_4 rfl (fun h1 => ?_) (fun h1 => ?_)
      · replace hf := gif h1 hf
        refine lv_iconst (v := 1) hx hb dX0_startsGroup_24 (by decide) ?_
        exact kr _ _ _ _ _ _ (grb1 hf) hI ⟨.boolean, rfl, rfl⟩ dX0_startsGroup_25
      · replace hf := gifn h1 hf
        refine lv_aload_n hx hb dX0_startsGroup_7 rfl (lv_at hl 1 rfl) ?_
        refine lv_iload_n hx hb dX0_startsGroup_8 rfl (lv_at hl 0 rfl) ?_
        refine lv_iload_n hx hb dX0_startsGroup_9 rfl (lv_at hl 2 rfl) ?_
        obtain ⟨r2, hr3, hf⟩ := gbind hf
        have hr3 := C_X0_areTwins l E x ho hr3
        refine g_callVi (rest := []) hC hI hr3 Y_X0_areTwins V_X0_areTwins w758 (rcv_X0 hC hI ho) ⟨rfl, rfl⟩ ⟨Nat.le_of_ble_eq_true rfl, Nat.le_of_ble_eq_true rfl⟩ rfl hl.1 rfl (Nat.le_of_ble_eq_true rfl) dX0_startsGroup_10 ⟨Nat.le_of_ble_eq_true rfl, Nat.le_of_ble_eq_true rfl⟩ (fun H locs hI => ?_)
        refine lv_if_eq (tgt := 18) hx hb dX0_startsGroup_13 rfl (fun h4 => ?_) (fun h4 => ?_)
        · replace hf := gif h4 hf
          refine lv_iinc (k := 0) (v := v2 + 1) (lv' := [(2, .int (v2 + 1)), (0, .ref (E.2.1 (o + 1))), (1, .int v1)]) hx hb dX0_startsGroup_18 hl rfl rfl (by decide) rfl (fun ls hl => ?_)
          refine lv_goto (tgt := 2) hx hb dX0_startsGroup_21 rfl ?_
          exact ih (v2 + 1) hf _ _ _ hI (lv_sub hl [0, 1, 2] rfl)
        · replace hf := gifn h4 hf
          refine lv_iconst (v := 0) hx hb dX0_startsGroup_16 (by decide) ?_
          exact kr _ _ _ _ _ _ (grb0 hf) hI ⟨.boolean, rfl, rfl⟩ dX0_startsGroup_17
  unfold f_X0_startsGroup at hf
  refine lv_iconst (v := 0) hx hb dX0_startsGroup_0 (by decide) ?_
  refine lv_istore_n (lv' := [(2, .int 0), (0, .ref (E.2.1 (o + 1))), (1, .int v1)]) hx hb dX0_startsGroup_1 rfl hl (by decide) rfl (fun ls hl => ?_)
  exact L2 v1 gF 0 hf _ _ _ hI (lv_sub hl [0, 1, 2] rfl)
theorem dX0_groupSize_0 : decode cX0_groupSize 0 = .ok (.iconst 0, 1) := by decide +kernel
theorem dX0_groupSize_1 : decode cX0_groupSize 1 = .ok (.istore_n 2, 1) := by decide +kernel
theorem dX0_groupSize_2 : decode cX0_groupSize 2 = .ok (.iconst 0, 1) := by decide +kernel
theorem dX0_groupSize_3 : decode cX0_groupSize 3 = .ok (.istore_n 3, 1) := by decide +kernel
theorem dX0_groupSize_4 : decode cX0_groupSize 4 = .ok (.iload_n 3, 1) := by decide +kernel
theorem dX0_groupSize_5 : decode cX0_groupSize 5 = .ok (.aload_n 0, 1) := by decide +kernel
theorem dX0_groupSize_6 : decode cX0_groupSize 6 = .ok (.getfield 30, 3) := by decide +kernel
theorem dX0_groupSize_9 : decode cX0_groupSize 9 = .ok (.if_icmp .ge 21, 3) := by decide +kernel
theorem dX0_groupSize_12 : decode cX0_groupSize 12 = .ok (.aload_n 0, 1) := by decide +kernel
theorem dX0_groupSize_13 : decode cX0_groupSize 13 = .ok (.iload_n 3, 1) := by decide +kernel
theorem dX0_groupSize_14 : decode cX0_groupSize 14 = .ok (.iload_n 1, 1) := by decide +kernel
theorem dX0_groupSize_15 : decode cX0_groupSize 15 = .ok (.invokevirtual 100, 3) := by decide +kernel
theorem dX0_groupSize_18 : decode cX0_groupSize 18 = .ok (.ifCond .eq 6, 3) := by decide +kernel
theorem dX0_groupSize_21 : decode cX0_groupSize 21 = .ok (.iinc 2 1, 3) := by decide +kernel
theorem dX0_groupSize_24 : decode cX0_groupSize 24 = .ok (.iinc 3 1, 3) := by decide +kernel
theorem dX0_groupSize_27 : decode cX0_groupSize 27 = .ok (.goto (-23), 3) := by decide +kernel
theorem dX0_groupSize_30 : decode cX0_groupSize 30 = .ok (.iload_n 2, 1) := by decide +kernel
theorem dX0_groupSize_31 : decode cX0_groupSize 31 = .ok (.ireturn, 1) := by decide +kernel
set_option maxRecDepth 100000 in
set_option maxHeartbeats 4000000 in
theorem C_X0_groupSize (l : Launch) (E : gE) (x : gX) {o : Nat} (ho : gOk o) {v1 : Int32} {M : gM} {r : Int32} (hf : f_X0_groupSize o v1 M = some r) : gM0 l E yX0_groupSize (.code yX0_groupSize cX0_groupSize 4 (some .int)) (gR 3 64) M x [.ref (E.2.1 (o + 1)), .int v1] (some (.int r)) M := by
  refine gMet (by decide +kernel) (Nat.le_of_ble_eq_true rfl) ?_
  intro p e s m args below meth c H locs ls Q hC hl hI kr kv
  replace hC : gC p s m args c cX0_groupSize 4 RX0 E := hC
  replace hl : lv_has ls 4 [(0, .ref (E.2.1 (o + 1))), (1, .int v1)] := hl
  have hx := hC.1
  have hb := hC.2.1
  have L4 : ∀ (v1 : Int32) (n : Nat) (v3 : Int32) (v2 : Int32), f_X0_groupSize_L4 o M v1 n v3 v2 = some r → ∀ (H : Heap) (locs : List Loc) (ls : Array Slot), gI E s M x H locs → lv_has ls 4 [(3, .int v3), (2, .int v2), (0, .ref (E.2.1 (o + 1))), (1, .int v1)] → W p l e (gR 3 64) s m args below meth c H locs 0 0 Q (F0 m 4 ls []) := by
    intro v1 n
    induction n with
    | zero => intro v3 v2 hf; rw [f_X0_groupSize_L4] at hf; cases hf
    | succ n ih =>
      intro v3 v2 hf H locs ls hI hl
      rw [f_X0_groupSize_L4] at hf
      refine lv_iload_n hx hb dX0_groupSize_4 rfl (lv_at hl 0 rfl) ?_
      refine lv_aload_n hx hb dX0_groupSize_5 rfl (lv_at hl 2 rfl) ?_
      refine gt_X0_X0_count hC hI ho dX0_groupSize_6 ?_
      refine lv_icmp_ge (tgt := 30) hx hb dX0_groupSize_9 rfl (fun h1 => ?_) (fun h1 => ?_)
      · replace hf := gif h1 hf
        refine lv_iload_n hx hb dX0_groupSize_30 rfl (lv_at hl 1 rfl) ?_
        exact kr _ _ _ _ _ _ (gri hf) hI ⟨.int, rfl, rfl⟩ dX0_groupSize_31
      · replace hf := gifn h1 hf
        refine lv_aload_n hx hb dX0_groupSize_12 rfl (lv_at hl 2 rfl) ?_
        refine lv_iload_n hx hb dX0_groupSize_13 rfl (lv_at hl 0 rfl) ?_
        refine lv_iload_n hx hb dX0_groupSize_14 rfl (lv_at hl 3 rfl) ?_
        obtain ⟨r2, hr3, hf⟩ := gbind hf
        have hr3 := C_X0_areTwins l E x ho hr3
        refine g_callVi (rest := []) hC hI hr3 Y_X0_areTwins V_X0_areTwins w758 (rcv_X0 hC hI ho) ⟨rfl, rfl⟩ ⟨Nat.le_of_ble_eq_true rfl, Nat.le_of_ble_eq_true rfl⟩ rfl hl.1 rfl (Nat.le_of_ble_eq_true rfl) dX0_groupSize_15 ⟨Nat.le_of_ble_eq_true rfl, Nat.le_of_ble_eq_true rfl⟩ (fun H locs hI => ?_)
        refine lv_if_eq (tgt := 24) hx hb dX0_groupSize_18 rfl (fun h4 => ?_) (fun h4 => ?_)
        · replace hf := gif h4 hf
          refine lv_iinc (k := 0) (v := v3 + 1) (lv' := [(3, .int (v3 + 1)), (2, .int v2), (0, .ref (E.2.1 (o + 1))), (1, .int v1)]) hx hb dX0_groupSize_24 hl rfl rfl (by decide) rfl (fun ls hl => ?_)
          refine lv_goto (tgt := 4) hx hb dX0_groupSize_27 rfl ?_
          exact ih (v3 + 1) v2 hf _ _ _ hI (lv_sub hl [0, 1, 2, 3] rfl)
        · replace hf := gifn h4 hf
          refine lv_iinc (k := 1) (v := v2 + 1) (lv' := [(2, .int (v2 + 1)), (3, .int v3), (0, .ref (E.2.1 (o + 1))), (1, .int v1)]) hx hb dX0_groupSize_21 hl rfl rfl (by decide) rfl (fun ls hl => ?_)
          refine lv_iinc (k := 1) (v := v3 + 1) (lv' := [(3, .int (v3 + 1)), (2, .int (v2 + 1)), (0, .ref (E.2.1 (o + 1))), (1, .int v1)]) hx hb dX0_groupSize_24 hl rfl rfl (by decide) rfl (fun ls hl => ?_)
          refine lv_goto (tgt := 4) hx hb dX0_groupSize_27 rfl ?_
          exact ih (v3 + 1) (v2 + 1) hf _ _ _ hI (lv_sub hl [0, 1, 2, 3] rfl)
  unfold f_X0_groupSize at hf
  refine lv_iconst (v := 0) hx hb dX0_groupSize_0 (by decide) ?_
  refine lv_istore_n (lv' := [(2, .int 0), (0, .ref (E.2.1 (o + 1))), (1, .int v1)]) hx hb dX0_groupSize_1 rfl hl (by decide) rfl (fun ls hl => ?_)
  refine lv_iconst (v := 0) hx hb dX0_groupSize_2 (by decide) ?_
  refine lv_istore_n (lv' := [(3, .int 0), (2, .int 0), (0, .ref (E.2.1 (o + 1))), (1, .int v1)]) hx hb dX0_groupSize_3 rfl hl (by decide) rfl (fun ls hl => ?_)
  exact L4 v1 gF 0 0 hf _ _ _ hI (lv_sub hl [0, 1, 2, 3] rfl)
theorem dX0_twinsInGroups_0 : decode cX0_twinsInGroups 0 = .ok (.iconst 0, 1) := by decide +kernel
theorem dX0_twinsInGroups_1 : decode cX0_twinsInGroups 1 = .ok (.istore_n 1, 1) := by decide +kernel
theorem dX0_twinsInGroups_2 : decode cX0_twinsInGroups 2 = .ok (.iconst 0, 1) := by decide +kernel
theorem dX0_twinsInGroups_3 : decode cX0_twinsInGroups 3 = .ok (.istore_n 2, 1) := by decide +kernel
theorem dX0_twinsInGroups_4 : decode cX0_twinsInGroups 4 = .ok (.iload_n 2, 1) := by decide +kernel
theorem dX0_twinsInGroups_5 : decode cX0_twinsInGroups 5 = .ok (.aload_n 0, 1) := by decide +kernel
theorem dX0_twinsInGroups_6 : decode cX0_twinsInGroups 6 = .ok (.getfield 30, 3) := by decide +kernel
theorem dX0_twinsInGroups_9 : decode cX0_twinsInGroups 9 = .ok (.if_icmp .ge 33, 3) := by decide +kernel
theorem dX0_twinsInGroups_12 : decode cX0_twinsInGroups 12 = .ok (.aload_n 0, 1) := by decide +kernel
theorem dX0_twinsInGroups_13 : decode cX0_twinsInGroups 13 = .ok (.iload_n 2, 1) := by decide +kernel
theorem dX0_twinsInGroups_14 : decode cX0_twinsInGroups 14 = .ok (.invokevirtual 103, 3) := by decide +kernel
theorem dX0_twinsInGroups_17 : decode cX0_twinsInGroups 17 = .ok (.ifCond .eq 19, 3) := by decide +kernel
theorem dX0_twinsInGroups_20 : decode cX0_twinsInGroups 20 = .ok (.aload_n 0, 1) := by decide +kernel
theorem dX0_twinsInGroups_21 : decode cX0_twinsInGroups 21 = .ok (.iload_n 2, 1) := by decide +kernel
theorem dX0_twinsInGroups_22 : decode cX0_twinsInGroups 22 = .ok (.invokevirtual 106, 3) := by decide +kernel
theorem dX0_twinsInGroups_25 : decode cX0_twinsInGroups 25 = .ok (.istore_n 3, 1) := by decide +kernel
theorem dX0_twinsInGroups_26 : decode cX0_twinsInGroups 26 = .ok (.iload_n 1, 1) := by decide +kernel
theorem dX0_twinsInGroups_27 : decode cX0_twinsInGroups 27 = .ok (.iload_n 3, 1) := by decide +kernel
theorem dX0_twinsInGroups_28 : decode cX0_twinsInGroups 28 = .ok (.iload_n 3, 1) := by decide +kernel
theorem dX0_twinsInGroups_29 : decode cX0_twinsInGroups 29 = .ok (.iconst 1, 1) := by decide +kernel
theorem dX0_twinsInGroups_30 : decode cX0_twinsInGroups 30 = .ok (.isub, 1) := by decide +kernel
theorem dX0_twinsInGroups_31 : decode cX0_twinsInGroups 31 = .ok (.imul, 1) := by decide +kernel
theorem dX0_twinsInGroups_32 : decode cX0_twinsInGroups 32 = .ok (.iconst 2, 1) := by decide +kernel
theorem dX0_twinsInGroups_33 : decode cX0_twinsInGroups 33 = .ok (.idiv, 1) := by decide +kernel
theorem dX0_twinsInGroups_34 : decode cX0_twinsInGroups 34 = .ok (.iadd, 1) := by decide +kernel
theorem dX0_twinsInGroups_35 : decode cX0_twinsInGroups 35 = .ok (.istore_n 1, 1) := by decide +kernel
theorem dX0_twinsInGroups_36 : decode cX0_twinsInGroups 36 = .ok (.iinc 2 1, 3) := by decide +kernel
theorem dX0_twinsInGroups_39 : decode cX0_twinsInGroups 39 = .ok (.goto (-35), 3) := by decide +kernel
theorem dX0_twinsInGroups_42 : decode cX0_twinsInGroups 42 = .ok (.iload_n 1, 1) := by decide +kernel
theorem dX0_twinsInGroups_43 : decode cX0_twinsInGroups 43 = .ok (.ireturn, 1) := by decide +kernel
set_option maxRecDepth 100000 in
set_option maxHeartbeats 4000000 in
theorem C_X0_twinsInGroups (l : Launch) (E : gE) (x : gX) {o : Nat} (ho : gOk o) {M : gM} {r : Int32} (hf : f_X0_twinsInGroups o M = some r) : gM0 l E yX0_twinsInGroups (.code yX0_twinsInGroups cX0_twinsInGroups 4 (some .int)) (gR 4 87) M x [.ref (E.2.1 (o + 1))] (some (.int r)) M := by
  refine gMet (by decide +kernel) (Nat.le_of_ble_eq_true rfl) ?_
  intro p e s m args below meth c H locs ls Q hC hl hI kr kv
  replace hC : gC p s m args c cX0_twinsInGroups 4 RX0 E := hC
  replace hl : lv_has ls 4 [(0, .ref (E.2.1 (o + 1)))] := hl
  have hx := hC.1
  have hb := hC.2.1
  have L4 : ∀ (n : Nat) (v2 : Int32) (v1 : Int32), f_X0_twinsInGroups_L4 o M n v2 v1 = some r → ∀ (H : Heap) (locs : List Loc) (ls : Array Slot), gI E s M x H locs → lv_has ls 4 [(2, .int v2), (1, .int v1), (0, .ref (E.2.1 (o + 1)))] → W p l e (gR 4 87) s m args below meth c H locs 0 0 Q (F0 m 4 ls []) := by
    intro  n
    induction n with
    | zero => intro v2 v1 hf; rw [f_X0_twinsInGroups_L4] at hf; cases hf
    | succ n ih =>
      intro v2 v1 hf H locs ls hI hl
      rw [f_X0_twinsInGroups_L4] at hf
      refine lv_iload_n hx hb dX0_twinsInGroups_4 rfl (lv_at hl 0 rfl) ?_
      refine lv_aload_n hx hb dX0_twinsInGroups_5 rfl (lv_at hl 2 rfl) ?_
      refine gt_X0_X0_count hC hI ho dX0_twinsInGroups_6 ?_
      refine lv_icmp_ge (tgt := 42) hx hb dX0_twinsInGroups_9 rfl (fun h1 => ?_) (fun h1 => ?_)
      · replace hf := gif h1 hf
        refine lv_iload_n hx hb dX0_twinsInGroups_42 rfl (lv_at hl 1 rfl) ?_
        exact kr _ _ _ _ _ _ (gri hf) hI ⟨.int, rfl, rfl⟩ dX0_twinsInGroups_43
      · replace hf := gifn h1 hf
        refine lv_aload_n hx hb dX0_twinsInGroups_12 rfl (lv_at hl 2 rfl) ?_
        refine lv_iload_n hx hb dX0_twinsInGroups_13 rfl (lv_at hl 0 rfl) ?_
        obtain ⟨r2, hr3, hf⟩ := gbind hf
        have hr3 := C_X0_startsGroup l E x ho hr3
        refine g_callVi (rest := []) hC hI hr3 Y_X0_startsGroup V_X0_startsGroup w770 (rcv_X0 hC hI ho) ⟨rfl, rfl⟩ ⟨Nat.le_of_ble_eq_true rfl, Nat.le_of_ble_eq_true rfl⟩ rfl hl.1 rfl (Nat.le_of_ble_eq_true rfl) dX0_twinsInGroups_14 ⟨Nat.le_of_ble_eq_true rfl, Nat.le_of_ble_eq_true rfl⟩ (fun H locs hI => ?_)
        refine lv_if_eq (tgt := 36) hx hb dX0_twinsInGroups_17 rfl (fun h4 => ?_) (fun h4 => ?_)
        · replace hf := gif h4 hf
          refine lv_iinc (k := 0) (v := v2 + 1) (lv' := [(2, .int (v2 + 1)), (1, .int v1), (0, .ref (E.2.1 (o + 1)))]) hx hb dX0_twinsInGroups_36 hl rfl rfl (by decide) rfl (fun ls hl => ?_)
          refine lv_goto (tgt := 4) hx hb dX0_twinsInGroups_39 rfl ?_
          exact ih (v2 + 1) v1 hf _ _ _ hI (lv_sub hl [0, 1, 2] rfl)
        · replace hf := gifn h4 hf
          refine lv_aload_n hx hb dX0_twinsInGroups_20 rfl (lv_at hl 2 rfl) ?_
          refine lv_iload_n hx hb dX0_twinsInGroups_21 rfl (lv_at hl 0 rfl) ?_
          obtain ⟨r5, hr6, hf⟩ := gbind hf
          have hr6 := C_X0_groupSize l E x ho hr6
          refine g_callVi (rest := []) hC hI hr6 Y_X0_groupSize V_X0_groupSize w774 (rcv_X0 hC hI ho) ⟨rfl, rfl⟩ ⟨Nat.le_of_ble_eq_true rfl, Nat.le_of_ble_eq_true rfl⟩ rfl hl.1 rfl (Nat.le_of_ble_eq_true rfl) dX0_twinsInGroups_22 ⟨Nat.le_of_ble_eq_true rfl, Nat.le_of_ble_eq_true rfl⟩ (fun H locs hI => ?_)
          refine lv_istore_n (lv' := [(3, .int r5), (2, .int v2), (1, .int v1), (0, .ref (E.2.1 (o + 1)))]) hx hb dX0_twinsInGroups_25 rfl hl (by decide) rfl (fun ls hl => ?_)
          refine lv_iload_n hx hb dX0_twinsInGroups_26 rfl (lv_at hl 2 rfl) ?_
          refine lv_iload_n hx hb dX0_twinsInGroups_27 rfl (lv_at hl 0 rfl) ?_
          refine lv_iload_n hx hb dX0_twinsInGroups_28 rfl (lv_at hl 0 rfl) ?_
          refine lv_iconst (v := 1) hx hb dX0_twinsInGroups_29 (by decide) ?_
          refine lv_isub hx hb dX0_twinsInGroups_30 ?_
          refine lv_imul hx hb dX0_twinsInGroups_31 ?_
          refine lv_iconst (v := 2) hx hb dX0_twinsInGroups_32 (by decide) ?_
          refine lv_idiv hx hb dX0_twinsInGroups_33 (by decide) ?_
          refine lv_iadd hx hb dX0_twinsInGroups_34 ?_
          obtain ⟨z7, ez7, hf⟩ := glet hf
          refine g_top ez7 ?_
          refine lv_istore_n (lv' := [(1, .int z7), (3, .int r5), (2, .int v2), (0, .ref (E.2.1 (o + 1)))]) hx hb dX0_twinsInGroups_35 rfl hl (by decide) rfl (fun ls hl => ?_)
          refine lv_iinc (k := 2) (v := v2 + 1) (lv' := [(2, .int (v2 + 1)), (1, .int z7), (3, .int r5), (0, .ref (E.2.1 (o + 1)))]) hx hb dX0_twinsInGroups_36 hl rfl rfl (by decide) rfl (fun ls hl => ?_)
          refine lv_goto (tgt := 4) hx hb dX0_twinsInGroups_39 rfl ?_
          exact ih (v2 + 1) z7 hf _ _ _ hI (lv_sub hl [0, 1, 3] rfl)
  unfold f_X0_twinsInGroups at hf
  refine lv_iconst (v := 0) hx hb dX0_twinsInGroups_0 (by decide) ?_
  refine lv_istore_n (lv' := [(1, .int 0), (0, .ref (E.2.1 (o + 1)))]) hx hb dX0_twinsInGroups_1 rfl hl (by decide) rfl (fun ls hl => ?_)
  refine lv_iconst (v := 0) hx hb dX0_twinsInGroups_2 (by decide) ?_
  refine lv_istore_n (lv' := [(2, .int 0), (1, .int 0), (0, .ref (E.2.1 (o + 1)))]) hx hb dX0_twinsInGroups_3 rfl hl (by decide) rfl (fun ls hl => ?_)
  exact L4 gF 0 0 hf _ _ _ hI (lv_sub hl [0, 1, 2] rfl)
theorem dX6_keyTwinsByGroups_0 : decode cX6_keyTwinsByGroups 0 = .ok (.aload_n 0, 1) := by decide +kernel
theorem dX6_keyTwinsByGroups_1 : decode cX6_keyTwinsByGroups 1 = .ok (.getfield 10, 3) := by decide +kernel
theorem dX6_keyTwinsByGroups_4 : decode cX6_keyTwinsByGroups 4 = .ok (.getfield 108, 3) := by decide +kernel
theorem dX6_keyTwinsByGroups_7 : decode cX6_keyTwinsByGroups 7 = .ok (.invokevirtual 255, 3) := by decide +kernel
theorem dX6_keyTwinsByGroups_10 : decode cX6_keyTwinsByGroups 10 = .ok (.ireturn, 1) := by decide +kernel
set_option maxRecDepth 100000 in
set_option maxHeartbeats 4000000 in
theorem C_X6_keyTwinsByGroups (l : Launch) (E : gE) (x : gX) {M : gM} {r : Int32} (hf : f_X6_keyTwinsByGroups M = some r) : gM0 l E yX6_keyTwinsByGroups (.code yX6_keyTwinsByGroups cX6_keyTwinsByGroups 1 (some .int)) (gR 5 110) M x [.ref (E.2.1 132)] (some (.int r)) M := by
  refine gMet (by decide +kernel) (Nat.le_of_ble_eq_true rfl) ?_
  intro p e s m args below meth c H locs ls Q hC hl hI kr kv
  replace hC : gC p s m args c cX6_keyTwinsByGroups 1 RX6 E := hC
  replace hl : lv_has ls 1 [(0, .ref (E.2.1 132))] := hl
  have hx := hC.1
  have hb := hC.2.1
  unfold f_X6_keyTwinsByGroups at hf
  refine lv_aload_n hx hb dX6_keyTwinsByGroups_0 rfl (lv_at hl 0 rfl) ?_
  refine gt_X6_X6_now hC hI dX6_keyTwinsByGroups_1 ?_
  refine gt_X6_X5_cargo hC hI gOk_0 dX6_keyTwinsByGroups_4 ?_
  obtain ⟨r1, hr2, hf⟩ := gbind hf
  have hr2 := C_X0_twinsInGroups l E x gOk_0 hr2
  refine g_callVi (rest := []) hC hI hr2 Y_X0_twinsInGroups V_X0_twinsInGroups w766 (rcv_X0 hC hI gOk_0) ⟨rfl, rfl⟩ ⟨Nat.le_of_ble_eq_true rfl, Nat.le_of_ble_eq_true rfl⟩ rfl hl.1 rfl (Nat.le_of_ble_eq_true rfl) dX6_keyTwinsByGroups_7 ⟨Nat.le_of_ble_eq_true rfl, Nat.le_of_ble_eq_true rfl⟩ (fun H locs hI => ?_)
  exact kr _ _ _ _ _ _ (gri hf) hI ⟨.int, rfl, rfl⟩ dX6_keyTwinsByGroups_10
theorem dX6_yardCount_0 : decode cX6_yardCount 0 = .ok (.aload_n 0, 1) := by decide +kernel
theorem dX6_yardCount_1 : decode cX6_yardCount 1 = .ok (.getfield 10, 3) := by decide +kernel
theorem dX6_yardCount_4 : decode cX6_yardCount 4 = .ok (.getfield 108, 3) := by decide +kernel
theorem dX6_yardCount_7 : decode cX6_yardCount 7 = .ok (.bipush 12, 2) := by decide +kernel
theorem dX6_yardCount_9 : decode cX6_yardCount 9 = .ok (.invokevirtual 112, 3) := by decide +kernel
theorem dX6_yardCount_12 : decode cX6_yardCount 12 = .ok (.ireturn, 1) := by decide +kernel
set_option maxRecDepth 100000 in
set_option maxHeartbeats 4000000 in
theorem C_X6_yardCount (l : Launch) (E : gE) (x : gX) {M : gM} {r : Int32} (hf : f_X6_yardCount M = some r) : gM0 l E yX6_yardCount (.code yX6_yardCount cX6_yardCount 1 (some .int)) (gR 1 23) M x [.ref (E.2.1 132)] (some (.int r)) M := by
  refine gMet (by decide +kernel) (Nat.le_of_ble_eq_true rfl) ?_
  intro p e s m args below meth c H locs ls Q hC hl hI kr kv
  replace hC : gC p s m args c cX6_yardCount 1 RX6 E := hC
  replace hl : lv_has ls 1 [(0, .ref (E.2.1 132))] := hl
  have hx := hC.1
  have hb := hC.2.1
  unfold f_X6_yardCount at hf
  refine lv_aload_n hx hb dX6_yardCount_0 rfl (lv_at hl 0 rfl) ?_
  refine gt_X6_X6_now hC hI dX6_yardCount_1 ?_
  refine gt_X6_X5_cargo hC hI gOk_0 dX6_yardCount_4 ?_
  refine lv_bipush (v := 12) hx hb dX6_yardCount_7 (by decide) ?_
  obtain ⟨r1, hr2, hf⟩ := gbind hf
  have hr2 := C_X0_height l E x gOk_0 hr2
  refine g_callVi (rest := []) hC hI hr2 Y_X0_height V_X0_height w506 (rcv_X0 hC hI gOk_0) ⟨rfl, rfl⟩ ⟨Nat.le_of_ble_eq_true rfl, Nat.le_of_ble_eq_true rfl⟩ rfl hl.1 rfl (Nat.le_of_ble_eq_true rfl) dX6_yardCount_9 ⟨Nat.le_of_ble_eq_true rfl, Nat.le_of_ble_eq_true rfl⟩ (fun H locs hI => ?_)
  exact kr _ _ _ _ _ _ (gri hf) hI ⟨.int, rfl, rfl⟩ dX6_yardCount_12
theorem dX6_yardAt_0 : decode cX6_yardAt 0 = .ok (.aload_n 0, 1) := by decide +kernel
theorem dX6_yardAt_1 : decode cX6_yardAt 1 = .ok (.getfield 10, 3) := by decide +kernel
theorem dX6_yardAt_4 : decode cX6_yardAt 4 = .ok (.getfield 108, 3) := by decide +kernel
theorem dX6_yardAt_7 : decode cX6_yardAt 7 = .ok (.aload_n 0, 1) := by decide +kernel
theorem dX6_yardAt_8 : decode cX6_yardAt 8 = .ok (.getfield 10, 3) := by decide +kernel
theorem dX6_yardAt_11 : decode cX6_yardAt 11 = .ok (.getfield 108, 3) := by decide +kernel
theorem dX6_yardAt_14 : decode cX6_yardAt 14 = .ok (.bipush 12, 2) := by decide +kernel
theorem dX6_yardAt_16 : decode cX6_yardAt 16 = .ok (.iload_n 1, 1) := by decide +kernel
theorem dX6_yardAt_17 : decode cX6_yardAt 17 = .ok (.invokevirtual 186, 3) := by decide +kernel
theorem dX6_yardAt_20 : decode cX6_yardAt 20 = .ok (.invokestatic 189, 3) := by decide +kernel
theorem dX6_yardAt_23 : decode cX6_yardAt 23 = .ok (.invokevirtual 192, 3) := by decide +kernel
theorem dX6_yardAt_26 : decode cX6_yardAt 26 = .ok (.ireturn, 1) := by decide +kernel
set_option maxRecDepth 100000 in
set_option maxHeartbeats 4000000 in
theorem C_X6_yardAt (l : Launch) (hst : l.stackTraces = false) (E : gE) (x : gX) {v1 : Int32} {M : gM} {oc : String ⊕ Int32} {M' : gM} (hf : f_X6_yardAt v1 M = some (oc, M')) : gX0 l E yX6_yardAt (.code yX6_yardAt cX6_yardAt 2 (some .int)) (gRX 8 130 1 6) M x [.ref (E.2.1 132), .int v1] (gO oc) M' 1 6 := by
  refine gMetX hst (by decide +kernel) (Nat.le_of_ble_eq_true rfl) ?_
  intro p e s m args below meth c H locs ls Q hC hl hI kr kv kx kt kd kf
  replace hC : gC p s m args c cX6_yardAt 2 RX6 E := hC
  replace hl : lv_has ls 2 [(0, .ref (E.2.1 132)), (1, .int v1)] := hl
  have hx := hC.1
  have hb := hC.2.1
  unfold f_X6_yardAt at hf
  refine lv_aload_n hx hb dX6_yardAt_0 rfl (lv_at hl 0 rfl) ?_
  refine gt_X6_X6_now hC hI dX6_yardAt_1 ?_
  refine gt_X6_X5_cargo hC hI gOk_0 dX6_yardAt_4 ?_
  refine lv_aload_n hx hb dX6_yardAt_7 rfl (lv_at hl 0 rfl) ?_
  refine gt_X6_X6_now hC hI dX6_yardAt_8 ?_
  refine gt_X6_X5_cargo hC hI gOk_0 dX6_yardAt_11 ?_
  refine lv_bipush (v := 12) hx hb dX6_yardAt_14 (by decide) ?_
  refine lv_iload_n hx hb dX6_yardAt_16 rfl (lv_at hl 1 rfl) ?_
  obtain ⟨r1, hr2, hf⟩ := gbind hf
  have hr2 := C_X0_rowAt l E x gOk_0 hr2
  refine g_callVi (rest := [.ref (E.2.1 (0 + 1))]) hC hI hr2 Y_X0_rowAt V_X0_rowAt w786 (rcv_X0 hC hI gOk_0) ⟨rfl, rfl⟩ ⟨Nat.le_of_ble_eq_true rfl, Nat.le_of_ble_eq_true rfl⟩ rfl hl.1 rfl (Nat.le_of_ble_eq_true rfl) dX6_yardAt_17 ⟨Nat.le_of_ble_eq_true rfl, Nat.le_of_ble_eq_true rfl⟩ (fun H locs hI => ?_)
  rcases gseq hf with ⟨er, Mr, hr4, hf⟩ | ⟨r3, M5, hr4, hf⟩
  · replace hr4 := C_X6_found l hst E x  hr4
    exact g_xSx (rest := [.ref (E.2.1 (0 + 1))]) hC hI hr4 Y_X6_found S_X6_found w637 ⟨rfl, rfl⟩ ⟨Nat.le_of_ble_eq_true rfl, Nat.le_of_ble_eq_true rfl⟩ rfl hl.1 rfl (Nat.le_of_ble_eq_true rfl) dX6_yardAt_20 ⟨Nat.le_of_ble_eq_true rfl, Nat.le_of_ble_eq_true rfl⟩ (fun ce q H locs hI h1 h2 h3 => kx _ _ _ _ _ _ _ _ _ _ _ (gtx hf) hI h1 h2 h3 ⟨Nat.le_of_ble_eq_true rfl, Nat.le_of_ble_eq_true rfl⟩)
  replace hr4 := C_X6_found l hst E x  hr4
  refine g_xSi (rest := [.ref (E.2.1 (0 + 1))]) hC hI hr4 Y_X6_found S_X6_found w637 ⟨rfl, rfl⟩ ⟨Nat.le_of_ble_eq_true rfl, Nat.le_of_ble_eq_true rfl⟩ rfl hl.1 rfl (Nat.le_of_ble_eq_true rfl) dX6_yardAt_20 ⟨Nat.le_of_ble_eq_true rfl, Nat.le_of_ble_eq_true rfl⟩ (fun H locs hI => ?_)
  obtain ⟨r6, hr7, hf⟩ := gbind hf
  have hr7 := C_X0_id l E x gOk_0 hr7
  refine g_callVi (rest := []) hC hI hr7 Y_X0_id V_X0_id w640 (rcv_X0 hC hI gOk_0) ⟨rfl, rfl⟩ ⟨Nat.le_of_ble_eq_true rfl, Nat.le_of_ble_eq_true rfl⟩ rfl hl.1 rfl (Nat.le_of_ble_eq_true rfl) dX6_yardAt_23 ⟨Nat.le_of_ble_eq_true rfl, Nat.le_of_ble_eq_true rfl⟩ (fun H locs hI => ?_)
  exact kr _ _ _ _ _ _ _ _ (gre hf) hI ⟨.int, rfl, rfl⟩ ⟨Nat.le_of_ble_eq_true rfl, Nat.le_of_ble_eq_true rfl⟩ dX6_yardAt_26
theorem dX6_feesAfter_0 : decode cX6_feesAfter 0 = .ok (.iload_n 1, 1) := by decide +kernel
theorem dX6_feesAfter_1 : decode cX6_feesAfter 1 = .ok (.invokestatic 123, 3) := by decide +kernel
theorem dX6_feesAfter_4 : decode cX6_feesAfter 4 = .ok (.invokestatic 65, 3) := by decide +kernel
theorem dX6_feesAfter_7 : decode cX6_feesAfter 7 = .ok (.aload_n 0, 1) := by decide +kernel
theorem dX6_feesAfter_8 : decode cX6_feesAfter 8 = .ok (.getfield 16, 3) := by decide +kernel
theorem dX6_feesAfter_11 : decode cX6_feesAfter 11 = .ok (.aload_n 0, 1) := by decide +kernel
theorem dX6_feesAfter_12 : decode cX6_feesAfter 12 = .ok (.getfield 10, 3) := by decide +kernel
theorem dX6_feesAfter_15 : decode cX6_feesAfter 15 = .ok (.invokevirtual 258, 3) := by decide +kernel
theorem dX6_feesAfter_18 : decode cX6_feesAfter 18 = .ok (.aload_n 0, 1) := by decide +kernel
theorem dX6_feesAfter_19 : decode cX6_feesAfter 19 = .ok (.getfield 16, 3) := by decide +kernel
theorem dX6_feesAfter_22 : decode cX6_feesAfter 22 = .ok (.iload_n 1, 1) := by decide +kernel
theorem dX6_feesAfter_23 : decode cX6_feesAfter 23 = .ok (.invokevirtual 126, 3) := by decide +kernel
theorem dX6_feesAfter_26 : decode cX6_feesAfter 26 = .ok (.ireturn, 1) := by decide +kernel
set_option maxRecDepth 100000 in
set_option maxHeartbeats 4000000 in
theorem C_X6_feesAfter (l : Launch) (hst : l.stackTraces = false) (E : gE) (x : gX) {v1 : Int32} {M : gM} {oc : String ⊕ Int32} {M' : gM} (hf : f_X6_feesAfter v1 M = some (oc, M')) : gX0 l E yX6_feesAfter (.code yX6_feesAfter cX6_feesAfter 2 (some .int)) (gRX 7 110 1 6) M x [.ref (E.2.1 132), .int v1] (gO oc) M' 1 6 := by
  refine gMetX hst (by decide +kernel) (Nat.le_of_ble_eq_true rfl) ?_
  intro p e s m args below meth c H locs ls Q hC hl hI kr kv kx kt kd kf
  replace hC : gC p s m args c cX6_feesAfter 2 RX6 E := hC
  replace hl : lv_has ls 2 [(0, .ref (E.2.1 132)), (1, .int v1)] := hl
  have hx := hC.1
  have hb := hC.2.1
  unfold f_X6_feesAfter at hf
  refine lv_iload_n hx hb dX6_feesAfter_0 rfl (lv_at hl 1 rfl) ?_
  obtain ⟨r1, hr2, hf⟩ := gbind hf
  have hr2 := C_X6_passingFault l E x  hr2
  refine g_callSi (rest := []) hC hI hr2 Y_X6_passingFault S_X6_passingFault w542 ⟨rfl, rfl⟩ ⟨Nat.le_of_ble_eq_true rfl, Nat.le_of_ble_eq_true rfl⟩ rfl hl.1 rfl (Nat.le_of_ble_eq_true rfl) dX6_feesAfter_1 ⟨Nat.le_of_ble_eq_true rfl, Nat.le_of_ble_eq_true rfl⟩ (fun H locs hI => ?_)
  rcases gseq hf with ⟨er, Mr, hr4, hf⟩ | ⟨_, M5, hr4, hf⟩
  · replace hr4 := C_X6_raise l hst E x  hr4
    exact g_xSx (rest := []) hC hI hr4 Y_X6_raise S_X6_raise w255 ⟨rfl, rfl⟩ ⟨Nat.le_of_ble_eq_true rfl, Nat.le_of_ble_eq_true rfl⟩ rfl hl.1 rfl (Nat.le_of_ble_eq_true rfl) dX6_feesAfter_4 ⟨Nat.le_of_ble_eq_true rfl, Nat.le_of_ble_eq_true rfl⟩ (fun ce q H locs hI h1 h2 h3 => kx _ _ _ _ _ _ _ _ _ _ _ (gtx hf) hI h1 h2 h3 ⟨Nat.le_of_ble_eq_true rfl, Nat.le_of_ble_eq_true rfl⟩)
  replace hr4 := C_X6_raise l hst E x  hr4
  refine g_xSv (rest := []) hC hI hr4 Y_X6_raise S_X6_raise w255 ⟨rfl, rfl⟩ ⟨Nat.le_of_ble_eq_true rfl, Nat.le_of_ble_eq_true rfl⟩ rfl hl.1 rfl (Nat.le_of_ble_eq_true rfl) dX6_feesAfter_4 ⟨Nat.le_of_ble_eq_true rfl, Nat.le_of_ble_eq_true rfl⟩ (fun H locs hI => ?_)
  refine lv_aload_n hx hb dX6_feesAfter_7 rfl (lv_at hl 0 rfl) ?_
  refine gt_X6_X6_trial hC hI dX6_feesAfter_8 ?_
  refine lv_aload_n hx hb dX6_feesAfter_11 rfl (lv_at hl 0 rfl) ?_
  refine gt_X6_X6_now hC hI dX6_feesAfter_12 ?_
  obtain ⟨r6, hr7, hf⟩ := gbind hf
  have hr7 := C_X5_copyFrom l E x gOk_12 gOk_0 hr7
  refine g_callVv (rest := []) hC hI hr7 Y_X5_copyFrom V_X5_copyFrom w791 (rcv_X5 hC hI gOk_12) ⟨rfl, rfl⟩ ⟨Nat.le_of_ble_eq_true rfl, Nat.le_of_ble_eq_true rfl⟩ rfl hl.1 rfl (Nat.le_of_ble_eq_true rfl) dX6_feesAfter_15 ⟨Nat.le_of_ble_eq_true rfl, Nat.le_of_ble_eq_true rfl⟩ (fun H locs hI => ?_)
  refine lv_aload_n hx hb dX6_feesAfter_18 rfl (lv_at hl 0 rfl) ?_
  refine gt_X6_X6_trial hC hI dX6_feesAfter_19 ?_
  refine lv_iload_n hx hb dX6_feesAfter_22 rfl (lv_at hl 1 rfl) ?_
  obtain ⟨r8, hr9, hf⟩ := gbind hf
  have hr9 := C_X5_letHoursPass l E x gOk_12 hr9
  refine g_callVi (rest := []) hC hI hr9 Y_X5_letHoursPass V_X5_letHoursPass w545 (rcv_X5 hC hI gOk_12) ⟨rfl, rfl⟩ ⟨Nat.le_of_ble_eq_true rfl, Nat.le_of_ble_eq_true rfl⟩ rfl hl.1 rfl (Nat.le_of_ble_eq_true rfl) dX6_feesAfter_23 ⟨Nat.le_of_ble_eq_true rfl, Nat.le_of_ble_eq_true rfl⟩ (fun H locs hI => ?_)
  exact kr _ _ _ _ _ _ _ _ (gre hf) hI ⟨.int, rfl, rfl⟩ ⟨Nat.le_of_ble_eq_true rfl, Nat.le_of_ble_eq_true rfl⟩ dX6_feesAfter_26
theorem dX6_fees_0 : decode cX6_fees 0 = .ok (.aload_n 0, 1) := by decide +kernel
theorem dX6_fees_1 : decode cX6_fees 1 = .ok (.getfield 10, 3) := by decide +kernel
theorem dX6_fees_4 : decode cX6_fees 4 = .ok (.getfield 261, 3) := by decide +kernel
theorem dX6_fees_7 : decode cX6_fees 7 = .ok (.ireturn, 1) := by decide +kernel
set_option maxRecDepth 100000 in
set_option maxHeartbeats 4000000 in
theorem C_X6_fees (l : Launch) (E : gE) (x : gX) {M : gM} {r : Int32} (hf : f_X6_fees M = some r) : gM0 l E yX6_fees (.code yX6_fees cX6_fees 1 (some .int)) (gR 0 0) M x [.ref (E.2.1 132)] (some (.int r)) M := by
  refine gMet (by decide +kernel) (Nat.le_of_ble_eq_true rfl) ?_
  intro p e s m args below meth c H locs ls Q hC hl hI kr kv
  replace hC : gC p s m args c cX6_fees 1 RX6 E := hC
  replace hl : lv_has ls 1 [(0, .ref (E.2.1 132))] := hl
  have hx := hC.1
  have hb := hC.2.1
  unfold f_X6_fees at hf
  refine lv_aload_n hx hb dX6_fees_0 rfl (lv_at hl 0 rfl) ?_
  refine gt_X6_X6_now hC hI dX6_fees_1 ?_
  refine gt_X6_X5_fees hC hI gOk_0 dX6_fees_4 ?_
  exact kr _ _ _ _ _ _ (gri hf) hI ⟨.int, rfl, rfl⟩ dX6_fees_7
theorem dX6_clearedTotal_0 : decode cX6_clearedTotal 0 = .ok (.aload_n 0, 1) := by decide +kernel
theorem dX6_clearedTotal_1 : decode cX6_clearedTotal 1 = .ok (.getfield 10, 3) := by decide +kernel
theorem dX6_clearedTotal_4 : decode cX6_clearedTotal 4 = .ok (.getfield 264, 3) := by decide +kernel
theorem dX6_clearedTotal_7 : decode cX6_clearedTotal 7 = .ok (.ireturn, 1) := by decide +kernel
set_option maxRecDepth 100000 in
set_option maxHeartbeats 4000000 in
theorem C_X6_clearedTotal (l : Launch) (E : gE) (x : gX) {M : gM} {r : Int32} (hf : f_X6_clearedTotal M = some r) : gM0 l E yX6_clearedTotal (.code yX6_clearedTotal cX6_clearedTotal 1 (some .int)) (gR 0 0) M x [.ref (E.2.1 132)] (some (.int r)) M := by
  refine gMet (by decide +kernel) (Nat.le_of_ble_eq_true rfl) ?_
  intro p e s m args below meth c H locs ls Q hC hl hI kr kv
  replace hC : gC p s m args c cX6_clearedTotal 1 RX6 E := hC
  replace hl : lv_has ls 1 [(0, .ref (E.2.1 132))] := hl
  have hx := hC.1
  have hb := hC.2.1
  unfold f_X6_clearedTotal at hf
  refine lv_aload_n hx hb dX6_clearedTotal_0 rfl (lv_at hl 0 rfl) ?_
  refine gt_X6_X6_now hC hI dX6_clearedTotal_1 ?_
  refine gt_X6_X5_cleared hC hI gOk_0 dX6_clearedTotal_4 ?_
  exact kr _ _ _ _ _ _ (gri hf) hI ⟨.int, rfl, rfl⟩ dX6_clearedTotal_7
theorem dX6_deliveredTotal_0 : decode cX6_deliveredTotal 0 = .ok (.aload_n 0, 1) := by decide +kernel
theorem dX6_deliveredTotal_1 : decode cX6_deliveredTotal 1 = .ok (.getfield 10, 3) := by decide +kernel
theorem dX6_deliveredTotal_4 : decode cX6_deliveredTotal 4 = .ok (.getfield 267, 3) := by decide +kernel
theorem dX6_deliveredTotal_7 : decode cX6_deliveredTotal 7 = .ok (.ireturn, 1) := by decide +kernel
set_option maxRecDepth 100000 in
set_option maxHeartbeats 4000000 in
theorem C_X6_deliveredTotal (l : Launch) (E : gE) (x : gX) {M : gM} {r : Int32} (hf : f_X6_deliveredTotal M = some r) : gM0 l E yX6_deliveredTotal (.code yX6_deliveredTotal cX6_deliveredTotal 1 (some .int)) (gR 0 0) M x [.ref (E.2.1 132)] (some (.int r)) M := by
  refine gMet (by decide +kernel) (Nat.le_of_ble_eq_true rfl) ?_
  intro p e s m args below meth c H locs ls Q hC hl hI kr kv
  replace hC : gC p s m args c cX6_deliveredTotal 1 RX6 E := hC
  replace hl : lv_has ls 1 [(0, .ref (E.2.1 132))] := hl
  have hx := hC.1
  have hb := hC.2.1
  unfold f_X6_deliveredTotal at hf
  refine lv_aload_n hx hb dX6_deliveredTotal_0 rfl (lv_at hl 0 rfl) ?_
  refine gt_X6_X6_now hC hI dX6_deliveredTotal_1 ?_
  refine gt_X6_X5_delivered hC hI gOk_0 dX6_deliveredTotal_4 ?_
  exact kr _ _ _ _ _ _ (gri hf) hI ⟨.int, rfl, rfl⟩ dX6_deliveredTotal_7
theorem dX6_wrongTotal_0 : decode cX6_wrongTotal 0 = .ok (.aload_n 0, 1) := by decide +kernel
theorem dX6_wrongTotal_1 : decode cX6_wrongTotal 1 = .ok (.getfield 10, 3) := by decide +kernel
theorem dX6_wrongTotal_4 : decode cX6_wrongTotal 4 = .ok (.getfield 270, 3) := by decide +kernel
theorem dX6_wrongTotal_7 : decode cX6_wrongTotal 7 = .ok (.ireturn, 1) := by decide +kernel
set_option maxRecDepth 100000 in
set_option maxHeartbeats 4000000 in
theorem C_X6_wrongTotal (l : Launch) (E : gE) (x : gX) {M : gM} {r : Int32} (hf : f_X6_wrongTotal M = some r) : gM0 l E yX6_wrongTotal (.code yX6_wrongTotal cX6_wrongTotal 1 (some .int)) (gR 0 0) M x [.ref (E.2.1 132)] (some (.int r)) M := by
  refine gMet (by decide +kernel) (Nat.le_of_ble_eq_true rfl) ?_
  intro p e s m args below meth c H locs ls Q hC hl hI kr kv
  replace hC : gC p s m args c cX6_wrongTotal 1 RX6 E := hC
  replace hl : lv_has ls 1 [(0, .ref (E.2.1 132))] := hl
  have hx := hC.1
  have hb := hC.2.1
  unfold f_X6_wrongTotal at hf
  refine lv_aload_n hx hb dX6_wrongTotal_0 rfl (lv_at hl 0 rfl) ?_
  refine gt_X6_X6_now hC hI dX6_wrongTotal_1 ?_
  refine gt_X6_X5_wrong hC hI gOk_0 dX6_wrongTotal_4 ?_
  exact kr _ _ _ _ _ _ (gri hf) hI ⟨.int, rfl, rfl⟩ dX6_wrongTotal_7
theorem dX0_onShips_0 : decode cX0_onShips 0 = .ok (.aload_n 0, 1) := by decide +kernel
theorem dX0_onShips_1 : decode cX0_onShips 1 = .ok (.getfield 30, 3) := by decide +kernel
theorem dX0_onShips_4 : decode cX0_onShips 4 = .ok (.aload_n 0, 1) := by decide +kernel
theorem dX0_onShips_5 : decode cX0_onShips 5 = .ok (.bipush 12, 2) := by decide +kernel
theorem dX0_onShips_7 : decode cX0_onShips 7 = .ok (.invokevirtual 40, 3) := by decide +kernel
theorem dX0_onShips_10 : decode cX0_onShips 10 = .ok (.isub, 1) := by decide +kernel
theorem dX0_onShips_11 : decode cX0_onShips 11 = .ok (.ireturn, 1) := by decide +kernel
set_option maxRecDepth 100000 in
set_option maxHeartbeats 4000000 in
theorem C_X0_onShips (l : Launch) (E : gE) (x : gX) {o : Nat} (ho : gOk o) {M : gM} {r : Int32} (hf : f_X0_onShips o M = some r) : gM0 l E yX0_onShips (.code yX0_onShips cX0_onShips 1 (some .int)) (gR 1 23) M x [.ref (E.2.1 (o + 1))] (some (.int r)) M := by
  refine gMet (by decide +kernel) (Nat.le_of_ble_eq_true rfl) ?_
  intro p e s m args below meth c H locs ls Q hC hl hI kr kv
  replace hC : gC p s m args c cX0_onShips 1 RX0 E := hC
  replace hl : lv_has ls 1 [(0, .ref (E.2.1 (o + 1)))] := hl
  have hx := hC.1
  have hb := hC.2.1
  unfold f_X0_onShips at hf
  refine lv_aload_n hx hb dX0_onShips_0 rfl (lv_at hl 0 rfl) ?_
  refine gt_X0_X0_count hC hI ho dX0_onShips_1 ?_
  refine lv_aload_n hx hb dX0_onShips_4 rfl (lv_at hl 0 rfl) ?_
  refine lv_bipush (v := 12) hx hb dX0_onShips_5 (by decide) ?_
  obtain ⟨r1, hr2, hf⟩ := gbind hf
  have hr2 := C_X0_height l E x ho hr2
  refine g_callVi (rest := [.int (M (o + 1) 6)]) hC hI hr2 Y_X0_height V_X0_height w405 (rcv_X0 hC hI ho) ⟨rfl, rfl⟩ ⟨Nat.le_of_ble_eq_true rfl, Nat.le_of_ble_eq_true rfl⟩ rfl hl.1 rfl (Nat.le_of_ble_eq_true rfl) dX0_onShips_7 ⟨Nat.le_of_ble_eq_true rfl, Nat.le_of_ble_eq_true rfl⟩ (fun H locs hI => ?_)
  refine lv_isub hx hb dX0_onShips_10 ?_
  exact kr _ _ _ _ _ _ (gri hf) hI ⟨.int, rfl, rfl⟩ dX0_onShips_11
theorem dX6_meanHeight_0 : decode cX6_meanHeight 0 = .ok (.iconst 4, 1) := by decide +kernel
theorem dX6_meanHeight_1 : decode cX6_meanHeight 1 = .ok (.aload_n 0, 1) := by decide +kernel
theorem dX6_meanHeight_2 : decode cX6_meanHeight 2 = .ok (.getfield 10, 3) := by decide +kernel
theorem dX6_meanHeight_5 : decode cX6_meanHeight 5 = .ok (.invokevirtual 77, 3) := by decide +kernel
theorem dX6_meanHeight_8 : decode cX6_meanHeight 8 = .ok (.imul, 1) := by decide +kernel
theorem dX6_meanHeight_9 : decode cX6_meanHeight 9 = .ok (.istore_n 1, 1) := by decide +kernel
theorem dX6_meanHeight_10 : decode cX6_meanHeight 10 = .ok (.iload_n 1, 1) := by decide +kernel
theorem dX6_meanHeight_11 : decode cX6_meanHeight 11 = .ok (.ifCond .ne 13, 3) := by decide +kernel
theorem dX6_meanHeight_14 : decode cX6_meanHeight 14 = .ok (.new 273, 3) := by decide +kernel
theorem dX6_meanHeight_17 : decode cX6_meanHeight 17 = .ok (.dup, 1) := by decide +kernel
theorem dX6_meanHeight_18 : decode cX6_meanHeight 18 = .ok (.ldc 167, 2) := by decide +kernel
theorem dX6_meanHeight_20 : decode cX6_meanHeight 20 = .ok (.invokespecial 275, 3) := by decide +kernel
theorem dX6_meanHeight_23 : decode cX6_meanHeight 23 = .ok (.athrow, 1) := by decide +kernel
theorem dX6_meanHeight_24 : decode cX6_meanHeight 24 = .ok (.aload_n 0, 1) := by decide +kernel
theorem dX6_meanHeight_25 : decode cX6_meanHeight 25 = .ok (.getfield 10, 3) := by decide +kernel
theorem dX6_meanHeight_28 : decode cX6_meanHeight 28 = .ok (.getfield 108, 3) := by decide +kernel
theorem dX6_meanHeight_31 : decode cX6_meanHeight 31 = .ok (.invokevirtual 276, 3) := by decide +kernel
theorem dX6_meanHeight_34 : decode cX6_meanHeight 34 = .ok (.i2d, 1) := by decide +kernel
theorem dX6_meanHeight_35 : decode cX6_meanHeight 35 = .ok (.iload_n 1, 1) := by decide +kernel
theorem dX6_meanHeight_36 : decode cX6_meanHeight 36 = .ok (.i2d, 1) := by decide +kernel
theorem dX6_meanHeight_37 : decode cX6_meanHeight 37 = .ok (.ddiv, 1) := by decide +kernel
theorem dX6_meanHeight_38 : decode cX6_meanHeight 38 = .ok (.dreturn, 1) := by decide +kernel
set_option maxRecDepth 100000 in
set_option maxHeartbeats 4000000 in
theorem C_X6_meanHeight (l : Launch) (hst : l.stackTraces = false) (E : gE) (x : gX) {M : gM} {oc : String ⊕ UInt64} {M' : gM} (hf : f_X6_meanHeight M = some (oc, M')) : gX0 l E yX6_meanHeight (.code yX6_meanHeight cX6_meanHeight 2 (some .double)) (gRX 6 90 1 6) M x [.ref (E.2.1 132)] (gOd oc) M' 1 6 := by
  refine gMetX hst (by decide +kernel) (Nat.le_of_ble_eq_true rfl) ?_
  intro p e s m args below meth c H locs ls Q hC hl hI kr kv kx kt kd kf
  replace hC : gC p s m args c cX6_meanHeight 2 RX6 E := hC
  replace hl : lv_has ls 2 [(0, .ref (E.2.1 132))] := hl
  have hx := hC.1
  have hb := hC.2.1
  unfold f_X6_meanHeight at hf
  refine lv_iconst (v := 4) hx hb dX6_meanHeight_0 (by decide) ?_
  refine lv_aload_n hx hb dX6_meanHeight_1 rfl (lv_at hl 0 rfl) ?_
  refine gt_X6_X6_now hC hI dX6_meanHeight_2 ?_
  obtain ⟨r1, hr2, hf⟩ := gbind hf
  have hr2 := C_X5_ships l E x gOk_0 hr2
  refine g_callVi (rest := [.int 4]) hC hI hr2 Y_X5_ships V_X5_ships w534 (rcv_X5 hC hI gOk_0) ⟨rfl, rfl⟩ ⟨Nat.le_of_ble_eq_true rfl, Nat.le_of_ble_eq_true rfl⟩ rfl hl.1 rfl (Nat.le_of_ble_eq_true rfl) dX6_meanHeight_5 ⟨Nat.le_of_ble_eq_true rfl, Nat.le_of_ble_eq_true rfl⟩ (fun H locs hI => ?_)
  refine lv_imul hx hb dX6_meanHeight_8 ?_
  obtain ⟨z3, ez3, hf⟩ := glet hf
  refine g_top ez3 ?_
  refine lv_istore_n (lv' := [(1, .int z3), (0, .ref (E.2.1 132))]) hx hb dX6_meanHeight_9 rfl hl (by decide) rfl (fun ls hl => ?_)
  refine lv_iload_n hx hb dX6_meanHeight_10 rfl (lv_at hl 0 rfl) ?_
  refine lv_if_ne (tgt := 24) hx hb dX6_meanHeight_11 rfl (fun h4 => ?_) (fun h4 => ?_)
  · replace hf := gifn h4 hf
    refine lv_aload_n hx hb dX6_meanHeight_24 rfl (lv_at hl 1 rfl) ?_
    refine gt_X6_X6_now hC hI dX6_meanHeight_25 ?_
    refine gt_X6_X5_cargo hC hI gOk_0 dX6_meanHeight_28 ?_
    obtain ⟨r5, hr6, hf⟩ := gbind hf
    have hr6 := C_X0_onShips l E x gOk_0 hr6
    refine g_callVi (rest := []) hC hI hr6 Y_X0_onShips V_X0_onShips w827 (rcv_X0 hC hI gOk_0) ⟨rfl, rfl⟩ ⟨Nat.le_of_ble_eq_true rfl, Nat.le_of_ble_eq_true rfl⟩ rfl hl.1 rfl (Nat.le_of_ble_eq_true rfl) dX6_meanHeight_31 ⟨Nat.le_of_ble_eq_true rfl, Nat.le_of_ble_eq_true rfl⟩ (fun H locs hI => ?_)
    refine lv_i2d hx hb dX6_meanHeight_34 ?_
    refine lv_iload_n hx hb dX6_meanHeight_35 rfl (lv_at hl 0 rfl) ?_
    refine lv_i2d hx hb dX6_meanHeight_36 ?_
    obtain ⟨h7, hf⟩ := gifN hf
    refine lv_ddiv hx hb dX6_meanHeight_37 (gn64_of h7) ?_
    exact kd _ _ _ _ _ _ _ _ (gred hf) hI rfl ⟨Nat.le_of_ble_eq_true rfl, Nat.le_of_ble_eq_true rfl⟩ dX6_meanHeight_38
  · replace hf := gif h4 hf
    exact kt _ _ _ _ _ _ _ _ "java/lang/ArithmeticException" "no ship is moored" 273 167 275 (gtxd hf) hI hl.1 rfl gTh_273_275 (by decide +kernel) ⟨Nat.le_of_ble_eq_true rfl, Nat.le_of_ble_eq_true rfl⟩ ⟨Nat.le_of_ble_eq_true rfl, Nat.le_of_ble_eq_true rfl⟩ ⟨dX6_meanHeight_14, dX6_meanHeight_17, Or.inr ⟨dX6_meanHeight_18, dX6_meanHeight_20, dX6_meanHeight_23⟩⟩
theorem dX6_rightShare_0 : decode cX6_rightShare 0 = .ok (.aload_n 0, 1) := by decide +kernel
theorem dX6_rightShare_1 : decode cX6_rightShare 1 = .ok (.getfield 10, 3) := by decide +kernel
theorem dX6_rightShare_4 : decode cX6_rightShare 4 = .ok (.getfield 264, 3) := by decide +kernel
theorem dX6_rightShare_7 : decode cX6_rightShare 7 = .ok (.aload_n 0, 1) := by decide +kernel
theorem dX6_rightShare_8 : decode cX6_rightShare 8 = .ok (.getfield 10, 3) := by decide +kernel
theorem dX6_rightShare_11 : decode cX6_rightShare 11 = .ok (.getfield 270, 3) := by decide +kernel
theorem dX6_rightShare_14 : decode cX6_rightShare 14 = .ok (.iadd, 1) := by decide +kernel
theorem dX6_rightShare_15 : decode cX6_rightShare 15 = .ok (.istore_n 1, 1) := by decide +kernel
theorem dX6_rightShare_16 : decode cX6_rightShare 16 = .ok (.iload_n 1, 1) := by decide +kernel
theorem dX6_rightShare_17 : decode cX6_rightShare 17 = .ok (.ifCond .ne 14, 3) := by decide +kernel
theorem dX6_rightShare_20 : decode cX6_rightShare 20 = .ok (.new 273, 3) := by decide +kernel
theorem dX6_rightShare_23 : decode cX6_rightShare 23 = .ok (.dup, 1) := by decide +kernel
theorem dX6_rightShare_24 : decode cX6_rightShare 24 = .ok (.ldc_w 279, 3) := by decide +kernel
theorem dX6_rightShare_27 : decode cX6_rightShare 27 = .ok (.invokespecial 275, 3) := by decide +kernel
theorem dX6_rightShare_30 : decode cX6_rightShare 30 = .ok (.athrow, 1) := by decide +kernel
theorem dX6_rightShare_31 : decode cX6_rightShare 31 = .ok (.aload_n 0, 1) := by decide +kernel
theorem dX6_rightShare_32 : decode cX6_rightShare 32 = .ok (.getfield 10, 3) := by decide +kernel
theorem dX6_rightShare_35 : decode cX6_rightShare 35 = .ok (.getfield 264, 3) := by decide +kernel
theorem dX6_rightShare_38 : decode cX6_rightShare 38 = .ok (.i2f, 1) := by decide +kernel
theorem dX6_rightShare_39 : decode cX6_rightShare 39 = .ok (.iload_n 1, 1) := by decide +kernel
theorem dX6_rightShare_40 : decode cX6_rightShare 40 = .ok (.i2f, 1) := by decide +kernel
theorem dX6_rightShare_41 : decode cX6_rightShare 41 = .ok (.fdiv, 1) := by decide +kernel
theorem dX6_rightShare_42 : decode cX6_rightShare 42 = .ok (.freturn, 1) := by decide +kernel
set_option maxRecDepth 100000 in
set_option maxHeartbeats 4000000 in
theorem C_X6_rightShare (l : Launch) (hst : l.stackTraces = false) (E : gE) (x : gX) {M : gM} {oc : String ⊕ UInt32} {M' : gM} (hf : f_X6_rightShare M = some (oc, M')) : gX0 l E yX6_rightShare (.code yX6_rightShare cX6_rightShare 2 (some .float)) (gRX 6 90 1 6) M x [.ref (E.2.1 132)] (gOf oc) M' 1 6 := by
  refine gMetX hst (by decide +kernel) (Nat.le_of_ble_eq_true rfl) ?_
  intro p e s m args below meth c H locs ls Q hC hl hI kr kv kx kt kd kf
  replace hC : gC p s m args c cX6_rightShare 2 RX6 E := hC
  replace hl : lv_has ls 2 [(0, .ref (E.2.1 132))] := hl
  have hx := hC.1
  have hb := hC.2.1
  unfold f_X6_rightShare at hf
  refine lv_aload_n hx hb dX6_rightShare_0 rfl (lv_at hl 0 rfl) ?_
  refine gt_X6_X6_now hC hI dX6_rightShare_1 ?_
  refine gt_X6_X5_cleared hC hI gOk_0 dX6_rightShare_4 ?_
  refine lv_aload_n hx hb dX6_rightShare_7 rfl (lv_at hl 0 rfl) ?_
  refine gt_X6_X6_now hC hI dX6_rightShare_8 ?_
  refine gt_X6_X5_wrong hC hI gOk_0 dX6_rightShare_11 ?_
  refine lv_iadd hx hb dX6_rightShare_14 ?_
  obtain ⟨z1, ez1, hf⟩ := glet hf
  refine g_top ez1 ?_
  refine lv_istore_n (lv' := [(1, .int z1), (0, .ref (E.2.1 132))]) hx hb dX6_rightShare_15 rfl hl (by decide) rfl (fun ls hl => ?_)
  refine lv_iload_n hx hb dX6_rightShare_16 rfl (lv_at hl 0 rfl) ?_
  refine lv_if_ne (tgt := 31) hx hb dX6_rightShare_17 rfl (fun h2 => ?_) (fun h2 => ?_)
  · replace hf := gifn h2 hf
    refine lv_aload_n hx hb dX6_rightShare_31 rfl (lv_at hl 1 rfl) ?_
    refine gt_X6_X6_now hC hI dX6_rightShare_32 ?_
    refine gt_X6_X5_cleared hC hI gOk_0 dX6_rightShare_35 ?_
    refine lv_i2f hx hb dX6_rightShare_38 ?_
    refine lv_iload_n hx hb dX6_rightShare_39 rfl (lv_at hl 0 rfl) ?_
    refine lv_i2f hx hb dX6_rightShare_40 ?_
    obtain ⟨h3, hf⟩ := gifN hf
    refine lv_fdiv hx hb dX6_rightShare_41 (gn32_of h3) ?_
    exact kf _ _ _ _ _ _ _ _ (gref hf) hI rfl ⟨Nat.le_of_ble_eq_true rfl, Nat.le_of_ble_eq_true rfl⟩ dX6_rightShare_42
  · replace hf := gif h2 hf
    exact kt _ _ _ _ _ _ _ _ "java/lang/ArithmeticException" "there were no answers" 273 279 275 (gtxf hf) hI hl.1 rfl gTh_273_275 (by decide +kernel) ⟨Nat.le_of_ble_eq_true rfl, Nat.le_of_ble_eq_true rfl⟩ ⟨Nat.le_of_ble_eq_true rfl, Nat.le_of_ble_eq_true rfl⟩ ⟨dX6_rightShare_20, dX6_rightShare_23, Or.inl ⟨dX6_rightShare_24, dX6_rightShare_27, dX6_rightShare_30⟩⟩
theorem dX5_shipsAgree_0 : decode cX5_shipsAgree 0 = .ok (.iconst 0, 1) := by decide +kernel
theorem dX5_shipsAgree_1 : decode cX5_shipsAgree 1 = .ok (.istore_n 1, 1) := by decide +kernel
theorem dX5_shipsAgree_2 : decode cX5_shipsAgree 2 = .ok (.iload_n 1, 1) := by decide +kernel
theorem dX5_shipsAgree_3 : decode cX5_shipsAgree 3 = .ok (.iconst 3, 1) := by decide +kernel
theorem dX5_shipsAgree_4 : decode cX5_shipsAgree 4 = .ok (.if_icmp .ge 71, 3) := by decide +kernel
theorem dX5_shipsAgree_7 : decode cX5_shipsAgree 7 = .ok (.aload_n 0, 1) := by decide +kernel
theorem dX5_shipsAgree_8 : decode cX5_shipsAgree 8 = .ok (.getfield 12, 3) := by decide +kernel
theorem dX5_shipsAgree_11 : decode cX5_shipsAgree 11 = .ok (.iload_n 1, 1) := by decide +kernel
theorem dX5_shipsAgree_12 : decode cX5_shipsAgree 12 = .ok (.invokevirtual 130, 3) := by decide +kernel
theorem dX5_shipsAgree_15 : decode cX5_shipsAgree 15 = .ok (.aload_n 0, 1) := by decide +kernel
theorem dX5_shipsAgree_16 : decode cX5_shipsAgree 16 = .ok (.getfield 12, 3) := by decide +kernel
theorem dX5_shipsAgree_19 : decode cX5_shipsAgree 19 = .ok (.iload_n 1, 1) := by decide +kernel
theorem dX5_shipsAgree_20 : decode cX5_shipsAgree 20 = .ok (.invokevirtual 133, 3) := by decide +kernel
theorem dX5_shipsAgree_23 : decode cX5_shipsAgree 23 = .ok (.if_icmp .ne 7, 3) := by decide +kernel
theorem dX5_shipsAgree_26 : decode cX5_shipsAgree 26 = .ok (.iconst 1, 1) := by decide +kernel
theorem dX5_shipsAgree_27 : decode cX5_shipsAgree 27 = .ok (.goto 4, 3) := by decide +kernel
theorem dX5_shipsAgree_30 : decode cX5_shipsAgree 30 = .ok (.iconst 0, 1) := by decide +kernel
theorem dX5_shipsAgree_31 : decode cX5_shipsAgree 31 = .ok (.istore_n 2, 1) := by decide +kernel
theorem dX5_shipsAgree_32 : decode cX5_shipsAgree 32 = .ok (.aload_n 0, 1) := by decide +kernel
theorem dX5_shipsAgree_33 : decode cX5_shipsAgree 33 = .ok (.iload_n 1, 1) := by decide +kernel
theorem dX5_shipsAgree_34 : decode cX5_shipsAgree 34 = .ok (.invokevirtual 136, 3) := by decide +kernel
theorem dX5_shipsAgree_37 : decode cX5_shipsAgree 37 = .ok (.aload_n 0, 1) := by decide +kernel
theorem dX5_shipsAgree_38 : decode cX5_shipsAgree 38 = .ok (.iload_n 1, 1) := by decide +kernel
theorem dX5_shipsAgree_39 : decode cX5_shipsAgree 39 = .ok (.invokevirtual 139, 3) := by decide +kernel
theorem dX5_shipsAgree_42 : decode cX5_shipsAgree 42 = .ok (.if_icmp .ne 7, 3) := by decide +kernel
theorem dX5_shipsAgree_45 : decode cX5_shipsAgree 45 = .ok (.iconst 1, 1) := by decide +kernel
theorem dX5_shipsAgree_46 : decode cX5_shipsAgree 46 = .ok (.goto 4, 3) := by decide +kernel
theorem dX5_shipsAgree_49 : decode cX5_shipsAgree 49 = .ok (.iconst 0, 1) := by decide +kernel
theorem dX5_shipsAgree_50 : decode cX5_shipsAgree 50 = .ok (.istore_n 3, 1) := by decide +kernel
theorem dX5_shipsAgree_51 : decode cX5_shipsAgree 51 = .ok (.aload_n 0, 1) := by decide +kernel
theorem dX5_shipsAgree_52 : decode cX5_shipsAgree 52 = .ok (.iload_n 1, 1) := by decide +kernel
theorem dX5_shipsAgree_53 : decode cX5_shipsAgree 53 = .ok (.invokevirtual 64, 3) := by decide +kernel
theorem dX5_shipsAgree_56 : decode cX5_shipsAgree 56 = .ok (.ifCond .eq 13, 3) := by decide +kernel
theorem dX5_shipsAgree_59 : decode cX5_shipsAgree 59 = .ok (.iload_n 2, 1) := by decide +kernel
theorem dX5_shipsAgree_60 : decode cX5_shipsAgree 60 = .ok (.ifCond .eq 7, 3) := by decide +kernel
theorem dX5_shipsAgree_63 : decode cX5_shipsAgree 63 = .ok (.iload_n 3, 1) := by decide +kernel
theorem dX5_shipsAgree_64 : decode cX5_shipsAgree 64 = .ok (.ifCond .ne 5, 3) := by decide +kernel
theorem dX5_shipsAgree_67 : decode cX5_shipsAgree 67 = .ok (.iconst 0, 1) := by decide +kernel
theorem dX5_shipsAgree_68 : decode cX5_shipsAgree 68 = .ok (.ireturn, 1) := by decide +kernel
theorem dX5_shipsAgree_69 : decode cX5_shipsAgree 69 = .ok (.iinc 1 1, 3) := by decide +kernel
theorem dX5_shipsAgree_72 : decode cX5_shipsAgree 72 = .ok (.goto (-70), 3) := by decide +kernel
theorem dX5_shipsAgree_75 : decode cX5_shipsAgree 75 = .ok (.iconst 1, 1) := by decide +kernel
theorem dX5_shipsAgree_76 : decode cX5_shipsAgree 76 = .ok (.ireturn, 1) := by decide +kernel
set_option maxRecDepth 100000 in
set_option maxHeartbeats 4000000 in
theorem C_X5_shipsAgree (l : Launch) (E : gE) (x : gX) {o : Nat} (ho : gOk o) {M : gM} {r : Bool} (hf : f_X5_shipsAgree o M = some r) : gM0 l E yX5_shipsAgree (.code yX5_shipsAgree cX5_shipsAgree 4 (some .boolean)) (gR 4 87) M x [.ref (E.2.1 o)] (some (.int (gb r))) M := by
  refine gMet (by decide +kernel) (Nat.le_of_ble_eq_true rfl) ?_
  intro p e s m args below meth c H locs ls Q hC hl hI kr kv
  replace hC : gC p s m args c cX5_shipsAgree 4 RX5 E := hC
  replace hl : lv_has ls 4 [(0, .ref (E.2.1 o))] := hl
  have hx := hC.1
  have hb := hC.2.1
  have L2 : ∀ (n : Nat) (v1 : Int32), f_X5_shipsAgree_L2 o M n v1 = some r → ∀ (H : Heap) (locs : List Loc) (ls : Array Slot), gI E s M x H locs → lv_has ls 4 [(1, .int v1), (0, .ref (E.2.1 o))] → W p l e (gR 4 87) s m args below meth c H locs 0 0 Q (F0 m 2 ls []) := by
    intro  n
    induction n with
    | zero => intro v1 hf; rw [f_X5_shipsAgree_L2] at hf; cases hf
    | succ n ih =>
      intro v1 hf H locs ls hI hl
      rw [f_X5_shipsAgree_L2] at hf
      refine lv_iload_n hx hb dX5_shipsAgree_2 rfl (lv_at hl 0 rfl) ?_
      refine lv_iconst (v := 3) hx hb dX5_shipsAgree_3 (by decide) ?_
      refine lv_icmp_ge (tgt := 75) hx hb dX5_shipsAgree_4 rfl (fun h1 => ?_) (fun h1 => ?_)
      · replace hf := gif h1 hf
        refine lv_iconst (v := 1) hx hb dX5_shipsAgree_75 (by decide) ?_
        exact kr _ _ _ _ _ _ (grb1 hf) hI ⟨.boolean, rfl, rfl⟩ dX5_shipsAgree_76
      · replace hf := gifn h1 hf
        refine lv_aload_n hx hb dX5_shipsAgree_7 rfl (lv_at hl 1 rfl) ?_
        refine gt_X5_X5_cargo hC hI ho dX5_shipsAgree_8 ?_
        refine lv_iload_n hx hb dX5_shipsAgree_11 rfl (lv_at hl 0 rfl) ?_
        obtain ⟨r2, hr3, hf⟩ := gbind hf
        have hr3 := C_X0_weightByStacks l E x ho hr3
        refine g_callVi (rest := []) hC hI hr3 Y_X0_weightByStacks V_X0_weightByStacks w844 (rcv_X0 hC hI ho) ⟨rfl, rfl⟩ ⟨Nat.le_of_ble_eq_true rfl, Nat.le_of_ble_eq_true rfl⟩ rfl hl.1 rfl (Nat.le_of_ble_eq_true rfl) dX5_shipsAgree_12 ⟨Nat.le_of_ble_eq_true rfl, Nat.le_of_ble_eq_true rfl⟩ (fun H locs hI => ?_)
        refine lv_aload_n hx hb dX5_shipsAgree_15 rfl (lv_at hl 1 rfl) ?_
        refine gt_X5_X5_cargo hC hI ho dX5_shipsAgree_16 ?_
        refine lv_iload_n hx hb dX5_shipsAgree_19 rfl (lv_at hl 0 rfl) ?_
        obtain ⟨r4, hr5, hf⟩ := gbind hf
        have hr5 := C_X0_weightByIds l E x ho hr5
        refine g_callVi (rest := [.int r2]) hC hI hr5 Y_X0_weightByIds V_X0_weightByIds w845 (rcv_X0 hC hI ho) ⟨rfl, rfl⟩ ⟨Nat.le_of_ble_eq_true rfl, Nat.le_of_ble_eq_true rfl⟩ rfl hl.1 rfl (Nat.le_of_ble_eq_true rfl) dX5_shipsAgree_20 ⟨Nat.le_of_ble_eq_true rfl, Nat.le_of_ble_eq_true rfl⟩ (fun H locs hI => ?_)
        refine lv_icmp_ne (tgt := 30) hx hb dX5_shipsAgree_23 rfl (fun h6 => ?_) (fun h6 => ?_)
        · replace hf := gifn h6 hf
          refine lv_iconst (v := 0) hx hb dX5_shipsAgree_30 (by decide) ?_
          refine lv_istore_n (lv' := [(2, .int 0), (1, .int v1), (0, .ref (E.2.1 o))]) hx hb dX5_shipsAgree_31 rfl hl (by decide) rfl (fun ls hl => ?_)
          refine lv_aload_n hx hb dX5_shipsAgree_32 rfl (lv_at hl 2 rfl) ?_
          refine lv_iload_n hx hb dX5_shipsAgree_33 rfl (lv_at hl 1 rfl) ?_
          obtain ⟨r7, hr8, hf⟩ := gbind hf
          have hr8 := C_X5_waitHourByHour l E x ho hr8
          refine g_callVi (rest := []) hC hI hr8 Y_X5_waitHourByHour V_X5_waitHourByHour w846 (rcv_X5 hC hI ho) ⟨rfl, rfl⟩ ⟨Nat.le_of_ble_eq_true rfl, Nat.le_of_ble_eq_true rfl⟩ rfl hl.1 rfl (Nat.le_of_ble_eq_true rfl) dX5_shipsAgree_34 ⟨Nat.le_of_ble_eq_true rfl, Nat.le_of_ble_eq_true rfl⟩ (fun H locs hI => ?_)
          refine lv_aload_n hx hb dX5_shipsAgree_37 rfl (lv_at hl 2 rfl) ?_
          refine lv_iload_n hx hb dX5_shipsAgree_38 rfl (lv_at hl 1 rfl) ?_
          obtain ⟨r9, hr10, hf⟩ := gbind hf
          have hr10 := C_X5_waitByTide l E x ho hr10
          refine g_callVi (rest := [.int r7]) hC hI hr10 Y_X5_waitByTide V_X5_waitByTide w847 (rcv_X5 hC hI ho) ⟨rfl, rfl⟩ ⟨Nat.le_of_ble_eq_true rfl, Nat.le_of_ble_eq_true rfl⟩ rfl hl.1 rfl (Nat.le_of_ble_eq_true rfl) dX5_shipsAgree_39 ⟨Nat.le_of_ble_eq_true rfl, Nat.le_of_ble_eq_true rfl⟩ (fun H locs hI => ?_)
          refine lv_icmp_ne (tgt := 49) hx hb dX5_shipsAgree_42 rfl (fun h11 => ?_) (fun h11 => ?_)
          · replace hf := gifn h11 hf
            refine lv_iconst (v := 0) hx hb dX5_shipsAgree_49 (by decide) ?_
            refine lv_istore_n (lv' := [(3, .int 0), (2, .int 0), (1, .int v1), (0, .ref (E.2.1 o))]) hx hb dX5_shipsAgree_50 rfl hl (by decide) rfl (fun ls hl => ?_)
            refine lv_aload_n hx hb dX5_shipsAgree_51 rfl (lv_at hl 3 rfl) ?_
            refine lv_iload_n hx hb dX5_shipsAgree_52 rfl (lv_at hl 2 rfl) ?_
            obtain ⟨r12, hr13, hf⟩ := gbind hf
            have hr13 := C_X5_hasShip l E x ho hr13
            refine g_callVi (rest := []) hC hI hr13 Y_X5_hasShip V_X5_hasShip w251 (rcv_X5 hC hI ho) ⟨rfl, rfl⟩ ⟨Nat.le_of_ble_eq_true rfl, Nat.le_of_ble_eq_true rfl⟩ rfl hl.1 rfl (Nat.le_of_ble_eq_true rfl) dX5_shipsAgree_53 ⟨Nat.le_of_ble_eq_true rfl, Nat.le_of_ble_eq_true rfl⟩ (fun H locs hI => ?_)
            refine lv_if_eq (tgt := 69) hx hb dX5_shipsAgree_56 rfl (fun h14 => ?_) (fun h14 => ?_)
            · replace hf := gif h14 hf
              refine lv_iinc (k := 2) (v := v1 + 1) (lv' := [(1, .int (v1 + 1)), (3, .int 0), (2, .int 0), (0, .ref (E.2.1 o))]) hx hb dX5_shipsAgree_69 hl rfl rfl (by decide) rfl (fun ls hl => ?_)
              refine lv_goto (tgt := 2) hx hb dX5_shipsAgree_72 rfl ?_
              exact ih (v1 + 1) hf _ _ _ hI (lv_sub hl [0, 3] rfl)
            · replace hf := gifn h14 hf
              refine lv_iload_n hx hb dX5_shipsAgree_59 rfl (lv_at hl 1 rfl) ?_
              refine lv_if_eq (tgt := 67) hx hb dX5_shipsAgree_60 rfl (fun h15 => ?_) (fun h15 => absurd (by decide) h15)
              refine lv_iconst (v := 0) hx hb dX5_shipsAgree_67 (by decide) ?_
              exact kr _ _ _ _ _ _ (grb0 hf) hI ⟨.boolean, rfl, rfl⟩ dX5_shipsAgree_68
          · replace hf := gif h11 hf
            refine lv_iconst (v := 1) hx hb dX5_shipsAgree_45 (by decide) ?_
            refine lv_goto (tgt := 50) hx hb dX5_shipsAgree_46 rfl ?_
            refine lv_istore_n (lv' := [(3, .int 1), (2, .int 0), (1, .int v1), (0, .ref (E.2.1 o))]) hx hb dX5_shipsAgree_50 rfl hl (by decide) rfl (fun ls hl => ?_)
            refine lv_aload_n hx hb dX5_shipsAgree_51 rfl (lv_at hl 3 rfl) ?_
            refine lv_iload_n hx hb dX5_shipsAgree_52 rfl (lv_at hl 2 rfl) ?_
            obtain ⟨r16, hr17, hf⟩ := gbind hf
            have hr17 := C_X5_hasShip l E x ho hr17
            refine g_callVi (rest := []) hC hI hr17 Y_X5_hasShip V_X5_hasShip w251 (rcv_X5 hC hI ho) ⟨rfl, rfl⟩ ⟨Nat.le_of_ble_eq_true rfl, Nat.le_of_ble_eq_true rfl⟩ rfl hl.1 rfl (Nat.le_of_ble_eq_true rfl) dX5_shipsAgree_53 ⟨Nat.le_of_ble_eq_true rfl, Nat.le_of_ble_eq_true rfl⟩ (fun H locs hI => ?_)
            refine lv_if_eq (tgt := 69) hx hb dX5_shipsAgree_56 rfl (fun h18 => ?_) (fun h18 => ?_)
            · replace hf := gif h18 hf
              refine lv_iinc (k := 2) (v := v1 + 1) (lv' := [(1, .int (v1 + 1)), (3, .int 1), (2, .int 0), (0, .ref (E.2.1 o))]) hx hb dX5_shipsAgree_69 hl rfl rfl (by decide) rfl (fun ls hl => ?_)
              refine lv_goto (tgt := 2) hx hb dX5_shipsAgree_72 rfl ?_
              exact ih (v1 + 1) hf _ _ _ hI (lv_sub hl [0, 3] rfl)
            · replace hf := gifn h18 hf
              refine lv_iload_n hx hb dX5_shipsAgree_59 rfl (lv_at hl 1 rfl) ?_
              refine lv_if_eq (tgt := 67) hx hb dX5_shipsAgree_60 rfl (fun h19 => ?_) (fun h19 => absurd (by decide) h19)
              refine lv_iconst (v := 0) hx hb dX5_shipsAgree_67 (by decide) ?_
              exact kr _ _ _ _ _ _ (grb0 hf) hI ⟨.boolean, rfl, rfl⟩ dX5_shipsAgree_68
        · replace hf := gif h6 hf
          refine lv_iconst (v := 1) hx hb dX5_shipsAgree_26 (by decide) ?_
          refine lv_goto (tgt := 31) hx hb dX5_shipsAgree_27 rfl ?_
          refine lv_istore_n (lv' := [(2, .int 1), (1, .int v1), (0, .ref (E.2.1 o))]) hx hb dX5_shipsAgree_31 rfl hl (by decide) rfl (fun ls hl => ?_)
          refine lv_aload_n hx hb dX5_shipsAgree_32 rfl (lv_at hl 2 rfl) ?_
          refine lv_iload_n hx hb dX5_shipsAgree_33 rfl (lv_at hl 1 rfl) ?_
          obtain ⟨r20, hr21, hf⟩ := gbind hf
          have hr21 := C_X5_waitHourByHour l E x ho hr21
          refine g_callVi (rest := []) hC hI hr21 Y_X5_waitHourByHour V_X5_waitHourByHour w846 (rcv_X5 hC hI ho) ⟨rfl, rfl⟩ ⟨Nat.le_of_ble_eq_true rfl, Nat.le_of_ble_eq_true rfl⟩ rfl hl.1 rfl (Nat.le_of_ble_eq_true rfl) dX5_shipsAgree_34 ⟨Nat.le_of_ble_eq_true rfl, Nat.le_of_ble_eq_true rfl⟩ (fun H locs hI => ?_)
          refine lv_aload_n hx hb dX5_shipsAgree_37 rfl (lv_at hl 2 rfl) ?_
          refine lv_iload_n hx hb dX5_shipsAgree_38 rfl (lv_at hl 1 rfl) ?_
          obtain ⟨r22, hr23, hf⟩ := gbind hf
          have hr23 := C_X5_waitByTide l E x ho hr23
          refine g_callVi (rest := [.int r20]) hC hI hr23 Y_X5_waitByTide V_X5_waitByTide w847 (rcv_X5 hC hI ho) ⟨rfl, rfl⟩ ⟨Nat.le_of_ble_eq_true rfl, Nat.le_of_ble_eq_true rfl⟩ rfl hl.1 rfl (Nat.le_of_ble_eq_true rfl) dX5_shipsAgree_39 ⟨Nat.le_of_ble_eq_true rfl, Nat.le_of_ble_eq_true rfl⟩ (fun H locs hI => ?_)
          refine lv_icmp_ne (tgt := 49) hx hb dX5_shipsAgree_42 rfl (fun h24 => ?_) (fun h24 => ?_)
          · replace hf := gifn h24 hf
            refine lv_iconst (v := 0) hx hb dX5_shipsAgree_49 (by decide) ?_
            refine lv_istore_n (lv' := [(3, .int 0), (2, .int 1), (1, .int v1), (0, .ref (E.2.1 o))]) hx hb dX5_shipsAgree_50 rfl hl (by decide) rfl (fun ls hl => ?_)
            refine lv_aload_n hx hb dX5_shipsAgree_51 rfl (lv_at hl 3 rfl) ?_
            refine lv_iload_n hx hb dX5_shipsAgree_52 rfl (lv_at hl 2 rfl) ?_
            obtain ⟨r25, hr26, hf⟩ := gbind hf
            have hr26 := C_X5_hasShip l E x ho hr26
            refine g_callVi (rest := []) hC hI hr26 Y_X5_hasShip V_X5_hasShip w251 (rcv_X5 hC hI ho) ⟨rfl, rfl⟩ ⟨Nat.le_of_ble_eq_true rfl, Nat.le_of_ble_eq_true rfl⟩ rfl hl.1 rfl (Nat.le_of_ble_eq_true rfl) dX5_shipsAgree_53 ⟨Nat.le_of_ble_eq_true rfl, Nat.le_of_ble_eq_true rfl⟩ (fun H locs hI => ?_)
            refine lv_if_eq (tgt := 69) hx hb dX5_shipsAgree_56 rfl (fun h27 => ?_) (fun h27 => ?_)
            · replace hf := gif h27 hf
              refine lv_iinc (k := 2) (v := v1 + 1) (lv' := [(1, .int (v1 + 1)), (3, .int 0), (2, .int 1), (0, .ref (E.2.1 o))]) hx hb dX5_shipsAgree_69 hl rfl rfl (by decide) rfl (fun ls hl => ?_)
              refine lv_goto (tgt := 2) hx hb dX5_shipsAgree_72 rfl ?_
              exact ih (v1 + 1) hf _ _ _ hI (lv_sub hl [0, 3] rfl)
            · replace hf := gifn h27 hf
              refine lv_iload_n hx hb dX5_shipsAgree_59 rfl (lv_at hl 1 rfl) ?_
              refine lv_if_eq (tgt := 67) hx hb dX5_shipsAgree_60 rfl (fun h28 => absurd h28 (by decide)) (fun h28 => ?_)
              refine lv_iload_n hx hb dX5_shipsAgree_63 rfl (lv_at hl 0 rfl) ?_
              refine lv_if_ne (tgt := 69) hx hb dX5_shipsAgree_64 rfl (fun h29 => absurd (by decide) h29) (fun h29 => ?_)
              refine lv_iconst (v := 0) hx hb dX5_shipsAgree_67 (by decide) ?_
              exact kr _ _ _ _ _ _ (grb0 hf) hI ⟨.boolean, rfl, rfl⟩ dX5_shipsAgree_68
          · replace hf := gif h24 hf
            refine lv_iconst (v := 1) hx hb dX5_shipsAgree_45 (by decide) ?_
            refine lv_goto (tgt := 50) hx hb dX5_shipsAgree_46 rfl ?_
            refine lv_istore_n (lv' := [(3, .int 1), (2, .int 1), (1, .int v1), (0, .ref (E.2.1 o))]) hx hb dX5_shipsAgree_50 rfl hl (by decide) rfl (fun ls hl => ?_)
            refine lv_aload_n hx hb dX5_shipsAgree_51 rfl (lv_at hl 3 rfl) ?_
            refine lv_iload_n hx hb dX5_shipsAgree_52 rfl (lv_at hl 2 rfl) ?_
            obtain ⟨r30, hr31, hf⟩ := gbind hf
            have hr31 := C_X5_hasShip l E x ho hr31
            refine g_callVi (rest := []) hC hI hr31 Y_X5_hasShip V_X5_hasShip w251 (rcv_X5 hC hI ho) ⟨rfl, rfl⟩ ⟨Nat.le_of_ble_eq_true rfl, Nat.le_of_ble_eq_true rfl⟩ rfl hl.1 rfl (Nat.le_of_ble_eq_true rfl) dX5_shipsAgree_53 ⟨Nat.le_of_ble_eq_true rfl, Nat.le_of_ble_eq_true rfl⟩ (fun H locs hI => ?_)
            refine lv_if_eq (tgt := 69) hx hb dX5_shipsAgree_56 rfl (fun h32 => ?_) (fun h32 => ?_)
            · replace hf := gif h32 hf
              refine lv_iinc (k := 2) (v := v1 + 1) (lv' := [(1, .int (v1 + 1)), (3, .int 1), (2, .int 1), (0, .ref (E.2.1 o))]) hx hb dX5_shipsAgree_69 hl rfl rfl (by decide) rfl (fun ls hl => ?_)
              refine lv_goto (tgt := 2) hx hb dX5_shipsAgree_72 rfl ?_
              exact ih (v1 + 1) hf _ _ _ hI (lv_sub hl [0, 3] rfl)
            · replace hf := gifn h32 hf
              refine lv_iload_n hx hb dX5_shipsAgree_59 rfl (lv_at hl 1 rfl) ?_
              refine lv_if_eq (tgt := 67) hx hb dX5_shipsAgree_60 rfl (fun h33 => absurd h33 (by decide)) (fun h33 => ?_)
              refine lv_iload_n hx hb dX5_shipsAgree_63 rfl (lv_at hl 0 rfl) ?_
              refine lv_if_ne (tgt := 69) hx hb dX5_shipsAgree_64 rfl (fun h34 => ?_) (fun h34 => absurd h34 (by decide))
              refine lv_iinc (k := 2) (v := v1 + 1) (lv' := [(1, .int (v1 + 1)), (3, .int 1), (2, .int 1), (0, .ref (E.2.1 o))]) hx hb dX5_shipsAgree_69 hl rfl rfl (by decide) rfl (fun ls hl => ?_)
              refine lv_goto (tgt := 2) hx hb dX5_shipsAgree_72 rfl ?_
              exact ih (v1 + 1) hf _ _ _ hI (lv_sub hl [0, 3] rfl)
  unfold f_X5_shipsAgree at hf
  refine lv_iconst (v := 0) hx hb dX5_shipsAgree_0 (by decide) ?_
  refine lv_istore_n (lv' := [(1, .int 0), (0, .ref (E.2.1 o))]) hx hb dX5_shipsAgree_1 rfl hl (by decide) rfl (fun ls hl => ?_)
  exact L2 gF 0 hf _ _ _ hI (lv_sub hl [0, 1] rfl)
theorem dX0_digsAgree_0 : decode cX0_digsAgree 0 = .ok (.iconst 0, 1) := by decide +kernel
theorem dX0_digsAgree_1 : decode cX0_digsAgree 1 = .ok (.istore_n 1, 1) := by decide +kernel
theorem dX0_digsAgree_2 : decode cX0_digsAgree 2 = .ok (.iload_n 1, 1) := by decide +kernel
theorem dX0_digsAgree_3 : decode cX0_digsAgree 3 = .ok (.aload_n 0, 1) := by decide +kernel
theorem dX0_digsAgree_4 : decode cX0_digsAgree 4 = .ok (.getfield 30, 3) := by decide +kernel
theorem dX0_digsAgree_7 : decode cX0_digsAgree 7 = .ok (.if_icmp .ge 34, 3) := by decide +kernel
theorem dX0_digsAgree_10 : decode cX0_digsAgree 10 = .ok (.aload_n 0, 1) := by decide +kernel
theorem dX0_digsAgree_11 : decode cX0_digsAgree 11 = .ok (.iload_n 1, 1) := by decide +kernel
theorem dX0_digsAgree_12 : decode cX0_digsAgree 12 = .ok (.invokevirtual 69, 3) := by decide +kernel
theorem dX0_digsAgree_15 : decode cX0_digsAgree 15 = .ok (.bipush 12, 2) := by decide +kernel
theorem dX0_digsAgree_17 : decode cX0_digsAgree 17 = .ok (.if_icmp .eq 18, 3) := by decide +kernel
theorem dX0_digsAgree_20 : decode cX0_digsAgree 20 = .ok (.aload_n 0, 1) := by decide +kernel
theorem dX0_digsAgree_21 : decode cX0_digsAgree 21 = .ok (.iload_n 1, 1) := by decide +kernel
theorem dX0_digsAgree_22 : decode cX0_digsAgree 22 = .ok (.invokevirtual 88, 3) := by decide +kernel
theorem dX0_digsAgree_25 : decode cX0_digsAgree 25 = .ok (.aload_n 0, 1) := by decide +kernel
theorem dX0_digsAgree_26 : decode cX0_digsAgree 26 = .ok (.iload_n 1, 1) := by decide +kernel
theorem dX0_digsAgree_27 : decode cX0_digsAgree 27 = .ok (.invokevirtual 91, 3) := by decide +kernel
theorem dX0_digsAgree_30 : decode cX0_digsAgree 30 = .ok (.if_icmp .eq 5, 3) := by decide +kernel
theorem dX0_digsAgree_33 : decode cX0_digsAgree 33 = .ok (.iconst 0, 1) := by decide +kernel
theorem dX0_digsAgree_34 : decode cX0_digsAgree 34 = .ok (.ireturn, 1) := by decide +kernel
theorem dX0_digsAgree_35 : decode cX0_digsAgree 35 = .ok (.iinc 1 1, 3) := by decide +kernel
theorem dX0_digsAgree_38 : decode cX0_digsAgree 38 = .ok (.goto (-36), 3) := by decide +kernel
theorem dX0_digsAgree_41 : decode cX0_digsAgree 41 = .ok (.iconst 1, 1) := by decide +kernel
theorem dX0_digsAgree_42 : decode cX0_digsAgree 42 = .ok (.ireturn, 1) := by decide +kernel
set_option maxRecDepth 100000 in
set_option maxHeartbeats 4000000 in
theorem C_X0_digsAgree (l : Launch) (E : gE) (x : gX) {o : Nat} (ho : gOk o) {M : gM} {r : Bool} {M' : gM} (hf : f_X0_digsAgree o M = some (r, M')) : gM0 l E yX0_digsAgree (.code yX0_digsAgree cX0_digsAgree 2 (some .boolean)) (gR 4 88) M x [.ref (E.2.1 (o + 1))] (some (.int (gb r))) M' := by
  refine gMet (by decide +kernel) (Nat.le_of_ble_eq_true rfl) ?_
  intro p e s m args below meth c H locs ls Q hC hl hI kr kv
  replace hC : gC p s m args c cX0_digsAgree 2 RX0 E := hC
  replace hl : lv_has ls 2 [(0, .ref (E.2.1 (o + 1)))] := hl
  have hx := hC.1
  have hb := hC.2.1
  have L2 : ∀ (n : Nat) (v1 : Int32) (M : gM), f_X0_digsAgree_L2 o n v1 M = some (r, M') → ∀ (H : Heap) (locs : List Loc) (ls : Array Slot), gI E s M x H locs → lv_has ls 2 [(1, .int v1), (0, .ref (E.2.1 (o + 1)))] → W p l e (gR 4 88) s m args below meth c H locs 0 0 Q (F0 m 2 ls []) := by
    intro  n
    induction n with
    | zero => intro v1 M hf; rw [f_X0_digsAgree_L2] at hf; cases hf
    | succ n ih =>
      intro v1 M hf H locs ls hI hl
      rw [f_X0_digsAgree_L2] at hf
      refine lv_iload_n hx hb dX0_digsAgree_2 rfl (lv_at hl 0 rfl) ?_
      refine lv_aload_n hx hb dX0_digsAgree_3 rfl (lv_at hl 1 rfl) ?_
      refine gt_X0_X0_count hC hI ho dX0_digsAgree_4 ?_
      refine lv_icmp_ge (tgt := 41) hx hb dX0_digsAgree_7 rfl (fun h1 => ?_) (fun h1 => ?_)
      · replace hf := gif h1 hf
        refine lv_iconst (v := 1) hx hb dX0_digsAgree_41 (by decide) ?_
        exact kr _ _ _ _ _ _ (grwb1 hf) hI ⟨.boolean, rfl, rfl⟩ dX0_digsAgree_42
      · replace hf := gifn h1 hf
        refine lv_aload_n hx hb dX0_digsAgree_10 rfl (lv_at hl 1 rfl) ?_
        refine lv_iload_n hx hb dX0_digsAgree_11 rfl (lv_at hl 0 rfl) ?_
        obtain ⟨r2, hr3, hf⟩ := gbind hf
        have hr3 := C_X0_pile l E x ho hr3
        refine g_callVi (rest := []) hC hI hr3 Y_X0_pile V_X0_pile w482 (rcv_X0 hC hI ho) ⟨rfl, rfl⟩ ⟨Nat.le_of_ble_eq_true rfl, Nat.le_of_ble_eq_true rfl⟩ rfl hl.1 rfl (Nat.le_of_ble_eq_true rfl) dX0_digsAgree_12 ⟨Nat.le_of_ble_eq_true rfl, Nat.le_of_ble_eq_true rfl⟩ (fun H locs hI => ?_)
        refine lv_bipush (v := 12) hx hb dX0_digsAgree_15 (by decide) ?_
        refine lv_icmp_eq (tgt := 35) hx hb dX0_digsAgree_17 rfl (fun h4 => ?_) (fun h4 => ?_)
        · replace hf := gif h4 hf
          refine lv_iinc (k := 0) (v := v1 + 1) (lv' := [(1, .int (v1 + 1)), (0, .ref (E.2.1 (o + 1)))]) hx hb dX0_digsAgree_35 hl rfl rfl (by decide) rfl (fun ls hl => ?_)
          refine lv_goto (tgt := 2) hx hb dX0_digsAgree_38 rfl ?_
          exact ih (v1 + 1) M hf _ _ _ hI (lv_sub hl [0, 1] rfl)
        · replace hf := gifn h4 hf
          refine lv_aload_n hx hb dX0_digsAgree_20 rfl (lv_at hl 1 rfl) ?_
          refine lv_iload_n hx hb dX0_digsAgree_21 rfl (lv_at hl 0 rfl) ?_
          obtain ⟨r5, hr6, hf⟩ := gbind hf
          have hr6 := C_X0_countAbove l E x ho hr6
          refine g_callVi (rest := []) hC hI hr6 Y_X0_countAbove V_X0_countAbove w852 (rcv_X0 hC hI ho) ⟨rfl, rfl⟩ ⟨Nat.le_of_ble_eq_true rfl, Nat.le_of_ble_eq_true rfl⟩ rfl hl.1 rfl (Nat.le_of_ble_eq_true rfl) dX0_digsAgree_22 ⟨Nat.le_of_ble_eq_true rfl, Nat.le_of_ble_eq_true rfl⟩ (fun H locs hI => ?_)
          refine lv_aload_n hx hb dX0_digsAgree_25 rfl (lv_at hl 1 rfl) ?_
          refine lv_iload_n hx hb dX0_digsAgree_26 rfl (lv_at hl 0 rfl) ?_
          obtain ⟨r7, hr8, hf⟩ := gbind hf
          have hr8 := C_X0_digOnCopy l E x ho hr8
          refine g_callVi (rest := [.int r5]) hC hI hr8 Y_X0_digOnCopy V_X0_digOnCopy w853 (rcv_X0 hC hI ho) ⟨rfl, rfl⟩ ⟨Nat.le_of_ble_eq_true rfl, Nat.le_of_ble_eq_true rfl⟩ rfl hl.1 rfl (Nat.le_of_ble_eq_true rfl) dX0_digsAgree_27 ⟨Nat.le_of_ble_eq_true rfl, Nat.le_of_ble_eq_true rfl⟩ (fun H locs hI => ?_)
          refine lv_icmp_eq (tgt := 35) hx hb dX0_digsAgree_30 rfl (fun h9 => ?_) (fun h9 => ?_)
          · replace hf := gif h9 hf
            refine lv_iinc (k := 0) (v := v1 + 1) (lv' := [(1, .int (v1 + 1)), (0, .ref (E.2.1 (o + 1)))]) hx hb dX0_digsAgree_35 hl rfl rfl (by decide) rfl (fun ls hl => ?_)
            refine lv_goto (tgt := 2) hx hb dX0_digsAgree_38 rfl ?_
            exact ih (v1 + 1) r7.2 hf _ _ _ hI (lv_sub hl [0, 1] rfl)
          · replace hf := gifn h9 hf
            refine lv_iconst (v := 0) hx hb dX0_digsAgree_33 (by decide) ?_
            exact kr _ _ _ _ _ _ (grwb0 hf) hI ⟨.boolean, rfl, rfl⟩ dX0_digsAgree_34
  unfold f_X0_digsAgree at hf
  refine lv_iconst (v := 0) hx hb dX0_digsAgree_0 (by decide) ?_
  refine lv_istore_n (lv' := [(1, .int 0), (0, .ref (E.2.1 (o + 1)))]) hx hb dX0_digsAgree_1 rfl hl (by decide) rfl (fun ls hl => ?_)
  exact L2 gF 0 M hf _ _ _ hI (lv_sub hl [0, 1] rfl)
theorem dX6_isConsistent_0 : decode cX6_isConsistent 0 = .ok (.aload_n 0, 1) := by decide +kernel
theorem dX6_isConsistent_1 : decode cX6_isConsistent 1 = .ok (.getfield 10, 3) := by decide +kernel
theorem dX6_isConsistent_4 : decode cX6_isConsistent 4 = .ok (.invokevirtual 281, 3) := by decide +kernel
theorem dX6_isConsistent_7 : decode cX6_isConsistent 7 = .ok (.ifCond .eq 84, 3) := by decide +kernel
theorem dX6_isConsistent_10 : decode cX6_isConsistent 10 = .ok (.aload_n 0, 1) := by decide +kernel
theorem dX6_isConsistent_11 : decode cX6_isConsistent 11 = .ok (.getfield 10, 3) := by decide +kernel
theorem dX6_isConsistent_14 : decode cX6_isConsistent 14 = .ok (.getfield 108, 3) := by decide +kernel
theorem dX6_isConsistent_17 : decode cX6_isConsistent 17 = .ok (.invokevirtual 285, 3) := by decide +kernel
theorem dX6_isConsistent_20 : decode cX6_isConsistent 20 = .ok (.ifCond .eq 71, 3) := by decide +kernel
theorem dX6_isConsistent_23 : decode cX6_isConsistent 23 = .ok (.aload_n 0, 1) := by decide +kernel
theorem dX6_isConsistent_24 : decode cX6_isConsistent 24 = .ok (.getfield 10, 3) := by decide +kernel
theorem dX6_isConsistent_27 : decode cX6_isConsistent 27 = .ok (.getfield 108, 3) := by decide +kernel
theorem dX6_isConsistent_30 : decode cX6_isConsistent 30 = .ok (.invokevirtual 252, 3) := by decide +kernel
theorem dX6_isConsistent_33 : decode cX6_isConsistent 33 = .ok (.aload_n 0, 1) := by decide +kernel
theorem dX6_isConsistent_34 : decode cX6_isConsistent 34 = .ok (.getfield 10, 3) := by decide +kernel
theorem dX6_isConsistent_37 : decode cX6_isConsistent 37 = .ok (.getfield 108, 3) := by decide +kernel
theorem dX6_isConsistent_40 : decode cX6_isConsistent 40 = .ok (.invokevirtual 255, 3) := by decide +kernel
theorem dX6_isConsistent_43 : decode cX6_isConsistent 43 = .ok (.if_icmp .ne 48, 3) := by decide +kernel
theorem dX6_isConsistent_46 : decode cX6_isConsistent 46 = .ok (.aload_n 0, 1) := by decide +kernel
theorem dX6_isConsistent_47 : decode cX6_isConsistent 47 = .ok (.getfield 10, 3) := by decide +kernel
theorem dX6_isConsistent_50 : decode cX6_isConsistent 50 = .ok (.getfield 288, 3) := by decide +kernel
theorem dX6_isConsistent_53 : decode cX6_isConsistent 53 = .ok (.aload_n 0, 1) := by decide +kernel
theorem dX6_isConsistent_54 : decode cX6_isConsistent 54 = .ok (.getfield 10, 3) := by decide +kernel
theorem dX6_isConsistent_57 : decode cX6_isConsistent 57 = .ok (.getfield 108, 3) := by decide +kernel
theorem dX6_isConsistent_60 : decode cX6_isConsistent 60 = .ok (.invokevirtual 276, 3) := by decide +kernel
theorem dX6_isConsistent_63 : decode cX6_isConsistent 63 = .ok (.aload_n 0, 1) := by decide +kernel
theorem dX6_isConsistent_64 : decode cX6_isConsistent 64 = .ok (.getfield 10, 3) := by decide +kernel
theorem dX6_isConsistent_67 : decode cX6_isConsistent 67 = .ok (.getfield 108, 3) := by decide +kernel
theorem dX6_isConsistent_70 : decode cX6_isConsistent 70 = .ok (.bipush 12, 2) := by decide +kernel
theorem dX6_isConsistent_72 : decode cX6_isConsistent 72 = .ok (.invokevirtual 112, 3) := by decide +kernel
theorem dX6_isConsistent_75 : decode cX6_isConsistent 75 = .ok (.iadd, 1) := by decide +kernel
theorem dX6_isConsistent_76 : decode cX6_isConsistent 76 = .ok (.aload_n 0, 1) := by decide +kernel
theorem dX6_isConsistent_77 : decode cX6_isConsistent 77 = .ok (.getfield 10, 3) := by decide +kernel
theorem dX6_isConsistent_80 : decode cX6_isConsistent 80 = .ok (.getfield 267, 3) := by decide +kernel
theorem dX6_isConsistent_83 : decode cX6_isConsistent 83 = .ok (.iadd, 1) := by decide +kernel
theorem dX6_isConsistent_84 : decode cX6_isConsistent 84 = .ok (.if_icmp .ne 7, 3) := by decide +kernel
theorem dX6_isConsistent_87 : decode cX6_isConsistent 87 = .ok (.iconst 1, 1) := by decide +kernel
theorem dX6_isConsistent_88 : decode cX6_isConsistent 88 = .ok (.goto 4, 3) := by decide +kernel
theorem dX6_isConsistent_91 : decode cX6_isConsistent 91 = .ok (.iconst 0, 1) := by decide +kernel
theorem dX6_isConsistent_92 : decode cX6_isConsistent 92 = .ok (.ireturn, 1) := by decide +kernel
set_option maxRecDepth 100000 in
set_option maxHeartbeats 4000000 in
theorem C_X6_isConsistent (l : Launch) (E : gE) (x : gX) {M : gM} {r : Bool} {M' : gM} (hf : f_X6_isConsistent M = some (r, M')) : gM0 l E yX6_isConsistent (.code yX6_isConsistent cX6_isConsistent 1 (some .boolean)) (gR 5 110) M x [.ref (E.2.1 132)] (some (.int (gb r))) M' := by
  refine gMet (by decide +kernel) (Nat.le_of_ble_eq_true rfl) ?_
  intro p e s m args below meth c H locs ls Q hC hl hI kr kv
  replace hC : gC p s m args c cX6_isConsistent 1 RX6 E := hC
  replace hl : lv_has ls 1 [(0, .ref (E.2.1 132))] := hl
  have hx := hC.1
  have hb := hC.2.1
  unfold f_X6_isConsistent at hf
  refine lv_aload_n hx hb dX6_isConsistent_0 rfl (lv_at hl 0 rfl) ?_
  refine gt_X6_X6_now hC hI dX6_isConsistent_1 ?_
  obtain ⟨r1, hr2, hf⟩ := gbind hf
  have hr2 := C_X5_shipsAgree l E x gOk_0 hr2
  refine g_callVi (rest := []) hC hI hr2 Y_X5_shipsAgree V_X5_shipsAgree w840 (rcv_X5 hC hI gOk_0) ⟨rfl, rfl⟩ ⟨Nat.le_of_ble_eq_true rfl, Nat.le_of_ble_eq_true rfl⟩ rfl hl.1 rfl (Nat.le_of_ble_eq_true rfl) dX6_isConsistent_4 ⟨Nat.le_of_ble_eq_true rfl, Nat.le_of_ble_eq_true rfl⟩ (fun H locs hI => ?_)
  refine lv_if_eq (tgt := 91) hx hb dX6_isConsistent_7 rfl (fun h3 => ?_) (fun h3 => ?_)
  · replace hf := gif h3 hf
    refine lv_iconst (v := 0) hx hb dX6_isConsistent_91 (by decide) ?_
    exact kr _ _ _ _ _ _ (grwb0 hf) hI ⟨.boolean, rfl, rfl⟩ dX6_isConsistent_92
  · replace hf := gifn h3 hf
    refine lv_aload_n hx hb dX6_isConsistent_10 rfl (lv_at hl 0 rfl) ?_
    refine gt_X6_X6_now hC hI dX6_isConsistent_11 ?_
    refine gt_X6_X5_cargo hC hI gOk_0 dX6_isConsistent_14 ?_
    obtain ⟨r4, hr5, hf⟩ := gbind hf
    have hr5 := C_X0_digsAgree l E x gOk_0 hr5
    refine g_callVi (rest := []) hC hI hr5 Y_X0_digsAgree V_X0_digsAgree w848 (rcv_X0 hC hI gOk_0) ⟨rfl, rfl⟩ ⟨Nat.le_of_ble_eq_true rfl, Nat.le_of_ble_eq_true rfl⟩ rfl hl.1 rfl (Nat.le_of_ble_eq_true rfl) dX6_isConsistent_17 ⟨Nat.le_of_ble_eq_true rfl, Nat.le_of_ble_eq_true rfl⟩ (fun H locs hI => ?_)
    refine lv_if_eq (tgt := 91) hx hb dX6_isConsistent_20 rfl (fun h6 => ?_) (fun h6 => ?_)
    · replace hf := gif h6 hf
      refine lv_iconst (v := 0) hx hb dX6_isConsistent_91 (by decide) ?_
      exact kr _ _ _ _ _ _ (grwb0 hf) hI ⟨.boolean, rfl, rfl⟩ dX6_isConsistent_92
    · replace hf := gifn h6 hf
      refine lv_aload_n hx hb dX6_isConsistent_23 rfl (lv_at hl 0 rfl) ?_
      refine gt_X6_X6_now hC hI dX6_isConsistent_24 ?_
      refine gt_X6_X5_cargo hC hI gOk_0 dX6_isConsistent_27 ?_
      obtain ⟨r7, hr8, hf⟩ := gbind hf
      have hr8 := C_X0_twinsByPairs l E x gOk_0 hr8
      refine g_callVi (rest := []) hC hI hr8 Y_X0_twinsByPairs V_X0_twinsByPairs w754 (rcv_X0 hC hI gOk_0) ⟨rfl, rfl⟩ ⟨Nat.le_of_ble_eq_true rfl, Nat.le_of_ble_eq_true rfl⟩ rfl hl.1 rfl (Nat.le_of_ble_eq_true rfl) dX6_isConsistent_30 ⟨Nat.le_of_ble_eq_true rfl, Nat.le_of_ble_eq_true rfl⟩ (fun H locs hI => ?_)
      refine lv_aload_n hx hb dX6_isConsistent_33 rfl (lv_at hl 0 rfl) ?_
      refine gt_X6_X6_now hC hI dX6_isConsistent_34 ?_
      refine gt_X6_X5_cargo hC hI gOk_0 dX6_isConsistent_37 ?_
      obtain ⟨r9, hr10, hf⟩ := gbind hf
      have hr10 := C_X0_twinsInGroups l E x gOk_0 hr10
      refine g_callVi (rest := [.int r7]) hC hI hr10 Y_X0_twinsInGroups V_X0_twinsInGroups w766 (rcv_X0 hC hI gOk_0) ⟨rfl, rfl⟩ ⟨Nat.le_of_ble_eq_true rfl, Nat.le_of_ble_eq_true rfl⟩ rfl hl.1 rfl (Nat.le_of_ble_eq_true rfl) dX6_isConsistent_40 ⟨Nat.le_of_ble_eq_true rfl, Nat.le_of_ble_eq_true rfl⟩ (fun H locs hI => ?_)
      refine lv_icmp_ne (tgt := 91) hx hb dX6_isConsistent_43 rfl (fun h11 => ?_) (fun h11 => ?_)
      · replace hf := gifn h11 hf
        refine lv_iconst (v := 0) hx hb dX6_isConsistent_91 (by decide) ?_
        exact kr _ _ _ _ _ _ (grwb0 hf) hI ⟨.boolean, rfl, rfl⟩ dX6_isConsistent_92
      · replace hf := gif h11 hf
        refine lv_aload_n hx hb dX6_isConsistent_46 rfl (lv_at hl 0 rfl) ?_
        refine gt_X6_X6_now hC hI dX6_isConsistent_47 ?_
        refine gt_X6_X5_nextId hC hI gOk_0 dX6_isConsistent_50 ?_
        refine lv_aload_n hx hb dX6_isConsistent_53 rfl (lv_at hl 0 rfl) ?_
        refine gt_X6_X6_now hC hI dX6_isConsistent_54 ?_
        refine gt_X6_X5_cargo hC hI gOk_0 dX6_isConsistent_57 ?_
        obtain ⟨r12, hr13, hf⟩ := gbind hf
        have hr13 := C_X0_onShips l E x gOk_0 hr13
        refine g_callVi (rest := [.int (r4.2 0 7)]) hC hI hr13 Y_X0_onShips V_X0_onShips w827 (rcv_X0 hC hI gOk_0) ⟨rfl, rfl⟩ ⟨Nat.le_of_ble_eq_true rfl, Nat.le_of_ble_eq_true rfl⟩ rfl hl.1 rfl (Nat.le_of_ble_eq_true rfl) dX6_isConsistent_60 ⟨Nat.le_of_ble_eq_true rfl, Nat.le_of_ble_eq_true rfl⟩ (fun H locs hI => ?_)
        refine lv_aload_n hx hb dX6_isConsistent_63 rfl (lv_at hl 0 rfl) ?_
        refine gt_X6_X6_now hC hI dX6_isConsistent_64 ?_
        refine gt_X6_X5_cargo hC hI gOk_0 dX6_isConsistent_67 ?_
        refine lv_bipush (v := 12) hx hb dX6_isConsistent_70 (by decide) ?_
        obtain ⟨r14, hr15, hf⟩ := gbind hf
        have hr15 := C_X0_height l E x gOk_0 hr15
        refine g_callVi (rest := [.int r12, .int (r4.2 0 7)]) hC hI hr15 Y_X0_height V_X0_height w506 (rcv_X0 hC hI gOk_0) ⟨rfl, rfl⟩ ⟨Nat.le_of_ble_eq_true rfl, Nat.le_of_ble_eq_true rfl⟩ rfl hl.1 rfl (Nat.le_of_ble_eq_true rfl) dX6_isConsistent_72 ⟨Nat.le_of_ble_eq_true rfl, Nat.le_of_ble_eq_true rfl⟩ (fun H locs hI => ?_)
        refine lv_iadd hx hb dX6_isConsistent_75 ?_
        refine lv_aload_n hx hb dX6_isConsistent_76 rfl (lv_at hl 0 rfl) ?_
        refine gt_X6_X6_now hC hI dX6_isConsistent_77 ?_
        refine gt_X6_X5_delivered hC hI gOk_0 dX6_isConsistent_80 ?_
        refine lv_iadd hx hb dX6_isConsistent_83 ?_
        refine lv_icmp_ne (tgt := 91) hx hb dX6_isConsistent_84 rfl (fun h16 => ?_) (fun h16 => ?_)
        · replace hf := gifn h16 hf
          refine lv_iconst (v := 0) hx hb dX6_isConsistent_91 (by decide) ?_
          exact kr _ _ _ _ _ _ (grwb0 hf) hI ⟨.boolean, rfl, rfl⟩ dX6_isConsistent_92
        · replace hf := gif h16 hf
          refine lv_iconst (v := 1) hx hb dX6_isConsistent_87 (by decide) ?_
          refine lv_goto (tgt := 92) hx hb dX6_isConsistent_88 rfl ?_
          exact kr _ _ _ _ _ _ (grwb1 hf) hI ⟨.boolean, rfl, rfl⟩ dX6_isConsistent_92
theorem dX3_put_0 : decode cX3_put 0 = .ok (.aload_n 0, 1) := by decide +kernel
theorem dX3_put_1 : decode cX3_put 1 = .ok (.getfield 15, 3) := by decide +kernel
theorem dX3_put_4 : decode cX3_put 4 = .ok (.bipush 100, 2) := by decide +kernel
theorem dX3_put_6 : decode cX3_put 6 = .ok (.if_icmp .ge 23, 3) := by decide +kernel
theorem dX3_put_9 : decode cX3_put 9 = .ok (.aload_n 0, 1) := by decide +kernel
theorem dX3_put_10 : decode cX3_put 10 = .ok (.getfield 9, 3) := by decide +kernel
theorem dX3_put_13 : decode cX3_put 13 = .ok (.aload_n 0, 1) := by decide +kernel
theorem dX3_put_14 : decode cX3_put 14 = .ok (.getfield 15, 3) := by decide +kernel
theorem dX3_put_17 : decode cX3_put 17 = .ok (.iload_n 1, 1) := by decide +kernel
theorem dX3_put_18 : decode cX3_put 18 = .ok (.castore, 1) := by decide +kernel
theorem dX3_put_19 : decode cX3_put 19 = .ok (.aload_n 0, 1) := by decide +kernel
theorem dX3_put_20 : decode cX3_put 20 = .ok (.dup, 1) := by decide +kernel
theorem dX3_put_21 : decode cX3_put 21 = .ok (.getfield 15, 3) := by decide +kernel
theorem dX3_put_24 : decode cX3_put 24 = .ok (.iconst 1, 1) := by decide +kernel
theorem dX3_put_25 : decode cX3_put 25 = .ok (.iadd, 1) := by decide +kernel
theorem dX3_put_26 : decode cX3_put 26 = .ok (.putfield 15, 3) := by decide +kernel
theorem dX3_put_29 : decode cX3_put 29 = .ok (.return_, 1) := by decide +kernel
set_option maxRecDepth 100000 in
set_option maxHeartbeats 4000000 in
theorem C_X3_put (l : Launch) (E : gE) (x : gX) {v1 : Int32} {M : gM} {M' : gM} (hf : f_X3_put v1 M = some M') : gM0 l E yX3_put (.code yX3_put cX3_put 2 none) (gR 0 0) M x [.ref (E.2.1 148), .int v1] none M' := by
  refine gMet (by decide +kernel) (Nat.le_of_ble_eq_true rfl) ?_
  intro p e s m args below meth c H locs ls Q hC hl hI kr kv
  replace hC : gC p s m args c cX3_put 2 RX3 E := hC
  replace hl : lv_has ls 2 [(0, .ref (E.2.1 148)), (1, .int v1)] := hl
  have hx := hC.1
  have hb := hC.2.1
  unfold f_X3_put at hf
  refine lv_aload_n hx hb dX3_put_0 rfl (lv_at hl 0 rfl) ?_
  refine gt_X3_X3_length hC hI dX3_put_1 ?_
  refine lv_bipush (v := 100) hx hb dX3_put_4 (by decide) ?_
  refine lv_icmp_ge (tgt := 29) hx hb dX3_put_6 rfl (fun h1 => ?_) (fun h1 => ?_)
  · replace hf := gif h1 hf
    exact kv _ _ _ _ _ (grv hf) hI rfl dX3_put_29
  · replace hf := gifn h1 hf
    refine lv_aload_n hx hb dX3_put_9 rfl (lv_at hl 0 rfl) ?_
    refine gt_X3_X3_text hC hI dX3_put_10 ?_
    refine lv_aload_n hx hb dX3_put_13 rfl (lv_at hl 0 rfl) ?_
    refine gt_X3_X3_length hC hI dX3_put_14 ?_
    refine lv_iload_n hx hb dX3_put_17 rfl (lv_at hl 1 rfl) ?_
    obtain ⟨h2, hf⟩ := gifN hf
    obtain ⟨M3, eM3, hf⟩ := glet hf
    refine g_cast hC hI (k := (M 148 1).toNatClampNeg) gCA_149 h2 rfl dX3_put_18 (fun H locs hI => ?_)
    replace hI := g_mem eM3 hI
    refine lv_aload_n hx hb dX3_put_19 rfl (lv_at hl 0 rfl) ?_
    refine lv_dup hx hb dX3_put_20 rfl ?_
    refine gt_X3_X3_length hC hI dX3_put_21 ?_
    refine lv_iconst (v := 1) hx hb dX3_put_24 (by decide) ?_
    refine lv_iadd hx hb dX3_put_25 ?_
    obtain ⟨M4, eM4, hf⟩ := glet hf
    refine pt_X3_X3_length hC hI dX3_put_26 (fun H locs hI => ?_)
    replace hI := g_mem eM4 hI
    exact kv _ _ _ _ _ (grv hf) hI rfl dX3_put_29
theorem dX3_putNumber_0 : decode cX3_putNumber 0 = .ok (.ldc 76, 2) := by decide +kernel
theorem dX3_putNumber_2 : decode cX3_putNumber 2 = .ok (.istore_n 2, 1) := by decide +kernel
theorem dX3_putNumber_3 : decode cX3_putNumber 3 = .ok (.iload_n 2, 1) := by decide +kernel
theorem dX3_putNumber_4 : decode cX3_putNumber 4 = .ok (.ifCond .le 35, 3) := by decide +kernel
theorem dX3_putNumber_7 : decode cX3_putNumber 7 = .ok (.iload_n 1, 1) := by decide +kernel
theorem dX3_putNumber_8 : decode cX3_putNumber 8 = .ok (.iload_n 2, 1) := by decide +kernel
theorem dX3_putNumber_9 : decode cX3_putNumber 9 = .ok (.if_icmp .ge 8, 3) := by decide +kernel
theorem dX3_putNumber_12 : decode cX3_putNumber 12 = .ok (.iload_n 2, 1) := by decide +kernel
theorem dX3_putNumber_13 : decode cX3_putNumber 13 = .ok (.iconst 1, 1) := by decide +kernel
theorem dX3_putNumber_14 : decode cX3_putNumber 14 = .ok (.if_icmp .ne 17, 3) := by decide +kernel
theorem dX3_putNumber_17 : decode cX3_putNumber 17 = .ok (.aload_n 0, 1) := by decide +kernel
theorem dX3_putNumber_18 : decode cX3_putNumber 18 = .ok (.bipush 48, 2) := by decide +kernel
theorem dX3_putNumber_20 : decode cX3_putNumber 20 = .ok (.iload_n 1, 1) := by decide +kernel
theorem dX3_putNumber_21 : decode cX3_putNumber 21 = .ok (.iload_n 2, 1) := by decide +kernel
theorem dX3_putNumber_22 : decode cX3_putNumber 22 = .ok (.idiv, 1) := by decide +kernel
theorem dX3_putNumber_23 : decode cX3_putNumber 23 = .ok (.bipush 10, 2) := by decide +kernel
theorem dX3_putNumber_25 : decode cX3_putNumber 25 = .ok (.irem, 1) := by decide +kernel
theorem dX3_putNumber_26 : decode cX3_putNumber 26 = .ok (.iadd, 1) := by decide +kernel
theorem dX3_putNumber_27 : decode cX3_putNumber 27 = .ok (.i2c, 1) := by decide +kernel
theorem dX3_putNumber_28 : decode cX3_putNumber 28 = .ok (.invokevirtual 29, 3) := by decide +kernel
theorem dX3_putNumber_31 : decode cX3_putNumber 31 = .ok (.iload_n 2, 1) := by decide +kernel
theorem dX3_putNumber_32 : decode cX3_putNumber 32 = .ok (.bipush 10, 2) := by decide +kernel
theorem dX3_putNumber_34 : decode cX3_putNumber 34 = .ok (.idiv, 1) := by decide +kernel
theorem dX3_putNumber_35 : decode cX3_putNumber 35 = .ok (.istore_n 2, 1) := by decide +kernel
theorem dX3_putNumber_36 : decode cX3_putNumber 36 = .ok (.goto (-33), 3) := by decide +kernel
theorem dX3_putNumber_39 : decode cX3_putNumber 39 = .ok (.return_, 1) := by decide +kernel
set_option maxRecDepth 100000 in
set_option maxHeartbeats 4000000 in
theorem C_X3_putNumber (l : Launch) (E : gE) (x : gX) {v1 : Int32} {M : gM} {M' : gM} (hf : f_X3_putNumber v1 M = some M') : gM0 l E yX3_putNumber (.code yX3_putNumber cX3_putNumber 3 none) (gR 1 21) M x [.ref (E.2.1 148), .int v1] none M' := by
  refine gMet (by decide +kernel) (Nat.le_of_ble_eq_true rfl) ?_
  intro p e s m args below meth c H locs ls Q hC hl hI kr kv
  replace hC : gC p s m args c cX3_putNumber 3 RX3 E := hC
  replace hl : lv_has ls 3 [(0, .ref (E.2.1 148)), (1, .int v1)] := hl
  have hx := hC.1
  have hb := hC.2.1
  have L3 : ∀ (v1 : Int32) (n : Nat) (v2 : Int32) (M : gM), f_X3_putNumber_L3 v1 n v2 M = some M' → ∀ (H : Heap) (locs : List Loc) (ls : Array Slot), gI E s M x H locs → lv_has ls 3 [(2, .int v2), (0, .ref (E.2.1 148)), (1, .int v1)] → W p l e (gR 1 21) s m args below meth c H locs 0 0 Q (F0 m 3 ls []) := by
    intro v1 n
    induction n with
    | zero => intro v2 M hf; rw [f_X3_putNumber_L3] at hf; cases hf
    | succ n ih =>
      intro v2 M hf H locs ls hI hl
      rw [f_X3_putNumber_L3] at hf
      refine lv_iload_n hx hb dX3_putNumber_3 rfl (lv_at hl 0 rfl) ?_
      refine lv_if_le (tgt := 39) hx hb dX3_putNumber_4 rfl (fun h1 => ?_) (fun h1 => ?_)
      · replace hf := gif h1 hf
        exact kv _ _ _ _ _ (grv hf) hI rfl dX3_putNumber_39
      · replace hf := gifn h1 hf
        refine lv_iload_n hx hb dX3_putNumber_7 rfl (lv_at hl 2 rfl) ?_
        refine lv_iload_n hx hb dX3_putNumber_8 rfl (lv_at hl 0 rfl) ?_
        refine lv_icmp_ge (tgt := 17) hx hb dX3_putNumber_9 rfl (fun h2 => ?_) (fun h2 => ?_)
        · replace hf := gif h2 hf
          refine lv_aload_n hx hb dX3_putNumber_17 rfl (lv_at hl 1 rfl) ?_
          refine lv_bipush (v := 48) hx hb dX3_putNumber_18 (by decide) ?_
          refine lv_iload_n hx hb dX3_putNumber_20 rfl (lv_at hl 2 rfl) ?_
          refine lv_iload_n hx hb dX3_putNumber_21 rfl (lv_at hl 0 rfl) ?_
          obtain ⟨h3, hf⟩ := gifNn hf
          refine lv_idiv hx hb dX3_putNumber_22 h3 ?_
          refine lv_bipush (v := 10) hx hb dX3_putNumber_23 (by decide) ?_
          refine lv_irem hx hb dX3_putNumber_25 (by decide) ?_
          refine lv_iadd hx hb dX3_putNumber_26 ?_
          refine lv_i2c hx hb dX3_putNumber_27 rfl ?_
          obtain ⟨r4, hr5, hf⟩ := gbind hf
          have hr5 := C_X3_put l E x  hr5
          refine g_callVv (rest := []) hC hI hr5 Y_X3_put V_X3_put w864 (rcv_X3 hC hI) ⟨rfl, rfl⟩ ⟨Nat.le_of_ble_eq_true rfl, Nat.le_of_ble_eq_true rfl⟩ rfl hl.1 rfl (Nat.le_of_ble_eq_true rfl) dX3_putNumber_28 ⟨Nat.le_of_ble_eq_true rfl, Nat.le_of_ble_eq_true rfl⟩ (fun H locs hI => ?_)
          refine lv_iload_n hx hb dX3_putNumber_31 rfl (lv_at hl 0 rfl) ?_
          refine lv_bipush (v := 10) hx hb dX3_putNumber_32 (by decide) ?_
          refine lv_idiv hx hb dX3_putNumber_34 (by decide) ?_
          obtain ⟨z6, ez6, hf⟩ := glet hf
          refine g_top ez6 ?_
          refine lv_istore_n (lv' := [(2, .int z6), (0, .ref (E.2.1 148)), (1, .int v1)]) hx hb dX3_putNumber_35 rfl hl (by decide) rfl (fun ls hl => ?_)
          refine lv_goto (tgt := 3) hx hb dX3_putNumber_36 rfl ?_
          exact ih z6 r4 hf _ _ _ hI (lv_sub hl [0, 1, 2] rfl)
        · replace hf := gifn h2 hf
          refine lv_iload_n hx hb dX3_putNumber_12 rfl (lv_at hl 0 rfl) ?_
          refine lv_iconst (v := 1) hx hb dX3_putNumber_13 (by decide) ?_
          refine lv_icmp_ne (tgt := 31) hx hb dX3_putNumber_14 rfl (fun h7 => ?_) (fun h7 => ?_)
          · replace hf := gifn h7 hf
            refine lv_iload_n hx hb dX3_putNumber_31 rfl (lv_at hl 0 rfl) ?_
            refine lv_bipush (v := 10) hx hb dX3_putNumber_32 (by decide) ?_
            refine lv_idiv hx hb dX3_putNumber_34 (by decide) ?_
            obtain ⟨z8, ez8, hf⟩ := glet hf
            refine g_top ez8 ?_
            refine lv_istore_n (lv' := [(2, .int z8), (0, .ref (E.2.1 148)), (1, .int v1)]) hx hb dX3_putNumber_35 rfl hl (by decide) rfl (fun ls hl => ?_)
            refine lv_goto (tgt := 3) hx hb dX3_putNumber_36 rfl ?_
            exact ih z8 M hf _ _ _ hI (lv_sub hl [0, 1, 2] rfl)
          · replace hf := gif h7 hf
            refine lv_aload_n hx hb dX3_putNumber_17 rfl (lv_at hl 1 rfl) ?_
            refine lv_bipush (v := 48) hx hb dX3_putNumber_18 (by decide) ?_
            refine lv_iload_n hx hb dX3_putNumber_20 rfl (lv_at hl 2 rfl) ?_
            refine lv_iload_n hx hb dX3_putNumber_21 rfl (lv_at hl 0 rfl) ?_
            obtain ⟨h9, hf⟩ := gifNn hf
            refine lv_idiv hx hb dX3_putNumber_22 h9 ?_
            refine lv_bipush (v := 10) hx hb dX3_putNumber_23 (by decide) ?_
            refine lv_irem hx hb dX3_putNumber_25 (by decide) ?_
            refine lv_iadd hx hb dX3_putNumber_26 ?_
            refine lv_i2c hx hb dX3_putNumber_27 rfl ?_
            obtain ⟨r10, hr11, hf⟩ := gbind hf
            have hr11 := C_X3_put l E x  hr11
            refine g_callVv (rest := []) hC hI hr11 Y_X3_put V_X3_put w864 (rcv_X3 hC hI) ⟨rfl, rfl⟩ ⟨Nat.le_of_ble_eq_true rfl, Nat.le_of_ble_eq_true rfl⟩ rfl hl.1 rfl (Nat.le_of_ble_eq_true rfl) dX3_putNumber_28 ⟨Nat.le_of_ble_eq_true rfl, Nat.le_of_ble_eq_true rfl⟩ (fun H locs hI => ?_)
            refine lv_iload_n hx hb dX3_putNumber_31 rfl (lv_at hl 0 rfl) ?_
            refine lv_bipush (v := 10) hx hb dX3_putNumber_32 (by decide) ?_
            refine lv_idiv hx hb dX3_putNumber_34 (by decide) ?_
            obtain ⟨z12, ez12, hf⟩ := glet hf
            refine g_top ez12 ?_
            refine lv_istore_n (lv' := [(2, .int z12), (0, .ref (E.2.1 148)), (1, .int v1)]) hx hb dX3_putNumber_35 rfl hl (by decide) rfl (fun ls hl => ?_)
            refine lv_goto (tgt := 3) hx hb dX3_putNumber_36 rfl ?_
            exact ih z12 r10 hf _ _ _ hI (lv_sub hl [0, 1, 2] rfl)
  unfold f_X3_putNumber at hf
  refine lv_ldc hx hb hC.2.2.2.1 (hC.2.2.2.2.1 _ w873) dX3_putNumber_0 ?_
  refine lv_istore_n (lv' := [(2, .int 1000000000), (0, .ref (E.2.1 148)), (1, .int v1)]) hx hb dX3_putNumber_2 rfl hl (by decide) rfl (fun ls hl => ?_)
  exact L3 v1 gF 1000000000 M hf _ _ _ hI (lv_sub hl [0, 1, 2] rfl)
theorem dX3_writeStack_0 : decode cX3_writeStack 0 = .ok (.aload_n 1, 1) := by decide +kernel
theorem dX3_writeStack_1 : decode cX3_writeStack 1 = .ok (.iload_n 2, 1) := by decide +kernel
theorem dX3_writeStack_2 : decode cX3_writeStack 2 = .ok (.invokevirtual 19, 3) := by decide +kernel
theorem dX3_writeStack_5 : decode cX3_writeStack 5 = .ok (.istore_n 3, 1) := by decide +kernel
theorem dX3_writeStack_6 : decode cX3_writeStack 6 = .ok (.aload_n 0, 1) := by decide +kernel
theorem dX3_writeStack_7 : decode cX3_writeStack 7 = .ok (.iconst 0, 1) := by decide +kernel
theorem dX3_writeStack_8 : decode cX3_writeStack 8 = .ok (.putfield 15, 3) := by decide +kernel
theorem dX3_writeStack_11 : decode cX3_writeStack 11 = .ok (.iconst 0, 1) := by decide +kernel
theorem dX3_writeStack_12 : decode cX3_writeStack 12 = .ok (.istore 4, 2) := by decide +kernel
theorem dX3_writeStack_14 : decode cX3_writeStack 14 = .ok (.iload 4, 2) := by decide +kernel
theorem dX3_writeStack_16 : decode cX3_writeStack 16 = .ok (.iload_n 3, 1) := by decide +kernel
theorem dX3_writeStack_17 : decode cX3_writeStack 17 = .ok (.if_icmp .ge 71, 3) := by decide +kernel
theorem dX3_writeStack_20 : decode cX3_writeStack 20 = .ok (.aload_n 1, 1) := by decide +kernel
theorem dX3_writeStack_21 : decode cX3_writeStack 21 = .ok (.iload_n 2, 1) := by decide +kernel
theorem dX3_writeStack_22 : decode cX3_writeStack 22 = .ok (.iload 4, 2) := by decide +kernel
theorem dX3_writeStack_24 : decode cX3_writeStack 24 = .ok (.invokevirtual 25, 3) := by decide +kernel
theorem dX3_writeStack_27 : decode cX3_writeStack 27 = .ok (.istore 5, 2) := by decide +kernel
theorem dX3_writeStack_29 : decode cX3_writeStack 29 = .ok (.iload 4, 2) := by decide +kernel
theorem dX3_writeStack_31 : decode cX3_writeStack 31 = .ok (.ifCond .le 9, 3) := by decide +kernel
theorem dX3_writeStack_34 : decode cX3_writeStack 34 = .ok (.aload_n 0, 1) := by decide +kernel
theorem dX3_writeStack_35 : decode cX3_writeStack 35 = .ok (.bipush 32, 2) := by decide +kernel
theorem dX3_writeStack_37 : decode cX3_writeStack 37 = .ok (.invokevirtual 29, 3) := by decide +kernel
theorem dX3_writeStack_40 : decode cX3_writeStack 40 = .ok (.aload_n 0, 1) := by decide +kernel
theorem dX3_writeStack_41 : decode cX3_writeStack 41 = .ok (.aload_n 1, 1) := by decide +kernel
theorem dX3_writeStack_42 : decode cX3_writeStack 42 = .ok (.iload 5, 2) := by decide +kernel
theorem dX3_writeStack_44 : decode cX3_writeStack 44 = .ok (.invokevirtual 33, 3) := by decide +kernel
theorem dX3_writeStack_47 : decode cX3_writeStack 47 = .ok (.invokevirtual 36, 3) := by decide +kernel
theorem dX3_writeStack_50 : decode cX3_writeStack 50 = .ok (.aload_n 0, 1) := by decide +kernel
theorem dX3_writeStack_51 : decode cX3_writeStack 51 = .ok (.bipush 58, 2) := by decide +kernel
theorem dX3_writeStack_53 : decode cX3_writeStack 53 = .ok (.invokevirtual 29, 3) := by decide +kernel
theorem dX3_writeStack_56 : decode cX3_writeStack 56 = .ok (.aload_n 0, 1) := by decide +kernel
theorem dX3_writeStack_57 : decode cX3_writeStack 57 = .ok (.aload_n 1, 1) := by decide +kernel
theorem dX3_writeStack_58 : decode cX3_writeStack 58 = .ok (.iload 5, 2) := by decide +kernel
theorem dX3_writeStack_60 : decode cX3_writeStack 60 = .ok (.invokevirtual 40, 3) := by decide +kernel
theorem dX3_writeStack_63 : decode cX3_writeStack 63 = .ok (.invokevirtual 36, 3) := by decide +kernel
theorem dX3_writeStack_66 : decode cX3_writeStack 66 = .ok (.aload_n 0, 1) := by decide +kernel
theorem dX3_writeStack_67 : decode cX3_writeStack 67 = .ok (.bipush 47, 2) := by decide +kernel
theorem dX3_writeStack_69 : decode cX3_writeStack 69 = .ok (.invokevirtual 29, 3) := by decide +kernel
theorem dX3_writeStack_72 : decode cX3_writeStack 72 = .ok (.aload_n 0, 1) := by decide +kernel
theorem dX3_writeStack_73 : decode cX3_writeStack 73 = .ok (.aload_n 1, 1) := by decide +kernel
theorem dX3_writeStack_74 : decode cX3_writeStack 74 = .ok (.iload 5, 2) := by decide +kernel
theorem dX3_writeStack_76 : decode cX3_writeStack 76 = .ok (.invokevirtual 43, 3) := by decide +kernel
theorem dX3_writeStack_79 : decode cX3_writeStack 79 = .ok (.invokevirtual 36, 3) := by decide +kernel
theorem dX3_writeStack_82 : decode cX3_writeStack 82 = .ok (.iinc 4 1, 3) := by decide +kernel
theorem dX3_writeStack_85 : decode cX3_writeStack 85 = .ok (.goto (-71), 3) := by decide +kernel
theorem dX3_writeStack_88 : decode cX3_writeStack 88 = .ok (.return_, 1) := by decide +kernel
set_option maxRecDepth 100000 in
set_option maxHeartbeats 4000000 in
theorem C_X3_writeStack (l : Launch) (E : gE) (x : gX) {o1 : Nat} (ho1 : gOk o1) {v2 : Int32} {M : gM} {M' : gM} (hf : f_X3_writeStack o1 v2 M = some M') : gM0 l E yX3_writeStack (.code yX3_writeStack cX3_writeStack 6 none) (gR 2 43) M x [.ref (E.2.1 148), .ref (E.2.1 (o1 + 1)), .int v2] none M' := by
  refine gMet (by decide +kernel) (Nat.le_of_ble_eq_true rfl) ?_
  intro p e s m args below meth c H locs ls Q hC hl hI kr kv
  replace hC : gC p s m args c cX3_writeStack 6 RX3 E := hC
  replace hl : lv_has ls 6 [(0, .ref (E.2.1 148)), (1, .ref (E.2.1 (o1 + 1))), (2, .int v2)] := hl
  have hx := hC.1
  have hb := hC.2.1
  have L14 : ∀ (v3 : Int32) (v2 : Int32) (n : Nat) (v4 : Int32) (M : gM), f_X3_writeStack_L14 o1 v3 v2 n v4 M = some M' → ∀ (H : Heap) (locs : List Loc) (ls : Array Slot), gI E s M x H locs → lv_has ls 6 [(4, .int v4), (3, .int v3), (0, .ref (E.2.1 148)), (1, .ref (E.2.1 (o1 + 1))), (2, .int v2)] → W p l e (gR 2 43) s m args below meth c H locs 0 0 Q (F0 m 14 ls []) := by
    intro v3 v2 n
    induction n with
    | zero => intro v4 M hf; rw [f_X3_writeStack_L14] at hf; cases hf
    | succ n ih =>
      intro v4 M hf H locs ls hI hl
      rw [f_X3_writeStack_L14] at hf
      refine lv_iload hx hb dX3_writeStack_14 (lv_at hl 0 rfl) ?_
      refine lv_iload_n hx hb dX3_writeStack_16 rfl (lv_at hl 1 rfl) ?_
      refine lv_icmp_ge (tgt := 88) hx hb dX3_writeStack_17 rfl (fun h4 => ?_) (fun h4 => ?_)
      · replace hf := gif h4 hf
        exact kv _ _ _ _ _ (grv hf) hI rfl dX3_writeStack_88
      · replace hf := gifn h4 hf
        refine lv_aload_n hx hb dX3_writeStack_20 rfl (lv_at hl 3 rfl) ?_
        refine lv_iload_n hx hb dX3_writeStack_21 rfl (lv_at hl 4 rfl) ?_
        refine lv_iload hx hb dX3_writeStack_22 (lv_at hl 0 rfl) ?_
        obtain ⟨r5, hr6, hf⟩ := gbind hf
        have hr6 := C_X0_rowAt l E x ho1 hr6
        refine g_callVi (rest := []) hC hI hr6 Y_X0_rowAt V_X0_rowAt w863 (rcv_X0 hC hI ho1) ⟨rfl, rfl⟩ ⟨Nat.le_of_ble_eq_true rfl, Nat.le_of_ble_eq_true rfl⟩ rfl hl.1 rfl (Nat.le_of_ble_eq_true rfl) dX3_writeStack_24 ⟨Nat.le_of_ble_eq_true rfl, Nat.le_of_ble_eq_true rfl⟩ (fun H locs hI => ?_)
        refine lv_istore (lv' := [(5, .int r5), (4, .int v4), (3, .int v3), (0, .ref (E.2.1 148)), (1, .ref (E.2.1 (o1 + 1))), (2, .int v2)]) hx hb dX3_writeStack_27 hl (by decide) rfl (fun ls hl => ?_)
        refine lv_iload hx hb dX3_writeStack_29 (lv_at hl 1 rfl) ?_
        refine lv_if_le (tgt := 40) hx hb dX3_writeStack_31 rfl (fun h7 => ?_) (fun h7 => ?_)
        · replace hf := gif h7 hf
          refine lv_aload_n hx hb dX3_writeStack_40 rfl (lv_at hl 3 rfl) ?_
          refine lv_aload_n hx hb dX3_writeStack_41 rfl (lv_at hl 4 rfl) ?_
          refine lv_iload hx hb dX3_writeStack_42 (lv_at hl 0 rfl) ?_
          obtain ⟨r8, hr9, hf⟩ := gbind hf
          have hr9 := C_X0_id l E x ho1 hr9
          refine g_callVi (rest := [.ref (E.2.1 148)]) hC hI hr9 Y_X0_id V_X0_id w868 (rcv_X0 hC hI ho1) ⟨rfl, rfl⟩ ⟨Nat.le_of_ble_eq_true rfl, Nat.le_of_ble_eq_true rfl⟩ rfl hl.1 rfl (Nat.le_of_ble_eq_true rfl) dX3_writeStack_44 ⟨Nat.le_of_ble_eq_true rfl, Nat.le_of_ble_eq_true rfl⟩ (fun H locs hI => ?_)
          obtain ⟨r10, hr11, hf⟩ := gbind hf
          have hr11 := C_X3_putNumber l E x  hr11
          refine g_callVv (rest := []) hC hI hr11 Y_X3_putNumber V_X3_putNumber w869 (rcv_X3 hC hI) ⟨rfl, rfl⟩ ⟨Nat.le_of_ble_eq_true rfl, Nat.le_of_ble_eq_true rfl⟩ rfl hl.1 rfl (Nat.le_of_ble_eq_true rfl) dX3_writeStack_47 ⟨Nat.le_of_ble_eq_true rfl, Nat.le_of_ble_eq_true rfl⟩ (fun H locs hI => ?_)
          refine lv_aload_n hx hb dX3_writeStack_50 rfl (lv_at hl 3 rfl) ?_
          refine lv_bipush (v := 58) hx hb dX3_writeStack_51 (by decide) ?_
          obtain ⟨r12, hr13, hf⟩ := gbind hf
          have hr13 := C_X3_put l E x  hr13
          refine g_callVv (rest := []) hC hI hr13 Y_X3_put V_X3_put w864 (rcv_X3 hC hI) ⟨rfl, rfl⟩ ⟨Nat.le_of_ble_eq_true rfl, Nat.le_of_ble_eq_true rfl⟩ rfl hl.1 rfl (Nat.le_of_ble_eq_true rfl) dX3_writeStack_53 ⟨Nat.le_of_ble_eq_true rfl, Nat.le_of_ble_eq_true rfl⟩ (fun H locs hI => ?_)
          refine lv_aload_n hx hb dX3_writeStack_56 rfl (lv_at hl 3 rfl) ?_
          refine lv_aload_n hx hb dX3_writeStack_57 rfl (lv_at hl 4 rfl) ?_
          refine lv_iload hx hb dX3_writeStack_58 (lv_at hl 0 rfl) ?_
          obtain ⟨r14, hr15, hf⟩ := gbind hf
          have hr15 := C_X0_weight l E x ho1 hr15
          refine g_callVi (rest := [.ref (E.2.1 148)]) hC hI hr15 Y_X0_weight V_X0_weight w874 (rcv_X0 hC hI ho1) ⟨rfl, rfl⟩ ⟨Nat.le_of_ble_eq_true rfl, Nat.le_of_ble_eq_true rfl⟩ rfl hl.1 rfl (Nat.le_of_ble_eq_true rfl) dX3_writeStack_60 ⟨Nat.le_of_ble_eq_true rfl, Nat.le_of_ble_eq_true rfl⟩ (fun H locs hI => ?_)
          obtain ⟨r16, hr17, hf⟩ := gbind hf
          have hr17 := C_X3_putNumber l E x  hr17
          refine g_callVv (rest := []) hC hI hr17 Y_X3_putNumber V_X3_putNumber w869 (rcv_X3 hC hI) ⟨rfl, rfl⟩ ⟨Nat.le_of_ble_eq_true rfl, Nat.le_of_ble_eq_true rfl⟩ rfl hl.1 rfl (Nat.le_of_ble_eq_true rfl) dX3_writeStack_63 ⟨Nat.le_of_ble_eq_true rfl, Nat.le_of_ble_eq_true rfl⟩ (fun H locs hI => ?_)
          refine lv_aload_n hx hb dX3_writeStack_66 rfl (lv_at hl 3 rfl) ?_
          refine lv_bipush (v := 47) hx hb dX3_writeStack_67 (by decide) ?_
          obtain ⟨r18, hr19, hf⟩ := gbind hf
          have hr19 := C_X3_put l E x  hr19
          refine g_callVv (rest := []) hC hI hr19 Y_X3_put V_X3_put w864 (rcv_X3 hC hI) ⟨rfl, rfl⟩ ⟨Nat.le_of_ble_eq_true rfl, Nat.le_of_ble_eq_true rfl⟩ rfl hl.1 rfl (Nat.le_of_ble_eq_true rfl) dX3_writeStack_69 ⟨Nat.le_of_ble_eq_true rfl, Nat.le_of_ble_eq_true rfl⟩ (fun H locs hI => ?_)
          refine lv_aload_n hx hb dX3_writeStack_72 rfl (lv_at hl 3 rfl) ?_
          refine lv_aload_n hx hb dX3_writeStack_73 rfl (lv_at hl 4 rfl) ?_
          refine lv_iload hx hb dX3_writeStack_74 (lv_at hl 0 rfl) ?_
          obtain ⟨r20, hr21, hf⟩ := gbind hf
          have hr21 := C_X0_key l E x ho1 hr21
          refine g_callVi (rest := [.ref (E.2.1 148)]) hC hI hr21 Y_X0_key V_X0_key w875 (rcv_X0 hC hI ho1) ⟨rfl, rfl⟩ ⟨Nat.le_of_ble_eq_true rfl, Nat.le_of_ble_eq_true rfl⟩ rfl hl.1 rfl (Nat.le_of_ble_eq_true rfl) dX3_writeStack_76 ⟨Nat.le_of_ble_eq_true rfl, Nat.le_of_ble_eq_true rfl⟩ (fun H locs hI => ?_)
          obtain ⟨r22, hr23, hf⟩ := gbind hf
          have hr23 := C_X3_putNumber l E x  hr23
          refine g_callVv (rest := []) hC hI hr23 Y_X3_putNumber V_X3_putNumber w869 (rcv_X3 hC hI) ⟨rfl, rfl⟩ ⟨Nat.le_of_ble_eq_true rfl, Nat.le_of_ble_eq_true rfl⟩ rfl hl.1 rfl (Nat.le_of_ble_eq_true rfl) dX3_writeStack_79 ⟨Nat.le_of_ble_eq_true rfl, Nat.le_of_ble_eq_true rfl⟩ (fun H locs hI => ?_)
          refine lv_iinc (k := 1) (v := v4 + 1) (lv' := [(4, .int (v4 + 1)), (5, .int r5), (3, .int v3), (0, .ref (E.2.1 148)), (1, .ref (E.2.1 (o1 + 1))), (2, .int v2)]) hx hb dX3_writeStack_82 hl rfl rfl (by decide) rfl (fun ls hl => ?_)
          refine lv_goto (tgt := 14) hx hb dX3_writeStack_85 rfl ?_
          exact ih (v4 + 1) r22 hf _ _ _ hI (lv_sub hl [0, 2, 3, 4, 5] rfl)
        · replace hf := gifn h7 hf
          refine lv_aload_n hx hb dX3_writeStack_34 rfl (lv_at hl 3 rfl) ?_
          refine lv_bipush (v := 32) hx hb dX3_writeStack_35 (by decide) ?_
          obtain ⟨r24, hr25, hf⟩ := gbind hf
          have hr25 := C_X3_put l E x  hr25
          refine g_callVv (rest := []) hC hI hr25 Y_X3_put V_X3_put w864 (rcv_X3 hC hI) ⟨rfl, rfl⟩ ⟨Nat.le_of_ble_eq_true rfl, Nat.le_of_ble_eq_true rfl⟩ rfl hl.1 rfl (Nat.le_of_ble_eq_true rfl) dX3_writeStack_37 ⟨Nat.le_of_ble_eq_true rfl, Nat.le_of_ble_eq_true rfl⟩ (fun H locs hI => ?_)
          refine lv_aload_n hx hb dX3_writeStack_40 rfl (lv_at hl 3 rfl) ?_
          refine lv_aload_n hx hb dX3_writeStack_41 rfl (lv_at hl 4 rfl) ?_
          refine lv_iload hx hb dX3_writeStack_42 (lv_at hl 0 rfl) ?_
          obtain ⟨r26, hr27, hf⟩ := gbind hf
          have hr27 := C_X0_id l E x ho1 hr27
          refine g_callVi (rest := [.ref (E.2.1 148)]) hC hI hr27 Y_X0_id V_X0_id w868 (rcv_X0 hC hI ho1) ⟨rfl, rfl⟩ ⟨Nat.le_of_ble_eq_true rfl, Nat.le_of_ble_eq_true rfl⟩ rfl hl.1 rfl (Nat.le_of_ble_eq_true rfl) dX3_writeStack_44 ⟨Nat.le_of_ble_eq_true rfl, Nat.le_of_ble_eq_true rfl⟩ (fun H locs hI => ?_)
          obtain ⟨r28, hr29, hf⟩ := gbind hf
          have hr29 := C_X3_putNumber l E x  hr29
          refine g_callVv (rest := []) hC hI hr29 Y_X3_putNumber V_X3_putNumber w869 (rcv_X3 hC hI) ⟨rfl, rfl⟩ ⟨Nat.le_of_ble_eq_true rfl, Nat.le_of_ble_eq_true rfl⟩ rfl hl.1 rfl (Nat.le_of_ble_eq_true rfl) dX3_writeStack_47 ⟨Nat.le_of_ble_eq_true rfl, Nat.le_of_ble_eq_true rfl⟩ (fun H locs hI => ?_)
          refine lv_aload_n hx hb dX3_writeStack_50 rfl (lv_at hl 3 rfl) ?_
          refine lv_bipush (v := 58) hx hb dX3_writeStack_51 (by decide) ?_
          obtain ⟨r30, hr31, hf⟩ := gbind hf
          have hr31 := C_X3_put l E x  hr31
          refine g_callVv (rest := []) hC hI hr31 Y_X3_put V_X3_put w864 (rcv_X3 hC hI) ⟨rfl, rfl⟩ ⟨Nat.le_of_ble_eq_true rfl, Nat.le_of_ble_eq_true rfl⟩ rfl hl.1 rfl (Nat.le_of_ble_eq_true rfl) dX3_writeStack_53 ⟨Nat.le_of_ble_eq_true rfl, Nat.le_of_ble_eq_true rfl⟩ (fun H locs hI => ?_)
          refine lv_aload_n hx hb dX3_writeStack_56 rfl (lv_at hl 3 rfl) ?_
          refine lv_aload_n hx hb dX3_writeStack_57 rfl (lv_at hl 4 rfl) ?_
          refine lv_iload hx hb dX3_writeStack_58 (lv_at hl 0 rfl) ?_
          obtain ⟨r32, hr33, hf⟩ := gbind hf
          have hr33 := C_X0_weight l E x ho1 hr33
          refine g_callVi (rest := [.ref (E.2.1 148)]) hC hI hr33 Y_X0_weight V_X0_weight w874 (rcv_X0 hC hI ho1) ⟨rfl, rfl⟩ ⟨Nat.le_of_ble_eq_true rfl, Nat.le_of_ble_eq_true rfl⟩ rfl hl.1 rfl (Nat.le_of_ble_eq_true rfl) dX3_writeStack_60 ⟨Nat.le_of_ble_eq_true rfl, Nat.le_of_ble_eq_true rfl⟩ (fun H locs hI => ?_)
          obtain ⟨r34, hr35, hf⟩ := gbind hf
          have hr35 := C_X3_putNumber l E x  hr35
          refine g_callVv (rest := []) hC hI hr35 Y_X3_putNumber V_X3_putNumber w869 (rcv_X3 hC hI) ⟨rfl, rfl⟩ ⟨Nat.le_of_ble_eq_true rfl, Nat.le_of_ble_eq_true rfl⟩ rfl hl.1 rfl (Nat.le_of_ble_eq_true rfl) dX3_writeStack_63 ⟨Nat.le_of_ble_eq_true rfl, Nat.le_of_ble_eq_true rfl⟩ (fun H locs hI => ?_)
          refine lv_aload_n hx hb dX3_writeStack_66 rfl (lv_at hl 3 rfl) ?_
          refine lv_bipush (v := 47) hx hb dX3_writeStack_67 (by decide) ?_
          obtain ⟨r36, hr37, hf⟩ := gbind hf
          have hr37 := C_X3_put l E x  hr37
          refine g_callVv (rest := []) hC hI hr37 Y_X3_put V_X3_put w864 (rcv_X3 hC hI) ⟨rfl, rfl⟩ ⟨Nat.le_of_ble_eq_true rfl, Nat.le_of_ble_eq_true rfl⟩ rfl hl.1 rfl (Nat.le_of_ble_eq_true rfl) dX3_writeStack_69 ⟨Nat.le_of_ble_eq_true rfl, Nat.le_of_ble_eq_true rfl⟩ (fun H locs hI => ?_)
          refine lv_aload_n hx hb dX3_writeStack_72 rfl (lv_at hl 3 rfl) ?_
          refine lv_aload_n hx hb dX3_writeStack_73 rfl (lv_at hl 4 rfl) ?_
          refine lv_iload hx hb dX3_writeStack_74 (lv_at hl 0 rfl) ?_
          obtain ⟨r38, hr39, hf⟩ := gbind hf
          have hr39 := C_X0_key l E x ho1 hr39
          refine g_callVi (rest := [.ref (E.2.1 148)]) hC hI hr39 Y_X0_key V_X0_key w875 (rcv_X0 hC hI ho1) ⟨rfl, rfl⟩ ⟨Nat.le_of_ble_eq_true rfl, Nat.le_of_ble_eq_true rfl⟩ rfl hl.1 rfl (Nat.le_of_ble_eq_true rfl) dX3_writeStack_76 ⟨Nat.le_of_ble_eq_true rfl, Nat.le_of_ble_eq_true rfl⟩ (fun H locs hI => ?_)
          obtain ⟨r40, hr41, hf⟩ := gbind hf
          have hr41 := C_X3_putNumber l E x  hr41
          refine g_callVv (rest := []) hC hI hr41 Y_X3_putNumber V_X3_putNumber w869 (rcv_X3 hC hI) ⟨rfl, rfl⟩ ⟨Nat.le_of_ble_eq_true rfl, Nat.le_of_ble_eq_true rfl⟩ rfl hl.1 rfl (Nat.le_of_ble_eq_true rfl) dX3_writeStack_79 ⟨Nat.le_of_ble_eq_true rfl, Nat.le_of_ble_eq_true rfl⟩ (fun H locs hI => ?_)
          refine lv_iinc (k := 1) (v := v4 + 1) (lv' := [(4, .int (v4 + 1)), (5, .int r5), (3, .int v3), (0, .ref (E.2.1 148)), (1, .ref (E.2.1 (o1 + 1))), (2, .int v2)]) hx hb dX3_writeStack_82 hl rfl rfl (by decide) rfl (fun ls hl => ?_)
          refine lv_goto (tgt := 14) hx hb dX3_writeStack_85 rfl ?_
          exact ih (v4 + 1) r40 hf _ _ _ hI (lv_sub hl [0, 2, 3, 4, 5] rfl)
  unfold f_X3_writeStack at hf
  refine lv_aload_n hx hb dX3_writeStack_0 rfl (lv_at hl 1 rfl) ?_
  refine lv_iload_n hx hb dX3_writeStack_1 rfl (lv_at hl 2 rfl) ?_
  obtain ⟨r1, hr2, hf⟩ := gbind hf
  have hr2 := C_X0_height l E x ho1 hr2
  refine g_callVi (rest := []) hC hI hr2 Y_X0_height V_X0_height w862 (rcv_X0 hC hI ho1) ⟨rfl, rfl⟩ ⟨Nat.le_of_ble_eq_true rfl, Nat.le_of_ble_eq_true rfl⟩ rfl hl.1 rfl (Nat.le_of_ble_eq_true rfl) dX3_writeStack_2 ⟨Nat.le_of_ble_eq_true rfl, Nat.le_of_ble_eq_true rfl⟩ (fun H locs hI => ?_)
  refine lv_istore_n (lv' := [(3, .int r1), (0, .ref (E.2.1 148)), (1, .ref (E.2.1 (o1 + 1))), (2, .int v2)]) hx hb dX3_writeStack_5 rfl hl (by decide) rfl (fun ls hl => ?_)
  refine lv_aload_n hx hb dX3_writeStack_6 rfl (lv_at hl 1 rfl) ?_
  refine lv_iconst (v := 0) hx hb dX3_writeStack_7 (by decide) ?_
  obtain ⟨M3, eM3, hf⟩ := glet hf
  refine pt_X3_X3_length hC hI dX3_writeStack_8 (fun H locs hI => ?_)
  replace hI := g_mem eM3 hI
  refine lv_iconst (v := 0) hx hb dX3_writeStack_11 (by decide) ?_
  refine lv_istore (lv' := [(4, .int 0), (3, .int r1), (0, .ref (E.2.1 148)), (1, .ref (E.2.1 (o1 + 1))), (2, .int v2)]) hx hb dX3_writeStack_12 hl (by decide) rfl (fun ls hl => ?_)
  exact L14 r1 v2 gF 0 M3 hf _ _ _ hI (lv_sub hl [0, 1, 2, 3, 4] rfl)
theorem dX6_formatStack_0 : decode cX6_formatStack 0 = .ok (.aload_n 0, 1) := by decide +kernel
theorem dX6_formatStack_1 : decode cX6_formatStack 1 = .ok (.iload_n 1, 1) := by decide +kernel
theorem dX6_formatStack_2 : decode cX6_formatStack 2 = .ok (.iload_n 2, 1) := by decide +kernel
theorem dX6_formatStack_3 : decode cX6_formatStack 3 = .ok (.invokevirtual 178, 3) := by decide +kernel
theorem dX6_formatStack_6 : decode cX6_formatStack 6 = .ok (.aload_n 0, 1) := by decide +kernel
theorem dX6_formatStack_7 : decode cX6_formatStack 7 = .ok (.getfield 50, 3) := by decide +kernel
theorem dX6_formatStack_10 : decode cX6_formatStack 10 = .ok (.aload_n 0, 1) := by decide +kernel
theorem dX6_formatStack_11 : decode cX6_formatStack 11 = .ok (.getfield 10, 3) := by decide +kernel
theorem dX6_formatStack_14 : decode cX6_formatStack 14 = .ok (.getfield 108, 3) := by decide +kernel
theorem dX6_formatStack_17 : decode cX6_formatStack 17 = .ok (.iload_n 1, 1) := by decide +kernel
theorem dX6_formatStack_18 : decode cX6_formatStack 18 = .ok (.iload_n 2, 1) := by decide +kernel
theorem dX6_formatStack_19 : decode cX6_formatStack 19 = .ok (.invokestatic 182, 3) := by decide +kernel
theorem dX6_formatStack_22 : decode cX6_formatStack 22 = .ok (.invokevirtual 291, 3) := by decide +kernel
theorem dX6_formatStack_25 : decode cX6_formatStack 25 = .ok (.aload_n 0, 1) := by decide +kernel
theorem dX6_formatStack_26 : decode cX6_formatStack 26 = .ok (.getfield 50, 3) := by decide +kernel
theorem dX6_formatStack_29 : decode cX6_formatStack 29 = .ok (.getfield 295, 3) := by decide +kernel
theorem dX6_formatStack_32 : decode cX6_formatStack 32 = .ok (.ireturn, 1) := by decide +kernel
set_option maxRecDepth 100000 in
set_option maxHeartbeats 4000000 in
theorem C_X6_formatStack (l : Launch) (hst : l.stackTraces = false) (E : gE) (x : gX) {v1 v2 : Int32} {M : gM} {oc : String ⊕ Int32} {M' : gM} (hf : f_X6_formatStack v1 v2 M = some (oc, M')) : gX0 l E yX6_formatStack (.code yX6_formatStack cX6_formatStack 3 (some .int)) (gRX 10 173 3 18) M x [.ref (E.2.1 132), .int v1, .int v2] (gO oc) M' 3 18 := by
  refine gMetX hst (by decide +kernel) (Nat.le_of_ble_eq_true rfl) ?_
  intro p e s m args below meth c H locs ls Q hC hl hI kr kv kx kt kd kf
  replace hC : gC p s m args c cX6_formatStack 3 RX6 E := hC
  replace hl : lv_has ls 3 [(0, .ref (E.2.1 132)), (1, .int v1), (2, .int v2)] := hl
  have hx := hC.1
  have hb := hC.2.1
  unfold f_X6_formatStack at hf
  refine lv_aload_n hx hb dX6_formatStack_0 rfl (lv_at hl 0 rfl) ?_
  refine lv_iload_n hx hb dX6_formatStack_1 rfl (lv_at hl 1 rfl) ?_
  refine lv_iload_n hx hb dX6_formatStack_2 rfl (lv_at hl 2 rfl) ?_
  rcases gseq hf with ⟨er, Mr, hr2, hf⟩ | ⟨_, M3, hr2, hf⟩
  · replace hr2 := C_X6_requireStack l hst E x  hr2
    exact g_xVx (rest := []) hC hI hr2 Y_X6_requireStack V_X6_requireStack w630 (rcv_X6 hC hI) ⟨rfl, rfl⟩ ⟨Nat.le_of_ble_eq_true rfl, Nat.le_of_ble_eq_true rfl⟩ rfl hl.1 rfl (Nat.le_of_ble_eq_true rfl) dX6_formatStack_3 ⟨Nat.le_of_ble_eq_true rfl, Nat.le_of_ble_eq_true rfl⟩ (fun ce q H locs hI h1 h2 h3 => kx _ _ _ _ _ _ _ _ _ _ _ (gtx hf) hI h1 h2 h3 ⟨Nat.le_of_ble_eq_true rfl, Nat.le_of_ble_eq_true rfl⟩)
  replace hr2 := C_X6_requireStack l hst E x  hr2
  refine g_xVv (rest := []) hC hI hr2 Y_X6_requireStack V_X6_requireStack w630 (rcv_X6 hC hI) ⟨rfl, rfl⟩ ⟨Nat.le_of_ble_eq_true rfl, Nat.le_of_ble_eq_true rfl⟩ rfl hl.1 rfl (Nat.le_of_ble_eq_true rfl) dX6_formatStack_3 ⟨Nat.le_of_ble_eq_true rfl, Nat.le_of_ble_eq_true rfl⟩ (fun H locs hI => ?_)
  refine lv_aload_n hx hb dX6_formatStack_6 rfl (lv_at hl 0 rfl) ?_
  refine gt_X6_X6_line hC hI dX6_formatStack_7 ?_
  refine lv_aload_n hx hb dX6_formatStack_10 rfl (lv_at hl 0 rfl) ?_
  refine gt_X6_X6_now hC hI dX6_formatStack_11 ?_
  refine gt_X6_X5_cargo hC hI gOk_0 dX6_formatStack_14 ?_
  refine lv_iload_n hx hb dX6_formatStack_17 rfl (lv_at hl 1 rfl) ?_
  refine lv_iload_n hx hb dX6_formatStack_18 rfl (lv_at hl 2 rfl) ?_
  obtain ⟨r4, hr5, hf⟩ := gbind hf
  have hr5 := C_X6_pileOf l E x  hr5
  refine g_callSi (rest := [.ref (E.2.1 (0 + 1)), .ref (E.2.1 148)]) hC hI hr5 Y_X6_pileOf S_X6_pileOf w635 ⟨rfl, rfl⟩ ⟨Nat.le_of_ble_eq_true rfl, Nat.le_of_ble_eq_true rfl⟩ rfl hl.1 rfl (Nat.le_of_ble_eq_true rfl) dX6_formatStack_19 ⟨Nat.le_of_ble_eq_true rfl, Nat.le_of_ble_eq_true rfl⟩ (fun H locs hI => ?_)
  obtain ⟨r6, hr7, hf⟩ := gbind hf
  have hr7 := C_X3_writeStack l E x gOk_0 hr7
  refine g_callVv (rest := []) hC hI hr7 Y_X3_writeStack V_X3_writeStack w858 (rcv_X3 hC hI) ⟨rfl, rfl⟩ ⟨Nat.le_of_ble_eq_true rfl, Nat.le_of_ble_eq_true rfl⟩ rfl hl.1 rfl (Nat.le_of_ble_eq_true rfl) dX6_formatStack_22 ⟨Nat.le_of_ble_eq_true rfl, Nat.le_of_ble_eq_true rfl⟩ (fun H locs hI => ?_)
  refine lv_aload_n hx hb dX6_formatStack_25 rfl (lv_at hl 0 rfl) ?_
  refine gt_X6_X6_line hC hI dX6_formatStack_26 ?_
  refine gt_X6_X3_length hC hI dX6_formatStack_29 ?_
  exact kr _ _ _ _ _ _ _ _ (gre hf) hI ⟨.int, rfl, rfl⟩ ⟨Nat.le_of_ble_eq_true rfl, Nat.le_of_ble_eq_true rfl⟩ dX6_formatStack_32
theorem dX3_putPart_0 : decode cX3_putPart 0 = .ok (.aload_n 0, 1) := by decide +kernel
theorem dX3_putPart_1 : decode cX3_putPart 1 = .ok (.bipush 32, 2) := by decide +kernel
theorem dX3_putPart_3 : decode cX3_putPart 3 = .ok (.invokevirtual 29, 3) := by decide +kernel
theorem dX3_putPart_6 : decode cX3_putPart 6 = .ok (.aload_n 0, 1) := by decide +kernel
theorem dX3_putPart_7 : decode cX3_putPart 7 = .ok (.iload_n 1, 1) := by decide +kernel
theorem dX3_putPart_8 : decode cX3_putPart 8 = .ok (.invokevirtual 29, 3) := by decide +kernel
theorem dX3_putPart_11 : decode cX3_putPart 11 = .ok (.aload_n 0, 1) := by decide +kernel
theorem dX3_putPart_12 : decode cX3_putPart 12 = .ok (.iload_n 2, 1) := by decide +kernel
theorem dX3_putPart_13 : decode cX3_putPart 13 = .ok (.invokevirtual 36, 3) := by decide +kernel
theorem dX3_putPart_16 : decode cX3_putPart 16 = .ok (.return_, 1) := by decide +kernel
set_option maxRecDepth 100000 in
set_option maxHeartbeats 4000000 in
theorem C_X3_putPart (l : Launch) (E : gE) (x : gX) {v1 v2 : Int32} {M : gM} {M' : gM} (hf : f_X3_putPart v1 v2 M = some M') : gM0 l E yX3_putPart (.code yX3_putPart cX3_putPart 3 none) (gR 2 43) M x [.ref (E.2.1 148), .int v1, .int v2] none M' := by
  refine gMet (by decide +kernel) (Nat.le_of_ble_eq_true rfl) ?_
  intro p e s m args below meth c H locs ls Q hC hl hI kr kv
  replace hC : gC p s m args c cX3_putPart 3 RX3 E := hC
  replace hl : lv_has ls 3 [(0, .ref (E.2.1 148)), (1, .int v1), (2, .int v2)] := hl
  have hx := hC.1
  have hb := hC.2.1
  unfold f_X3_putPart at hf
  refine lv_aload_n hx hb dX3_putPart_0 rfl (lv_at hl 0 rfl) ?_
  refine lv_bipush (v := 32) hx hb dX3_putPart_1 (by decide) ?_
  obtain ⟨r1, hr2, hf⟩ := gbind hf
  have hr2 := C_X3_put l E x  hr2
  refine g_callVv (rest := []) hC hI hr2 Y_X3_put V_X3_put w864 (rcv_X3 hC hI) ⟨rfl, rfl⟩ ⟨Nat.le_of_ble_eq_true rfl, Nat.le_of_ble_eq_true rfl⟩ rfl hl.1 rfl (Nat.le_of_ble_eq_true rfl) dX3_putPart_3 ⟨Nat.le_of_ble_eq_true rfl, Nat.le_of_ble_eq_true rfl⟩ (fun H locs hI => ?_)
  refine lv_aload_n hx hb dX3_putPart_6 rfl (lv_at hl 0 rfl) ?_
  refine lv_iload_n hx hb dX3_putPart_7 rfl (lv_at hl 1 rfl) ?_
  obtain ⟨r3, hr4, hf⟩ := gbind hf
  have hr4 := C_X3_put l E x  hr4
  refine g_callVv (rest := []) hC hI hr4 Y_X3_put V_X3_put w864 (rcv_X3 hC hI) ⟨rfl, rfl⟩ ⟨Nat.le_of_ble_eq_true rfl, Nat.le_of_ble_eq_true rfl⟩ rfl hl.1 rfl (Nat.le_of_ble_eq_true rfl) dX3_putPart_8 ⟨Nat.le_of_ble_eq_true rfl, Nat.le_of_ble_eq_true rfl⟩ (fun H locs hI => ?_)
  refine lv_aload_n hx hb dX3_putPart_11 rfl (lv_at hl 0 rfl) ?_
  refine lv_iload_n hx hb dX3_putPart_12 rfl (lv_at hl 2 rfl) ?_
  obtain ⟨r5, hr6, hf⟩ := gbind hf
  have hr6 := C_X3_putNumber l E x  hr6
  refine g_callVv (rest := []) hC hI hr6 Y_X3_putNumber V_X3_putNumber w869 (rcv_X3 hC hI) ⟨rfl, rfl⟩ ⟨Nat.le_of_ble_eq_true rfl, Nat.le_of_ble_eq_true rfl⟩ rfl hl.1 rfl (Nat.le_of_ble_eq_true rfl) dX3_putPart_13 ⟨Nat.le_of_ble_eq_true rfl, Nat.le_of_ble_eq_true rfl⟩ (fun H locs hI => ?_)
  exact kv _ _ _ _ _ (grv hf) hI rfl dX3_putPart_16
theorem dX3_writeBerth_0 : decode cX3_writeBerth 0 = .ok (.aload_n 0, 1) := by decide +kernel
theorem dX3_writeBerth_1 : decode cX3_writeBerth 1 = .ok (.iconst 0, 1) := by decide +kernel
theorem dX3_writeBerth_2 : decode cX3_writeBerth 2 = .ok (.putfield 15, 3) := by decide +kernel
theorem dX3_writeBerth_5 : decode cX3_writeBerth 5 = .ok (.aload_n 0, 1) := by decide +kernel
theorem dX3_writeBerth_6 : decode cX3_writeBerth 6 = .ok (.bipush 66, 2) := by decide +kernel
theorem dX3_writeBerth_8 : decode cX3_writeBerth 8 = .ok (.invokevirtual 29, 3) := by decide +kernel
theorem dX3_writeBerth_11 : decode cX3_writeBerth 11 = .ok (.aload_n 0, 1) := by decide +kernel
theorem dX3_writeBerth_12 : decode cX3_writeBerth 12 = .ok (.iload_n 2, 1) := by decide +kernel
theorem dX3_writeBerth_13 : decode cX3_writeBerth 13 = .ok (.invokevirtual 36, 3) := by decide +kernel
theorem dX3_writeBerth_16 : decode cX3_writeBerth 16 = .ok (.aload_n 1, 1) := by decide +kernel
theorem dX3_writeBerth_17 : decode cX3_writeBerth 17 = .ok (.iload_n 2, 1) := by decide +kernel
theorem dX3_writeBerth_18 : decode cX3_writeBerth 18 = .ok (.invokevirtual 46, 3) := by decide +kernel
theorem dX3_writeBerth_21 : decode cX3_writeBerth 21 = .ok (.ifCond .ne 16, 3) := by decide +kernel
theorem dX3_writeBerth_24 : decode cX3_writeBerth 24 = .ok (.aload_n 0, 1) := by decide +kernel
theorem dX3_writeBerth_25 : decode cX3_writeBerth 25 = .ok (.bipush 32, 2) := by decide +kernel
theorem dX3_writeBerth_27 : decode cX3_writeBerth 27 = .ok (.invokevirtual 29, 3) := by decide +kernel
theorem dX3_writeBerth_30 : decode cX3_writeBerth 30 = .ok (.aload_n 0, 1) := by decide +kernel
theorem dX3_writeBerth_31 : decode cX3_writeBerth 31 = .ok (.bipush 45, 2) := by decide +kernel
theorem dX3_writeBerth_33 : decode cX3_writeBerth 33 = .ok (.invokevirtual 29, 3) := by decide +kernel
theorem dX3_writeBerth_36 : decode cX3_writeBerth 36 = .ok (.return_, 1) := by decide +kernel
theorem dX3_writeBerth_37 : decode cX3_writeBerth 37 = .ok (.aload_n 0, 1) := by decide +kernel
theorem dX3_writeBerth_38 : decode cX3_writeBerth 38 = .ok (.bipush 100, 2) := by decide +kernel
theorem dX3_writeBerth_40 : decode cX3_writeBerth 40 = .ok (.aload_n 1, 1) := by decide +kernel
theorem dX3_writeBerth_41 : decode cX3_writeBerth 41 = .ok (.getfield 52, 3) := by decide +kernel
theorem dX3_writeBerth_44 : decode cX3_writeBerth 44 = .ok (.iload_n 2, 1) := by decide +kernel
theorem dX3_writeBerth_45 : decode cX3_writeBerth 45 = .ok (.iaload, 1) := by decide +kernel
theorem dX3_writeBerth_46 : decode cX3_writeBerth 46 = .ok (.invokevirtual 56, 3) := by decide +kernel
theorem dX3_writeBerth_49 : decode cX3_writeBerth 49 = .ok (.aload_n 0, 1) := by decide +kernel
theorem dX3_writeBerth_50 : decode cX3_writeBerth 50 = .ok (.bipush 104, 2) := by decide +kernel
theorem dX3_writeBerth_52 : decode cX3_writeBerth 52 = .ok (.aload_n 1, 1) := by decide +kernel
theorem dX3_writeBerth_53 : decode cX3_writeBerth 53 = .ok (.getfield 60, 3) := by decide +kernel
theorem dX3_writeBerth_56 : decode cX3_writeBerth 56 = .ok (.iload_n 2, 1) := by decide +kernel
theorem dX3_writeBerth_57 : decode cX3_writeBerth 57 = .ok (.iaload, 1) := by decide +kernel
theorem dX3_writeBerth_58 : decode cX3_writeBerth 58 = .ok (.invokevirtual 56, 3) := by decide +kernel
theorem dX3_writeBerth_61 : decode cX3_writeBerth 61 = .ok (.aload_n 0, 1) := by decide +kernel
theorem dX3_writeBerth_62 : decode cX3_writeBerth 62 = .ok (.bipush 32, 2) := by decide +kernel
theorem dX3_writeBerth_64 : decode cX3_writeBerth 64 = .ok (.invokevirtual 29, 3) := by decide +kernel
theorem dX3_writeBerth_67 : decode cX3_writeBerth 67 = .ok (.aload_n 0, 1) := by decide +kernel
theorem dX3_writeBerth_68 : decode cX3_writeBerth 68 = .ok (.aload_n 1, 1) := by decide +kernel
theorem dX3_writeBerth_69 : decode cX3_writeBerth 69 = .ok (.getfield 63, 3) := by decide +kernel
theorem dX3_writeBerth_72 : decode cX3_writeBerth 72 = .ok (.iload_n 2, 1) := by decide +kernel
theorem dX3_writeBerth_73 : decode cX3_writeBerth 73 = .ok (.invokevirtual 67, 3) := by decide +kernel
theorem dX3_writeBerth_76 : decode cX3_writeBerth 76 = .ok (.invokevirtual 36, 3) := by decide +kernel
theorem dX3_writeBerth_79 : decode cX3_writeBerth 79 = .ok (.aload_n 1, 1) := by decide +kernel
theorem dX3_writeBerth_80 : decode cX3_writeBerth 80 = .ok (.getfield 70, 3) := by decide +kernel
theorem dX3_writeBerth_83 : decode cX3_writeBerth 83 = .ok (.iload_n 2, 1) := by decide +kernel
theorem dX3_writeBerth_84 : decode cX3_writeBerth 84 = .ok (.iaload, 1) := by decide +kernel
theorem dX3_writeBerth_85 : decode cX3_writeBerth 85 = .ok (.ifCond .le 15, 3) := by decide +kernel
theorem dX3_writeBerth_88 : decode cX3_writeBerth 88 = .ok (.aload_n 0, 1) := by decide +kernel
theorem dX3_writeBerth_89 : decode cX3_writeBerth 89 = .ok (.bipush 120, 2) := by decide +kernel
theorem dX3_writeBerth_91 : decode cX3_writeBerth 91 = .ok (.aload_n 1, 1) := by decide +kernel
theorem dX3_writeBerth_92 : decode cX3_writeBerth 92 = .ok (.getfield 70, 3) := by decide +kernel
theorem dX3_writeBerth_95 : decode cX3_writeBerth 95 = .ok (.iload_n 2, 1) := by decide +kernel
theorem dX3_writeBerth_96 : decode cX3_writeBerth 96 = .ok (.iaload, 1) := by decide +kernel
theorem dX3_writeBerth_97 : decode cX3_writeBerth 97 = .ok (.invokevirtual 56, 3) := by decide +kernel
theorem dX3_writeBerth_100 : decode cX3_writeBerth 100 = .ok (.aload_n 1, 1) := by decide +kernel
theorem dX3_writeBerth_101 : decode cX3_writeBerth 101 = .ok (.getfield 73, 3) := by decide +kernel
theorem dX3_writeBerth_104 : decode cX3_writeBerth 104 = .ok (.iload_n 2, 1) := by decide +kernel
theorem dX3_writeBerth_105 : decode cX3_writeBerth 105 = .ok (.iaload, 1) := by decide +kernel
theorem dX3_writeBerth_106 : decode cX3_writeBerth 106 = .ok (.ifCond .le 15, 3) := by decide +kernel
theorem dX3_writeBerth_109 : decode cX3_writeBerth 109 = .ok (.aload_n 0, 1) := by decide +kernel
theorem dX3_writeBerth_110 : decode cX3_writeBerth 110 = .ok (.bipush 76, 2) := by decide +kernel
theorem dX3_writeBerth_112 : decode cX3_writeBerth 112 = .ok (.aload_n 1, 1) := by decide +kernel
theorem dX3_writeBerth_113 : decode cX3_writeBerth 113 = .ok (.getfield 73, 3) := by decide +kernel
theorem dX3_writeBerth_116 : decode cX3_writeBerth 116 = .ok (.iload_n 2, 1) := by decide +kernel
theorem dX3_writeBerth_117 : decode cX3_writeBerth 117 = .ok (.iaload, 1) := by decide +kernel
theorem dX3_writeBerth_118 : decode cX3_writeBerth 118 = .ok (.invokevirtual 56, 3) := by decide +kernel
theorem dX3_writeBerth_121 : decode cX3_writeBerth 121 = .ok (.return_, 1) := by decide +kernel
set_option maxRecDepth 100000 in
set_option maxHeartbeats 4000000 in
theorem C_X3_writeBerth (l : Launch) (E : gE) (x : gX) {o1 : Nat} (ho1 : gOk o1) {v2 : Int32} {M : gM} {M' : gM} (hf : f_X3_writeBerth o1 v2 M = some M') : gM0 l E yX3_writeBerth (.code yX3_writeBerth cX3_writeBerth 3 none) (gR 3 65) M x [.ref (E.2.1 148), .ref (E.2.1 o1), .int v2] none M' := by
  refine gMet (by decide +kernel) (Nat.le_of_ble_eq_true rfl) ?_
  intro p e s m args below meth c H locs ls Q hC hl hI kr kv
  replace hC : gC p s m args c cX3_writeBerth 3 RX3 E := hC
  replace hl : lv_has ls 3 [(0, .ref (E.2.1 148)), (1, .ref (E.2.1 o1)), (2, .int v2)] := hl
  have hx := hC.1
  have hb := hC.2.1
  unfold f_X3_writeBerth at hf
  refine lv_aload_n hx hb dX3_writeBerth_0 rfl (lv_at hl 0 rfl) ?_
  refine lv_iconst (v := 0) hx hb dX3_writeBerth_1 (by decide) ?_
  obtain ⟨M1, eM1, hf⟩ := glet hf
  refine pt_X3_X3_length hC hI dX3_writeBerth_2 (fun H locs hI => ?_)
  replace hI := g_mem eM1 hI
  refine lv_aload_n hx hb dX3_writeBerth_5 rfl (lv_at hl 0 rfl) ?_
  refine lv_bipush (v := 66) hx hb dX3_writeBerth_6 (by decide) ?_
  obtain ⟨r2, hr3, hf⟩ := gbind hf
  have hr3 := C_X3_put l E x  hr3
  refine g_callVv (rest := []) hC hI hr3 Y_X3_put V_X3_put w864 (rcv_X3 hC hI) ⟨rfl, rfl⟩ ⟨Nat.le_of_ble_eq_true rfl, Nat.le_of_ble_eq_true rfl⟩ rfl hl.1 rfl (Nat.le_of_ble_eq_true rfl) dX3_writeBerth_8 ⟨Nat.le_of_ble_eq_true rfl, Nat.le_of_ble_eq_true rfl⟩ (fun H locs hI => ?_)
  refine lv_aload_n hx hb dX3_writeBerth_11 rfl (lv_at hl 0 rfl) ?_
  refine lv_iload_n hx hb dX3_writeBerth_12 rfl (lv_at hl 2 rfl) ?_
  obtain ⟨r4, hr5, hf⟩ := gbind hf
  have hr5 := C_X3_putNumber l E x  hr5
  refine g_callVv (rest := []) hC hI hr5 Y_X3_putNumber V_X3_putNumber w869 (rcv_X3 hC hI) ⟨rfl, rfl⟩ ⟨Nat.le_of_ble_eq_true rfl, Nat.le_of_ble_eq_true rfl⟩ rfl hl.1 rfl (Nat.le_of_ble_eq_true rfl) dX3_writeBerth_13 ⟨Nat.le_of_ble_eq_true rfl, Nat.le_of_ble_eq_true rfl⟩ (fun H locs hI => ?_)
  refine lv_aload_n hx hb dX3_writeBerth_16 rfl (lv_at hl 1 rfl) ?_
  refine lv_iload_n hx hb dX3_writeBerth_17 rfl (lv_at hl 2 rfl) ?_
  obtain ⟨r6, hr7, hf⟩ := gbind hf
  have hr7 := C_X5_hasShip l E x ho1 hr7
  refine g_callVi (rest := []) hC hI hr7 Y_X5_hasShip V_X5_hasShip w884 (rcv_X5 hC hI ho1) ⟨rfl, rfl⟩ ⟨Nat.le_of_ble_eq_true rfl, Nat.le_of_ble_eq_true rfl⟩ rfl hl.1 rfl (Nat.le_of_ble_eq_true rfl) dX3_writeBerth_18 ⟨Nat.le_of_ble_eq_true rfl, Nat.le_of_ble_eq_true rfl⟩ (fun H locs hI => ?_)
  refine lv_if_ne (tgt := 37) hx hb dX3_writeBerth_21 rfl (fun h8 => ?_) (fun h8 => ?_)
  · replace hf := gifn h8 hf
    refine lv_aload_n hx hb dX3_writeBerth_37 rfl (lv_at hl 0 rfl) ?_
    refine lv_bipush (v := 100) hx hb dX3_writeBerth_38 (by decide) ?_
    refine lv_aload_n hx hb dX3_writeBerth_40 rfl (lv_at hl 1 rfl) ?_
    refine gt_X3_X5_draughts hC hI ho1 dX3_writeBerth_41 ?_
    refine lv_iload_n hx hb dX3_writeBerth_44 rfl (lv_at hl 2 rfl) ?_
    obtain ⟨h9, hf⟩ := gifN hf
    refine g_iald hC hI (k := v2.toNatClampNeg) (gIA_8 ho1) h9 rfl dX3_writeBerth_45 ?_
    obtain ⟨r10, hr11, hf⟩ := gbind hf
    have hr11 := C_X3_putPart l E x  hr11
    refine g_callVv (rest := []) hC hI hr11 Y_X3_putPart V_X3_putPart w885 (rcv_X3 hC hI) ⟨rfl, rfl⟩ ⟨Nat.le_of_ble_eq_true rfl, Nat.le_of_ble_eq_true rfl⟩ rfl hl.1 rfl (Nat.le_of_ble_eq_true rfl) dX3_writeBerth_46 ⟨Nat.le_of_ble_eq_true rfl, Nat.le_of_ble_eq_true rfl⟩ (fun H locs hI => ?_)
    refine lv_aload_n hx hb dX3_writeBerth_49 rfl (lv_at hl 0 rfl) ?_
    refine lv_bipush (v := 104) hx hb dX3_writeBerth_50 (by decide) ?_
    refine lv_aload_n hx hb dX3_writeBerth_52 rfl (lv_at hl 1 rfl) ?_
    refine gt_X3_X5_dueHours hC hI ho1 dX3_writeBerth_53 ?_
    refine lv_iload_n hx hb dX3_writeBerth_56 rfl (lv_at hl 2 rfl) ?_
    obtain ⟨h12, hf⟩ := gifN hf
    refine g_iald hC hI (k := v2.toNatClampNeg) (gIA_9 ho1) h12 rfl dX3_writeBerth_57 ?_
    obtain ⟨r13, hr14, hf⟩ := gbind hf
    have hr14 := C_X3_putPart l E x  hr14
    refine g_callVv (rest := []) hC hI hr14 Y_X3_putPart V_X3_putPart w885 (rcv_X3 hC hI) ⟨rfl, rfl⟩ ⟨Nat.le_of_ble_eq_true rfl, Nat.le_of_ble_eq_true rfl⟩ rfl hl.1 rfl (Nat.le_of_ble_eq_true rfl) dX3_writeBerth_58 ⟨Nat.le_of_ble_eq_true rfl, Nat.le_of_ble_eq_true rfl⟩ (fun H locs hI => ?_)
    refine lv_aload_n hx hb dX3_writeBerth_61 rfl (lv_at hl 0 rfl) ?_
    refine lv_bipush (v := 32) hx hb dX3_writeBerth_62 (by decide) ?_
    obtain ⟨r15, hr16, hf⟩ := gbind hf
    have hr16 := C_X3_put l E x  hr16
    refine g_callVv (rest := []) hC hI hr16 Y_X3_put V_X3_put w864 (rcv_X3 hC hI) ⟨rfl, rfl⟩ ⟨Nat.le_of_ble_eq_true rfl, Nat.le_of_ble_eq_true rfl⟩ rfl hl.1 rfl (Nat.le_of_ble_eq_true rfl) dX3_writeBerth_64 ⟨Nat.le_of_ble_eq_true rfl, Nat.le_of_ble_eq_true rfl⟩ (fun H locs hI => ?_)
    refine lv_aload_n hx hb dX3_writeBerth_67 rfl (lv_at hl 0 rfl) ?_
    refine lv_aload_n hx hb dX3_writeBerth_68 rfl (lv_at hl 1 rfl) ?_
    refine gt_X3_X5_cargo hC hI ho1 dX3_writeBerth_69 ?_
    refine lv_iload_n hx hb dX3_writeBerth_72 rfl (lv_at hl 2 rfl) ?_
    obtain ⟨r17, hr18, hf⟩ := gbind hf
    have hr18 := C_X0_loadOf l E x ho1 hr18
    refine g_callVi (rest := [.ref (E.2.1 148)]) hC hI hr18 Y_X0_loadOf V_X0_loadOf w889 (rcv_X0 hC hI ho1) ⟨rfl, rfl⟩ ⟨Nat.le_of_ble_eq_true rfl, Nat.le_of_ble_eq_true rfl⟩ rfl hl.1 rfl (Nat.le_of_ble_eq_true rfl) dX3_writeBerth_73 ⟨Nat.le_of_ble_eq_true rfl, Nat.le_of_ble_eq_true rfl⟩ (fun H locs hI => ?_)
    obtain ⟨r19, hr20, hf⟩ := gbind hf
    have hr20 := C_X3_putNumber l E x  hr20
    refine g_callVv (rest := []) hC hI hr20 Y_X3_putNumber V_X3_putNumber w869 (rcv_X3 hC hI) ⟨rfl, rfl⟩ ⟨Nat.le_of_ble_eq_true rfl, Nat.le_of_ble_eq_true rfl⟩ rfl hl.1 rfl (Nat.le_of_ble_eq_true rfl) dX3_writeBerth_76 ⟨Nat.le_of_ble_eq_true rfl, Nat.le_of_ble_eq_true rfl⟩ (fun H locs hI => ?_)
    refine lv_aload_n hx hb dX3_writeBerth_79 rfl (lv_at hl 1 rfl) ?_
    refine gt_X3_X5_wrongs hC hI ho1 dX3_writeBerth_80 ?_
    refine lv_iload_n hx hb dX3_writeBerth_83 rfl (lv_at hl 2 rfl) ?_
    obtain ⟨h21, hf⟩ := gifN hf
    refine g_iald hC hI (k := v2.toNatClampNeg) (gIA_10 ho1) h21 rfl dX3_writeBerth_84 ?_
    refine lv_if_le (tgt := 100) hx hb dX3_writeBerth_85 rfl (fun h22 => ?_) (fun h22 => ?_)
    · replace hf := gif h22 hf
      refine lv_aload_n hx hb dX3_writeBerth_100 rfl (lv_at hl 1 rfl) ?_
      refine gt_X3_X5_locks hC hI ho1 dX3_writeBerth_101 ?_
      refine lv_iload_n hx hb dX3_writeBerth_104 rfl (lv_at hl 2 rfl) ?_
      obtain ⟨h23, hf⟩ := gifN hf
      refine g_iald hC hI (k := v2.toNatClampNeg) (gIA_11 ho1) h23 rfl dX3_writeBerth_105 ?_
      refine lv_if_le (tgt := 121) hx hb dX3_writeBerth_106 rfl (fun h24 => ?_) (fun h24 => ?_)
      · replace hf := gif h24 hf
        exact kv _ _ _ _ _ (grv hf) hI rfl dX3_writeBerth_121
      · replace hf := gifn h24 hf
        refine lv_aload_n hx hb dX3_writeBerth_109 rfl (lv_at hl 0 rfl) ?_
        refine lv_bipush (v := 76) hx hb dX3_writeBerth_110 (by decide) ?_
        refine lv_aload_n hx hb dX3_writeBerth_112 rfl (lv_at hl 1 rfl) ?_
        refine gt_X3_X5_locks hC hI ho1 dX3_writeBerth_113 ?_
        refine lv_iload_n hx hb dX3_writeBerth_116 rfl (lv_at hl 2 rfl) ?_
        obtain ⟨h25, hf⟩ := gifN hf
        refine g_iald hC hI (k := v2.toNatClampNeg) (gIA_11 ho1) h25 rfl dX3_writeBerth_117 ?_
        obtain ⟨r26, hr27, hf⟩ := gbind hf
        have hr27 := C_X3_putPart l E x  hr27
        refine g_callVv (rest := []) hC hI hr27 Y_X3_putPart V_X3_putPart w885 (rcv_X3 hC hI) ⟨rfl, rfl⟩ ⟨Nat.le_of_ble_eq_true rfl, Nat.le_of_ble_eq_true rfl⟩ rfl hl.1 rfl (Nat.le_of_ble_eq_true rfl) dX3_writeBerth_118 ⟨Nat.le_of_ble_eq_true rfl, Nat.le_of_ble_eq_true rfl⟩ (fun H locs hI => ?_)
        exact kv _ _ _ _ _ (grv hf) hI rfl dX3_writeBerth_121
    · replace hf := gifn h22 hf
      refine lv_aload_n hx hb dX3_writeBerth_88 rfl (lv_at hl 0 rfl) ?_
      refine lv_bipush (v := 120) hx hb dX3_writeBerth_89 (by decide) ?_
      refine lv_aload_n hx hb dX3_writeBerth_91 rfl (lv_at hl 1 rfl) ?_
      refine gt_X3_X5_wrongs hC hI ho1 dX3_writeBerth_92 ?_
      refine lv_iload_n hx hb dX3_writeBerth_95 rfl (lv_at hl 2 rfl) ?_
      obtain ⟨h28, hf⟩ := gifN hf
      refine g_iald hC hI (k := v2.toNatClampNeg) (gIA_10 ho1) h28 rfl dX3_writeBerth_96 ?_
      obtain ⟨r29, hr30, hf⟩ := gbind hf
      have hr30 := C_X3_putPart l E x  hr30
      refine g_callVv (rest := []) hC hI hr30 Y_X3_putPart V_X3_putPart w885 (rcv_X3 hC hI) ⟨rfl, rfl⟩ ⟨Nat.le_of_ble_eq_true rfl, Nat.le_of_ble_eq_true rfl⟩ rfl hl.1 rfl (Nat.le_of_ble_eq_true rfl) dX3_writeBerth_97 ⟨Nat.le_of_ble_eq_true rfl, Nat.le_of_ble_eq_true rfl⟩ (fun H locs hI => ?_)
      refine lv_aload_n hx hb dX3_writeBerth_100 rfl (lv_at hl 1 rfl) ?_
      refine gt_X3_X5_locks hC hI ho1 dX3_writeBerth_101 ?_
      refine lv_iload_n hx hb dX3_writeBerth_104 rfl (lv_at hl 2 rfl) ?_
      obtain ⟨h31, hf⟩ := gifN hf
      refine g_iald hC hI (k := v2.toNatClampNeg) (gIA_11 ho1) h31 rfl dX3_writeBerth_105 ?_
      refine lv_if_le (tgt := 121) hx hb dX3_writeBerth_106 rfl (fun h32 => ?_) (fun h32 => ?_)
      · replace hf := gif h32 hf
        exact kv _ _ _ _ _ (grv hf) hI rfl dX3_writeBerth_121
      · replace hf := gifn h32 hf
        refine lv_aload_n hx hb dX3_writeBerth_109 rfl (lv_at hl 0 rfl) ?_
        refine lv_bipush (v := 76) hx hb dX3_writeBerth_110 (by decide) ?_
        refine lv_aload_n hx hb dX3_writeBerth_112 rfl (lv_at hl 1 rfl) ?_
        refine gt_X3_X5_locks hC hI ho1 dX3_writeBerth_113 ?_
        refine lv_iload_n hx hb dX3_writeBerth_116 rfl (lv_at hl 2 rfl) ?_
        obtain ⟨h33, hf⟩ := gifN hf
        refine g_iald hC hI (k := v2.toNatClampNeg) (gIA_11 ho1) h33 rfl dX3_writeBerth_117 ?_
        obtain ⟨r34, hr35, hf⟩ := gbind hf
        have hr35 := C_X3_putPart l E x  hr35
        refine g_callVv (rest := []) hC hI hr35 Y_X3_putPart V_X3_putPart w885 (rcv_X3 hC hI) ⟨rfl, rfl⟩ ⟨Nat.le_of_ble_eq_true rfl, Nat.le_of_ble_eq_true rfl⟩ rfl hl.1 rfl (Nat.le_of_ble_eq_true rfl) dX3_writeBerth_118 ⟨Nat.le_of_ble_eq_true rfl, Nat.le_of_ble_eq_true rfl⟩ (fun H locs hI => ?_)
        exact kv _ _ _ _ _ (grv hf) hI rfl dX3_writeBerth_121
  · replace hf := gif h8 hf
    refine lv_aload_n hx hb dX3_writeBerth_24 rfl (lv_at hl 0 rfl) ?_
    refine lv_bipush (v := 32) hx hb dX3_writeBerth_25 (by decide) ?_
    obtain ⟨r36, hr37, hf⟩ := gbind hf
    have hr37 := C_X3_put l E x  hr37
    refine g_callVv (rest := []) hC hI hr37 Y_X3_put V_X3_put w864 (rcv_X3 hC hI) ⟨rfl, rfl⟩ ⟨Nat.le_of_ble_eq_true rfl, Nat.le_of_ble_eq_true rfl⟩ rfl hl.1 rfl (Nat.le_of_ble_eq_true rfl) dX3_writeBerth_27 ⟨Nat.le_of_ble_eq_true rfl, Nat.le_of_ble_eq_true rfl⟩ (fun H locs hI => ?_)
    refine lv_aload_n hx hb dX3_writeBerth_30 rfl (lv_at hl 0 rfl) ?_
    refine lv_bipush (v := 45) hx hb dX3_writeBerth_31 (by decide) ?_
    obtain ⟨r38, hr39, hf⟩ := gbind hf
    have hr39 := C_X3_put l E x  hr39
    refine g_callVv (rest := []) hC hI hr39 Y_X3_put V_X3_put w864 (rcv_X3 hC hI) ⟨rfl, rfl⟩ ⟨Nat.le_of_ble_eq_true rfl, Nat.le_of_ble_eq_true rfl⟩ rfl hl.1 rfl (Nat.le_of_ble_eq_true rfl) dX3_writeBerth_33 ⟨Nat.le_of_ble_eq_true rfl, Nat.le_of_ble_eq_true rfl⟩ (fun H locs hI => ?_)
    exact kv _ _ _ _ _ (grv hf) hI rfl dX3_writeBerth_36
theorem dX6_formatBerth_0 : decode cX6_formatBerth 0 = .ok (.iload_n 1, 1) := by decide +kernel
theorem dX6_formatBerth_1 : decode cX6_formatBerth 1 = .ok (.invokestatic 135, 3) := by decide +kernel
theorem dX6_formatBerth_4 : decode cX6_formatBerth 4 = .ok (.aload_n 0, 1) := by decide +kernel
theorem dX6_formatBerth_5 : decode cX6_formatBerth 5 = .ok (.getfield 50, 3) := by decide +kernel
theorem dX6_formatBerth_8 : decode cX6_formatBerth 8 = .ok (.aload_n 0, 1) := by decide +kernel
theorem dX6_formatBerth_9 : decode cX6_formatBerth 9 = .ok (.getfield 10, 3) := by decide +kernel
theorem dX6_formatBerth_12 : decode cX6_formatBerth 12 = .ok (.iload_n 1, 1) := by decide +kernel
theorem dX6_formatBerth_13 : decode cX6_formatBerth 13 = .ok (.invokevirtual 298, 3) := by decide +kernel
theorem dX6_formatBerth_16 : decode cX6_formatBerth 16 = .ok (.aload_n 0, 1) := by decide +kernel
theorem dX6_formatBerth_17 : decode cX6_formatBerth 17 = .ok (.getfield 50, 3) := by decide +kernel
theorem dX6_formatBerth_20 : decode cX6_formatBerth 20 = .ok (.getfield 295, 3) := by decide +kernel
theorem dX6_formatBerth_23 : decode cX6_formatBerth 23 = .ok (.ireturn, 1) := by decide +kernel
set_option maxRecDepth 100000 in
set_option maxHeartbeats 4000000 in
theorem C_X6_formatBerth (l : Launch) (hst : l.stackTraces = false) (E : gE) (x : gX) {v1 : Int32} {M : gM} {oc : String ⊕ Int32} {M' : gM} (hf : f_X6_formatBerth v1 M = some (oc, M')) : gX0 l E yX6_formatBerth (.code yX6_formatBerth cX6_formatBerth 2 (some .int)) (gRX 8 130 1 6) M x [.ref (E.2.1 132), .int v1] (gO oc) M' 1 6 := by
  refine gMetX hst (by decide +kernel) (Nat.le_of_ble_eq_true rfl) ?_
  intro p e s m args below meth c H locs ls Q hC hl hI kr kv kx kt kd kf
  replace hC : gC p s m args c cX6_formatBerth 2 RX6 E := hC
  replace hl : lv_has ls 2 [(0, .ref (E.2.1 132)), (1, .int v1)] := hl
  have hx := hC.1
  have hb := hC.2.1
  unfold f_X6_formatBerth at hf
  refine lv_iload_n hx hb dX6_formatBerth_0 rfl (lv_at hl 1 rfl) ?_
  rcases gseq hf with ⟨er, Mr, hr2, hf⟩ | ⟨_, M3, hr2, hf⟩
  · replace hr2 := C_X6_requireBerth l hst E x  hr2
    exact g_xSx (rest := []) hC hI hr2 Y_X6_requireBerth S_X6_requireBerth w566 ⟨rfl, rfl⟩ ⟨Nat.le_of_ble_eq_true rfl, Nat.le_of_ble_eq_true rfl⟩ rfl hl.1 rfl (Nat.le_of_ble_eq_true rfl) dX6_formatBerth_1 ⟨Nat.le_of_ble_eq_true rfl, Nat.le_of_ble_eq_true rfl⟩ (fun ce q H locs hI h1 h2 h3 => kx _ _ _ _ _ _ _ _ _ _ _ (gtx hf) hI h1 h2 h3 ⟨Nat.le_of_ble_eq_true rfl, Nat.le_of_ble_eq_true rfl⟩)
  replace hr2 := C_X6_requireBerth l hst E x  hr2
  refine g_xSv (rest := []) hC hI hr2 Y_X6_requireBerth S_X6_requireBerth w566 ⟨rfl, rfl⟩ ⟨Nat.le_of_ble_eq_true rfl, Nat.le_of_ble_eq_true rfl⟩ rfl hl.1 rfl (Nat.le_of_ble_eq_true rfl) dX6_formatBerth_1 ⟨Nat.le_of_ble_eq_true rfl, Nat.le_of_ble_eq_true rfl⟩ (fun H locs hI => ?_)
  refine lv_aload_n hx hb dX6_formatBerth_4 rfl (lv_at hl 0 rfl) ?_
  refine gt_X6_X6_line hC hI dX6_formatBerth_5 ?_
  refine lv_aload_n hx hb dX6_formatBerth_8 rfl (lv_at hl 0 rfl) ?_
  refine gt_X6_X6_now hC hI dX6_formatBerth_9 ?_
  refine lv_iload_n hx hb dX6_formatBerth_12 rfl (lv_at hl 1 rfl) ?_
  obtain ⟨r4, hr5, hf⟩ := gbind hf
  have hr5 := C_X3_writeBerth l E x gOk_0 hr5
  refine g_callVv (rest := []) hC hI hr5 Y_X3_writeBerth V_X3_writeBerth w880 (rcv_X3 hC hI) ⟨rfl, rfl⟩ ⟨Nat.le_of_ble_eq_true rfl, Nat.le_of_ble_eq_true rfl⟩ rfl hl.1 rfl (Nat.le_of_ble_eq_true rfl) dX6_formatBerth_13 ⟨Nat.le_of_ble_eq_true rfl, Nat.le_of_ble_eq_true rfl⟩ (fun H locs hI => ?_)
  refine lv_aload_n hx hb dX6_formatBerth_16 rfl (lv_at hl 0 rfl) ?_
  refine gt_X6_X6_line hC hI dX6_formatBerth_17 ?_
  refine gt_X6_X3_length hC hI dX6_formatBerth_20 ?_
  exact kr _ _ _ _ _ _ _ _ (gre hf) hI ⟨.int, rfl, rfl⟩ ⟨Nat.le_of_ble_eq_true rfl, Nat.le_of_ble_eq_true rfl⟩ dX6_formatBerth_23
theorem dX3_hasIndex_0 : decode cX3_hasIndex 0 = .ok (.iload_n 1, 1) := by decide +kernel
theorem dX3_hasIndex_1 : decode cX3_hasIndex 1 = .ok (.ifCond .lt 21, 3) := by decide +kernel
theorem dX3_hasIndex_4 : decode cX3_hasIndex 4 = .ok (.iload_n 1, 1) := by decide +kernel
theorem dX3_hasIndex_5 : decode cX3_hasIndex 5 = .ok (.aload_n 0, 1) := by decide +kernel
theorem dX3_hasIndex_6 : decode cX3_hasIndex 6 = .ok (.getfield 15, 3) := by decide +kernel
theorem dX3_hasIndex_9 : decode cX3_hasIndex 9 = .ok (.if_icmp .ge 13, 3) := by decide +kernel
theorem dX3_hasIndex_12 : decode cX3_hasIndex 12 = .ok (.iload_n 1, 1) := by decide +kernel
theorem dX3_hasIndex_13 : decode cX3_hasIndex 13 = .ok (.bipush 100, 2) := by decide +kernel
theorem dX3_hasIndex_15 : decode cX3_hasIndex 15 = .ok (.if_icmp .ge 7, 3) := by decide +kernel
theorem dX3_hasIndex_18 : decode cX3_hasIndex 18 = .ok (.iconst 1, 1) := by decide +kernel
theorem dX3_hasIndex_19 : decode cX3_hasIndex 19 = .ok (.goto 4, 3) := by decide +kernel
theorem dX3_hasIndex_22 : decode cX3_hasIndex 22 = .ok (.iconst 0, 1) := by decide +kernel
theorem dX3_hasIndex_23 : decode cX3_hasIndex 23 = .ok (.ireturn, 1) := by decide +kernel
set_option maxRecDepth 100000 in
set_option maxHeartbeats 4000000 in
theorem C_X3_hasIndex (l : Launch) (E : gE) (x : gX) {v1 : Int32} {M : gM} {r : Bool} (hf : f_X3_hasIndex v1 M = some r) : gM0 l E yX3_hasIndex (.code yX3_hasIndex cX3_hasIndex 2 (some .boolean)) (gR 0 0) M x [.ref (E.2.1 148), .int v1] (some (.int (gb r))) M := by
  refine gMet (by decide +kernel) (Nat.le_of_ble_eq_true rfl) ?_
  intro p e s m args below meth c H locs ls Q hC hl hI kr kv
  replace hC : gC p s m args c cX3_hasIndex 2 RX3 E := hC
  replace hl : lv_has ls 2 [(0, .ref (E.2.1 148)), (1, .int v1)] := hl
  have hx := hC.1
  have hb := hC.2.1
  unfold f_X3_hasIndex at hf
  refine lv_iload_n hx hb dX3_hasIndex_0 rfl (lv_at hl 1 rfl) ?_
  refine lv_if_lt (tgt := 22) hx hb dX3_hasIndex_1 rfl (fun h1 => ?_) (fun h1 => ?_)
  · replace hf := gif h1 hf
    refine lv_iconst (v := 0) hx hb dX3_hasIndex_22 (by decide) ?_
    exact kr _ _ _ _ _ _ (grb0 hf) hI ⟨.boolean, rfl, rfl⟩ dX3_hasIndex_23
  · replace hf := gifn h1 hf
    refine lv_iload_n hx hb dX3_hasIndex_4 rfl (lv_at hl 1 rfl) ?_
    refine lv_aload_n hx hb dX3_hasIndex_5 rfl (lv_at hl 0 rfl) ?_
    refine gt_X3_X3_length hC hI dX3_hasIndex_6 ?_
    refine lv_icmp_ge (tgt := 22) hx hb dX3_hasIndex_9 rfl (fun h2 => ?_) (fun h2 => ?_)
    · replace hf := gif h2 hf
      refine lv_iconst (v := 0) hx hb dX3_hasIndex_22 (by decide) ?_
      exact kr _ _ _ _ _ _ (grb0 hf) hI ⟨.boolean, rfl, rfl⟩ dX3_hasIndex_23
    · replace hf := gifn h2 hf
      refine lv_iload_n hx hb dX3_hasIndex_12 rfl (lv_at hl 1 rfl) ?_
      refine lv_bipush (v := 100) hx hb dX3_hasIndex_13 (by decide) ?_
      refine lv_icmp_ge (tgt := 22) hx hb dX3_hasIndex_15 rfl (fun h3 => ?_) (fun h3 => ?_)
      · replace hf := gif h3 hf
        refine lv_iconst (v := 0) hx hb dX3_hasIndex_22 (by decide) ?_
        exact kr _ _ _ _ _ _ (grb0 hf) hI ⟨.boolean, rfl, rfl⟩ dX3_hasIndex_23
      · replace hf := gifn h3 hf
        refine lv_iconst (v := 1) hx hb dX3_hasIndex_18 (by decide) ?_
        refine lv_goto (tgt := 23) hx hb dX3_hasIndex_19 rfl ?_
        exact kr _ _ _ _ _ _ (grb1 hf) hI ⟨.boolean, rfl, rfl⟩ dX3_hasIndex_23
theorem dX6_lineChar_0 : decode cX6_lineChar 0 = .ok (.aload_n 0, 1) := by decide +kernel
theorem dX6_lineChar_1 : decode cX6_lineChar 1 = .ok (.getfield 50, 3) := by decide +kernel
theorem dX6_lineChar_4 : decode cX6_lineChar 4 = .ok (.iload_n 1, 1) := by decide +kernel
theorem dX6_lineChar_5 : decode cX6_lineChar 5 = .ok (.invokevirtual 302, 3) := by decide +kernel
theorem dX6_lineChar_8 : decode cX6_lineChar 8 = .ok (.ifCond .ne 14, 3) := by decide +kernel
theorem dX6_lineChar_11 : decode cX6_lineChar 11 = .ok (.new 305, 3) := by decide +kernel
theorem dX6_lineChar_14 : decode cX6_lineChar 14 = .ok (.dup, 1) := by decide +kernel
theorem dX6_lineChar_15 : decode cX6_lineChar 15 = .ok (.ldc_w 307, 3) := by decide +kernel
theorem dX6_lineChar_18 : decode cX6_lineChar 18 = .ok (.invokespecial 309, 3) := by decide +kernel
theorem dX6_lineChar_21 : decode cX6_lineChar 21 = .ok (.athrow, 1) := by decide +kernel
theorem dX6_lineChar_22 : decode cX6_lineChar 22 = .ok (.aload_n 0, 1) := by decide +kernel
theorem dX6_lineChar_23 : decode cX6_lineChar 23 = .ok (.getfield 50, 3) := by decide +kernel
theorem dX6_lineChar_26 : decode cX6_lineChar 26 = .ok (.getfield 310, 3) := by decide +kernel
theorem dX6_lineChar_29 : decode cX6_lineChar 29 = .ok (.iload_n 1, 1) := by decide +kernel
theorem dX6_lineChar_30 : decode cX6_lineChar 30 = .ok (.caload, 1) := by decide +kernel
theorem dX6_lineChar_31 : decode cX6_lineChar 31 = .ok (.ireturn, 1) := by decide +kernel
set_option maxRecDepth 100000 in
set_option maxHeartbeats 4000000 in
theorem C_X6_lineChar (l : Launch) (hst : l.stackTraces = false) (E : gE) (x : gX) {v1 : Int32} {M : gM} {oc : String ⊕ Int32} {M' : gM} (hf : f_X6_lineChar v1 M = some (oc, M')) : gX0 l E yX6_lineChar (.code yX6_lineChar cX6_lineChar 2 (some .char)) (gRX 6 90 1 6) M x [.ref (E.2.1 132), .int v1] (gO oc) M' 1 6 := by
  refine gMetX hst (by decide +kernel) (Nat.le_of_ble_eq_true rfl) ?_
  intro p e s m args below meth c H locs ls Q hC hl hI kr kv kx kt kd kf
  replace hC : gC p s m args c cX6_lineChar 2 RX6 E := hC
  replace hl : lv_has ls 2 [(0, .ref (E.2.1 132)), (1, .int v1)] := hl
  have hx := hC.1
  have hb := hC.2.1
  unfold f_X6_lineChar at hf
  refine lv_aload_n hx hb dX6_lineChar_0 rfl (lv_at hl 0 rfl) ?_
  refine gt_X6_X6_line hC hI dX6_lineChar_1 ?_
  refine lv_iload_n hx hb dX6_lineChar_4 rfl (lv_at hl 1 rfl) ?_
  obtain ⟨r1, hr2, hf⟩ := gbind hf
  have hr2 := C_X3_hasIndex l E x  hr2
  refine g_callVi (rest := []) hC hI hr2 Y_X3_hasIndex V_X3_hasIndex w1357 (rcv_X3 hC hI) ⟨rfl, rfl⟩ ⟨Nat.le_of_ble_eq_true rfl, Nat.le_of_ble_eq_true rfl⟩ rfl hl.1 rfl (Nat.le_of_ble_eq_true rfl) dX6_lineChar_5 ⟨Nat.le_of_ble_eq_true rfl, Nat.le_of_ble_eq_true rfl⟩ (fun H locs hI => ?_)
  refine lv_if_ne (tgt := 22) hx hb dX6_lineChar_8 rfl (fun h3 => ?_) (fun h3 => ?_)
  · replace hf := gifn h3 hf
    refine lv_aload_n hx hb dX6_lineChar_22 rfl (lv_at hl 0 rfl) ?_
    refine gt_X6_X6_line hC hI dX6_lineChar_23 ?_
    refine gt_X6_X3_text hC hI dX6_lineChar_26 ?_
    refine lv_iload_n hx hb dX6_lineChar_29 rfl (lv_at hl 1 rfl) ?_
    obtain ⟨h4, hf⟩ := gifN hf
    refine g_cald hC hI (k := v1.toNatClampNeg) gCA_149 h4 rfl dX6_lineChar_30 ?_
    obtain ⟨h5, hf⟩ := gifN hf
    exact kr _ _ _ _ _ _ _ _ (gre hf) hI ⟨.char, rfl, gin_char h5⟩ ⟨Nat.le_of_ble_eq_true rfl, Nat.le_of_ble_eq_true rfl⟩ dX6_lineChar_31
  · replace hf := gif h3 hf
    exact kt _ _ _ _ _ _ _ _ "java/lang/IndexOutOfBoundsException" "the line has no such index" 305 307 309 (gtx hf) hI hl.1 rfl gTh_305_309 (by decide +kernel) ⟨Nat.le_of_ble_eq_true rfl, Nat.le_of_ble_eq_true rfl⟩ ⟨Nat.le_of_ble_eq_true rfl, Nat.le_of_ble_eq_true rfl⟩ ⟨dX6_lineChar_11, dX6_lineChar_14, Or.inl ⟨dX6_lineChar_15, dX6_lineChar_18, dX6_lineChar_21⟩⟩
theorem dX2_take_0 : decode cX2_take 0 = .ok (.aload_n 0, 1) := by decide +kernel
theorem dX2_take_1 : decode cX2_take 1 = .ok (.getfield 15, 3) := by decide +kernel
theorem dX2_take_4 : decode cX2_take 4 = .ok (.bipush 60, 2) := by decide +kernel
theorem dX2_take_6 : decode cX2_take 6 = .ok (.if_icmp .ge 23, 3) := by decide +kernel
theorem dX2_take_9 : decode cX2_take 9 = .ok (.aload_n 0, 1) := by decide +kernel
theorem dX2_take_10 : decode cX2_take 10 = .ok (.getfield 9, 3) := by decide +kernel
theorem dX2_take_13 : decode cX2_take 13 = .ok (.aload_n 0, 1) := by decide +kernel
theorem dX2_take_14 : decode cX2_take 14 = .ok (.getfield 15, 3) := by decide +kernel
theorem dX2_take_17 : decode cX2_take 17 = .ok (.iload_n 1, 1) := by decide +kernel
theorem dX2_take_18 : decode cX2_take 18 = .ok (.castore, 1) := by decide +kernel
theorem dX2_take_19 : decode cX2_take 19 = .ok (.aload_n 0, 1) := by decide +kernel
theorem dX2_take_20 : decode cX2_take 20 = .ok (.dup, 1) := by decide +kernel
theorem dX2_take_21 : decode cX2_take 21 = .ok (.getfield 15, 3) := by decide +kernel
theorem dX2_take_24 : decode cX2_take 24 = .ok (.iconst 1, 1) := by decide +kernel
theorem dX2_take_25 : decode cX2_take 25 = .ok (.iadd, 1) := by decide +kernel
theorem dX2_take_26 : decode cX2_take 26 = .ok (.putfield 15, 3) := by decide +kernel
theorem dX2_take_29 : decode cX2_take 29 = .ok (.return_, 1) := by decide +kernel
set_option maxRecDepth 100000 in
set_option maxHeartbeats 4000000 in
theorem C_X2_take (l : Launch) (E : gE) (x : gX) {v1 : Int32} {M : gM} {M' : gM} (hf : f_X2_take v1 M = some M') : gM0 l E yX2_take (.code yX2_take cX2_take 2 none) (gR 0 0) M x [.ref (E.2.1 146), .int v1] none M' := by
  refine gMet (by decide +kernel) (Nat.le_of_ble_eq_true rfl) ?_
  intro p e s m args below meth c H locs ls Q hC hl hI kr kv
  replace hC : gC p s m args c cX2_take 2 RX2 E := hC
  replace hl : lv_has ls 2 [(0, .ref (E.2.1 146)), (1, .int v1)] := hl
  have hx := hC.1
  have hb := hC.2.1
  unfold f_X2_take at hf
  refine lv_aload_n hx hb dX2_take_0 rfl (lv_at hl 0 rfl) ?_
  refine gt_X2_X2_length hC hI dX2_take_1 ?_
  refine lv_bipush (v := 60) hx hb dX2_take_4 (by decide) ?_
  refine lv_icmp_ge (tgt := 29) hx hb dX2_take_6 rfl (fun h1 => ?_) (fun h1 => ?_)
  · replace hf := gif h1 hf
    exact kv _ _ _ _ _ (grv hf) hI rfl dX2_take_29
  · replace hf := gifn h1 hf
    refine lv_aload_n hx hb dX2_take_9 rfl (lv_at hl 0 rfl) ?_
    refine gt_X2_X2_text hC hI dX2_take_10 ?_
    refine lv_aload_n hx hb dX2_take_13 rfl (lv_at hl 0 rfl) ?_
    refine gt_X2_X2_length hC hI dX2_take_14 ?_
    refine lv_iload_n hx hb dX2_take_17 rfl (lv_at hl 1 rfl) ?_
    obtain ⟨h2, hf⟩ := gifN hf
    obtain ⟨M3, eM3, hf⟩ := glet hf
    refine g_cast hC hI (k := (M 146 1).toNatClampNeg) gCA_147 h2 rfl dX2_take_18 (fun H locs hI => ?_)
    replace hI := g_mem eM3 hI
    refine lv_aload_n hx hb dX2_take_19 rfl (lv_at hl 0 rfl) ?_
    refine lv_dup hx hb dX2_take_20 rfl ?_
    refine gt_X2_X2_length hC hI dX2_take_21 ?_
    refine lv_iconst (v := 1) hx hb dX2_take_24 (by decide) ?_
    refine lv_iadd hx hb dX2_take_25 ?_
    obtain ⟨M4, eM4, hf⟩ := glet hf
    refine pt_X2_X2_length hC hI dX2_take_26 (fun H locs hI => ?_)
    replace hI := g_mem eM4 hI
    exact kv _ _ _ _ _ (grv hf) hI rfl dX2_take_29
theorem dX6_append_0 : decode cX6_append 0 = .ok (.iload_n 1, 1) := by decide +kernel
theorem dX6_append_1 : decode cX6_append 1 = .ok (.bipush 32, 2) := by decide +kernel
theorem dX6_append_3 : decode cX6_append 3 = .ok (.if_icmp .lt 9, 3) := by decide +kernel
theorem dX6_append_6 : decode cX6_append 6 = .ok (.iload_n 1, 1) := by decide +kernel
theorem dX6_append_7 : decode cX6_append 7 = .ok (.bipush 126, 2) := by decide +kernel
theorem dX6_append_9 : decode cX6_append 9 = .ok (.if_icmp .le 14, 3) := by decide +kernel
theorem dX6_append_12 : decode cX6_append 12 = .ok (.new 314, 3) := by decide +kernel
theorem dX6_append_15 : decode cX6_append 15 = .ok (.dup, 1) := by decide +kernel
theorem dX6_append_16 : decode cX6_append 16 = .ok (.ldc_w 316, 3) := by decide +kernel
theorem dX6_append_19 : decode cX6_append 19 = .ok (.invokespecial 318, 3) := by decide +kernel
theorem dX6_append_22 : decode cX6_append 22 = .ok (.athrow, 1) := by decide +kernel
theorem dX6_append_23 : decode cX6_append 23 = .ok (.aload_n 0, 1) := by decide +kernel
theorem dX6_append_24 : decode cX6_append 24 = .ok (.getfield 43, 3) := by decide +kernel
theorem dX6_append_27 : decode cX6_append 27 = .ok (.getfield 319, 3) := by decide +kernel
theorem dX6_append_30 : decode cX6_append 30 = .ok (.bipush 60, 2) := by decide +kernel
theorem dX6_append_32 : decode cX6_append 32 = .ok (.if_icmp .lt 14, 3) := by decide +kernel
theorem dX6_append_35 : decode cX6_append 35 = .ok (.new 320, 3) := by decide +kernel
theorem dX6_append_38 : decode cX6_append 38 = .ok (.dup, 1) := by decide +kernel
theorem dX6_append_39 : decode cX6_append 39 = .ok (.ldc_w 322, 3) := by decide +kernel
theorem dX6_append_42 : decode cX6_append 42 = .ok (.invokespecial 324, 3) := by decide +kernel
theorem dX6_append_45 : decode cX6_append 45 = .ok (.athrow, 1) := by decide +kernel
theorem dX6_append_46 : decode cX6_append 46 = .ok (.aload_n 0, 1) := by decide +kernel
theorem dX6_append_47 : decode cX6_append 47 = .ok (.getfield 43, 3) := by decide +kernel
theorem dX6_append_50 : decode cX6_append 50 = .ok (.iload_n 1, 1) := by decide +kernel
theorem dX6_append_51 : decode cX6_append 51 = .ok (.invokevirtual 325, 3) := by decide +kernel
theorem dX6_append_54 : decode cX6_append 54 = .ok (.aload_n 0, 1) := by decide +kernel
theorem dX6_append_55 : decode cX6_append 55 = .ok (.getfield 43, 3) := by decide +kernel
theorem dX6_append_58 : decode cX6_append 58 = .ok (.getfield 319, 3) := by decide +kernel
theorem dX6_append_61 : decode cX6_append 61 = .ok (.ireturn, 1) := by decide +kernel
set_option maxRecDepth 100000 in
set_option maxHeartbeats 4000000 in
theorem C_X6_append (l : Launch) (hst : l.stackTraces = false) (E : gE) (x : gX) {v1 : Int32} {M : gM} {oc : String ⊕ Int32} {M' : gM} (hf : f_X6_append v1 M = some (oc, M')) : gX0 l E yX6_append (.code yX6_append cX6_append 2 (some .int)) (gRX 6 90 1 6) M x [.ref (E.2.1 132), .int v1] (gO oc) M' 1 6 := by
  refine gMetX hst (by decide +kernel) (Nat.le_of_ble_eq_true rfl) ?_
  intro p e s m args below meth c H locs ls Q hC hl hI kr kv kx kt kd kf
  replace hC : gC p s m args c cX6_append 2 RX6 E := hC
  replace hl : lv_has ls 2 [(0, .ref (E.2.1 132)), (1, .int v1)] := hl
  have hx := hC.1
  have hb := hC.2.1
  unfold f_X6_append at hf
  refine lv_iload_n hx hb dX6_append_0 rfl (lv_at hl 1 rfl) ?_
  refine lv_bipush (v := 32) hx hb dX6_append_1 (by decide) ?_
  refine lv_icmp_lt (tgt := 12) hx hb dX6_append_3 rfl (fun h1 => ?_) (fun h1 => ?_)
  · replace hf := gif h1 hf
    exact kt _ _ _ _ _ _ _ _ "java/lang/IllegalArgumentException" "the character is out of range" 314 316 318 (gtx hf) hI hl.1 rfl gTh_314_318 (by decide +kernel) ⟨Nat.le_of_ble_eq_true rfl, Nat.le_of_ble_eq_true rfl⟩ ⟨Nat.le_of_ble_eq_true rfl, Nat.le_of_ble_eq_true rfl⟩ ⟨dX6_append_12, dX6_append_15, Or.inl ⟨dX6_append_16, dX6_append_19, dX6_append_22⟩⟩
  · replace hf := gifn h1 hf
    refine lv_iload_n hx hb dX6_append_6 rfl (lv_at hl 1 rfl) ?_
    refine lv_bipush (v := 126) hx hb dX6_append_7 (by decide) ?_
    refine lv_icmp_le (tgt := 23) hx hb dX6_append_9 rfl (fun h2 => ?_) (fun h2 => ?_)
    · replace hf := gif h2 hf
      refine lv_aload_n hx hb dX6_append_23 rfl (lv_at hl 0 rfl) ?_
      refine gt_X6_X6_input hC hI dX6_append_24 ?_
      refine gt_X6_X2_length hC hI dX6_append_27 ?_
      refine lv_bipush (v := 60) hx hb dX6_append_30 (by decide) ?_
      refine lv_icmp_lt (tgt := 46) hx hb dX6_append_32 rfl (fun h3 => ?_) (fun h3 => ?_)
      · replace hf := gif h3 hf
        refine lv_aload_n hx hb dX6_append_46 rfl (lv_at hl 0 rfl) ?_
        refine gt_X6_X6_input hC hI dX6_append_47 ?_
        refine lv_iload_n hx hb dX6_append_50 rfl (lv_at hl 1 rfl) ?_
        obtain ⟨r4, hr5, hf⟩ := gbind hf
        have hr5 := C_X2_take l E x  hr5
        refine g_callVv (rest := []) hC hI hr5 Y_X2_take V_X2_take w1089 (rcv_X2 hC hI) ⟨rfl, rfl⟩ ⟨Nat.le_of_ble_eq_true rfl, Nat.le_of_ble_eq_true rfl⟩ rfl hl.1 rfl (Nat.le_of_ble_eq_true rfl) dX6_append_51 ⟨Nat.le_of_ble_eq_true rfl, Nat.le_of_ble_eq_true rfl⟩ (fun H locs hI => ?_)
        refine lv_aload_n hx hb dX6_append_54 rfl (lv_at hl 0 rfl) ?_
        refine gt_X6_X6_input hC hI dX6_append_55 ?_
        refine gt_X6_X2_length hC hI dX6_append_58 ?_
        exact kr _ _ _ _ _ _ _ _ (gre hf) hI ⟨.int, rfl, rfl⟩ ⟨Nat.le_of_ble_eq_true rfl, Nat.le_of_ble_eq_true rfl⟩ dX6_append_61
      · replace hf := gifn h3 hf
        exact kt _ _ _ _ _ _ _ _ "java/lang/IllegalStateException" "the buffer is full" 320 322 324 (gtx hf) hI hl.1 rfl gTh_320_324 (by decide +kernel) ⟨Nat.le_of_ble_eq_true rfl, Nat.le_of_ble_eq_true rfl⟩ ⟨Nat.le_of_ble_eq_true rfl, Nat.le_of_ble_eq_true rfl⟩ ⟨dX6_append_35, dX6_append_38, Or.inl ⟨dX6_append_39, dX6_append_42, dX6_append_45⟩⟩
    · replace hf := gifn h2 hf
      exact kt _ _ _ _ _ _ _ _ "java/lang/IllegalArgumentException" "the character is out of range" 314 316 318 (gtx hf) hI hl.1 rfl gTh_314_318 (by decide +kernel) ⟨Nat.le_of_ble_eq_true rfl, Nat.le_of_ble_eq_true rfl⟩ ⟨Nat.le_of_ble_eq_true rfl, Nat.le_of_ble_eq_true rfl⟩ ⟨dX6_append_12, dX6_append_15, Or.inl ⟨dX6_append_16, dX6_append_19, dX6_append_22⟩⟩
theorem dX2_nextChar_0 : decode cX2_nextChar 0 = .ok (.aload_n 0, 1) := by decide +kernel
theorem dX2_nextChar_1 : decode cX2_nextChar 1 = .ok (.getfield 19, 3) := by decide +kernel
theorem dX2_nextChar_4 : decode cX2_nextChar 4 = .ok (.ifCond .lt 35, 3) := by decide +kernel
theorem dX2_nextChar_7 : decode cX2_nextChar 7 = .ok (.aload_n 0, 1) := by decide +kernel
theorem dX2_nextChar_8 : decode cX2_nextChar 8 = .ok (.getfield 19, 3) := by decide +kernel
theorem dX2_nextChar_11 : decode cX2_nextChar 11 = .ok (.aload_n 0, 1) := by decide +kernel
theorem dX2_nextChar_12 : decode cX2_nextChar 12 = .ok (.getfield 15, 3) := by decide +kernel
theorem dX2_nextChar_15 : decode cX2_nextChar 15 = .ok (.if_icmp .ge 24, 3) := by decide +kernel
theorem dX2_nextChar_18 : decode cX2_nextChar 18 = .ok (.aload_n 0, 1) := by decide +kernel
theorem dX2_nextChar_19 : decode cX2_nextChar 19 = .ok (.getfield 19, 3) := by decide +kernel
theorem dX2_nextChar_22 : decode cX2_nextChar 22 = .ok (.bipush 60, 2) := by decide +kernel
theorem dX2_nextChar_24 : decode cX2_nextChar 24 = .ok (.if_icmp .ge 15, 3) := by decide +kernel
theorem dX2_nextChar_27 : decode cX2_nextChar 27 = .ok (.aload_n 0, 1) := by decide +kernel
theorem dX2_nextChar_28 : decode cX2_nextChar 28 = .ok (.getfield 9, 3) := by decide +kernel
theorem dX2_nextChar_31 : decode cX2_nextChar 31 = .ok (.aload_n 0, 1) := by decide +kernel
theorem dX2_nextChar_32 : decode cX2_nextChar 32 = .ok (.getfield 19, 3) := by decide +kernel
theorem dX2_nextChar_35 : decode cX2_nextChar 35 = .ok (.caload, 1) := by decide +kernel
theorem dX2_nextChar_36 : decode cX2_nextChar 36 = .ok (.goto 4, 3) := by decide +kernel
theorem dX2_nextChar_39 : decode cX2_nextChar 39 = .ok (.iconst 0, 1) := by decide +kernel
theorem dX2_nextChar_40 : decode cX2_nextChar 40 = .ok (.ireturn, 1) := by decide +kernel
set_option maxRecDepth 100000 in
set_option maxHeartbeats 4000000 in
theorem C_X2_nextChar (l : Launch) (E : gE) (x : gX) {M : gM} {r : Int32} (hf : f_X2_nextChar M = some r) : gM0 l E yX2_nextChar (.code yX2_nextChar cX2_nextChar 1 (some .char)) (gR 0 0) M x [.ref (E.2.1 146)] (some (.int r)) M := by
  refine gMet (by decide +kernel) (Nat.le_of_ble_eq_true rfl) ?_
  intro p e s m args below meth c H locs ls Q hC hl hI kr kv
  replace hC : gC p s m args c cX2_nextChar 1 RX2 E := hC
  replace hl : lv_has ls 1 [(0, .ref (E.2.1 146))] := hl
  have hx := hC.1
  have hb := hC.2.1
  unfold f_X2_nextChar at hf
  refine lv_aload_n hx hb dX2_nextChar_0 rfl (lv_at hl 0 rfl) ?_
  refine gt_X2_X2_position hC hI dX2_nextChar_1 ?_
  refine lv_if_lt (tgt := 39) hx hb dX2_nextChar_4 rfl (fun h1 => ?_) (fun h1 => ?_)
  · replace hf := gif h1 hf
    refine lv_iconst (v := 0) hx hb dX2_nextChar_39 (by decide) ?_
    obtain ⟨h2, hf⟩ := gifN hf
    exact kr _ _ _ _ _ _ (gri hf) hI ⟨.char, rfl, gin_char h2⟩ dX2_nextChar_40
  · replace hf := gifn h1 hf
    refine lv_aload_n hx hb dX2_nextChar_7 rfl (lv_at hl 0 rfl) ?_
    refine gt_X2_X2_position hC hI dX2_nextChar_8 ?_
    refine lv_aload_n hx hb dX2_nextChar_11 rfl (lv_at hl 0 rfl) ?_
    refine gt_X2_X2_length hC hI dX2_nextChar_12 ?_
    refine lv_icmp_ge (tgt := 39) hx hb dX2_nextChar_15 rfl (fun h3 => ?_) (fun h3 => ?_)
    · replace hf := gif h3 hf
      refine lv_iconst (v := 0) hx hb dX2_nextChar_39 (by decide) ?_
      obtain ⟨h4, hf⟩ := gifN hf
      exact kr _ _ _ _ _ _ (gri hf) hI ⟨.char, rfl, gin_char h4⟩ dX2_nextChar_40
    · replace hf := gifn h3 hf
      refine lv_aload_n hx hb dX2_nextChar_18 rfl (lv_at hl 0 rfl) ?_
      refine gt_X2_X2_position hC hI dX2_nextChar_19 ?_
      refine lv_bipush (v := 60) hx hb dX2_nextChar_22 (by decide) ?_
      refine lv_icmp_ge (tgt := 39) hx hb dX2_nextChar_24 rfl (fun h5 => ?_) (fun h5 => ?_)
      · replace hf := gif h5 hf
        refine lv_iconst (v := 0) hx hb dX2_nextChar_39 (by decide) ?_
        obtain ⟨h6, hf⟩ := gifN hf
        exact kr _ _ _ _ _ _ (gri hf) hI ⟨.char, rfl, gin_char h6⟩ dX2_nextChar_40
      · replace hf := gifn h5 hf
        refine lv_aload_n hx hb dX2_nextChar_27 rfl (lv_at hl 0 rfl) ?_
        refine gt_X2_X2_text hC hI dX2_nextChar_28 ?_
        refine lv_aload_n hx hb dX2_nextChar_31 rfl (lv_at hl 0 rfl) ?_
        refine gt_X2_X2_position hC hI dX2_nextChar_32 ?_
        obtain ⟨h7, hf⟩ := gifN hf
        refine g_cald hC hI (k := (M 146 2).toNatClampNeg) gCA_147 h7 rfl dX2_nextChar_35 ?_
        refine lv_goto (tgt := 40) hx hb dX2_nextChar_36 rfl ?_
        obtain ⟨h8, hf⟩ := gifN hf
        exact kr _ _ _ _ _ _ (gri hf) hI ⟨.char, rfl, gin_char h8⟩ dX2_nextChar_40
theorem dX2_read_0 : decode cX2_read 0 = .ok (.aload_n 0, 1) := by decide +kernel
theorem dX2_read_1 : decode cX2_read 1 = .ok (.invokevirtual 35, 3) := by decide +kernel
theorem dX2_read_4 : decode cX2_read 4 = .ok (.iload_n 1, 1) := by decide +kernel
theorem dX2_read_5 : decode cX2_read 5 = .ok (.if_icmp .eq 5, 3) := by decide +kernel
theorem dX2_read_8 : decode cX2_read 8 = .ok (.iconst 0, 1) := by decide +kernel
theorem dX2_read_9 : decode cX2_read 9 = .ok (.ireturn, 1) := by decide +kernel
theorem dX2_read_10 : decode cX2_read 10 = .ok (.aload_n 0, 1) := by decide +kernel
theorem dX2_read_11 : decode cX2_read 11 = .ok (.dup, 1) := by decide +kernel
theorem dX2_read_12 : decode cX2_read 12 = .ok (.getfield 19, 3) := by decide +kernel
theorem dX2_read_15 : decode cX2_read 15 = .ok (.iconst 1, 1) := by decide +kernel
theorem dX2_read_16 : decode cX2_read 16 = .ok (.iadd, 1) := by decide +kernel
theorem dX2_read_17 : decode cX2_read 17 = .ok (.putfield 19, 3) := by decide +kernel
theorem dX2_read_20 : decode cX2_read 20 = .ok (.iconst 1, 1) := by decide +kernel
theorem dX2_read_21 : decode cX2_read 21 = .ok (.ireturn, 1) := by decide +kernel
set_option maxRecDepth 100000 in
set_option maxHeartbeats 4000000 in
theorem C_X2_read (l : Launch) (E : gE) (x : gX) {v1 : Int32} {M : gM} {r : Bool} {M' : gM} (hf : f_X2_read v1 M = some (r, M')) : gM0 l E yX2_read (.code yX2_read cX2_read 2 (some .boolean)) (gR 1 20) M x [.ref (E.2.1 146), .int v1] (some (.int (gb r))) M' := by
  refine gMet (by decide +kernel) (Nat.le_of_ble_eq_true rfl) ?_
  intro p e s m args below meth c H locs ls Q hC hl hI kr kv
  replace hC : gC p s m args c cX2_read 2 RX2 E := hC
  replace hl : lv_has ls 2 [(0, .ref (E.2.1 146)), (1, .int v1)] := hl
  have hx := hC.1
  have hb := hC.2.1
  unfold f_X2_read at hf
  refine lv_aload_n hx hb dX2_read_0 rfl (lv_at hl 0 rfl) ?_
  obtain ⟨r1, hr2, hf⟩ := gbind hf
  have hr2 := C_X2_nextChar l E x  hr2
  refine g_callVi (rest := []) hC hI hr2 Y_X2_nextChar V_X2_nextChar w902 (rcv_X2 hC hI) ⟨rfl, rfl⟩ ⟨Nat.le_of_ble_eq_true rfl, Nat.le_of_ble_eq_true rfl⟩ rfl hl.1 rfl (Nat.le_of_ble_eq_true rfl) dX2_read_1 ⟨Nat.le_of_ble_eq_true rfl, Nat.le_of_ble_eq_true rfl⟩ (fun H locs hI => ?_)
  refine lv_iload_n hx hb dX2_read_4 rfl (lv_at hl 1 rfl) ?_
  refine lv_icmp_eq (tgt := 10) hx hb dX2_read_5 rfl (fun h3 => ?_) (fun h3 => ?_)
  · replace hf := gif h3 hf
    refine lv_aload_n hx hb dX2_read_10 rfl (lv_at hl 0 rfl) ?_
    refine lv_dup hx hb dX2_read_11 rfl ?_
    refine gt_X2_X2_position hC hI dX2_read_12 ?_
    refine lv_iconst (v := 1) hx hb dX2_read_15 (by decide) ?_
    refine lv_iadd hx hb dX2_read_16 ?_
    obtain ⟨M4, eM4, hf⟩ := glet hf
    refine pt_X2_X2_position hC hI dX2_read_17 (fun H locs hI => ?_)
    replace hI := g_mem eM4 hI
    refine lv_iconst (v := 1) hx hb dX2_read_20 (by decide) ?_
    exact kr _ _ _ _ _ _ (grwb1 hf) hI ⟨.boolean, rfl, rfl⟩ dX2_read_21
  · replace hf := gifn h3 hf
    refine lv_iconst (v := 0) hx hb dX2_read_8 (by decide) ?_
    exact kr _ _ _ _ _ _ (grwb0 hf) hI ⟨.boolean, rfl, rfl⟩ dX2_read_9
theorem dX4_isRow_0 : decode cX4_isRow 0 = .ok (.iload_n 0, 1) := by decide +kernel
theorem dX4_isRow_1 : decode cX4_isRow 1 = .ok (.ifCond .lt 13, 3) := by decide +kernel
theorem dX4_isRow_4 : decode cX4_isRow 4 = .ok (.iload_n 0, 1) := by decide +kernel
theorem dX4_isRow_5 : decode cX4_isRow 5 = .ok (.bipush 8, 2) := by decide +kernel
theorem dX4_isRow_7 : decode cX4_isRow 7 = .ok (.if_icmp .ge 7, 3) := by decide +kernel
theorem dX4_isRow_10 : decode cX4_isRow 10 = .ok (.iconst 1, 1) := by decide +kernel
theorem dX4_isRow_11 : decode cX4_isRow 11 = .ok (.goto 4, 3) := by decide +kernel
theorem dX4_isRow_14 : decode cX4_isRow 14 = .ok (.iconst 0, 1) := by decide +kernel
theorem dX4_isRow_15 : decode cX4_isRow 15 = .ok (.ireturn, 1) := by decide +kernel
set_option maxRecDepth 100000 in
set_option maxHeartbeats 4000000 in
theorem C_X4_isRow (l : Launch) (E : gE) (x : gX) {v0 : Int32} {M : gM} {r : Bool} (hf : f_X4_isRow v0 M = some r) : gM0 l E yX4_isRow (.code yX4_isRow cX4_isRow 1 (some .boolean)) (gR 0 0) M x [.int v0] (some (.int (gb r))) M := by
  refine gMet (by decide +kernel) (Nat.le_of_ble_eq_true rfl) ?_
  intro p e s m args below meth c H locs ls Q hC hl hI kr kv
  replace hC : gC p s m args c cX4_isRow 1 RX4 E := hC
  replace hl : lv_has ls 1 [(0, .int v0)] := hl
  have hx := hC.1
  have hb := hC.2.1
  unfold f_X4_isRow at hf
  refine lv_iload_n hx hb dX4_isRow_0 rfl (lv_at hl 0 rfl) ?_
  refine lv_if_lt (tgt := 14) hx hb dX4_isRow_1 rfl (fun h1 => ?_) (fun h1 => ?_)
  · replace hf := gif h1 hf
    refine lv_iconst (v := 0) hx hb dX4_isRow_14 (by decide) ?_
    exact kr _ _ _ _ _ _ (grb0 hf) hI ⟨.boolean, rfl, rfl⟩ dX4_isRow_15
  · replace hf := gifn h1 hf
    refine lv_iload_n hx hb dX4_isRow_4 rfl (lv_at hl 0 rfl) ?_
    refine lv_bipush (v := 8) hx hb dX4_isRow_5 (by decide) ?_
    refine lv_icmp_ge (tgt := 14) hx hb dX4_isRow_7 rfl (fun h2 => ?_) (fun h2 => ?_)
    · replace hf := gif h2 hf
      refine lv_iconst (v := 0) hx hb dX4_isRow_14 (by decide) ?_
      exact kr _ _ _ _ _ _ (grb0 hf) hI ⟨.boolean, rfl, rfl⟩ dX4_isRow_15
    · replace hf := gifn h2 hf
      refine lv_iconst (v := 1) hx hb dX4_isRow_10 (by decide) ?_
      refine lv_goto (tgt := 15) hx hb dX4_isRow_11 rfl ?_
      exact kr _ _ _ _ _ _ (grb1 hf) hI ⟨.boolean, rfl, rfl⟩ dX4_isRow_15
theorem dX4_begin_0 : decode cX4_begin 0 = .ok (.aload_n 0, 1) := by decide +kernel
theorem dX4_begin_1 : decode cX4_begin 1 = .ok (.getfield 18, 3) := by decide +kernel
theorem dX4_begin_4 : decode cX4_begin 4 = .ok (.invokestatic 22, 3) := by decide +kernel
theorem dX4_begin_7 : decode cX4_begin 7 = .ok (.ifCond .eq 23, 3) := by decide +kernel
theorem dX4_begin_10 : decode cX4_begin 10 = .ok (.aload_n 0, 1) := by decide +kernel
theorem dX4_begin_11 : decode cX4_begin 11 = .ok (.getfield 9, 3) := by decide +kernel
theorem dX4_begin_14 : decode cX4_begin 14 = .ok (.aload_n 0, 1) := by decide +kernel
theorem dX4_begin_15 : decode cX4_begin 15 = .ok (.getfield 18, 3) := by decide +kernel
theorem dX4_begin_18 : decode cX4_begin 18 = .ok (.iload_n 1, 1) := by decide +kernel
theorem dX4_begin_19 : decode cX4_begin 19 = .ok (.iastore, 1) := by decide +kernel
theorem dX4_begin_20 : decode cX4_begin 20 = .ok (.aload_n 0, 1) := by decide +kernel
theorem dX4_begin_21 : decode cX4_begin 21 = .ok (.dup, 1) := by decide +kernel
theorem dX4_begin_22 : decode cX4_begin 22 = .ok (.getfield 18, 3) := by decide +kernel
theorem dX4_begin_25 : decode cX4_begin 25 = .ok (.iconst 1, 1) := by decide +kernel
theorem dX4_begin_26 : decode cX4_begin 26 = .ok (.iadd, 1) := by decide +kernel
theorem dX4_begin_27 : decode cX4_begin 27 = .ok (.putfield 18, 3) := by decide +kernel
theorem dX4_begin_30 : decode cX4_begin 30 = .ok (.return_, 1) := by decide +kernel
set_option maxRecDepth 100000 in
set_option maxHeartbeats 4000000 in
theorem C_X4_begin (l : Launch) (E : gE) (x : gX) {v1 : Int32} {M : gM} {M' : gM} (hf : f_X4_begin v1 M = some M') : gM0 l E yX4_begin (.code yX4_begin cX4_begin 2 none) (gR 1 20) M x [.ref (E.2.1 135), .int v1] none M' := by
  refine gMet (by decide +kernel) (Nat.le_of_ble_eq_true rfl) ?_
  intro p e s m args below meth c H locs ls Q hC hl hI kr kv
  replace hC : gC p s m args c cX4_begin 2 RX4 E := hC
  replace hl : lv_has ls 2 [(0, .ref (E.2.1 135)), (1, .int v1)] := hl
  have hx := hC.1
  have hb := hC.2.1
  unfold f_X4_begin at hf
  refine lv_aload_n hx hb dX4_begin_0 rfl (lv_at hl 0 rfl) ?_
  refine gt_X4_X4_count hC hI dX4_begin_1 ?_
  obtain ⟨r1, hr2, hf⟩ := gbind hf
  have hr2 := C_X4_isRow l E x  hr2
  refine g_callSi (rest := []) hC hI hr2 Y_X4_isRow S_X4_isRow w918 ⟨rfl, rfl⟩ ⟨Nat.le_of_ble_eq_true rfl, Nat.le_of_ble_eq_true rfl⟩ rfl hl.1 rfl (Nat.le_of_ble_eq_true rfl) dX4_begin_4 ⟨Nat.le_of_ble_eq_true rfl, Nat.le_of_ble_eq_true rfl⟩ (fun H locs hI => ?_)
  refine lv_if_eq (tgt := 30) hx hb dX4_begin_7 rfl (fun h3 => ?_) (fun h3 => ?_)
  · replace hf := gif h3 hf
    exact kv _ _ _ _ _ (grv hf) hI rfl dX4_begin_30
  · replace hf := gifn h3 hf
    refine lv_aload_n hx hb dX4_begin_10 rfl (lv_at hl 0 rfl) ?_
    refine gt_X4_X4_kinds hC hI dX4_begin_11 ?_
    refine lv_aload_n hx hb dX4_begin_14 rfl (lv_at hl 0 rfl) ?_
    refine gt_X4_X4_count hC hI dX4_begin_15 ?_
    refine lv_iload_n hx hb dX4_begin_18 rfl (lv_at hl 1 rfl) ?_
    obtain ⟨h4, hf⟩ := gifN hf
    obtain ⟨M5, eM5, hf⟩ := glet hf
    refine g_iast hC hI (k := (M 135 2).toNatClampNeg) gIA_kinds h4 rfl dX4_begin_19 (fun H locs hI => ?_)
    replace hI := g_mem eM5 hI
    refine lv_aload_n hx hb dX4_begin_20 rfl (lv_at hl 0 rfl) ?_
    refine lv_dup hx hb dX4_begin_21 rfl ?_
    refine gt_X4_X4_count hC hI dX4_begin_22 ?_
    refine lv_iconst (v := 1) hx hb dX4_begin_25 (by decide) ?_
    refine lv_iadd hx hb dX4_begin_26 ?_
    obtain ⟨M6, eM6, hf⟩ := glet hf
    refine pt_X4_X4_count hC hI dX4_begin_27 (fun H locs hI => ?_)
    replace hI := g_mem eM6 hI
    exact kv _ _ _ _ _ (grv hf) hI rfl dX4_begin_30
theorem dX2_readWord_0 : decode cX2_readWord 0 = .ok (.iconst 0, 1) := by decide +kernel
theorem dX2_readWord_1 : decode cX2_readWord 1 = .ok (.istore_n 2, 1) := by decide +kernel
theorem dX2_readWord_2 : decode cX2_readWord 2 = .ok (.iload_n 2, 1) := by decide +kernel
theorem dX2_readWord_3 : decode cX2_readWord 3 = .ok (.aload_n 1, 1) := by decide +kernel
theorem dX2_readWord_4 : decode cX2_readWord 4 = .ok (.invokevirtual 80, 3) := by decide +kernel
theorem dX2_readWord_7 : decode cX2_readWord 7 = .ok (.if_icmp .ge 23, 3) := by decide +kernel
theorem dX2_readWord_10 : decode cX2_readWord 10 = .ok (.aload_n 0, 1) := by decide +kernel
theorem dX2_readWord_11 : decode cX2_readWord 11 = .ok (.aload_n 1, 1) := by decide +kernel
theorem dX2_readWord_12 : decode cX2_readWord 12 = .ok (.iload_n 2, 1) := by decide +kernel
theorem dX2_readWord_13 : decode cX2_readWord 13 = .ok (.invokevirtual 85, 3) := by decide +kernel
theorem dX2_readWord_16 : decode cX2_readWord 16 = .ok (.invokevirtual 31, 3) := by decide +kernel
theorem dX2_readWord_19 : decode cX2_readWord 19 = .ok (.ifCond .ne 5, 3) := by decide +kernel
theorem dX2_readWord_22 : decode cX2_readWord 22 = .ok (.iconst 0, 1) := by decide +kernel
theorem dX2_readWord_23 : decode cX2_readWord 23 = .ok (.ireturn, 1) := by decide +kernel
theorem dX2_readWord_24 : decode cX2_readWord 24 = .ok (.iinc 2 1, 3) := by decide +kernel
theorem dX2_readWord_27 : decode cX2_readWord 27 = .ok (.goto (-25), 3) := by decide +kernel
theorem dX2_readWord_30 : decode cX2_readWord 30 = .ok (.iconst 1, 1) := by decide +kernel
theorem dX2_readWord_31 : decode cX2_readWord 31 = .ok (.ireturn, 1) := by decide +kernel
set_option maxRecDepth 100000 in
set_option maxHeartbeats 4000000 in
theorem C_X2_readWord (l : Launch) (E : gE) (x : gX) {k1 : Nat} (hk1 : k1 < 7) {M : gM} {r : Bool} {M' : gM} (hf : f_X2_readWord k1 M = some (r, M')) : gM0 l E yX2_readWord (.code yX2_readWord cX2_readWord 3 (some .boolean)) (gR 6 141) M x [.ref (E.2.1 146), .ref (E.2.2.2.1 k1)] (some (.int (gb r))) M' := by
  refine gMet (by decide +kernel) (Nat.le_of_ble_eq_true rfl) ?_
  intro p e s m args below meth c H locs ls Q hC hl hI kr kv
  replace hC : gC p s m args c cX2_readWord 3 RX2 E := hC
  replace hl : lv_has ls 3 [(0, .ref (E.2.1 146)), (1, .ref (E.2.2.2.1 k1))] := hl
  have hx := hC.1
  have hb := hC.2.1
  have L2 : ∀ (n : Nat) (v2 : Int32) (M : gM), f_X2_readWord_L2 k1 n v2 M = some (r, M') → ∀ (H : Heap) (locs : List Loc) (ls : Array Slot), gI E s M x H locs → lv_has ls 3 [(2, .int v2), (0, .ref (E.2.1 146)), (1, .ref (E.2.2.2.1 k1))] → W p l e (gR 6 141) s m args below meth c H locs 0 0 Q (F0 m 2 ls []) := by
    intro  n
    induction n with
    | zero => intro v2 M hf; rw [f_X2_readWord_L2] at hf; cases hf
    | succ n ih =>
      intro v2 M hf H locs ls hI hl
      rw [f_X2_readWord_L2] at hf
      refine lv_iload_n hx hb dX2_readWord_2 rfl (lv_at hl 0 rfl) ?_
      refine lv_aload_n hx hb dX2_readWord_3 rfl (lv_at hl 2 rfl) ?_
      refine g_callVbi (rest := [.int v2]) hC hI (C_S7_length l E x hk1) Y_J0_length_8abf5 V_J0_length_8abf5 w926 (rcv_W hC hI (g7 E hk1)) ⟨rfl, rfl⟩ ⟨Nat.le_of_ble_eq_true rfl, Nat.le_of_ble_eq_true rfl⟩ rfl hl.1 rfl (Nat.le_of_ble_eq_true rfl) dX2_readWord_4 ⟨Nat.le_of_ble_eq_true rfl, Nat.le_of_ble_eq_true rfl⟩ (fun H locs hI => ?_)
      refine lv_icmp_ge (tgt := 30) hx hb dX2_readWord_7 rfl (fun h1 => ?_) (fun h1 => ?_)
      · replace hf := gif h1 hf
        refine lv_iconst (v := 1) hx hb dX2_readWord_30 (by decide) ?_
        exact kr _ _ _ _ _ _ (grwb1 hf) hI ⟨.boolean, rfl, rfl⟩ dX2_readWord_31
      · replace hf := gifn h1 hf
        refine lv_aload_n hx hb dX2_readWord_10 rfl (lv_at hl 1 rfl) ?_
        refine lv_aload_n hx hb dX2_readWord_11 rfl (lv_at hl 2 rfl) ?_
        refine lv_iload_n hx hb dX2_readWord_12 rfl (lv_at hl 0 rfl) ?_
        obtain ⟨h2, hf⟩ := gifN hf
        refine g_callVbi (rest := [.ref (E.2.1 146)]) hC hI (C_S7_charAt l E x hk1 h2) Y_J0_charAt_5068e V_J0_charAt_5068e w936 (rcv_W hC hI (g7 E hk1)) ⟨rfl, rfl⟩ ⟨Nat.le_of_ble_eq_true rfl, Nat.le_of_ble_eq_true rfl⟩ rfl hl.1 rfl (Nat.le_of_ble_eq_true rfl) dX2_readWord_13 ⟨Nat.le_of_ble_eq_true rfl, Nat.le_of_ble_eq_true rfl⟩ (fun H locs hI => ?_)
        obtain ⟨r3, hr4, hf⟩ := gbind hf
        have hr4 := C_X2_read l E x  hr4
        refine g_callVi (rest := []) hC hI hr4 Y_X2_read V_X2_read w906 (rcv_X2 hC hI) ⟨rfl, rfl⟩ ⟨Nat.le_of_ble_eq_true rfl, Nat.le_of_ble_eq_true rfl⟩ rfl hl.1 rfl (Nat.le_of_ble_eq_true rfl) dX2_readWord_16 ⟨Nat.le_of_ble_eq_true rfl, Nat.le_of_ble_eq_true rfl⟩ (fun H locs hI => ?_)
        refine lv_if_ne (tgt := 24) hx hb dX2_readWord_19 rfl (fun h5 => ?_) (fun h5 => ?_)
        · replace hf := gifn h5 hf
          refine lv_iinc (k := 0) (v := v2 + 1) (lv' := [(2, .int (v2 + 1)), (0, .ref (E.2.1 146)), (1, .ref (E.2.2.2.1 k1))]) hx hb dX2_readWord_24 hl rfl rfl (by decide) rfl (fun ls hl => ?_)
          refine lv_goto (tgt := 2) hx hb dX2_readWord_27 rfl ?_
          exact ih (v2 + 1) r3.2 hf _ _ _ hI (lv_sub hl [0, 1, 2] rfl)
        · replace hf := gif h5 hf
          refine lv_iconst (v := 0) hx hb dX2_readWord_22 (by decide) ?_
          exact kr _ _ _ _ _ _ (grwb0 hf) hI ⟨.boolean, rfl, rfl⟩ dX2_readWord_23
  unfold f_X2_readWord at hf
  refine lv_iconst (v := 0) hx hb dX2_readWord_0 (by decide) ?_
  refine lv_istore_n (lv' := [(2, .int 0), (0, .ref (E.2.1 146)), (1, .ref (E.2.2.2.1 k1))]) hx hb dX2_readWord_1 rfl hl (by decide) rfl (fun ls hl => ?_)
  exact L2 gF 0 M hf _ _ _ hI (lv_sub hl [0, 1, 2] rfl)
theorem dX2_nextIsDigit_0 : decode cX2_nextIsDigit 0 = .ok (.aload_n 0, 1) := by decide +kernel
theorem dX2_nextIsDigit_1 : decode cX2_nextIsDigit 1 = .ok (.invokevirtual 35, 3) := by decide +kernel
theorem dX2_nextIsDigit_4 : decode cX2_nextIsDigit 4 = .ok (.bipush 48, 2) := by decide +kernel
theorem dX2_nextIsDigit_6 : decode cX2_nextIsDigit 6 = .ok (.if_icmp .lt 16, 3) := by decide +kernel
theorem dX2_nextIsDigit_9 : decode cX2_nextIsDigit 9 = .ok (.aload_n 0, 1) := by decide +kernel
theorem dX2_nextIsDigit_10 : decode cX2_nextIsDigit 10 = .ok (.invokevirtual 35, 3) := by decide +kernel
theorem dX2_nextIsDigit_13 : decode cX2_nextIsDigit 13 = .ok (.bipush 57, 2) := by decide +kernel
theorem dX2_nextIsDigit_15 : decode cX2_nextIsDigit 15 = .ok (.if_icmp .gt 7, 3) := by decide +kernel
theorem dX2_nextIsDigit_18 : decode cX2_nextIsDigit 18 = .ok (.iconst 1, 1) := by decide +kernel
theorem dX2_nextIsDigit_19 : decode cX2_nextIsDigit 19 = .ok (.goto 4, 3) := by decide +kernel
theorem dX2_nextIsDigit_22 : decode cX2_nextIsDigit 22 = .ok (.iconst 0, 1) := by decide +kernel
theorem dX2_nextIsDigit_23 : decode cX2_nextIsDigit 23 = .ok (.ireturn, 1) := by decide +kernel
set_option maxRecDepth 100000 in
set_option maxHeartbeats 4000000 in
theorem C_X2_nextIsDigit (l : Launch) (E : gE) (x : gX) {M : gM} {r : Bool} (hf : f_X2_nextIsDigit M = some r) : gM0 l E yX2_nextIsDigit (.code yX2_nextIsDigit cX2_nextIsDigit 1 (some .boolean)) (gR 1 20) M x [.ref (E.2.1 146)] (some (.int (gb r))) M := by
  refine gMet (by decide +kernel) (Nat.le_of_ble_eq_true rfl) ?_
  intro p e s m args below meth c H locs ls Q hC hl hI kr kv
  replace hC : gC p s m args c cX2_nextIsDigit 1 RX2 E := hC
  replace hl : lv_has ls 1 [(0, .ref (E.2.1 146))] := hl
  have hx := hC.1
  have hb := hC.2.1
  unfold f_X2_nextIsDigit at hf
  refine lv_aload_n hx hb dX2_nextIsDigit_0 rfl (lv_at hl 0 rfl) ?_
  obtain ⟨r1, hr2, hf⟩ := gbind hf
  have hr2 := C_X2_nextChar l E x  hr2
  refine g_callVi (rest := []) hC hI hr2 Y_X2_nextChar V_X2_nextChar w902 (rcv_X2 hC hI) ⟨rfl, rfl⟩ ⟨Nat.le_of_ble_eq_true rfl, Nat.le_of_ble_eq_true rfl⟩ rfl hl.1 rfl (Nat.le_of_ble_eq_true rfl) dX2_nextIsDigit_1 ⟨Nat.le_of_ble_eq_true rfl, Nat.le_of_ble_eq_true rfl⟩ (fun H locs hI => ?_)
  refine lv_bipush (v := 48) hx hb dX2_nextIsDigit_4 (by decide) ?_
  refine lv_icmp_lt (tgt := 22) hx hb dX2_nextIsDigit_6 rfl (fun h3 => ?_) (fun h3 => ?_)
  · replace hf := gif h3 hf
    refine lv_iconst (v := 0) hx hb dX2_nextIsDigit_22 (by decide) ?_
    exact kr _ _ _ _ _ _ (grb0 hf) hI ⟨.boolean, rfl, rfl⟩ dX2_nextIsDigit_23
  · replace hf := gifn h3 hf
    refine lv_aload_n hx hb dX2_nextIsDigit_9 rfl (lv_at hl 0 rfl) ?_
    obtain ⟨r4, hr5, hf⟩ := gbind hf
    have hr5 := C_X2_nextChar l E x  hr5
    refine g_callVi (rest := []) hC hI hr5 Y_X2_nextChar V_X2_nextChar w902 (rcv_X2 hC hI) ⟨rfl, rfl⟩ ⟨Nat.le_of_ble_eq_true rfl, Nat.le_of_ble_eq_true rfl⟩ rfl hl.1 rfl (Nat.le_of_ble_eq_true rfl) dX2_nextIsDigit_10 ⟨Nat.le_of_ble_eq_true rfl, Nat.le_of_ble_eq_true rfl⟩ (fun H locs hI => ?_)
    refine lv_bipush (v := 57) hx hb dX2_nextIsDigit_13 (by decide) ?_
    refine lv_icmp_gt (tgt := 22) hx hb dX2_nextIsDigit_15 rfl (fun h6 => ?_) (fun h6 => ?_)
    · replace hf := gif h6 hf
      refine lv_iconst (v := 0) hx hb dX2_nextIsDigit_22 (by decide) ?_
      exact kr _ _ _ _ _ _ (grb0 hf) hI ⟨.boolean, rfl, rfl⟩ dX2_nextIsDigit_23
    · replace hf := gifn h6 hf
      refine lv_iconst (v := 1) hx hb dX2_nextIsDigit_18 (by decide) ?_
      refine lv_goto (tgt := 23) hx hb dX2_nextIsDigit_19 rfl ?_
      exact kr _ _ _ _ _ _ (grb1 hf) hI ⟨.boolean, rfl, rfl⟩ dX2_nextIsDigit_23
theorem dX4_isPlace_0 : decode cX4_isPlace 0 = .ok (.iload_n 0, 1) := by decide +kernel
theorem dX4_isPlace_1 : decode cX4_isPlace 1 = .ok (.ifCond .lt 12, 3) := by decide +kernel
theorem dX4_isPlace_4 : decode cX4_isPlace 4 = .ok (.iload_n 0, 1) := by decide +kernel
theorem dX4_isPlace_5 : decode cX4_isPlace 5 = .ok (.iconst 4, 1) := by decide +kernel
theorem dX4_isPlace_6 : decode cX4_isPlace 6 = .ok (.if_icmp .ge 7, 3) := by decide +kernel
theorem dX4_isPlace_9 : decode cX4_isPlace 9 = .ok (.iconst 1, 1) := by decide +kernel
theorem dX4_isPlace_10 : decode cX4_isPlace 10 = .ok (.goto 4, 3) := by decide +kernel
theorem dX4_isPlace_13 : decode cX4_isPlace 13 = .ok (.iconst 0, 1) := by decide +kernel
theorem dX4_isPlace_14 : decode cX4_isPlace 14 = .ok (.ireturn, 1) := by decide +kernel
set_option maxRecDepth 100000 in
set_option maxHeartbeats 4000000 in
theorem C_X4_isPlace (l : Launch) (E : gE) (x : gX) {v0 : Int32} {M : gM} {r : Bool} (hf : f_X4_isPlace v0 M = some r) : gM0 l E yX4_isPlace (.code yX4_isPlace cX4_isPlace 1 (some .boolean)) (gR 0 0) M x [.int v0] (some (.int (gb r))) M := by
  refine gMet (by decide +kernel) (Nat.le_of_ble_eq_true rfl) ?_
  intro p e s m args below meth c H locs ls Q hC hl hI kr kv
  replace hC : gC p s m args c cX4_isPlace 1 RX4 E := hC
  replace hl : lv_has ls 1 [(0, .int v0)] := hl
  have hx := hC.1
  have hb := hC.2.1
  unfold f_X4_isPlace at hf
  refine lv_iload_n hx hb dX4_isPlace_0 rfl (lv_at hl 0 rfl) ?_
  refine lv_if_lt (tgt := 13) hx hb dX4_isPlace_1 rfl (fun h1 => ?_) (fun h1 => ?_)
  · replace hf := gif h1 hf
    refine lv_iconst (v := 0) hx hb dX4_isPlace_13 (by decide) ?_
    exact kr _ _ _ _ _ _ (grb0 hf) hI ⟨.boolean, rfl, rfl⟩ dX4_isPlace_14
  · replace hf := gifn h1 hf
    refine lv_iload_n hx hb dX4_isPlace_4 rfl (lv_at hl 0 rfl) ?_
    refine lv_iconst (v := 4) hx hb dX4_isPlace_5 (by decide) ?_
    refine lv_icmp_ge (tgt := 13) hx hb dX4_isPlace_6 rfl (fun h2 => ?_) (fun h2 => ?_)
    · replace hf := gif h2 hf
      refine lv_iconst (v := 0) hx hb dX4_isPlace_13 (by decide) ?_
      exact kr _ _ _ _ _ _ (grb0 hf) hI ⟨.boolean, rfl, rfl⟩ dX4_isPlace_14
    · replace hf := gifn h2 hf
      refine lv_iconst (v := 1) hx hb dX4_isPlace_9 (by decide) ?_
      refine lv_goto (tgt := 14) hx hb dX4_isPlace_10 rfl ?_
      exact kr _ _ _ _ _ _ (grb1 hf) hI ⟨.boolean, rfl, rfl⟩ dX4_isPlace_14
theorem dX4_keep_0 : decode cX4_keep 0 = .ok (.aload_n 0, 1) := by decide +kernel
theorem dX4_keep_1 : decode cX4_keep 1 = .ok (.getfield 18, 3) := by decide +kernel
theorem dX4_keep_4 : decode cX4_keep 4 = .ok (.iconst 1, 1) := by decide +kernel
theorem dX4_keep_5 : decode cX4_keep 5 = .ok (.isub, 1) := by decide +kernel
theorem dX4_keep_6 : decode cX4_keep 6 = .ok (.invokestatic 22, 3) := by decide +kernel
theorem dX4_keep_9 : decode cX4_keep 9 = .ok (.ifCond .eq 26, 3) := by decide +kernel
theorem dX4_keep_12 : decode cX4_keep 12 = .ok (.iload_n 1, 1) := by decide +kernel
theorem dX4_keep_13 : decode cX4_keep 13 = .ok (.invokestatic 26, 3) := by decide +kernel
theorem dX4_keep_16 : decode cX4_keep 16 = .ok (.ifCond .eq 19, 3) := by decide +kernel
theorem dX4_keep_19 : decode cX4_keep 19 = .ok (.aload_n 0, 1) := by decide +kernel
theorem dX4_keep_20 : decode cX4_keep 20 = .ok (.getfield 15, 3) := by decide +kernel
theorem dX4_keep_23 : decode cX4_keep 23 = .ok (.aload_n 0, 1) := by decide +kernel
theorem dX4_keep_24 : decode cX4_keep 24 = .ok (.getfield 18, 3) := by decide +kernel
theorem dX4_keep_27 : decode cX4_keep 27 = .ok (.iconst 1, 1) := by decide +kernel
theorem dX4_keep_28 : decode cX4_keep 28 = .ok (.isub, 1) := by decide +kernel
theorem dX4_keep_29 : decode cX4_keep 29 = .ok (.iconst 4, 1) := by decide +kernel
theorem dX4_keep_30 : decode cX4_keep 30 = .ok (.imul, 1) := by decide +kernel
theorem dX4_keep_31 : decode cX4_keep 31 = .ok (.iload_n 1, 1) := by decide +kernel
theorem dX4_keep_32 : decode cX4_keep 32 = .ok (.iadd, 1) := by decide +kernel
theorem dX4_keep_33 : decode cX4_keep 33 = .ok (.iload_n 2, 1) := by decide +kernel
theorem dX4_keep_34 : decode cX4_keep 34 = .ok (.iastore, 1) := by decide +kernel
theorem dX4_keep_35 : decode cX4_keep 35 = .ok (.return_, 1) := by decide +kernel
set_option maxRecDepth 100000 in
set_option maxHeartbeats 4000000 in
theorem C_X4_keep (l : Launch) (E : gE) (x : gX) {v1 v2 : Int32} {M : gM} {M' : gM} (hf : f_X4_keep v1 v2 M = some M') : gM0 l E yX4_keep (.code yX4_keep cX4_keep 3 none) (gR 1 20) M x [.ref (E.2.1 135), .int v1, .int v2] none M' := by
  refine gMet (by decide +kernel) (Nat.le_of_ble_eq_true rfl) ?_
  intro p e s m args below meth c H locs ls Q hC hl hI kr kv
  replace hC : gC p s m args c cX4_keep 3 RX4 E := hC
  replace hl : lv_has ls 3 [(0, .ref (E.2.1 135)), (1, .int v1), (2, .int v2)] := hl
  have hx := hC.1
  have hb := hC.2.1
  unfold f_X4_keep at hf
  refine lv_aload_n hx hb dX4_keep_0 rfl (lv_at hl 0 rfl) ?_
  refine gt_X4_X4_count hC hI dX4_keep_1 ?_
  refine lv_iconst (v := 1) hx hb dX4_keep_4 (by decide) ?_
  refine lv_isub hx hb dX4_keep_5 ?_
  obtain ⟨r1, hr2, hf⟩ := gbind hf
  have hr2 := C_X4_isRow l E x  hr2
  refine g_callSi (rest := []) hC hI hr2 Y_X4_isRow S_X4_isRow w918 ⟨rfl, rfl⟩ ⟨Nat.le_of_ble_eq_true rfl, Nat.le_of_ble_eq_true rfl⟩ rfl hl.1 rfl (Nat.le_of_ble_eq_true rfl) dX4_keep_6 ⟨Nat.le_of_ble_eq_true rfl, Nat.le_of_ble_eq_true rfl⟩ (fun H locs hI => ?_)
  refine lv_if_eq (tgt := 35) hx hb dX4_keep_9 rfl (fun h3 => ?_) (fun h3 => ?_)
  · replace hf := gif h3 hf
    exact kv _ _ _ _ _ (grv hf) hI rfl dX4_keep_35
  · replace hf := gifn h3 hf
    refine lv_iload_n hx hb dX4_keep_12 rfl (lv_at hl 1 rfl) ?_
    obtain ⟨r4, hr5, hf⟩ := gbind hf
    have hr5 := C_X4_isPlace l E x  hr5
    refine g_callSi (rest := []) hC hI hr5 Y_X4_isPlace S_X4_isPlace w986 ⟨rfl, rfl⟩ ⟨Nat.le_of_ble_eq_true rfl, Nat.le_of_ble_eq_true rfl⟩ rfl hl.1 rfl (Nat.le_of_ble_eq_true rfl) dX4_keep_13 ⟨Nat.le_of_ble_eq_true rfl, Nat.le_of_ble_eq_true rfl⟩ (fun H locs hI => ?_)
    refine lv_if_eq (tgt := 35) hx hb dX4_keep_16 rfl (fun h6 => ?_) (fun h6 => ?_)
    · replace hf := gif h6 hf
      exact kv _ _ _ _ _ (grv hf) hI rfl dX4_keep_35
    · replace hf := gifn h6 hf
      refine lv_aload_n hx hb dX4_keep_19 rfl (lv_at hl 0 rfl) ?_
      refine gt_X4_X4_arguments hC hI dX4_keep_20 ?_
      refine lv_aload_n hx hb dX4_keep_23 rfl (lv_at hl 0 rfl) ?_
      refine gt_X4_X4_count hC hI dX4_keep_24 ?_
      refine lv_iconst (v := 1) hx hb dX4_keep_27 (by decide) ?_
      refine lv_isub hx hb dX4_keep_28 ?_
      refine lv_iconst (v := 4) hx hb dX4_keep_29 (by decide) ?_
      refine lv_imul hx hb dX4_keep_30 ?_
      refine lv_iload_n hx hb dX4_keep_31 rfl (lv_at hl 1 rfl) ?_
      refine lv_iadd hx hb dX4_keep_32 ?_
      refine lv_iload_n hx hb dX4_keep_33 rfl (lv_at hl 2 rfl) ?_
      obtain ⟨h7, hf⟩ := gifN hf
      obtain ⟨M8, eM8, hf⟩ := glet hf
      refine g_iast hC hI (k := ((((M 135 2) - 1) * 4) + v1).toNatClampNeg) gIA_args h7 rfl dX4_keep_34 (fun H locs hI => ?_)
      replace hI := g_mem eM8 hI
      exact kv _ _ _ _ _ (grv hf) hI rfl dX4_keep_35
theorem dX2_readDigit_0 : decode cX2_readDigit 0 = .ok (.aload_n 0, 1) := by decide +kernel
theorem dX2_readDigit_1 : decode cX2_readDigit 1 = .ok (.invokevirtual 89, 3) := by decide +kernel
theorem dX2_readDigit_4 : decode cX2_readDigit 4 = .ok (.ifCond .ne 5, 3) := by decide +kernel
theorem dX2_readDigit_7 : decode cX2_readDigit 7 = .ok (.iconst 0, 1) := by decide +kernel
theorem dX2_readDigit_8 : decode cX2_readDigit 8 = .ok (.ireturn, 1) := by decide +kernel
theorem dX2_readDigit_9 : decode cX2_readDigit 9 = .ok (.aload_n 1, 1) := by decide +kernel
theorem dX2_readDigit_10 : decode cX2_readDigit 10 = .ok (.iload_n 2, 1) := by decide +kernel
theorem dX2_readDigit_11 : decode cX2_readDigit 11 = .ok (.aload_n 0, 1) := by decide +kernel
theorem dX2_readDigit_12 : decode cX2_readDigit 12 = .ok (.invokevirtual 35, 3) := by decide +kernel
theorem dX2_readDigit_15 : decode cX2_readDigit 15 = .ok (.bipush 48, 2) := by decide +kernel
theorem dX2_readDigit_17 : decode cX2_readDigit 17 = .ok (.isub, 1) := by decide +kernel
theorem dX2_readDigit_18 : decode cX2_readDigit 18 = .ok (.invokevirtual 93, 3) := by decide +kernel
theorem dX2_readDigit_21 : decode cX2_readDigit 21 = .ok (.aload_n 0, 1) := by decide +kernel
theorem dX2_readDigit_22 : decode cX2_readDigit 22 = .ok (.dup, 1) := by decide +kernel
theorem dX2_readDigit_23 : decode cX2_readDigit 23 = .ok (.getfield 19, 3) := by decide +kernel
theorem dX2_readDigit_26 : decode cX2_readDigit 26 = .ok (.iconst 1, 1) := by decide +kernel
theorem dX2_readDigit_27 : decode cX2_readDigit 27 = .ok (.iadd, 1) := by decide +kernel
theorem dX2_readDigit_28 : decode cX2_readDigit 28 = .ok (.putfield 19, 3) := by decide +kernel
theorem dX2_readDigit_31 : decode cX2_readDigit 31 = .ok (.iconst 1, 1) := by decide +kernel
theorem dX2_readDigit_32 : decode cX2_readDigit 32 = .ok (.ireturn, 1) := by decide +kernel
set_option maxRecDepth 100000 in
set_option maxHeartbeats 4000000 in
theorem C_X2_readDigit (l : Launch) (E : gE) (x : gX) {v2 : Int32} {M : gM} {r : Bool} {M' : gM} (hf : f_X2_readDigit v2 M = some (r, M')) : gM0 l E yX2_readDigit (.code yX2_readDigit cX2_readDigit 3 (some .boolean)) (gR 2 42) M x [.ref (E.2.1 146), .ref (E.2.1 135), .int v2] (some (.int (gb r))) M' := by
  refine gMet (by decide +kernel) (Nat.le_of_ble_eq_true rfl) ?_
  intro p e s m args below meth c H locs ls Q hC hl hI kr kv
  replace hC : gC p s m args c cX2_readDigit 3 RX2 E := hC
  replace hl : lv_has ls 3 [(0, .ref (E.2.1 146)), (1, .ref (E.2.1 135)), (2, .int v2)] := hl
  have hx := hC.1
  have hb := hC.2.1
  unfold f_X2_readDigit at hf
  refine lv_aload_n hx hb dX2_readDigit_0 rfl (lv_at hl 0 rfl) ?_
  obtain ⟨r1, hr2, hf⟩ := gbind hf
  have hr2 := C_X2_nextIsDigit l E x  hr2
  refine g_callVi (rest := []) hC hI hr2 Y_X2_nextIsDigit V_X2_nextIsDigit w978 (rcv_X2 hC hI) ⟨rfl, rfl⟩ ⟨Nat.le_of_ble_eq_true rfl, Nat.le_of_ble_eq_true rfl⟩ rfl hl.1 rfl (Nat.le_of_ble_eq_true rfl) dX2_readDigit_1 ⟨Nat.le_of_ble_eq_true rfl, Nat.le_of_ble_eq_true rfl⟩ (fun H locs hI => ?_)
  refine lv_if_ne (tgt := 9) hx hb dX2_readDigit_4 rfl (fun h3 => ?_) (fun h3 => ?_)
  · replace hf := gifn h3 hf
    refine lv_aload_n hx hb dX2_readDigit_9 rfl (lv_at hl 1 rfl) ?_
    refine lv_iload_n hx hb dX2_readDigit_10 rfl (lv_at hl 2 rfl) ?_
    refine lv_aload_n hx hb dX2_readDigit_11 rfl (lv_at hl 0 rfl) ?_
    obtain ⟨r4, hr5, hf⟩ := gbind hf
    have hr5 := C_X2_nextChar l E x  hr5
    refine g_callVi (rest := [.int v2, .ref (E.2.1 135)]) hC hI hr5 Y_X2_nextChar V_X2_nextChar w902 (rcv_X2 hC hI) ⟨rfl, rfl⟩ ⟨Nat.le_of_ble_eq_true rfl, Nat.le_of_ble_eq_true rfl⟩ rfl hl.1 rfl (Nat.le_of_ble_eq_true rfl) dX2_readDigit_12 ⟨Nat.le_of_ble_eq_true rfl, Nat.le_of_ble_eq_true rfl⟩ (fun H locs hI => ?_)
    refine lv_bipush (v := 48) hx hb dX2_readDigit_15 (by decide) ?_
    refine lv_isub hx hb dX2_readDigit_17 ?_
    obtain ⟨r6, hr7, hf⟩ := gbind hf
    have hr7 := C_X4_keep l E x  hr7
    refine g_callVv (rest := []) hC hI hr7 Y_X4_keep V_X4_keep w982 (rcv_X4 hC hI) ⟨rfl, rfl⟩ ⟨Nat.le_of_ble_eq_true rfl, Nat.le_of_ble_eq_true rfl⟩ rfl hl.1 rfl (Nat.le_of_ble_eq_true rfl) dX2_readDigit_18 ⟨Nat.le_of_ble_eq_true rfl, Nat.le_of_ble_eq_true rfl⟩ (fun H locs hI => ?_)
    refine lv_aload_n hx hb dX2_readDigit_21 rfl (lv_at hl 0 rfl) ?_
    refine lv_dup hx hb dX2_readDigit_22 rfl ?_
    refine gt_X2_X2_position hC hI dX2_readDigit_23 ?_
    refine lv_iconst (v := 1) hx hb dX2_readDigit_26 (by decide) ?_
    refine lv_iadd hx hb dX2_readDigit_27 ?_
    obtain ⟨M8, eM8, hf⟩ := glet hf
    refine pt_X2_X2_position hC hI dX2_readDigit_28 (fun H locs hI => ?_)
    replace hI := g_mem eM8 hI
    refine lv_iconst (v := 1) hx hb dX2_readDigit_31 (by decide) ?_
    exact kr _ _ _ _ _ _ (grwb1 hf) hI ⟨.boolean, rfl, rfl⟩ dX2_readDigit_32
  · replace hf := gif h3 hf
    refine lv_iconst (v := 0) hx hb dX2_readDigit_7 (by decide) ?_
    exact kr _ _ _ _ _ _ (grwb0 hf) hI ⟨.boolean, rfl, rfl⟩ dX2_readDigit_8
theorem dX2_readMove_0 : decode cX2_readMove 0 = .ok (.aload_n 1, 1) := by decide +kernel
theorem dX2_readMove_1 : decode cX2_readMove 1 = .ok (.iconst 4, 1) := by decide +kernel
theorem dX2_readMove_2 : decode cX2_readMove 2 = .ok (.invokevirtual 51, 3) := by decide +kernel
theorem dX2_readMove_5 : decode cX2_readMove 5 = .ok (.aload_n 0, 1) := by decide +kernel
theorem dX2_readMove_6 : decode cX2_readMove 6 = .ok (.ldc 74, 2) := by decide +kernel
theorem dX2_readMove_8 : decode cX2_readMove 8 = .ok (.invokevirtual 57, 3) := by decide +kernel
theorem dX2_readMove_11 : decode cX2_readMove 11 = .ok (.ifCond .eq 34, 3) := by decide +kernel
theorem dX2_readMove_14 : decode cX2_readMove 14 = .ok (.aload_n 0, 1) := by decide +kernel
theorem dX2_readMove_15 : decode cX2_readMove 15 = .ok (.aload_n 1, 1) := by decide +kernel
theorem dX2_readMove_16 : decode cX2_readMove 16 = .ok (.iconst 0, 1) := by decide +kernel
theorem dX2_readMove_17 : decode cX2_readMove 17 = .ok (.invokevirtual 67, 3) := by decide +kernel
theorem dX2_readMove_20 : decode cX2_readMove 20 = .ok (.ifCond .eq 25, 3) := by decide +kernel
theorem dX2_readMove_23 : decode cX2_readMove 23 = .ok (.aload_n 0, 1) := by decide +kernel
theorem dX2_readMove_24 : decode cX2_readMove 24 = .ok (.aload_n 1, 1) := by decide +kernel
theorem dX2_readMove_25 : decode cX2_readMove 25 = .ok (.iconst 1, 1) := by decide +kernel
theorem dX2_readMove_26 : decode cX2_readMove 26 = .ok (.invokevirtual 67, 3) := by decide +kernel
theorem dX2_readMove_29 : decode cX2_readMove 29 = .ok (.ifCond .eq 16, 3) := by decide +kernel
theorem dX2_readMove_32 : decode cX2_readMove 32 = .ok (.aload_n 0, 1) := by decide +kernel
theorem dX2_readMove_33 : decode cX2_readMove 33 = .ok (.aload_n 1, 1) := by decide +kernel
theorem dX2_readMove_34 : decode cX2_readMove 34 = .ok (.iconst 2, 1) := by decide +kernel
theorem dX2_readMove_35 : decode cX2_readMove 35 = .ok (.invokevirtual 67, 3) := by decide +kernel
theorem dX2_readMove_38 : decode cX2_readMove 38 = .ok (.ifCond .eq 7, 3) := by decide +kernel
theorem dX2_readMove_41 : decode cX2_readMove 41 = .ok (.iconst 1, 1) := by decide +kernel
theorem dX2_readMove_42 : decode cX2_readMove 42 = .ok (.goto 4, 3) := by decide +kernel
theorem dX2_readMove_45 : decode cX2_readMove 45 = .ok (.iconst 0, 1) := by decide +kernel
theorem dX2_readMove_46 : decode cX2_readMove 46 = .ok (.ireturn, 1) := by decide +kernel
set_option maxRecDepth 100000 in
set_option maxHeartbeats 4000000 in
theorem C_X2_readMove (l : Launch) (E : gE) (x : gX) {M : gM} {r : Bool} {M' : gM} (hf : f_X2_readMove M = some (r, M')) : gM0 l E yX2_readMove (.code yX2_readMove cX2_readMove 2 (some .boolean)) (gR 7 163) M x [.ref (E.2.1 146), .ref (E.2.1 135)] (some (.int (gb r))) M' := by
  refine gMet (by decide +kernel) (Nat.le_of_ble_eq_true rfl) ?_
  intro p e s m args below meth c H locs ls Q hC hl hI kr kv
  replace hC : gC p s m args c cX2_readMove 2 RX2 E := hC
  replace hl : lv_has ls 2 [(0, .ref (E.2.1 146)), (1, .ref (E.2.1 135))] := hl
  have hx := hC.1
  have hb := hC.2.1
  unfold f_X2_readMove at hf
  refine lv_aload_n hx hb dX2_readMove_0 rfl (lv_at hl 1 rfl) ?_
  refine lv_iconst (v := 4) hx hb dX2_readMove_1 (by decide) ?_
  obtain ⟨r1, hr2, hf⟩ := gbind hf
  have hr2 := C_X4_begin l E x  hr2
  refine g_callVv (rest := []) hC hI hr2 Y_X4_begin V_X4_begin w914 (rcv_X4 hC hI) ⟨rfl, rfl⟩ ⟨Nat.le_of_ble_eq_true rfl, Nat.le_of_ble_eq_true rfl⟩ rfl hl.1 rfl (Nat.le_of_ble_eq_true rfl) dX2_readMove_2 ⟨Nat.le_of_ble_eq_true rfl, Nat.le_of_ble_eq_true rfl⟩ (fun H locs hI => ?_)
  refine lv_aload_n hx hb dX2_readMove_5 rfl (lv_at hl 0 rfl) ?_
  refine g_ldcW hC 1 (q := (74, "ve ")) rfl dX2_readMove_6 ?_
  obtain ⟨r3, hr4, hf⟩ := gbind hf
  have hr4 := C_X2_readWord l E x (by decide) hr4
  refine g_callVi (rest := []) hC hI hr4 Y_X2_readWord V_X2_readWord w922 (rcv_X2 hC hI) ⟨rfl, rfl⟩ ⟨Nat.le_of_ble_eq_true rfl, Nat.le_of_ble_eq_true rfl⟩ rfl hl.1 rfl (Nat.le_of_ble_eq_true rfl) dX2_readMove_8 ⟨Nat.le_of_ble_eq_true rfl, Nat.le_of_ble_eq_true rfl⟩ (fun H locs hI => ?_)
  refine lv_if_eq (tgt := 45) hx hb dX2_readMove_11 rfl (fun h5 => ?_) (fun h5 => ?_)
  · replace hf := gif h5 hf
    refine lv_iconst (v := 0) hx hb dX2_readMove_45 (by decide) ?_
    exact kr _ _ _ _ _ _ (grwb0 hf) hI ⟨.boolean, rfl, rfl⟩ dX2_readMove_46
  · replace hf := gifn h5 hf
    refine lv_aload_n hx hb dX2_readMove_14 rfl (lv_at hl 0 rfl) ?_
    refine lv_aload_n hx hb dX2_readMove_15 rfl (lv_at hl 1 rfl) ?_
    refine lv_iconst (v := 0) hx hb dX2_readMove_16 (by decide) ?_
    obtain ⟨r6, hr7, hf⟩ := gbind hf
    have hr7 := C_X2_readDigit l E x  hr7
    refine g_callVi (rest := []) hC hI hr7 Y_X2_readDigit V_X2_readDigit w974 (rcv_X2 hC hI) ⟨rfl, rfl⟩ ⟨Nat.le_of_ble_eq_true rfl, Nat.le_of_ble_eq_true rfl⟩ rfl hl.1 rfl (Nat.le_of_ble_eq_true rfl) dX2_readMove_17 ⟨Nat.le_of_ble_eq_true rfl, Nat.le_of_ble_eq_true rfl⟩ (fun H locs hI => ?_)
    refine lv_if_eq (tgt := 45) hx hb dX2_readMove_20 rfl (fun h8 => ?_) (fun h8 => ?_)
    · replace hf := gif h8 hf
      refine lv_iconst (v := 0) hx hb dX2_readMove_45 (by decide) ?_
      exact kr _ _ _ _ _ _ (grwb0 hf) hI ⟨.boolean, rfl, rfl⟩ dX2_readMove_46
    · replace hf := gifn h8 hf
      refine lv_aload_n hx hb dX2_readMove_23 rfl (lv_at hl 0 rfl) ?_
      refine lv_aload_n hx hb dX2_readMove_24 rfl (lv_at hl 1 rfl) ?_
      refine lv_iconst (v := 1) hx hb dX2_readMove_25 (by decide) ?_
      obtain ⟨r9, hr10, hf⟩ := gbind hf
      have hr10 := C_X2_readDigit l E x  hr10
      refine g_callVi (rest := []) hC hI hr10 Y_X2_readDigit V_X2_readDigit w974 (rcv_X2 hC hI) ⟨rfl, rfl⟩ ⟨Nat.le_of_ble_eq_true rfl, Nat.le_of_ble_eq_true rfl⟩ rfl hl.1 rfl (Nat.le_of_ble_eq_true rfl) dX2_readMove_26 ⟨Nat.le_of_ble_eq_true rfl, Nat.le_of_ble_eq_true rfl⟩ (fun H locs hI => ?_)
      refine lv_if_eq (tgt := 45) hx hb dX2_readMove_29 rfl (fun h11 => ?_) (fun h11 => ?_)
      · replace hf := gif h11 hf
        refine lv_iconst (v := 0) hx hb dX2_readMove_45 (by decide) ?_
        exact kr _ _ _ _ _ _ (grwb0 hf) hI ⟨.boolean, rfl, rfl⟩ dX2_readMove_46
      · replace hf := gifn h11 hf
        refine lv_aload_n hx hb dX2_readMove_32 rfl (lv_at hl 0 rfl) ?_
        refine lv_aload_n hx hb dX2_readMove_33 rfl (lv_at hl 1 rfl) ?_
        refine lv_iconst (v := 2) hx hb dX2_readMove_34 (by decide) ?_
        obtain ⟨r12, hr13, hf⟩ := gbind hf
        have hr13 := C_X2_readDigit l E x  hr13
        refine g_callVi (rest := []) hC hI hr13 Y_X2_readDigit V_X2_readDigit w974 (rcv_X2 hC hI) ⟨rfl, rfl⟩ ⟨Nat.le_of_ble_eq_true rfl, Nat.le_of_ble_eq_true rfl⟩ rfl hl.1 rfl (Nat.le_of_ble_eq_true rfl) dX2_readMove_35 ⟨Nat.le_of_ble_eq_true rfl, Nat.le_of_ble_eq_true rfl⟩ (fun H locs hI => ?_)
        refine lv_if_eq (tgt := 45) hx hb dX2_readMove_38 rfl (fun h14 => ?_) (fun h14 => ?_)
        · replace hf := gif h14 hf
          refine lv_iconst (v := 0) hx hb dX2_readMove_45 (by decide) ?_
          exact kr _ _ _ _ _ _ (grwb0 hf) hI ⟨.boolean, rfl, rfl⟩ dX2_readMove_46
        · replace hf := gifn h14 hf
          refine lv_iconst (v := 1) hx hb dX2_readMove_41 (by decide) ?_
          refine lv_goto (tgt := 46) hx hb dX2_readMove_42 rfl ?_
          exact kr _ _ _ _ _ _ (grwb1 hf) hI ⟨.boolean, rfl, rfl⟩ dX2_readMove_46
theorem dX2_readNumber_0 : decode cX2_readNumber 0 = .ok (.iconst 0, 1) := by decide +kernel
theorem dX2_readNumber_1 : decode cX2_readNumber 1 = .ok (.istore_n 3, 1) := by decide +kernel
theorem dX2_readNumber_2 : decode cX2_readNumber 2 = .ok (.iconst 0, 1) := by decide +kernel
theorem dX2_readNumber_3 : decode cX2_readNumber 3 = .ok (.istore 4, 2) := by decide +kernel
theorem dX2_readNumber_5 : decode cX2_readNumber 5 = .ok (.iload 4, 2) := by decide +kernel
theorem dX2_readNumber_7 : decode cX2_readNumber 7 = .ok (.iconst 3, 1) := by decide +kernel
theorem dX2_readNumber_8 : decode cX2_readNumber 8 = .ok (.if_icmp .ge 39, 3) := by decide +kernel
theorem dX2_readNumber_11 : decode cX2_readNumber 11 = .ok (.aload_n 0, 1) := by decide +kernel
theorem dX2_readNumber_12 : decode cX2_readNumber 12 = .ok (.invokevirtual 89, 3) := by decide +kernel
theorem dX2_readNumber_15 : decode cX2_readNumber 15 = .ok (.ifCond .eq 32, 3) := by decide +kernel
theorem dX2_readNumber_18 : decode cX2_readNumber 18 = .ok (.iload_n 3, 1) := by decide +kernel
theorem dX2_readNumber_19 : decode cX2_readNumber 19 = .ok (.bipush 10, 2) := by decide +kernel
theorem dX2_readNumber_21 : decode cX2_readNumber 21 = .ok (.imul, 1) := by decide +kernel
theorem dX2_readNumber_22 : decode cX2_readNumber 22 = .ok (.aload_n 0, 1) := by decide +kernel
theorem dX2_readNumber_23 : decode cX2_readNumber 23 = .ok (.invokevirtual 35, 3) := by decide +kernel
theorem dX2_readNumber_26 : decode cX2_readNumber 26 = .ok (.bipush 48, 2) := by decide +kernel
theorem dX2_readNumber_28 : decode cX2_readNumber 28 = .ok (.isub, 1) := by decide +kernel
theorem dX2_readNumber_29 : decode cX2_readNumber 29 = .ok (.iadd, 1) := by decide +kernel
theorem dX2_readNumber_30 : decode cX2_readNumber 30 = .ok (.istore_n 3, 1) := by decide +kernel
theorem dX2_readNumber_31 : decode cX2_readNumber 31 = .ok (.iinc 4 1, 3) := by decide +kernel
theorem dX2_readNumber_34 : decode cX2_readNumber 34 = .ok (.aload_n 0, 1) := by decide +kernel
theorem dX2_readNumber_35 : decode cX2_readNumber 35 = .ok (.dup, 1) := by decide +kernel
theorem dX2_readNumber_36 : decode cX2_readNumber 36 = .ok (.getfield 19, 3) := by decide +kernel
theorem dX2_readNumber_39 : decode cX2_readNumber 39 = .ok (.iconst 1, 1) := by decide +kernel
theorem dX2_readNumber_40 : decode cX2_readNumber 40 = .ok (.iadd, 1) := by decide +kernel
theorem dX2_readNumber_41 : decode cX2_readNumber 41 = .ok (.putfield 19, 3) := by decide +kernel
theorem dX2_readNumber_44 : decode cX2_readNumber 44 = .ok (.goto (-39), 3) := by decide +kernel
theorem dX2_readNumber_47 : decode cX2_readNumber 47 = .ok (.aload_n 1, 1) := by decide +kernel
theorem dX2_readNumber_48 : decode cX2_readNumber 48 = .ok (.iload_n 2, 1) := by decide +kernel
theorem dX2_readNumber_49 : decode cX2_readNumber 49 = .ok (.iload_n 3, 1) := by decide +kernel
theorem dX2_readNumber_50 : decode cX2_readNumber 50 = .ok (.invokevirtual 93, 3) := by decide +kernel
theorem dX2_readNumber_53 : decode cX2_readNumber 53 = .ok (.iload 4, 2) := by decide +kernel
theorem dX2_readNumber_55 : decode cX2_readNumber 55 = .ok (.ifCond .le 7, 3) := by decide +kernel
theorem dX2_readNumber_58 : decode cX2_readNumber 58 = .ok (.iconst 1, 1) := by decide +kernel
theorem dX2_readNumber_59 : decode cX2_readNumber 59 = .ok (.goto 4, 3) := by decide +kernel
theorem dX2_readNumber_62 : decode cX2_readNumber 62 = .ok (.iconst 0, 1) := by decide +kernel
theorem dX2_readNumber_63 : decode cX2_readNumber 63 = .ok (.ireturn, 1) := by decide +kernel
set_option maxRecDepth 100000 in
set_option maxHeartbeats 4000000 in
theorem C_X2_readNumber (l : Launch) (E : gE) (x : gX) {v2 : Int32} {M : gM} {r : Bool} {M' : gM} (hf : f_X2_readNumber v2 M = some (r, M')) : gM0 l E yX2_readNumber (.code yX2_readNumber cX2_readNumber 5 (some .boolean)) (gR 2 42) M x [.ref (E.2.1 146), .ref (E.2.1 135), .int v2] (some (.int (gb r))) M' := by
  refine gMet (by decide +kernel) (Nat.le_of_ble_eq_true rfl) ?_
  intro p e s m args below meth c H locs ls Q hC hl hI kr kv
  replace hC : gC p s m args c cX2_readNumber 5 RX2 E := hC
  replace hl : lv_has ls 5 [(0, .ref (E.2.1 146)), (1, .ref (E.2.1 135)), (2, .int v2)] := hl
  have hx := hC.1
  have hb := hC.2.1
  have L5 : ∀ (v2 : Int32) (n : Nat) (v4 : Int32) (v3 : Int32) (M : gM), f_X2_readNumber_L5 v2 n v4 v3 M = some (r, M') → ∀ (H : Heap) (locs : List Loc) (ls : Array Slot), gI E s M x H locs → lv_has ls 5 [(4, .int v4), (3, .int v3), (0, .ref (E.2.1 146)), (1, .ref (E.2.1 135)), (2, .int v2)] → W p l e (gR 2 42) s m args below meth c H locs 0 0 Q (F0 m 5 ls []) := by
    intro v2 n
    induction n with
    | zero => intro v4 v3 M hf; rw [f_X2_readNumber_L5] at hf; cases hf
    | succ n ih =>
      intro v4 v3 M hf H locs ls hI hl
      rw [f_X2_readNumber_L5] at hf
      refine lv_iload hx hb dX2_readNumber_5 (lv_at hl 0 rfl) ?_
      refine lv_iconst (v := 3) hx hb dX2_readNumber_7 (by decide) ?_
      refine lv_icmp_ge (tgt := 47) hx hb dX2_readNumber_8 rfl (fun h1 => ?_) (fun h1 => ?_)
      · replace hf := gif h1 hf
        refine lv_aload_n hx hb dX2_readNumber_47 rfl (lv_at hl 3 rfl) ?_
        refine lv_iload_n hx hb dX2_readNumber_48 rfl (lv_at hl 4 rfl) ?_
        refine lv_iload_n hx hb dX2_readNumber_49 rfl (lv_at hl 1 rfl) ?_
        obtain ⟨r2, hr3, hf⟩ := gbind hf
        have hr3 := C_X4_keep l E x  hr3
        refine g_callVv (rest := []) hC hI hr3 Y_X4_keep V_X4_keep w982 (rcv_X4 hC hI) ⟨rfl, rfl⟩ ⟨Nat.le_of_ble_eq_true rfl, Nat.le_of_ble_eq_true rfl⟩ rfl hl.1 rfl (Nat.le_of_ble_eq_true rfl) dX2_readNumber_50 ⟨Nat.le_of_ble_eq_true rfl, Nat.le_of_ble_eq_true rfl⟩ (fun H locs hI => ?_)
        refine lv_iload hx hb dX2_readNumber_53 (lv_at hl 0 rfl) ?_
        refine lv_if_le (tgt := 62) hx hb dX2_readNumber_55 rfl (fun h4 => ?_) (fun h4 => ?_)
        · replace hf := gif h4 hf
          refine lv_iconst (v := 0) hx hb dX2_readNumber_62 (by decide) ?_
          exact kr _ _ _ _ _ _ (grwb0 hf) hI ⟨.boolean, rfl, rfl⟩ dX2_readNumber_63
        · replace hf := gifn h4 hf
          refine lv_iconst (v := 1) hx hb dX2_readNumber_58 (by decide) ?_
          refine lv_goto (tgt := 63) hx hb dX2_readNumber_59 rfl ?_
          exact kr _ _ _ _ _ _ (grwb1 hf) hI ⟨.boolean, rfl, rfl⟩ dX2_readNumber_63
      · replace hf := gifn h1 hf
        refine lv_aload_n hx hb dX2_readNumber_11 rfl (lv_at hl 2 rfl) ?_
        obtain ⟨r5, hr6, hf⟩ := gbind hf
        have hr6 := C_X2_nextIsDigit l E x  hr6
        refine g_callVi (rest := []) hC hI hr6 Y_X2_nextIsDigit V_X2_nextIsDigit w978 (rcv_X2 hC hI) ⟨rfl, rfl⟩ ⟨Nat.le_of_ble_eq_true rfl, Nat.le_of_ble_eq_true rfl⟩ rfl hl.1 rfl (Nat.le_of_ble_eq_true rfl) dX2_readNumber_12 ⟨Nat.le_of_ble_eq_true rfl, Nat.le_of_ble_eq_true rfl⟩ (fun H locs hI => ?_)
        refine lv_if_eq (tgt := 47) hx hb dX2_readNumber_15 rfl (fun h7 => ?_) (fun h7 => ?_)
        · replace hf := gif h7 hf
          refine lv_aload_n hx hb dX2_readNumber_47 rfl (lv_at hl 3 rfl) ?_
          refine lv_iload_n hx hb dX2_readNumber_48 rfl (lv_at hl 4 rfl) ?_
          refine lv_iload_n hx hb dX2_readNumber_49 rfl (lv_at hl 1 rfl) ?_
          obtain ⟨r8, hr9, hf⟩ := gbind hf
          have hr9 := C_X4_keep l E x  hr9
          refine g_callVv (rest := []) hC hI hr9 Y_X4_keep V_X4_keep w982 (rcv_X4 hC hI) ⟨rfl, rfl⟩ ⟨Nat.le_of_ble_eq_true rfl, Nat.le_of_ble_eq_true rfl⟩ rfl hl.1 rfl (Nat.le_of_ble_eq_true rfl) dX2_readNumber_50 ⟨Nat.le_of_ble_eq_true rfl, Nat.le_of_ble_eq_true rfl⟩ (fun H locs hI => ?_)
          refine lv_iload hx hb dX2_readNumber_53 (lv_at hl 0 rfl) ?_
          refine lv_if_le (tgt := 62) hx hb dX2_readNumber_55 rfl (fun h10 => ?_) (fun h10 => ?_)
          · replace hf := gif h10 hf
            refine lv_iconst (v := 0) hx hb dX2_readNumber_62 (by decide) ?_
            exact kr _ _ _ _ _ _ (grwb0 hf) hI ⟨.boolean, rfl, rfl⟩ dX2_readNumber_63
          · replace hf := gifn h10 hf
            refine lv_iconst (v := 1) hx hb dX2_readNumber_58 (by decide) ?_
            refine lv_goto (tgt := 63) hx hb dX2_readNumber_59 rfl ?_
            exact kr _ _ _ _ _ _ (grwb1 hf) hI ⟨.boolean, rfl, rfl⟩ dX2_readNumber_63
        · replace hf := gifn h7 hf
          refine lv_iload_n hx hb dX2_readNumber_18 rfl (lv_at hl 1 rfl) ?_
          refine lv_bipush (v := 10) hx hb dX2_readNumber_19 (by decide) ?_
          refine lv_imul hx hb dX2_readNumber_21 ?_
          refine lv_aload_n hx hb dX2_readNumber_22 rfl (lv_at hl 2 rfl) ?_
          obtain ⟨r11, hr12, hf⟩ := gbind hf
          have hr12 := C_X2_nextChar l E x  hr12
          refine g_callVi (rest := [.int (v3 * 10)]) hC hI hr12 Y_X2_nextChar V_X2_nextChar w902 (rcv_X2 hC hI) ⟨rfl, rfl⟩ ⟨Nat.le_of_ble_eq_true rfl, Nat.le_of_ble_eq_true rfl⟩ rfl hl.1 rfl (Nat.le_of_ble_eq_true rfl) dX2_readNumber_23 ⟨Nat.le_of_ble_eq_true rfl, Nat.le_of_ble_eq_true rfl⟩ (fun H locs hI => ?_)
          refine lv_bipush (v := 48) hx hb dX2_readNumber_26 (by decide) ?_
          refine lv_isub hx hb dX2_readNumber_28 ?_
          refine lv_iadd hx hb dX2_readNumber_29 ?_
          obtain ⟨z13, ez13, hf⟩ := glet hf
          refine g_top ez13 ?_
          refine lv_istore_n (lv' := [(3, .int z13), (4, .int v4), (0, .ref (E.2.1 146)), (1, .ref (E.2.1 135)), (2, .int v2)]) hx hb dX2_readNumber_30 rfl hl (by decide) rfl (fun ls hl => ?_)
          refine lv_iinc (k := 1) (v := v4 + 1) (lv' := [(4, .int (v4 + 1)), (3, .int z13), (0, .ref (E.2.1 146)), (1, .ref (E.2.1 135)), (2, .int v2)]) hx hb dX2_readNumber_31 hl rfl rfl (by decide) rfl (fun ls hl => ?_)
          refine lv_aload_n hx hb dX2_readNumber_34 rfl (lv_at hl 2 rfl) ?_
          refine lv_dup hx hb dX2_readNumber_35 rfl ?_
          refine gt_X2_X2_position hC hI dX2_readNumber_36 ?_
          refine lv_iconst (v := 1) hx hb dX2_readNumber_39 (by decide) ?_
          refine lv_iadd hx hb dX2_readNumber_40 ?_
          obtain ⟨M14, eM14, hf⟩ := glet hf
          refine pt_X2_X2_position hC hI dX2_readNumber_41 (fun H locs hI => ?_)
          replace hI := g_mem eM14 hI
          refine lv_goto (tgt := 5) hx hb dX2_readNumber_44 rfl ?_
          exact ih (v4 + 1) z13 M14 hf _ _ _ hI (lv_sub hl [0, 1, 2, 3, 4] rfl)
  unfold f_X2_readNumber at hf
  refine lv_iconst (v := 0) hx hb dX2_readNumber_0 (by decide) ?_
  refine lv_istore_n (lv' := [(3, .int 0), (0, .ref (E.2.1 146)), (1, .ref (E.2.1 135)), (2, .int v2)]) hx hb dX2_readNumber_1 rfl hl (by decide) rfl (fun ls hl => ?_)
  refine lv_iconst (v := 0) hx hb dX2_readNumber_2 (by decide) ?_
  refine lv_istore (lv' := [(4, .int 0), (3, .int 0), (0, .ref (E.2.1 146)), (1, .ref (E.2.1 135)), (2, .int v2)]) hx hb dX2_readNumber_3 hl (by decide) rfl (fun ls hl => ?_)
  exact L5 v2 gF 0 0 M hf _ _ _ hI (lv_sub hl [0, 1, 2, 3, 4] rfl)
theorem dX2_readMoor_0 : decode cX2_readMoor 0 = .ok (.aload_n 1, 1) := by decide +kernel
theorem dX2_readMoor_1 : decode cX2_readMoor 1 = .ok (.iconst 1, 1) := by decide +kernel
theorem dX2_readMoor_2 : decode cX2_readMoor 2 = .ok (.invokevirtual 51, 3) := by decide +kernel
theorem dX2_readMoor_5 : decode cX2_readMoor 5 = .ok (.aload_n 0, 1) := by decide +kernel
theorem dX2_readMoor_6 : decode cX2_readMoor 6 = .ok (.ldc 72, 2) := by decide +kernel
theorem dX2_readMoor_8 : decode cX2_readMoor 8 = .ok (.invokevirtual 57, 3) := by decide +kernel
theorem dX2_readMoor_11 : decode cX2_readMoor 11 = .ok (.ifCond .eq 52, 3) := by decide +kernel
theorem dX2_readMoor_14 : decode cX2_readMoor 14 = .ok (.aload_n 0, 1) := by decide +kernel
theorem dX2_readMoor_15 : decode cX2_readMoor 15 = .ok (.aload_n 1, 1) := by decide +kernel
theorem dX2_readMoor_16 : decode cX2_readMoor 16 = .ok (.iconst 0, 1) := by decide +kernel
theorem dX2_readMoor_17 : decode cX2_readMoor 17 = .ok (.invokevirtual 67, 3) := by decide +kernel
theorem dX2_readMoor_20 : decode cX2_readMoor 20 = .ok (.ifCond .eq 43, 3) := by decide +kernel
theorem dX2_readMoor_23 : decode cX2_readMoor 23 = .ok (.aload_n 0, 1) := by decide +kernel
theorem dX2_readMoor_24 : decode cX2_readMoor 24 = .ok (.bipush 32, 2) := by decide +kernel
theorem dX2_readMoor_26 : decode cX2_readMoor 26 = .ok (.invokevirtual 31, 3) := by decide +kernel
theorem dX2_readMoor_29 : decode cX2_readMoor 29 = .ok (.ifCond .eq 34, 3) := by decide +kernel
theorem dX2_readMoor_32 : decode cX2_readMoor 32 = .ok (.aload_n 0, 1) := by decide +kernel
theorem dX2_readMoor_33 : decode cX2_readMoor 33 = .ok (.aload_n 1, 1) := by decide +kernel
theorem dX2_readMoor_34 : decode cX2_readMoor 34 = .ok (.iconst 1, 1) := by decide +kernel
theorem dX2_readMoor_35 : decode cX2_readMoor 35 = .ok (.invokevirtual 67, 3) := by decide +kernel
theorem dX2_readMoor_38 : decode cX2_readMoor 38 = .ok (.ifCond .eq 25, 3) := by decide +kernel
theorem dX2_readMoor_41 : decode cX2_readMoor 41 = .ok (.aload_n 0, 1) := by decide +kernel
theorem dX2_readMoor_42 : decode cX2_readMoor 42 = .ok (.bipush 32, 2) := by decide +kernel
theorem dX2_readMoor_44 : decode cX2_readMoor 44 = .ok (.invokevirtual 31, 3) := by decide +kernel
theorem dX2_readMoor_47 : decode cX2_readMoor 47 = .ok (.ifCond .eq 16, 3) := by decide +kernel
theorem dX2_readMoor_50 : decode cX2_readMoor 50 = .ok (.aload_n 0, 1) := by decide +kernel
theorem dX2_readMoor_51 : decode cX2_readMoor 51 = .ok (.aload_n 1, 1) := by decide +kernel
theorem dX2_readMoor_52 : decode cX2_readMoor 52 = .ok (.iconst 2, 1) := by decide +kernel
theorem dX2_readMoor_53 : decode cX2_readMoor 53 = .ok (.invokevirtual 61, 3) := by decide +kernel
theorem dX2_readMoor_56 : decode cX2_readMoor 56 = .ok (.ifCond .eq 7, 3) := by decide +kernel
theorem dX2_readMoor_59 : decode cX2_readMoor 59 = .ok (.iconst 1, 1) := by decide +kernel
theorem dX2_readMoor_60 : decode cX2_readMoor 60 = .ok (.goto 4, 3) := by decide +kernel
theorem dX2_readMoor_63 : decode cX2_readMoor 63 = .ok (.iconst 0, 1) := by decide +kernel
theorem dX2_readMoor_64 : decode cX2_readMoor 64 = .ok (.ireturn, 1) := by decide +kernel
set_option maxRecDepth 100000 in
set_option maxHeartbeats 4000000 in
theorem C_X2_readMoor (l : Launch) (E : gE) (x : gX) {M : gM} {r : Bool} {M' : gM} (hf : f_X2_readMoor M = some (r, M')) : gM0 l E yX2_readMoor (.code yX2_readMoor cX2_readMoor 2 (some .boolean)) (gR 7 163) M x [.ref (E.2.1 146), .ref (E.2.1 135)] (some (.int (gb r))) M' := by
  refine gMet (by decide +kernel) (Nat.le_of_ble_eq_true rfl) ?_
  intro p e s m args below meth c H locs ls Q hC hl hI kr kv
  replace hC : gC p s m args c cX2_readMoor 2 RX2 E := hC
  replace hl : lv_has ls 2 [(0, .ref (E.2.1 146)), (1, .ref (E.2.1 135))] := hl
  have hx := hC.1
  have hb := hC.2.1
  unfold f_X2_readMoor at hf
  refine lv_aload_n hx hb dX2_readMoor_0 rfl (lv_at hl 1 rfl) ?_
  refine lv_iconst (v := 1) hx hb dX2_readMoor_1 (by decide) ?_
  obtain ⟨r1, hr2, hf⟩ := gbind hf
  have hr2 := C_X4_begin l E x  hr2
  refine g_callVv (rest := []) hC hI hr2 Y_X4_begin V_X4_begin w914 (rcv_X4 hC hI) ⟨rfl, rfl⟩ ⟨Nat.le_of_ble_eq_true rfl, Nat.le_of_ble_eq_true rfl⟩ rfl hl.1 rfl (Nat.le_of_ble_eq_true rfl) dX2_readMoor_2 ⟨Nat.le_of_ble_eq_true rfl, Nat.le_of_ble_eq_true rfl⟩ (fun H locs hI => ?_)
  refine lv_aload_n hx hb dX2_readMoor_5 rfl (lv_at hl 0 rfl) ?_
  refine g_ldcW hC 0 (q := (72, "or ")) rfl dX2_readMoor_6 ?_
  obtain ⟨r3, hr4, hf⟩ := gbind hf
  have hr4 := C_X2_readWord l E x (by decide) hr4
  refine g_callVi (rest := []) hC hI hr4 Y_X2_readWord V_X2_readWord w922 (rcv_X2 hC hI) ⟨rfl, rfl⟩ ⟨Nat.le_of_ble_eq_true rfl, Nat.le_of_ble_eq_true rfl⟩ rfl hl.1 rfl (Nat.le_of_ble_eq_true rfl) dX2_readMoor_8 ⟨Nat.le_of_ble_eq_true rfl, Nat.le_of_ble_eq_true rfl⟩ (fun H locs hI => ?_)
  refine lv_if_eq (tgt := 63) hx hb dX2_readMoor_11 rfl (fun h5 => ?_) (fun h5 => ?_)
  · replace hf := gif h5 hf
    refine lv_iconst (v := 0) hx hb dX2_readMoor_63 (by decide) ?_
    exact kr _ _ _ _ _ _ (grwb0 hf) hI ⟨.boolean, rfl, rfl⟩ dX2_readMoor_64
  · replace hf := gifn h5 hf
    refine lv_aload_n hx hb dX2_readMoor_14 rfl (lv_at hl 0 rfl) ?_
    refine lv_aload_n hx hb dX2_readMoor_15 rfl (lv_at hl 1 rfl) ?_
    refine lv_iconst (v := 0) hx hb dX2_readMoor_16 (by decide) ?_
    obtain ⟨r6, hr7, hf⟩ := gbind hf
    have hr7 := C_X2_readDigit l E x  hr7
    refine g_callVi (rest := []) hC hI hr7 Y_X2_readDigit V_X2_readDigit w974 (rcv_X2 hC hI) ⟨rfl, rfl⟩ ⟨Nat.le_of_ble_eq_true rfl, Nat.le_of_ble_eq_true rfl⟩ rfl hl.1 rfl (Nat.le_of_ble_eq_true rfl) dX2_readMoor_17 ⟨Nat.le_of_ble_eq_true rfl, Nat.le_of_ble_eq_true rfl⟩ (fun H locs hI => ?_)
    refine lv_if_eq (tgt := 63) hx hb dX2_readMoor_20 rfl (fun h8 => ?_) (fun h8 => ?_)
    · replace hf := gif h8 hf
      refine lv_iconst (v := 0) hx hb dX2_readMoor_63 (by decide) ?_
      exact kr _ _ _ _ _ _ (grwb0 hf) hI ⟨.boolean, rfl, rfl⟩ dX2_readMoor_64
    · replace hf := gifn h8 hf
      refine lv_aload_n hx hb dX2_readMoor_23 rfl (lv_at hl 0 rfl) ?_
      refine lv_bipush (v := 32) hx hb dX2_readMoor_24 (by decide) ?_
      obtain ⟨r9, hr10, hf⟩ := gbind hf
      have hr10 := C_X2_read l E x  hr10
      refine g_callVi (rest := []) hC hI hr10 Y_X2_read V_X2_read w906 (rcv_X2 hC hI) ⟨rfl, rfl⟩ ⟨Nat.le_of_ble_eq_true rfl, Nat.le_of_ble_eq_true rfl⟩ rfl hl.1 rfl (Nat.le_of_ble_eq_true rfl) dX2_readMoor_26 ⟨Nat.le_of_ble_eq_true rfl, Nat.le_of_ble_eq_true rfl⟩ (fun H locs hI => ?_)
      refine lv_if_eq (tgt := 63) hx hb dX2_readMoor_29 rfl (fun h11 => ?_) (fun h11 => ?_)
      · replace hf := gif h11 hf
        refine lv_iconst (v := 0) hx hb dX2_readMoor_63 (by decide) ?_
        exact kr _ _ _ _ _ _ (grwb0 hf) hI ⟨.boolean, rfl, rfl⟩ dX2_readMoor_64
      · replace hf := gifn h11 hf
        refine lv_aload_n hx hb dX2_readMoor_32 rfl (lv_at hl 0 rfl) ?_
        refine lv_aload_n hx hb dX2_readMoor_33 rfl (lv_at hl 1 rfl) ?_
        refine lv_iconst (v := 1) hx hb dX2_readMoor_34 (by decide) ?_
        obtain ⟨r12, hr13, hf⟩ := gbind hf
        have hr13 := C_X2_readDigit l E x  hr13
        refine g_callVi (rest := []) hC hI hr13 Y_X2_readDigit V_X2_readDigit w974 (rcv_X2 hC hI) ⟨rfl, rfl⟩ ⟨Nat.le_of_ble_eq_true rfl, Nat.le_of_ble_eq_true rfl⟩ rfl hl.1 rfl (Nat.le_of_ble_eq_true rfl) dX2_readMoor_35 ⟨Nat.le_of_ble_eq_true rfl, Nat.le_of_ble_eq_true rfl⟩ (fun H locs hI => ?_)
        refine lv_if_eq (tgt := 63) hx hb dX2_readMoor_38 rfl (fun h14 => ?_) (fun h14 => ?_)
        · replace hf := gif h14 hf
          refine lv_iconst (v := 0) hx hb dX2_readMoor_63 (by decide) ?_
          exact kr _ _ _ _ _ _ (grwb0 hf) hI ⟨.boolean, rfl, rfl⟩ dX2_readMoor_64
        · replace hf := gifn h14 hf
          refine lv_aload_n hx hb dX2_readMoor_41 rfl (lv_at hl 0 rfl) ?_
          refine lv_bipush (v := 32) hx hb dX2_readMoor_42 (by decide) ?_
          obtain ⟨r15, hr16, hf⟩ := gbind hf
          have hr16 := C_X2_read l E x  hr16
          refine g_callVi (rest := []) hC hI hr16 Y_X2_read V_X2_read w906 (rcv_X2 hC hI) ⟨rfl, rfl⟩ ⟨Nat.le_of_ble_eq_true rfl, Nat.le_of_ble_eq_true rfl⟩ rfl hl.1 rfl (Nat.le_of_ble_eq_true rfl) dX2_readMoor_44 ⟨Nat.le_of_ble_eq_true rfl, Nat.le_of_ble_eq_true rfl⟩ (fun H locs hI => ?_)
          refine lv_if_eq (tgt := 63) hx hb dX2_readMoor_47 rfl (fun h17 => ?_) (fun h17 => ?_)
          · replace hf := gif h17 hf
            refine lv_iconst (v := 0) hx hb dX2_readMoor_63 (by decide) ?_
            exact kr _ _ _ _ _ _ (grwb0 hf) hI ⟨.boolean, rfl, rfl⟩ dX2_readMoor_64
          · replace hf := gifn h17 hf
            refine lv_aload_n hx hb dX2_readMoor_50 rfl (lv_at hl 0 rfl) ?_
            refine lv_aload_n hx hb dX2_readMoor_51 rfl (lv_at hl 1 rfl) ?_
            refine lv_iconst (v := 2) hx hb dX2_readMoor_52 (by decide) ?_
            obtain ⟨r18, hr19, hf⟩ := gbind hf
            have hr19 := C_X2_readNumber l E x  hr19
            refine g_callVi (rest := []) hC hI hr19 Y_X2_readNumber V_X2_readNumber w994 (rcv_X2 hC hI) ⟨rfl, rfl⟩ ⟨Nat.le_of_ble_eq_true rfl, Nat.le_of_ble_eq_true rfl⟩ rfl hl.1 rfl (Nat.le_of_ble_eq_true rfl) dX2_readMoor_53 ⟨Nat.le_of_ble_eq_true rfl, Nat.le_of_ble_eq_true rfl⟩ (fun H locs hI => ?_)
            refine lv_if_eq (tgt := 63) hx hb dX2_readMoor_56 rfl (fun h20 => ?_) (fun h20 => ?_)
            · replace hf := gif h20 hf
              refine lv_iconst (v := 0) hx hb dX2_readMoor_63 (by decide) ?_
              exact kr _ _ _ _ _ _ (grwb0 hf) hI ⟨.boolean, rfl, rfl⟩ dX2_readMoor_64
            · replace hf := gifn h20 hf
              refine lv_iconst (v := 1) hx hb dX2_readMoor_59 (by decide) ?_
              refine lv_goto (tgt := 64) hx hb dX2_readMoor_60 rfl ?_
              exact kr _ _ _ _ _ _ (grwb1 hf) hI ⟨.boolean, rfl, rfl⟩ dX2_readMoor_64
theorem dX2_readStow_0 : decode cX2_readStow 0 = .ok (.aload_n 1, 1) := by decide +kernel
theorem dX2_readStow_1 : decode cX2_readStow 1 = .ok (.iconst 2, 1) := by decide +kernel
theorem dX2_readStow_2 : decode cX2_readStow 2 = .ok (.invokevirtual 51, 3) := by decide +kernel
theorem dX2_readStow_5 : decode cX2_readStow 5 = .ok (.aload_n 0, 1) := by decide +kernel
theorem dX2_readStow_6 : decode cX2_readStow 6 = .ok (.ldc 76, 2) := by decide +kernel
theorem dX2_readStow_8 : decode cX2_readStow 8 = .ok (.invokevirtual 57, 3) := by decide +kernel
theorem dX2_readStow_11 : decode cX2_readStow 11 = .ok (.ifCond .eq 61, 3) := by decide +kernel
theorem dX2_readStow_14 : decode cX2_readStow 14 = .ok (.aload_n 0, 1) := by decide +kernel
theorem dX2_readStow_15 : decode cX2_readStow 15 = .ok (.aload_n 1, 1) := by decide +kernel
theorem dX2_readStow_16 : decode cX2_readStow 16 = .ok (.iconst 0, 1) := by decide +kernel
theorem dX2_readStow_17 : decode cX2_readStow 17 = .ok (.invokevirtual 67, 3) := by decide +kernel
theorem dX2_readStow_20 : decode cX2_readStow 20 = .ok (.ifCond .eq 52, 3) := by decide +kernel
theorem dX2_readStow_23 : decode cX2_readStow 23 = .ok (.aload_n 0, 1) := by decide +kernel
theorem dX2_readStow_24 : decode cX2_readStow 24 = .ok (.aload_n 1, 1) := by decide +kernel
theorem dX2_readStow_25 : decode cX2_readStow 25 = .ok (.iconst 1, 1) := by decide +kernel
theorem dX2_readStow_26 : decode cX2_readStow 26 = .ok (.invokevirtual 67, 3) := by decide +kernel
theorem dX2_readStow_29 : decode cX2_readStow 29 = .ok (.ifCond .eq 43, 3) := by decide +kernel
theorem dX2_readStow_32 : decode cX2_readStow 32 = .ok (.aload_n 0, 1) := by decide +kernel
theorem dX2_readStow_33 : decode cX2_readStow 33 = .ok (.bipush 32, 2) := by decide +kernel
theorem dX2_readStow_35 : decode cX2_readStow 35 = .ok (.invokevirtual 31, 3) := by decide +kernel
theorem dX2_readStow_38 : decode cX2_readStow 38 = .ok (.ifCond .eq 34, 3) := by decide +kernel
theorem dX2_readStow_41 : decode cX2_readStow 41 = .ok (.aload_n 0, 1) := by decide +kernel
theorem dX2_readStow_42 : decode cX2_readStow 42 = .ok (.aload_n 1, 1) := by decide +kernel
theorem dX2_readStow_43 : decode cX2_readStow 43 = .ok (.iconst 2, 1) := by decide +kernel
theorem dX2_readStow_44 : decode cX2_readStow 44 = .ok (.invokevirtual 61, 3) := by decide +kernel
theorem dX2_readStow_47 : decode cX2_readStow 47 = .ok (.ifCond .eq 25, 3) := by decide +kernel
theorem dX2_readStow_50 : decode cX2_readStow 50 = .ok (.aload_n 0, 1) := by decide +kernel
theorem dX2_readStow_51 : decode cX2_readStow 51 = .ok (.bipush 47, 2) := by decide +kernel
theorem dX2_readStow_53 : decode cX2_readStow 53 = .ok (.invokevirtual 31, 3) := by decide +kernel
theorem dX2_readStow_56 : decode cX2_readStow 56 = .ok (.ifCond .eq 16, 3) := by decide +kernel
theorem dX2_readStow_59 : decode cX2_readStow 59 = .ok (.aload_n 0, 1) := by decide +kernel
theorem dX2_readStow_60 : decode cX2_readStow 60 = .ok (.aload_n 1, 1) := by decide +kernel
theorem dX2_readStow_61 : decode cX2_readStow 61 = .ok (.iconst 3, 1) := by decide +kernel
theorem dX2_readStow_62 : decode cX2_readStow 62 = .ok (.invokevirtual 61, 3) := by decide +kernel
theorem dX2_readStow_65 : decode cX2_readStow 65 = .ok (.ifCond .eq 7, 3) := by decide +kernel
theorem dX2_readStow_68 : decode cX2_readStow 68 = .ok (.iconst 1, 1) := by decide +kernel
theorem dX2_readStow_69 : decode cX2_readStow 69 = .ok (.goto 4, 3) := by decide +kernel
theorem dX2_readStow_72 : decode cX2_readStow 72 = .ok (.iconst 0, 1) := by decide +kernel
theorem dX2_readStow_73 : decode cX2_readStow 73 = .ok (.ireturn, 1) := by decide +kernel
set_option maxRecDepth 100000 in
set_option maxHeartbeats 4000000 in
theorem C_X2_readStow (l : Launch) (E : gE) (x : gX) {M : gM} {r : Bool} {M' : gM} (hf : f_X2_readStow M = some (r, M')) : gM0 l E yX2_readStow (.code yX2_readStow cX2_readStow 2 (some .boolean)) (gR 7 163) M x [.ref (E.2.1 146), .ref (E.2.1 135)] (some (.int (gb r))) M' := by
  refine gMet (by decide +kernel) (Nat.le_of_ble_eq_true rfl) ?_
  intro p e s m args below meth c H locs ls Q hC hl hI kr kv
  replace hC : gC p s m args c cX2_readStow 2 RX2 E := hC
  replace hl : lv_has ls 2 [(0, .ref (E.2.1 146)), (1, .ref (E.2.1 135))] := hl
  have hx := hC.1
  have hb := hC.2.1
  unfold f_X2_readStow at hf
  refine lv_aload_n hx hb dX2_readStow_0 rfl (lv_at hl 1 rfl) ?_
  refine lv_iconst (v := 2) hx hb dX2_readStow_1 (by decide) ?_
  obtain ⟨r1, hr2, hf⟩ := gbind hf
  have hr2 := C_X4_begin l E x  hr2
  refine g_callVv (rest := []) hC hI hr2 Y_X4_begin V_X4_begin w914 (rcv_X4 hC hI) ⟨rfl, rfl⟩ ⟨Nat.le_of_ble_eq_true rfl, Nat.le_of_ble_eq_true rfl⟩ rfl hl.1 rfl (Nat.le_of_ble_eq_true rfl) dX2_readStow_2 ⟨Nat.le_of_ble_eq_true rfl, Nat.le_of_ble_eq_true rfl⟩ (fun H locs hI => ?_)
  refine lv_aload_n hx hb dX2_readStow_5 rfl (lv_at hl 0 rfl) ?_
  refine g_ldcW hC 2 (q := (76, "stow ")) rfl dX2_readStow_6 ?_
  obtain ⟨r3, hr4, hf⟩ := gbind hf
  have hr4 := C_X2_readWord l E x (by decide) hr4
  refine g_callVi (rest := []) hC hI hr4 Y_X2_readWord V_X2_readWord w922 (rcv_X2 hC hI) ⟨rfl, rfl⟩ ⟨Nat.le_of_ble_eq_true rfl, Nat.le_of_ble_eq_true rfl⟩ rfl hl.1 rfl (Nat.le_of_ble_eq_true rfl) dX2_readStow_8 ⟨Nat.le_of_ble_eq_true rfl, Nat.le_of_ble_eq_true rfl⟩ (fun H locs hI => ?_)
  refine lv_if_eq (tgt := 72) hx hb dX2_readStow_11 rfl (fun h5 => ?_) (fun h5 => ?_)
  · replace hf := gif h5 hf
    refine lv_iconst (v := 0) hx hb dX2_readStow_72 (by decide) ?_
    exact kr _ _ _ _ _ _ (grwb0 hf) hI ⟨.boolean, rfl, rfl⟩ dX2_readStow_73
  · replace hf := gifn h5 hf
    refine lv_aload_n hx hb dX2_readStow_14 rfl (lv_at hl 0 rfl) ?_
    refine lv_aload_n hx hb dX2_readStow_15 rfl (lv_at hl 1 rfl) ?_
    refine lv_iconst (v := 0) hx hb dX2_readStow_16 (by decide) ?_
    obtain ⟨r6, hr7, hf⟩ := gbind hf
    have hr7 := C_X2_readDigit l E x  hr7
    refine g_callVi (rest := []) hC hI hr7 Y_X2_readDigit V_X2_readDigit w974 (rcv_X2 hC hI) ⟨rfl, rfl⟩ ⟨Nat.le_of_ble_eq_true rfl, Nat.le_of_ble_eq_true rfl⟩ rfl hl.1 rfl (Nat.le_of_ble_eq_true rfl) dX2_readStow_17 ⟨Nat.le_of_ble_eq_true rfl, Nat.le_of_ble_eq_true rfl⟩ (fun H locs hI => ?_)
    refine lv_if_eq (tgt := 72) hx hb dX2_readStow_20 rfl (fun h8 => ?_) (fun h8 => ?_)
    · replace hf := gif h8 hf
      refine lv_iconst (v := 0) hx hb dX2_readStow_72 (by decide) ?_
      exact kr _ _ _ _ _ _ (grwb0 hf) hI ⟨.boolean, rfl, rfl⟩ dX2_readStow_73
    · replace hf := gifn h8 hf
      refine lv_aload_n hx hb dX2_readStow_23 rfl (lv_at hl 0 rfl) ?_
      refine lv_aload_n hx hb dX2_readStow_24 rfl (lv_at hl 1 rfl) ?_
      refine lv_iconst (v := 1) hx hb dX2_readStow_25 (by decide) ?_
      obtain ⟨r9, hr10, hf⟩ := gbind hf
      have hr10 := C_X2_readDigit l E x  hr10
      refine g_callVi (rest := []) hC hI hr10 Y_X2_readDigit V_X2_readDigit w974 (rcv_X2 hC hI) ⟨rfl, rfl⟩ ⟨Nat.le_of_ble_eq_true rfl, Nat.le_of_ble_eq_true rfl⟩ rfl hl.1 rfl (Nat.le_of_ble_eq_true rfl) dX2_readStow_26 ⟨Nat.le_of_ble_eq_true rfl, Nat.le_of_ble_eq_true rfl⟩ (fun H locs hI => ?_)
      refine lv_if_eq (tgt := 72) hx hb dX2_readStow_29 rfl (fun h11 => ?_) (fun h11 => ?_)
      · replace hf := gif h11 hf
        refine lv_iconst (v := 0) hx hb dX2_readStow_72 (by decide) ?_
        exact kr _ _ _ _ _ _ (grwb0 hf) hI ⟨.boolean, rfl, rfl⟩ dX2_readStow_73
      · replace hf := gifn h11 hf
        refine lv_aload_n hx hb dX2_readStow_32 rfl (lv_at hl 0 rfl) ?_
        refine lv_bipush (v := 32) hx hb dX2_readStow_33 (by decide) ?_
        obtain ⟨r12, hr13, hf⟩ := gbind hf
        have hr13 := C_X2_read l E x  hr13
        refine g_callVi (rest := []) hC hI hr13 Y_X2_read V_X2_read w906 (rcv_X2 hC hI) ⟨rfl, rfl⟩ ⟨Nat.le_of_ble_eq_true rfl, Nat.le_of_ble_eq_true rfl⟩ rfl hl.1 rfl (Nat.le_of_ble_eq_true rfl) dX2_readStow_35 ⟨Nat.le_of_ble_eq_true rfl, Nat.le_of_ble_eq_true rfl⟩ (fun H locs hI => ?_)
        refine lv_if_eq (tgt := 72) hx hb dX2_readStow_38 rfl (fun h14 => ?_) (fun h14 => ?_)
        · replace hf := gif h14 hf
          refine lv_iconst (v := 0) hx hb dX2_readStow_72 (by decide) ?_
          exact kr _ _ _ _ _ _ (grwb0 hf) hI ⟨.boolean, rfl, rfl⟩ dX2_readStow_73
        · replace hf := gifn h14 hf
          refine lv_aload_n hx hb dX2_readStow_41 rfl (lv_at hl 0 rfl) ?_
          refine lv_aload_n hx hb dX2_readStow_42 rfl (lv_at hl 1 rfl) ?_
          refine lv_iconst (v := 2) hx hb dX2_readStow_43 (by decide) ?_
          obtain ⟨r15, hr16, hf⟩ := gbind hf
          have hr16 := C_X2_readNumber l E x  hr16
          refine g_callVi (rest := []) hC hI hr16 Y_X2_readNumber V_X2_readNumber w994 (rcv_X2 hC hI) ⟨rfl, rfl⟩ ⟨Nat.le_of_ble_eq_true rfl, Nat.le_of_ble_eq_true rfl⟩ rfl hl.1 rfl (Nat.le_of_ble_eq_true rfl) dX2_readStow_44 ⟨Nat.le_of_ble_eq_true rfl, Nat.le_of_ble_eq_true rfl⟩ (fun H locs hI => ?_)
          refine lv_if_eq (tgt := 72) hx hb dX2_readStow_47 rfl (fun h17 => ?_) (fun h17 => ?_)
          · replace hf := gif h17 hf
            refine lv_iconst (v := 0) hx hb dX2_readStow_72 (by decide) ?_
            exact kr _ _ _ _ _ _ (grwb0 hf) hI ⟨.boolean, rfl, rfl⟩ dX2_readStow_73
          · replace hf := gifn h17 hf
            refine lv_aload_n hx hb dX2_readStow_50 rfl (lv_at hl 0 rfl) ?_
            refine lv_bipush (v := 47) hx hb dX2_readStow_51 (by decide) ?_
            obtain ⟨r18, hr19, hf⟩ := gbind hf
            have hr19 := C_X2_read l E x  hr19
            refine g_callVi (rest := []) hC hI hr19 Y_X2_read V_X2_read w906 (rcv_X2 hC hI) ⟨rfl, rfl⟩ ⟨Nat.le_of_ble_eq_true rfl, Nat.le_of_ble_eq_true rfl⟩ rfl hl.1 rfl (Nat.le_of_ble_eq_true rfl) dX2_readStow_53 ⟨Nat.le_of_ble_eq_true rfl, Nat.le_of_ble_eq_true rfl⟩ (fun H locs hI => ?_)
            refine lv_if_eq (tgt := 72) hx hb dX2_readStow_56 rfl (fun h20 => ?_) (fun h20 => ?_)
            · replace hf := gif h20 hf
              refine lv_iconst (v := 0) hx hb dX2_readStow_72 (by decide) ?_
              exact kr _ _ _ _ _ _ (grwb0 hf) hI ⟨.boolean, rfl, rfl⟩ dX2_readStow_73
            · replace hf := gifn h20 hf
              refine lv_aload_n hx hb dX2_readStow_59 rfl (lv_at hl 0 rfl) ?_
              refine lv_aload_n hx hb dX2_readStow_60 rfl (lv_at hl 1 rfl) ?_
              refine lv_iconst (v := 3) hx hb dX2_readStow_61 (by decide) ?_
              obtain ⟨r21, hr22, hf⟩ := gbind hf
              have hr22 := C_X2_readNumber l E x  hr22
              refine g_callVi (rest := []) hC hI hr22 Y_X2_readNumber V_X2_readNumber w994 (rcv_X2 hC hI) ⟨rfl, rfl⟩ ⟨Nat.le_of_ble_eq_true rfl, Nat.le_of_ble_eq_true rfl⟩ rfl hl.1 rfl (Nat.le_of_ble_eq_true rfl) dX2_readStow_62 ⟨Nat.le_of_ble_eq_true rfl, Nat.le_of_ble_eq_true rfl⟩ (fun H locs hI => ?_)
              refine lv_if_eq (tgt := 72) hx hb dX2_readStow_65 rfl (fun h23 => ?_) (fun h23 => ?_)
              · replace hf := gif h23 hf
                refine lv_iconst (v := 0) hx hb dX2_readStow_72 (by decide) ?_
                exact kr _ _ _ _ _ _ (grwb0 hf) hI ⟨.boolean, rfl, rfl⟩ dX2_readStow_73
              · replace hf := gifn h23 hf
                refine lv_iconst (v := 1) hx hb dX2_readStow_68 (by decide) ?_
                refine lv_goto (tgt := 73) hx hb dX2_readStow_69 rfl ?_
                exact kr _ _ _ _ _ _ (grwb1 hf) hI ⟨.boolean, rfl, rfl⟩ dX2_readStow_73
theorem dX2_readClear_0 : decode cX2_readClear 0 = .ok (.aload_n 1, 1) := by decide +kernel
theorem dX2_readClear_1 : decode cX2_readClear 1 = .ok (.iconst 3, 1) := by decide +kernel
theorem dX2_readClear_2 : decode cX2_readClear 2 = .ok (.invokevirtual 51, 3) := by decide +kernel
theorem dX2_readClear_5 : decode cX2_readClear 5 = .ok (.aload_n 0, 1) := by decide +kernel
theorem dX2_readClear_6 : decode cX2_readClear 6 = .ok (.ldc 78, 2) := by decide +kernel
theorem dX2_readClear_8 : decode cX2_readClear 8 = .ok (.invokevirtual 57, 3) := by decide +kernel
theorem dX2_readClear_11 : decode cX2_readClear 11 = .ok (.ifCond .eq 43, 3) := by decide +kernel
theorem dX2_readClear_14 : decode cX2_readClear 14 = .ok (.aload_n 0, 1) := by decide +kernel
theorem dX2_readClear_15 : decode cX2_readClear 15 = .ok (.aload_n 1, 1) := by decide +kernel
theorem dX2_readClear_16 : decode cX2_readClear 16 = .ok (.iconst 0, 1) := by decide +kernel
theorem dX2_readClear_17 : decode cX2_readClear 17 = .ok (.invokevirtual 67, 3) := by decide +kernel
theorem dX2_readClear_20 : decode cX2_readClear 20 = .ok (.ifCond .eq 34, 3) := by decide +kernel
theorem dX2_readClear_23 : decode cX2_readClear 23 = .ok (.aload_n 0, 1) := by decide +kernel
theorem dX2_readClear_24 : decode cX2_readClear 24 = .ok (.aload_n 1, 1) := by decide +kernel
theorem dX2_readClear_25 : decode cX2_readClear 25 = .ok (.iconst 1, 1) := by decide +kernel
theorem dX2_readClear_26 : decode cX2_readClear 26 = .ok (.invokevirtual 67, 3) := by decide +kernel
theorem dX2_readClear_29 : decode cX2_readClear 29 = .ok (.ifCond .eq 25, 3) := by decide +kernel
theorem dX2_readClear_32 : decode cX2_readClear 32 = .ok (.aload_n 0, 1) := by decide +kernel
theorem dX2_readClear_33 : decode cX2_readClear 33 = .ok (.bipush 61, 2) := by decide +kernel
theorem dX2_readClear_35 : decode cX2_readClear 35 = .ok (.invokevirtual 31, 3) := by decide +kernel
theorem dX2_readClear_38 : decode cX2_readClear 38 = .ok (.ifCond .eq 16, 3) := by decide +kernel
theorem dX2_readClear_41 : decode cX2_readClear 41 = .ok (.aload_n 0, 1) := by decide +kernel
theorem dX2_readClear_42 : decode cX2_readClear 42 = .ok (.aload_n 1, 1) := by decide +kernel
theorem dX2_readClear_43 : decode cX2_readClear 43 = .ok (.iconst 2, 1) := by decide +kernel
theorem dX2_readClear_44 : decode cX2_readClear 44 = .ok (.invokevirtual 67, 3) := by decide +kernel
theorem dX2_readClear_47 : decode cX2_readClear 47 = .ok (.ifCond .eq 7, 3) := by decide +kernel
theorem dX2_readClear_50 : decode cX2_readClear 50 = .ok (.iconst 1, 1) := by decide +kernel
theorem dX2_readClear_51 : decode cX2_readClear 51 = .ok (.goto 4, 3) := by decide +kernel
theorem dX2_readClear_54 : decode cX2_readClear 54 = .ok (.iconst 0, 1) := by decide +kernel
theorem dX2_readClear_55 : decode cX2_readClear 55 = .ok (.ireturn, 1) := by decide +kernel
set_option maxRecDepth 100000 in
set_option maxHeartbeats 4000000 in
theorem C_X2_readClear (l : Launch) (E : gE) (x : gX) {M : gM} {r : Bool} {M' : gM} (hf : f_X2_readClear M = some (r, M')) : gM0 l E yX2_readClear (.code yX2_readClear cX2_readClear 2 (some .boolean)) (gR 7 163) M x [.ref (E.2.1 146), .ref (E.2.1 135)] (some (.int (gb r))) M' := by
  refine gMet (by decide +kernel) (Nat.le_of_ble_eq_true rfl) ?_
  intro p e s m args below meth c H locs ls Q hC hl hI kr kv
  replace hC : gC p s m args c cX2_readClear 2 RX2 E := hC
  replace hl : lv_has ls 2 [(0, .ref (E.2.1 146)), (1, .ref (E.2.1 135))] := hl
  have hx := hC.1
  have hb := hC.2.1
  unfold f_X2_readClear at hf
  refine lv_aload_n hx hb dX2_readClear_0 rfl (lv_at hl 1 rfl) ?_
  refine lv_iconst (v := 3) hx hb dX2_readClear_1 (by decide) ?_
  obtain ⟨r1, hr2, hf⟩ := gbind hf
  have hr2 := C_X4_begin l E x  hr2
  refine g_callVv (rest := []) hC hI hr2 Y_X4_begin V_X4_begin w914 (rcv_X4 hC hI) ⟨rfl, rfl⟩ ⟨Nat.le_of_ble_eq_true rfl, Nat.le_of_ble_eq_true rfl⟩ rfl hl.1 rfl (Nat.le_of_ble_eq_true rfl) dX2_readClear_2 ⟨Nat.le_of_ble_eq_true rfl, Nat.le_of_ble_eq_true rfl⟩ (fun H locs hI => ?_)
  refine lv_aload_n hx hb dX2_readClear_5 rfl (lv_at hl 0 rfl) ?_
  refine g_ldcW hC 3 (q := (78, "clear ")) rfl dX2_readClear_6 ?_
  obtain ⟨r3, hr4, hf⟩ := gbind hf
  have hr4 := C_X2_readWord l E x (by decide) hr4
  refine g_callVi (rest := []) hC hI hr4 Y_X2_readWord V_X2_readWord w922 (rcv_X2 hC hI) ⟨rfl, rfl⟩ ⟨Nat.le_of_ble_eq_true rfl, Nat.le_of_ble_eq_true rfl⟩ rfl hl.1 rfl (Nat.le_of_ble_eq_true rfl) dX2_readClear_8 ⟨Nat.le_of_ble_eq_true rfl, Nat.le_of_ble_eq_true rfl⟩ (fun H locs hI => ?_)
  refine lv_if_eq (tgt := 54) hx hb dX2_readClear_11 rfl (fun h5 => ?_) (fun h5 => ?_)
  · replace hf := gif h5 hf
    refine lv_iconst (v := 0) hx hb dX2_readClear_54 (by decide) ?_
    exact kr _ _ _ _ _ _ (grwb0 hf) hI ⟨.boolean, rfl, rfl⟩ dX2_readClear_55
  · replace hf := gifn h5 hf
    refine lv_aload_n hx hb dX2_readClear_14 rfl (lv_at hl 0 rfl) ?_
    refine lv_aload_n hx hb dX2_readClear_15 rfl (lv_at hl 1 rfl) ?_
    refine lv_iconst (v := 0) hx hb dX2_readClear_16 (by decide) ?_
    obtain ⟨r6, hr7, hf⟩ := gbind hf
    have hr7 := C_X2_readDigit l E x  hr7
    refine g_callVi (rest := []) hC hI hr7 Y_X2_readDigit V_X2_readDigit w974 (rcv_X2 hC hI) ⟨rfl, rfl⟩ ⟨Nat.le_of_ble_eq_true rfl, Nat.le_of_ble_eq_true rfl⟩ rfl hl.1 rfl (Nat.le_of_ble_eq_true rfl) dX2_readClear_17 ⟨Nat.le_of_ble_eq_true rfl, Nat.le_of_ble_eq_true rfl⟩ (fun H locs hI => ?_)
    refine lv_if_eq (tgt := 54) hx hb dX2_readClear_20 rfl (fun h8 => ?_) (fun h8 => ?_)
    · replace hf := gif h8 hf
      refine lv_iconst (v := 0) hx hb dX2_readClear_54 (by decide) ?_
      exact kr _ _ _ _ _ _ (grwb0 hf) hI ⟨.boolean, rfl, rfl⟩ dX2_readClear_55
    · replace hf := gifn h8 hf
      refine lv_aload_n hx hb dX2_readClear_23 rfl (lv_at hl 0 rfl) ?_
      refine lv_aload_n hx hb dX2_readClear_24 rfl (lv_at hl 1 rfl) ?_
      refine lv_iconst (v := 1) hx hb dX2_readClear_25 (by decide) ?_
      obtain ⟨r9, hr10, hf⟩ := gbind hf
      have hr10 := C_X2_readDigit l E x  hr10
      refine g_callVi (rest := []) hC hI hr10 Y_X2_readDigit V_X2_readDigit w974 (rcv_X2 hC hI) ⟨rfl, rfl⟩ ⟨Nat.le_of_ble_eq_true rfl, Nat.le_of_ble_eq_true rfl⟩ rfl hl.1 rfl (Nat.le_of_ble_eq_true rfl) dX2_readClear_26 ⟨Nat.le_of_ble_eq_true rfl, Nat.le_of_ble_eq_true rfl⟩ (fun H locs hI => ?_)
      refine lv_if_eq (tgt := 54) hx hb dX2_readClear_29 rfl (fun h11 => ?_) (fun h11 => ?_)
      · replace hf := gif h11 hf
        refine lv_iconst (v := 0) hx hb dX2_readClear_54 (by decide) ?_
        exact kr _ _ _ _ _ _ (grwb0 hf) hI ⟨.boolean, rfl, rfl⟩ dX2_readClear_55
      · replace hf := gifn h11 hf
        refine lv_aload_n hx hb dX2_readClear_32 rfl (lv_at hl 0 rfl) ?_
        refine lv_bipush (v := 61) hx hb dX2_readClear_33 (by decide) ?_
        obtain ⟨r12, hr13, hf⟩ := gbind hf
        have hr13 := C_X2_read l E x  hr13
        refine g_callVi (rest := []) hC hI hr13 Y_X2_read V_X2_read w906 (rcv_X2 hC hI) ⟨rfl, rfl⟩ ⟨Nat.le_of_ble_eq_true rfl, Nat.le_of_ble_eq_true rfl⟩ rfl hl.1 rfl (Nat.le_of_ble_eq_true rfl) dX2_readClear_35 ⟨Nat.le_of_ble_eq_true rfl, Nat.le_of_ble_eq_true rfl⟩ (fun H locs hI => ?_)
        refine lv_if_eq (tgt := 54) hx hb dX2_readClear_38 rfl (fun h14 => ?_) (fun h14 => ?_)
        · replace hf := gif h14 hf
          refine lv_iconst (v := 0) hx hb dX2_readClear_54 (by decide) ?_
          exact kr _ _ _ _ _ _ (grwb0 hf) hI ⟨.boolean, rfl, rfl⟩ dX2_readClear_55
        · replace hf := gifn h14 hf
          refine lv_aload_n hx hb dX2_readClear_41 rfl (lv_at hl 0 rfl) ?_
          refine lv_aload_n hx hb dX2_readClear_42 rfl (lv_at hl 1 rfl) ?_
          refine lv_iconst (v := 2) hx hb dX2_readClear_43 (by decide) ?_
          obtain ⟨r15, hr16, hf⟩ := gbind hf
          have hr16 := C_X2_readDigit l E x  hr16
          refine g_callVi (rest := []) hC hI hr16 Y_X2_readDigit V_X2_readDigit w974 (rcv_X2 hC hI) ⟨rfl, rfl⟩ ⟨Nat.le_of_ble_eq_true rfl, Nat.le_of_ble_eq_true rfl⟩ rfl hl.1 rfl (Nat.le_of_ble_eq_true rfl) dX2_readClear_44 ⟨Nat.le_of_ble_eq_true rfl, Nat.le_of_ble_eq_true rfl⟩ (fun H locs hI => ?_)
          refine lv_if_eq (tgt := 54) hx hb dX2_readClear_47 rfl (fun h17 => ?_) (fun h17 => ?_)
          · replace hf := gif h17 hf
            refine lv_iconst (v := 0) hx hb dX2_readClear_54 (by decide) ?_
            exact kr _ _ _ _ _ _ (grwb0 hf) hI ⟨.boolean, rfl, rfl⟩ dX2_readClear_55
          · replace hf := gifn h17 hf
            refine lv_iconst (v := 1) hx hb dX2_readClear_50 (by decide) ?_
            refine lv_goto (tgt := 55) hx hb dX2_readClear_51 rfl ?_
            exact kr _ _ _ _ _ _ (grwb1 hf) hI ⟨.boolean, rfl, rfl⟩ dX2_readClear_55
theorem dX2_readCommand_0 : decode cX2_readCommand 0 = .ok (.aload_n 0, 1) := by decide +kernel
theorem dX2_readCommand_1 : decode cX2_readCommand 1 = .ok (.invokevirtual 35, 3) := by decide +kernel
theorem dX2_readCommand_4 : decode cX2_readCommand 4 = .ok (.tableswitch 237 99 115 #[142, 148, 237, 237, 237, 207, 237, 237, 237, 177, 84, 237, 237, 237, 237, 237, 136], 84) := by decide +kernel
theorem dX2_readCommand_88 : decode cX2_readCommand 88 = .ok (.aload_n 0, 1) := by decide +kernel
theorem dX2_readCommand_89 : decode cX2_readCommand 89 = .ok (.bipush 109, 2) := by decide +kernel
theorem dX2_readCommand_91 : decode cX2_readCommand 91 = .ok (.invokevirtual 31, 3) := by decide +kernel
theorem dX2_readCommand_94 : decode cX2_readCommand 94 = .ok (.ifCond .eq 44, 3) := by decide +kernel
theorem dX2_readCommand_97 : decode cX2_readCommand 97 = .ok (.aload_n 0, 1) := by decide +kernel
theorem dX2_readCommand_98 : decode cX2_readCommand 98 = .ok (.bipush 111, 2) := by decide +kernel
theorem dX2_readCommand_100 : decode cX2_readCommand 100 = .ok (.invokevirtual 31, 3) := by decide +kernel
theorem dX2_readCommand_103 : decode cX2_readCommand 103 = .ok (.ifCond .eq 35, 3) := by decide +kernel
theorem dX2_readCommand_106 : decode cX2_readCommand 106 = .ok (.aload_n 0, 1) := by decide +kernel
theorem dX2_readCommand_107 : decode cX2_readCommand 107 = .ok (.invokevirtual 35, 3) := by decide +kernel
theorem dX2_readCommand_110 : decode cX2_readCommand 110 = .ok (.bipush 118, 2) := by decide +kernel
theorem dX2_readCommand_112 : decode cX2_readCommand 112 = .ok (.if_icmp .ne 14, 3) := by decide +kernel
theorem dX2_readCommand_115 : decode cX2_readCommand 115 = .ok (.aload_n 0, 1) := by decide +kernel
theorem dX2_readCommand_116 : decode cX2_readCommand 116 = .ok (.aload_n 1, 1) := by decide +kernel
theorem dX2_readCommand_117 : decode cX2_readCommand 117 = .ok (.invokevirtual 39, 3) := by decide +kernel
theorem dX2_readCommand_120 : decode cX2_readCommand 120 = .ok (.ifCond .eq 18, 3) := by decide +kernel
theorem dX2_readCommand_123 : decode cX2_readCommand 123 = .ok (.goto 11, 3) := by decide +kernel
theorem dX2_readCommand_126 : decode cX2_readCommand 126 = .ok (.aload_n 0, 1) := by decide +kernel
theorem dX2_readCommand_127 : decode cX2_readCommand 127 = .ok (.aload_n 1, 1) := by decide +kernel
theorem dX2_readCommand_128 : decode cX2_readCommand 128 = .ok (.invokevirtual 42, 3) := by decide +kernel
theorem dX2_readCommand_131 : decode cX2_readCommand 131 = .ok (.ifCond .eq 7, 3) := by decide +kernel
theorem dX2_readCommand_134 : decode cX2_readCommand 134 = .ok (.iconst 1, 1) := by decide +kernel
theorem dX2_readCommand_135 : decode cX2_readCommand 135 = .ok (.goto 4, 3) := by decide +kernel
theorem dX2_readCommand_138 : decode cX2_readCommand 138 = .ok (.iconst 0, 1) := by decide +kernel
theorem dX2_readCommand_139 : decode cX2_readCommand 139 = .ok (.ireturn, 1) := by decide +kernel
theorem dX2_readCommand_140 : decode cX2_readCommand 140 = .ok (.aload_n 0, 1) := by decide +kernel
theorem dX2_readCommand_141 : decode cX2_readCommand 141 = .ok (.aload_n 1, 1) := by decide +kernel
theorem dX2_readCommand_142 : decode cX2_readCommand 142 = .ok (.invokevirtual 45, 3) := by decide +kernel
theorem dX2_readCommand_145 : decode cX2_readCommand 145 = .ok (.ireturn, 1) := by decide +kernel
theorem dX2_readCommand_146 : decode cX2_readCommand 146 = .ok (.aload_n 0, 1) := by decide +kernel
theorem dX2_readCommand_147 : decode cX2_readCommand 147 = .ok (.aload_n 1, 1) := by decide +kernel
theorem dX2_readCommand_148 : decode cX2_readCommand 148 = .ok (.invokevirtual 48, 3) := by decide +kernel
theorem dX2_readCommand_151 : decode cX2_readCommand 151 = .ok (.ireturn, 1) := by decide +kernel
theorem dX2_readCommand_152 : decode cX2_readCommand 152 = .ok (.aload_n 1, 1) := by decide +kernel
theorem dX2_readCommand_153 : decode cX2_readCommand 153 = .ok (.iconst 5, 1) := by decide +kernel
theorem dX2_readCommand_154 : decode cX2_readCommand 154 = .ok (.invokevirtual 51, 3) := by decide +kernel
theorem dX2_readCommand_157 : decode cX2_readCommand 157 = .ok (.aload_n 0, 1) := by decide +kernel
theorem dX2_readCommand_158 : decode cX2_readCommand 158 = .ok (.ldc 55, 2) := by decide +kernel
theorem dX2_readCommand_160 : decode cX2_readCommand 160 = .ok (.invokevirtual 57, 3) := by decide +kernel
theorem dX2_readCommand_163 : decode cX2_readCommand 163 = .ok (.ifCond .eq 16, 3) := by decide +kernel
theorem dX2_readCommand_166 : decode cX2_readCommand 166 = .ok (.aload_n 0, 1) := by decide +kernel
theorem dX2_readCommand_167 : decode cX2_readCommand 167 = .ok (.aload_n 1, 1) := by decide +kernel
theorem dX2_readCommand_168 : decode cX2_readCommand 168 = .ok (.iconst 0, 1) := by decide +kernel
theorem dX2_readCommand_169 : decode cX2_readCommand 169 = .ok (.invokevirtual 61, 3) := by decide +kernel
theorem dX2_readCommand_172 : decode cX2_readCommand 172 = .ok (.ifCond .eq 7, 3) := by decide +kernel
theorem dX2_readCommand_175 : decode cX2_readCommand 175 = .ok (.iconst 1, 1) := by decide +kernel
theorem dX2_readCommand_176 : decode cX2_readCommand 176 = .ok (.goto 4, 3) := by decide +kernel
theorem dX2_readCommand_179 : decode cX2_readCommand 179 = .ok (.iconst 0, 1) := by decide +kernel
theorem dX2_readCommand_180 : decode cX2_readCommand 180 = .ok (.ireturn, 1) := by decide +kernel
theorem dX2_readCommand_181 : decode cX2_readCommand 181 = .ok (.aload_n 1, 1) := by decide +kernel
theorem dX2_readCommand_182 : decode cX2_readCommand 182 = .ok (.bipush 6, 2) := by decide +kernel
theorem dX2_readCommand_184 : decode cX2_readCommand 184 = .ok (.invokevirtual 51, 3) := by decide +kernel
theorem dX2_readCommand_187 : decode cX2_readCommand 187 = .ok (.aload_n 0, 1) := by decide +kernel
theorem dX2_readCommand_188 : decode cX2_readCommand 188 = .ok (.ldc 65, 2) := by decide +kernel
theorem dX2_readCommand_190 : decode cX2_readCommand 190 = .ok (.invokevirtual 57, 3) := by decide +kernel
theorem dX2_readCommand_193 : decode cX2_readCommand 193 = .ok (.ifCond .eq 16, 3) := by decide +kernel
theorem dX2_readCommand_196 : decode cX2_readCommand 196 = .ok (.aload_n 0, 1) := by decide +kernel
theorem dX2_readCommand_197 : decode cX2_readCommand 197 = .ok (.aload_n 1, 1) := by decide +kernel
theorem dX2_readCommand_198 : decode cX2_readCommand 198 = .ok (.iconst 0, 1) := by decide +kernel
theorem dX2_readCommand_199 : decode cX2_readCommand 199 = .ok (.invokevirtual 67, 3) := by decide +kernel
theorem dX2_readCommand_202 : decode cX2_readCommand 202 = .ok (.ifCond .eq 7, 3) := by decide +kernel
theorem dX2_readCommand_205 : decode cX2_readCommand 205 = .ok (.iconst 1, 1) := by decide +kernel
theorem dX2_readCommand_206 : decode cX2_readCommand 206 = .ok (.goto 4, 3) := by decide +kernel
theorem dX2_readCommand_209 : decode cX2_readCommand 209 = .ok (.iconst 0, 1) := by decide +kernel
theorem dX2_readCommand_210 : decode cX2_readCommand 210 = .ok (.ireturn, 1) := by decide +kernel
theorem dX2_readCommand_211 : decode cX2_readCommand 211 = .ok (.aload_n 1, 1) := by decide +kernel
theorem dX2_readCommand_212 : decode cX2_readCommand 212 = .ok (.bipush 7, 2) := by decide +kernel
theorem dX2_readCommand_214 : decode cX2_readCommand 214 = .ok (.invokevirtual 51, 3) := by decide +kernel
theorem dX2_readCommand_217 : decode cX2_readCommand 217 = .ok (.aload_n 0, 1) := by decide +kernel
theorem dX2_readCommand_218 : decode cX2_readCommand 218 = .ok (.ldc 70, 2) := by decide +kernel
theorem dX2_readCommand_220 : decode cX2_readCommand 220 = .ok (.invokevirtual 57, 3) := by decide +kernel
theorem dX2_readCommand_223 : decode cX2_readCommand 223 = .ok (.ifCond .eq 16, 3) := by decide +kernel
theorem dX2_readCommand_226 : decode cX2_readCommand 226 = .ok (.aload_n 0, 1) := by decide +kernel
theorem dX2_readCommand_227 : decode cX2_readCommand 227 = .ok (.aload_n 1, 1) := by decide +kernel
theorem dX2_readCommand_228 : decode cX2_readCommand 228 = .ok (.iconst 0, 1) := by decide +kernel
theorem dX2_readCommand_229 : decode cX2_readCommand 229 = .ok (.invokevirtual 61, 3) := by decide +kernel
theorem dX2_readCommand_232 : decode cX2_readCommand 232 = .ok (.ifCond .eq 7, 3) := by decide +kernel
theorem dX2_readCommand_235 : decode cX2_readCommand 235 = .ok (.iconst 1, 1) := by decide +kernel
theorem dX2_readCommand_236 : decode cX2_readCommand 236 = .ok (.goto 4, 3) := by decide +kernel
theorem dX2_readCommand_239 : decode cX2_readCommand 239 = .ok (.iconst 0, 1) := by decide +kernel
theorem dX2_readCommand_240 : decode cX2_readCommand 240 = .ok (.ireturn, 1) := by decide +kernel
theorem dX2_readCommand_241 : decode cX2_readCommand 241 = .ok (.iconst 0, 1) := by decide +kernel
theorem dX2_readCommand_242 : decode cX2_readCommand 242 = .ok (.ireturn, 1) := by decide +kernel
set_option maxRecDepth 100000 in
set_option maxHeartbeats 4000000 in
theorem C_X2_readCommand (l : Launch) (E : gE) (x : gX) {M : gM} {r : Bool} {M' : gM} (hf : f_X2_readCommand M = some (r, M')) : gM0 l E yX2_readCommand (.code yX2_readCommand cX2_readCommand 2 (some .boolean)) (gR 8 184) M x [.ref (E.2.1 146), .ref (E.2.1 135)] (some (.int (gb r))) M' := by
  refine gMet (by decide +kernel) (Nat.le_of_ble_eq_true rfl) ?_
  intro p e s m args below meth c H locs ls Q hC hl hI kr kv
  replace hC : gC p s m args c cX2_readCommand 2 RX2 E := hC
  replace hl : lv_has ls 2 [(0, .ref (E.2.1 146)), (1, .ref (E.2.1 135))] := hl
  have hx := hC.1
  have hb := hC.2.1
  unfold f_X2_readCommand at hf
  refine lv_aload_n hx hb dX2_readCommand_0 rfl (lv_at hl 0 rfl) ?_
  obtain ⟨r1, hr2, hf⟩ := gbind hf
  have hr2 := C_X2_nextChar l E x  hr2
  refine g_callVi (rest := []) hC hI hr2 Y_X2_nextChar V_X2_nextChar w902 (rcv_X2 hC hI) ⟨rfl, rfl⟩ ⟨Nat.le_of_ble_eq_true rfl, Nat.le_of_ble_eq_true rfl⟩ rfl hl.1 rfl (Nat.le_of_ble_eq_true rfl) dX2_readCommand_1 ⟨Nat.le_of_ble_eq_true rfl, Nat.le_of_ble_eq_true rfl⟩ (fun H locs hI => ?_)
  by_cases h3 : r1 = 99
  · replace hf := gif h3 hf
    refine g_tabK (k := 99) (tgt := 146) hC dX2_readCommand_4 h3 (by decide) (by decide) rfl rfl ?_
    refine lv_aload_n hx hb dX2_readCommand_146 rfl (lv_at hl 0 rfl) ?_
    refine lv_aload_n hx hb dX2_readCommand_147 rfl (lv_at hl 1 rfl) ?_
    obtain ⟨r4, hr5, hf⟩ := gbind hf
    have hr5 := C_X2_readClear l E x  hr5
    refine g_callVi (rest := []) hC hI hr5 Y_X2_readClear V_X2_readClear w1003 (rcv_X2 hC hI) ⟨rfl, rfl⟩ ⟨Nat.le_of_ble_eq_true rfl, Nat.le_of_ble_eq_true rfl⟩ rfl hl.1 rfl (Nat.le_of_ble_eq_true rfl) dX2_readCommand_148 ⟨Nat.le_of_ble_eq_true rfl, Nat.le_of_ble_eq_true rfl⟩ (fun H locs hI => ?_)
    exact kr _ _ _ _ _ _ (grwb hf) hI ⟨.boolean, rfl, gb_nar _⟩ dX2_readCommand_151
  · replace hf := gifn h3 hf
    by_cases h6 : r1 = 100
    · replace hf := gif h6 hf
      refine g_tabK (k := 100) (tgt := 152) hC dX2_readCommand_4 h6 (by decide) (by decide) rfl rfl ?_
      refine lv_aload_n hx hb dX2_readCommand_152 rfl (lv_at hl 1 rfl) ?_
      refine lv_iconst (v := 5) hx hb dX2_readCommand_153 (by decide) ?_
      obtain ⟨r7, hr8, hf⟩ := gbind hf
      have hr8 := C_X4_begin l E x  hr8
      refine g_callVv (rest := []) hC hI hr8 Y_X4_begin V_X4_begin w914 (rcv_X4 hC hI) ⟨rfl, rfl⟩ ⟨Nat.le_of_ble_eq_true rfl, Nat.le_of_ble_eq_true rfl⟩ rfl hl.1 rfl (Nat.le_of_ble_eq_true rfl) dX2_readCommand_154 ⟨Nat.le_of_ble_eq_true rfl, Nat.le_of_ble_eq_true rfl⟩ (fun H locs hI => ?_)
      refine lv_aload_n hx hb dX2_readCommand_157 rfl (lv_at hl 0 rfl) ?_
      refine g_ldcW hC 4 (q := (55, "deliver ")) rfl dX2_readCommand_158 ?_
      obtain ⟨r9, hr10, hf⟩ := gbind hf
      have hr10 := C_X2_readWord l E x (by decide) hr10
      refine g_callVi (rest := []) hC hI hr10 Y_X2_readWord V_X2_readWord w922 (rcv_X2 hC hI) ⟨rfl, rfl⟩ ⟨Nat.le_of_ble_eq_true rfl, Nat.le_of_ble_eq_true rfl⟩ rfl hl.1 rfl (Nat.le_of_ble_eq_true rfl) dX2_readCommand_160 ⟨Nat.le_of_ble_eq_true rfl, Nat.le_of_ble_eq_true rfl⟩ (fun H locs hI => ?_)
      refine lv_if_eq (tgt := 179) hx hb dX2_readCommand_163 rfl (fun h11 => ?_) (fun h11 => ?_)
      · replace hf := gif h11 hf
        refine lv_iconst (v := 0) hx hb dX2_readCommand_179 (by decide) ?_
        exact kr _ _ _ _ _ _ (grwb0 hf) hI ⟨.boolean, rfl, rfl⟩ dX2_readCommand_180
      · replace hf := gifn h11 hf
        refine lv_aload_n hx hb dX2_readCommand_166 rfl (lv_at hl 0 rfl) ?_
        refine lv_aload_n hx hb dX2_readCommand_167 rfl (lv_at hl 1 rfl) ?_
        refine lv_iconst (v := 0) hx hb dX2_readCommand_168 (by decide) ?_
        obtain ⟨r12, hr13, hf⟩ := gbind hf
        have hr13 := C_X2_readNumber l E x  hr13
        refine g_callVi (rest := []) hC hI hr13 Y_X2_readNumber V_X2_readNumber w994 (rcv_X2 hC hI) ⟨rfl, rfl⟩ ⟨Nat.le_of_ble_eq_true rfl, Nat.le_of_ble_eq_true rfl⟩ rfl hl.1 rfl (Nat.le_of_ble_eq_true rfl) dX2_readCommand_169 ⟨Nat.le_of_ble_eq_true rfl, Nat.le_of_ble_eq_true rfl⟩ (fun H locs hI => ?_)
        refine lv_if_eq (tgt := 179) hx hb dX2_readCommand_172 rfl (fun h14 => ?_) (fun h14 => ?_)
        · replace hf := gif h14 hf
          refine lv_iconst (v := 0) hx hb dX2_readCommand_179 (by decide) ?_
          exact kr _ _ _ _ _ _ (grwb0 hf) hI ⟨.boolean, rfl, rfl⟩ dX2_readCommand_180
        · replace hf := gifn h14 hf
          refine lv_iconst (v := 1) hx hb dX2_readCommand_175 (by decide) ?_
          refine lv_goto (tgt := 180) hx hb dX2_readCommand_176 rfl ?_
          exact kr _ _ _ _ _ _ (grwb1 hf) hI ⟨.boolean, rfl, rfl⟩ dX2_readCommand_180
    · replace hf := gifn h6 hf
      by_cases h15 : r1 = 104
      · replace hf := gif h15 hf
        refine g_tabK (k := 104) (tgt := 211) hC dX2_readCommand_4 h15 (by decide) (by decide) rfl rfl ?_
        refine lv_aload_n hx hb dX2_readCommand_211 rfl (lv_at hl 1 rfl) ?_
        refine lv_bipush (v := 7) hx hb dX2_readCommand_212 (by decide) ?_
        obtain ⟨r16, hr17, hf⟩ := gbind hf
        have hr17 := C_X4_begin l E x  hr17
        refine g_callVv (rest := []) hC hI hr17 Y_X4_begin V_X4_begin w914 (rcv_X4 hC hI) ⟨rfl, rfl⟩ ⟨Nat.le_of_ble_eq_true rfl, Nat.le_of_ble_eq_true rfl⟩ rfl hl.1 rfl (Nat.le_of_ble_eq_true rfl) dX2_readCommand_214 ⟨Nat.le_of_ble_eq_true rfl, Nat.le_of_ble_eq_true rfl⟩ (fun H locs hI => ?_)
        refine lv_aload_n hx hb dX2_readCommand_217 rfl (lv_at hl 0 rfl) ?_
        refine g_ldcW hC 6 (q := (70, "hours ")) rfl dX2_readCommand_218 ?_
        obtain ⟨r18, hr19, hf⟩ := gbind hf
        have hr19 := C_X2_readWord l E x (by decide) hr19
        refine g_callVi (rest := []) hC hI hr19 Y_X2_readWord V_X2_readWord w922 (rcv_X2 hC hI) ⟨rfl, rfl⟩ ⟨Nat.le_of_ble_eq_true rfl, Nat.le_of_ble_eq_true rfl⟩ rfl hl.1 rfl (Nat.le_of_ble_eq_true rfl) dX2_readCommand_220 ⟨Nat.le_of_ble_eq_true rfl, Nat.le_of_ble_eq_true rfl⟩ (fun H locs hI => ?_)
        refine lv_if_eq (tgt := 239) hx hb dX2_readCommand_223 rfl (fun h20 => ?_) (fun h20 => ?_)
        · replace hf := gif h20 hf
          refine lv_iconst (v := 0) hx hb dX2_readCommand_239 (by decide) ?_
          exact kr _ _ _ _ _ _ (grwb0 hf) hI ⟨.boolean, rfl, rfl⟩ dX2_readCommand_240
        · replace hf := gifn h20 hf
          refine lv_aload_n hx hb dX2_readCommand_226 rfl (lv_at hl 0 rfl) ?_
          refine lv_aload_n hx hb dX2_readCommand_227 rfl (lv_at hl 1 rfl) ?_
          refine lv_iconst (v := 0) hx hb dX2_readCommand_228 (by decide) ?_
          obtain ⟨r21, hr22, hf⟩ := gbind hf
          have hr22 := C_X2_readNumber l E x  hr22
          refine g_callVi (rest := []) hC hI hr22 Y_X2_readNumber V_X2_readNumber w994 (rcv_X2 hC hI) ⟨rfl, rfl⟩ ⟨Nat.le_of_ble_eq_true rfl, Nat.le_of_ble_eq_true rfl⟩ rfl hl.1 rfl (Nat.le_of_ble_eq_true rfl) dX2_readCommand_229 ⟨Nat.le_of_ble_eq_true rfl, Nat.le_of_ble_eq_true rfl⟩ (fun H locs hI => ?_)
          refine lv_if_eq (tgt := 239) hx hb dX2_readCommand_232 rfl (fun h23 => ?_) (fun h23 => ?_)
          · replace hf := gif h23 hf
            refine lv_iconst (v := 0) hx hb dX2_readCommand_239 (by decide) ?_
            exact kr _ _ _ _ _ _ (grwb0 hf) hI ⟨.boolean, rfl, rfl⟩ dX2_readCommand_240
          · replace hf := gifn h23 hf
            refine lv_iconst (v := 1) hx hb dX2_readCommand_235 (by decide) ?_
            refine lv_goto (tgt := 240) hx hb dX2_readCommand_236 rfl ?_
            exact kr _ _ _ _ _ _ (grwb1 hf) hI ⟨.boolean, rfl, rfl⟩ dX2_readCommand_240
      · replace hf := gifn h15 hf
        by_cases h24 : r1 = 108
        · replace hf := gif h24 hf
          refine g_tabK (k := 108) (tgt := 181) hC dX2_readCommand_4 h24 (by decide) (by decide) rfl rfl ?_
          refine lv_aload_n hx hb dX2_readCommand_181 rfl (lv_at hl 1 rfl) ?_
          refine lv_bipush (v := 6) hx hb dX2_readCommand_182 (by decide) ?_
          obtain ⟨r25, hr26, hf⟩ := gbind hf
          have hr26 := C_X4_begin l E x  hr26
          refine g_callVv (rest := []) hC hI hr26 Y_X4_begin V_X4_begin w914 (rcv_X4 hC hI) ⟨rfl, rfl⟩ ⟨Nat.le_of_ble_eq_true rfl, Nat.le_of_ble_eq_true rfl⟩ rfl hl.1 rfl (Nat.le_of_ble_eq_true rfl) dX2_readCommand_184 ⟨Nat.le_of_ble_eq_true rfl, Nat.le_of_ble_eq_true rfl⟩ (fun H locs hI => ?_)
          refine lv_aload_n hx hb dX2_readCommand_187 rfl (lv_at hl 0 rfl) ?_
          refine g_ldcW hC 5 (q := (65, "leave ")) rfl dX2_readCommand_188 ?_
          obtain ⟨r27, hr28, hf⟩ := gbind hf
          have hr28 := C_X2_readWord l E x (by decide) hr28
          refine g_callVi (rest := []) hC hI hr28 Y_X2_readWord V_X2_readWord w922 (rcv_X2 hC hI) ⟨rfl, rfl⟩ ⟨Nat.le_of_ble_eq_true rfl, Nat.le_of_ble_eq_true rfl⟩ rfl hl.1 rfl (Nat.le_of_ble_eq_true rfl) dX2_readCommand_190 ⟨Nat.le_of_ble_eq_true rfl, Nat.le_of_ble_eq_true rfl⟩ (fun H locs hI => ?_)
          refine lv_if_eq (tgt := 209) hx hb dX2_readCommand_193 rfl (fun h29 => ?_) (fun h29 => ?_)
          · replace hf := gif h29 hf
            refine lv_iconst (v := 0) hx hb dX2_readCommand_209 (by decide) ?_
            exact kr _ _ _ _ _ _ (grwb0 hf) hI ⟨.boolean, rfl, rfl⟩ dX2_readCommand_210
          · replace hf := gifn h29 hf
            refine lv_aload_n hx hb dX2_readCommand_196 rfl (lv_at hl 0 rfl) ?_
            refine lv_aload_n hx hb dX2_readCommand_197 rfl (lv_at hl 1 rfl) ?_
            refine lv_iconst (v := 0) hx hb dX2_readCommand_198 (by decide) ?_
            obtain ⟨r30, hr31, hf⟩ := gbind hf
            have hr31 := C_X2_readDigit l E x  hr31
            refine g_callVi (rest := []) hC hI hr31 Y_X2_readDigit V_X2_readDigit w974 (rcv_X2 hC hI) ⟨rfl, rfl⟩ ⟨Nat.le_of_ble_eq_true rfl, Nat.le_of_ble_eq_true rfl⟩ rfl hl.1 rfl (Nat.le_of_ble_eq_true rfl) dX2_readCommand_199 ⟨Nat.le_of_ble_eq_true rfl, Nat.le_of_ble_eq_true rfl⟩ (fun H locs hI => ?_)
            refine lv_if_eq (tgt := 209) hx hb dX2_readCommand_202 rfl (fun h32 => ?_) (fun h32 => ?_)
            · replace hf := gif h32 hf
              refine lv_iconst (v := 0) hx hb dX2_readCommand_209 (by decide) ?_
              exact kr _ _ _ _ _ _ (grwb0 hf) hI ⟨.boolean, rfl, rfl⟩ dX2_readCommand_210
            · replace hf := gifn h32 hf
              refine lv_iconst (v := 1) hx hb dX2_readCommand_205 (by decide) ?_
              refine lv_goto (tgt := 210) hx hb dX2_readCommand_206 rfl ?_
              exact kr _ _ _ _ _ _ (grwb1 hf) hI ⟨.boolean, rfl, rfl⟩ dX2_readCommand_210
        · replace hf := gifn h24 hf
          by_cases h33 : r1 = 109
          · replace hf := gif h33 hf
            refine g_tabK (k := 109) (tgt := 88) hC dX2_readCommand_4 h33 (by decide) (by decide) rfl rfl ?_
            refine lv_aload_n hx hb dX2_readCommand_88 rfl (lv_at hl 0 rfl) ?_
            refine lv_bipush (v := 109) hx hb dX2_readCommand_89 (by decide) ?_
            obtain ⟨r34, hr35, hf⟩ := gbind hf
            have hr35 := C_X2_read l E x  hr35
            refine g_callVi (rest := []) hC hI hr35 Y_X2_read V_X2_read w906 (rcv_X2 hC hI) ⟨rfl, rfl⟩ ⟨Nat.le_of_ble_eq_true rfl, Nat.le_of_ble_eq_true rfl⟩ rfl hl.1 rfl (Nat.le_of_ble_eq_true rfl) dX2_readCommand_91 ⟨Nat.le_of_ble_eq_true rfl, Nat.le_of_ble_eq_true rfl⟩ (fun H locs hI => ?_)
            refine lv_if_eq (tgt := 138) hx hb dX2_readCommand_94 rfl (fun h36 => ?_) (fun h36 => ?_)
            · replace hf := gif h36 hf
              refine lv_iconst (v := 0) hx hb dX2_readCommand_138 (by decide) ?_
              exact kr _ _ _ _ _ _ (grwb0 hf) hI ⟨.boolean, rfl, rfl⟩ dX2_readCommand_139
            · replace hf := gifn h36 hf
              refine lv_aload_n hx hb dX2_readCommand_97 rfl (lv_at hl 0 rfl) ?_
              refine lv_bipush (v := 111) hx hb dX2_readCommand_98 (by decide) ?_
              obtain ⟨r37, hr38, hf⟩ := gbind hf
              have hr38 := C_X2_read l E x  hr38
              refine g_callVi (rest := []) hC hI hr38 Y_X2_read V_X2_read w906 (rcv_X2 hC hI) ⟨rfl, rfl⟩ ⟨Nat.le_of_ble_eq_true rfl, Nat.le_of_ble_eq_true rfl⟩ rfl hl.1 rfl (Nat.le_of_ble_eq_true rfl) dX2_readCommand_100 ⟨Nat.le_of_ble_eq_true rfl, Nat.le_of_ble_eq_true rfl⟩ (fun H locs hI => ?_)
              refine lv_if_eq (tgt := 138) hx hb dX2_readCommand_103 rfl (fun h39 => ?_) (fun h39 => ?_)
              · replace hf := gif h39 hf
                refine lv_iconst (v := 0) hx hb dX2_readCommand_138 (by decide) ?_
                exact kr _ _ _ _ _ _ (grwb0 hf) hI ⟨.boolean, rfl, rfl⟩ dX2_readCommand_139
              · replace hf := gifn h39 hf
                refine lv_aload_n hx hb dX2_readCommand_106 rfl (lv_at hl 0 rfl) ?_
                obtain ⟨r40, hr41, hf⟩ := gbind hf
                have hr41 := C_X2_nextChar l E x  hr41
                refine g_callVi (rest := []) hC hI hr41 Y_X2_nextChar V_X2_nextChar w902 (rcv_X2 hC hI) ⟨rfl, rfl⟩ ⟨Nat.le_of_ble_eq_true rfl, Nat.le_of_ble_eq_true rfl⟩ rfl hl.1 rfl (Nat.le_of_ble_eq_true rfl) dX2_readCommand_107 ⟨Nat.le_of_ble_eq_true rfl, Nat.le_of_ble_eq_true rfl⟩ (fun H locs hI => ?_)
                refine lv_bipush (v := 118) hx hb dX2_readCommand_110 (by decide) ?_
                refine lv_icmp_ne (tgt := 126) hx hb dX2_readCommand_112 rfl (fun h42 => ?_) (fun h42 => ?_)
                · replace hf := gifn h42 hf
                  refine lv_aload_n hx hb dX2_readCommand_126 rfl (lv_at hl 0 rfl) ?_
                  refine lv_aload_n hx hb dX2_readCommand_127 rfl (lv_at hl 1 rfl) ?_
                  obtain ⟨r43, hr44, hf⟩ := gbind hf
                  have hr44 := C_X2_readMoor l E x  hr44
                  refine g_callVi (rest := []) hC hI hr44 Y_X2_readMoor V_X2_readMoor w989 (rcv_X2 hC hI) ⟨rfl, rfl⟩ ⟨Nat.le_of_ble_eq_true rfl, Nat.le_of_ble_eq_true rfl⟩ rfl hl.1 rfl (Nat.le_of_ble_eq_true rfl) dX2_readCommand_128 ⟨Nat.le_of_ble_eq_true rfl, Nat.le_of_ble_eq_true rfl⟩ (fun H locs hI => ?_)
                  refine lv_if_eq (tgt := 138) hx hb dX2_readCommand_131 rfl (fun h45 => ?_) (fun h45 => ?_)
                  · replace hf := gif h45 hf
                    refine lv_iconst (v := 0) hx hb dX2_readCommand_138 (by decide) ?_
                    exact kr _ _ _ _ _ _ (grwb0 hf) hI ⟨.boolean, rfl, rfl⟩ dX2_readCommand_139
                  · replace hf := gifn h45 hf
                    refine lv_iconst (v := 1) hx hb dX2_readCommand_134 (by decide) ?_
                    refine lv_goto (tgt := 139) hx hb dX2_readCommand_135 rfl ?_
                    exact kr _ _ _ _ _ _ (grwb1 hf) hI ⟨.boolean, rfl, rfl⟩ dX2_readCommand_139
                · replace hf := gif h42 hf
                  refine lv_aload_n hx hb dX2_readCommand_115 rfl (lv_at hl 0 rfl) ?_
                  refine lv_aload_n hx hb dX2_readCommand_116 rfl (lv_at hl 1 rfl) ?_
                  obtain ⟨r46, hr47, hf⟩ := gbind hf
                  have hr47 := C_X2_readMove l E x  hr47
                  refine g_callVi (rest := []) hC hI hr47 Y_X2_readMove V_X2_readMove w910 (rcv_X2 hC hI) ⟨rfl, rfl⟩ ⟨Nat.le_of_ble_eq_true rfl, Nat.le_of_ble_eq_true rfl⟩ rfl hl.1 rfl (Nat.le_of_ble_eq_true rfl) dX2_readCommand_117 ⟨Nat.le_of_ble_eq_true rfl, Nat.le_of_ble_eq_true rfl⟩ (fun H locs hI => ?_)
                  refine lv_if_eq (tgt := 138) hx hb dX2_readCommand_120 rfl (fun h48 => ?_) (fun h48 => ?_)
                  · replace hf := gif h48 hf
                    refine lv_iconst (v := 0) hx hb dX2_readCommand_138 (by decide) ?_
                    exact kr _ _ _ _ _ _ (grwb0 hf) hI ⟨.boolean, rfl, rfl⟩ dX2_readCommand_139
                  · replace hf := gifn h48 hf
                    refine lv_goto (tgt := 134) hx hb dX2_readCommand_123 rfl ?_
                    refine lv_iconst (v := 1) hx hb dX2_readCommand_134 (by decide) ?_
                    refine lv_goto (tgt := 139) hx hb dX2_readCommand_135 rfl ?_
                    exact kr _ _ _ _ _ _ (grwb1 hf) hI ⟨.boolean, rfl, rfl⟩ dX2_readCommand_139
          · replace hf := gifn h33 hf
            by_cases h49 : r1 = 115
            · replace hf := gif h49 hf
              refine g_tabK (k := 115) (tgt := 140) hC dX2_readCommand_4 h49 (by decide) (by decide) rfl rfl ?_
              refine lv_aload_n hx hb dX2_readCommand_140 rfl (lv_at hl 0 rfl) ?_
              refine lv_aload_n hx hb dX2_readCommand_141 rfl (lv_at hl 1 rfl) ?_
              obtain ⟨r50, hr51, hf⟩ := gbind hf
              have hr51 := C_X2_readStow l E x  hr51
              refine g_callVi (rest := []) hC hI hr51 Y_X2_readStow V_X2_readStow w998 (rcv_X2 hC hI) ⟨rfl, rfl⟩ ⟨Nat.le_of_ble_eq_true rfl, Nat.le_of_ble_eq_true rfl⟩ rfl hl.1 rfl (Nat.le_of_ble_eq_true rfl) dX2_readCommand_142 ⟨Nat.le_of_ble_eq_true rfl, Nat.le_of_ble_eq_true rfl⟩ (fun H locs hI => ?_)
              exact kr _ _ _ _ _ _ (grwb hf) hI ⟨.boolean, rfl, gb_nar _⟩ dX2_readCommand_145
            · replace hf := gifn h49 hf
              refine g_tabD (tgt := 241) [99, 100, 104, 108, 109, 115] hC dX2_readCommand_4 (List.forall_mem_cons.mpr ⟨h3, List.forall_mem_cons.mpr ⟨h6, List.forall_mem_cons.mpr ⟨h15, List.forall_mem_cons.mpr ⟨h24, List.forall_mem_cons.mpr ⟨h33, List.forall_mem_cons.mpr ⟨h49, fun _ h => absurd h List.not_mem_nil⟩⟩⟩⟩⟩⟩) (by decide) rfl ?_
              refine lv_iconst (v := 0) hx hb dX2_readCommand_241 (by decide) ?_
              exact kr _ _ _ _ _ _ (grwb0 hf) hI ⟨.boolean, rfl, rfl⟩ dX2_readCommand_242
theorem dX2_readInto_0 : decode cX2_readInto 0 = .ok (.aload_n 0, 1) := by decide +kernel
theorem dX2_readInto_1 : decode cX2_readInto 1 = .ok (.iconst 0, 1) := by decide +kernel
theorem dX2_readInto_2 : decode cX2_readInto 2 = .ok (.putfield 19, 3) := by decide +kernel
theorem dX2_readInto_5 : decode cX2_readInto 5 = .ok (.aload_n 1, 1) := by decide +kernel
theorem dX2_readInto_6 : decode cX2_readInto 6 = .ok (.iconst 0, 1) := by decide +kernel
theorem dX2_readInto_7 : decode cX2_readInto 7 = .ok (.putfield 22, 3) := by decide +kernel
theorem dX2_readInto_10 : decode cX2_readInto 10 = .ok (.iconst 0, 1) := by decide +kernel
theorem dX2_readInto_11 : decode cX2_readInto 11 = .ok (.istore_n 2, 1) := by decide +kernel
theorem dX2_readInto_12 : decode cX2_readInto 12 = .ok (.iload_n 2, 1) := by decide +kernel
theorem dX2_readInto_13 : decode cX2_readInto 13 = .ok (.bipush 8, 2) := by decide +kernel
theorem dX2_readInto_15 : decode cX2_readInto 15 = .ok (.if_icmp .ge 43, 3) := by decide +kernel
theorem dX2_readInto_18 : decode cX2_readInto 18 = .ok (.aload_n 0, 1) := by decide +kernel
theorem dX2_readInto_19 : decode cX2_readInto 19 = .ok (.aload_n 1, 1) := by decide +kernel
theorem dX2_readInto_20 : decode cX2_readInto 20 = .ok (.invokevirtual 27, 3) := by decide +kernel
theorem dX2_readInto_23 : decode cX2_readInto 23 = .ok (.ifCond .ne 5, 3) := by decide +kernel
theorem dX2_readInto_26 : decode cX2_readInto 26 = .ok (.iconst 0, 1) := by decide +kernel
theorem dX2_readInto_27 : decode cX2_readInto 27 = .ok (.ireturn, 1) := by decide +kernel
theorem dX2_readInto_28 : decode cX2_readInto 28 = .ok (.aload_n 0, 1) := by decide +kernel
theorem dX2_readInto_29 : decode cX2_readInto 29 = .ok (.getfield 19, 3) := by decide +kernel
theorem dX2_readInto_32 : decode cX2_readInto 32 = .ok (.aload_n 0, 1) := by decide +kernel
theorem dX2_readInto_33 : decode cX2_readInto 33 = .ok (.getfield 15, 3) := by decide +kernel
theorem dX2_readInto_36 : decode cX2_readInto 36 = .ok (.if_icmp .ne 5, 3) := by decide +kernel
theorem dX2_readInto_39 : decode cX2_readInto 39 = .ok (.iconst 1, 1) := by decide +kernel
theorem dX2_readInto_40 : decode cX2_readInto 40 = .ok (.ireturn, 1) := by decide +kernel
theorem dX2_readInto_41 : decode cX2_readInto 41 = .ok (.aload_n 0, 1) := by decide +kernel
theorem dX2_readInto_42 : decode cX2_readInto 42 = .ok (.bipush 59, 2) := by decide +kernel
theorem dX2_readInto_44 : decode cX2_readInto 44 = .ok (.invokevirtual 31, 3) := by decide +kernel
theorem dX2_readInto_47 : decode cX2_readInto 47 = .ok (.ifCond .ne 5, 3) := by decide +kernel
theorem dX2_readInto_50 : decode cX2_readInto 50 = .ok (.iconst 0, 1) := by decide +kernel
theorem dX2_readInto_51 : decode cX2_readInto 51 = .ok (.ireturn, 1) := by decide +kernel
theorem dX2_readInto_52 : decode cX2_readInto 52 = .ok (.iinc 2 1, 3) := by decide +kernel
theorem dX2_readInto_55 : decode cX2_readInto 55 = .ok (.goto (-43), 3) := by decide +kernel
theorem dX2_readInto_58 : decode cX2_readInto 58 = .ok (.iconst 0, 1) := by decide +kernel
theorem dX2_readInto_59 : decode cX2_readInto 59 = .ok (.ireturn, 1) := by decide +kernel
set_option maxRecDepth 100000 in
set_option maxHeartbeats 4000000 in
theorem C_X2_readInto (l : Launch) (E : gE) (x : gX) {M : gM} {r : Bool} {M' : gM} (hf : f_X2_readInto M = some (r, M')) : gM0 l E yX2_readInto (.code yX2_readInto cX2_readInto 3 (some .boolean)) (gR 9 205) M x [.ref (E.2.1 146), .ref (E.2.1 135)] (some (.int (gb r))) M' := by
  refine gMet (by decide +kernel) (Nat.le_of_ble_eq_true rfl) ?_
  intro p e s m args below meth c H locs ls Q hC hl hI kr kv
  replace hC : gC p s m args c cX2_readInto 3 RX2 E := hC
  replace hl : lv_has ls 3 [(0, .ref (E.2.1 146)), (1, .ref (E.2.1 135))] := hl
  have hx := hC.1
  have hb := hC.2.1
  have L12 : ∀ (n : Nat) (v2 : Int32) (M : gM), f_X2_readInto_L12  n v2 M = some (r, M') → ∀ (H : Heap) (locs : List Loc) (ls : Array Slot), gI E s M x H locs → lv_has ls 3 [(2, .int v2), (0, .ref (E.2.1 146)), (1, .ref (E.2.1 135))] → W p l e (gR 9 205) s m args below meth c H locs 0 0 Q (F0 m 12 ls []) := by
    intro  n
    induction n with
    | zero => intro v2 M hf; rw [f_X2_readInto_L12] at hf; cases hf
    | succ n ih =>
      intro v2 M hf H locs ls hI hl
      rw [f_X2_readInto_L12] at hf
      refine lv_iload_n hx hb dX2_readInto_12 rfl (lv_at hl 0 rfl) ?_
      refine lv_bipush (v := 8) hx hb dX2_readInto_13 (by decide) ?_
      refine lv_icmp_ge (tgt := 58) hx hb dX2_readInto_15 rfl (fun h3 => ?_) (fun h3 => ?_)
      · replace hf := gif h3 hf
        refine lv_iconst (v := 0) hx hb dX2_readInto_58 (by decide) ?_
        exact kr _ _ _ _ _ _ (grwb0 hf) hI ⟨.boolean, rfl, rfl⟩ dX2_readInto_59
      · replace hf := gifn h3 hf
        refine lv_aload_n hx hb dX2_readInto_18 rfl (lv_at hl 1 rfl) ?_
        refine lv_aload_n hx hb dX2_readInto_19 rfl (lv_at hl 2 rfl) ?_
        obtain ⟨r4, hr5, hf⟩ := gbind hf
        have hr5 := C_X2_readCommand l E x  hr5
        refine g_callVi (rest := []) hC hI hr5 Y_X2_readCommand V_X2_readCommand w898 (rcv_X2 hC hI) ⟨rfl, rfl⟩ ⟨Nat.le_of_ble_eq_true rfl, Nat.le_of_ble_eq_true rfl⟩ rfl hl.1 rfl (Nat.le_of_ble_eq_true rfl) dX2_readInto_20 ⟨Nat.le_of_ble_eq_true rfl, Nat.le_of_ble_eq_true rfl⟩ (fun H locs hI => ?_)
        refine lv_if_ne (tgt := 28) hx hb dX2_readInto_23 rfl (fun h6 => ?_) (fun h6 => ?_)
        · replace hf := gifn h6 hf
          refine lv_aload_n hx hb dX2_readInto_28 rfl (lv_at hl 1 rfl) ?_
          refine gt_X2_X2_position hC hI dX2_readInto_29 ?_
          refine lv_aload_n hx hb dX2_readInto_32 rfl (lv_at hl 1 rfl) ?_
          refine gt_X2_X2_length hC hI dX2_readInto_33 ?_
          refine lv_icmp_ne (tgt := 41) hx hb dX2_readInto_36 rfl (fun h7 => ?_) (fun h7 => ?_)
          · replace hf := gifn h7 hf
            refine lv_aload_n hx hb dX2_readInto_41 rfl (lv_at hl 1 rfl) ?_
            refine lv_bipush (v := 59) hx hb dX2_readInto_42 (by decide) ?_
            obtain ⟨r8, hr9, hf⟩ := gbind hf
            have hr9 := C_X2_read l E x  hr9
            refine g_callVi (rest := []) hC hI hr9 Y_X2_read V_X2_read w906 (rcv_X2 hC hI) ⟨rfl, rfl⟩ ⟨Nat.le_of_ble_eq_true rfl, Nat.le_of_ble_eq_true rfl⟩ rfl hl.1 rfl (Nat.le_of_ble_eq_true rfl) dX2_readInto_44 ⟨Nat.le_of_ble_eq_true rfl, Nat.le_of_ble_eq_true rfl⟩ (fun H locs hI => ?_)
            refine lv_if_ne (tgt := 52) hx hb dX2_readInto_47 rfl (fun h10 => ?_) (fun h10 => ?_)
            · replace hf := gifn h10 hf
              refine lv_iinc (k := 0) (v := v2 + 1) (lv' := [(2, .int (v2 + 1)), (0, .ref (E.2.1 146)), (1, .ref (E.2.1 135))]) hx hb dX2_readInto_52 hl rfl rfl (by decide) rfl (fun ls hl => ?_)
              refine lv_goto (tgt := 12) hx hb dX2_readInto_55 rfl ?_
              exact ih (v2 + 1) r8.2 hf _ _ _ hI (lv_sub hl [0, 1, 2] rfl)
            · replace hf := gif h10 hf
              refine lv_iconst (v := 0) hx hb dX2_readInto_50 (by decide) ?_
              exact kr _ _ _ _ _ _ (grwb0 hf) hI ⟨.boolean, rfl, rfl⟩ dX2_readInto_51
          · replace hf := gif h7 hf
            refine lv_iconst (v := 1) hx hb dX2_readInto_39 (by decide) ?_
            exact kr _ _ _ _ _ _ (grwb1 hf) hI ⟨.boolean, rfl, rfl⟩ dX2_readInto_40
        · replace hf := gif h6 hf
          refine lv_iconst (v := 0) hx hb dX2_readInto_26 (by decide) ?_
          exact kr _ _ _ _ _ _ (grwb0 hf) hI ⟨.boolean, rfl, rfl⟩ dX2_readInto_27
  unfold f_X2_readInto at hf
  refine lv_aload_n hx hb dX2_readInto_0 rfl (lv_at hl 0 rfl) ?_
  refine lv_iconst (v := 0) hx hb dX2_readInto_1 (by decide) ?_
  obtain ⟨M1, eM1, hf⟩ := glet hf
  refine pt_X2_X2_position hC hI dX2_readInto_2 (fun H locs hI => ?_)
  replace hI := g_mem eM1 hI
  refine lv_aload_n hx hb dX2_readInto_5 rfl (lv_at hl 1 rfl) ?_
  refine lv_iconst (v := 0) hx hb dX2_readInto_6 (by decide) ?_
  obtain ⟨M2, eM2, hf⟩ := glet hf
  refine pt_X2_X4_count hC hI dX2_readInto_7 (fun H locs hI => ?_)
  replace hI := g_mem eM2 hI
  refine lv_iconst (v := 0) hx hb dX2_readInto_10 (by decide) ?_
  refine lv_istore_n (lv' := [(2, .int 0), (0, .ref (E.2.1 146)), (1, .ref (E.2.1 135))]) hx hb dX2_readInto_11 rfl hl (by decide) rfl (fun ls hl => ?_)
  exact L12 gF 0 M2 hf _ _ _ hI (lv_sub hl [0, 1, 2] rfl)
theorem dX4_given_0 : decode cX4_given 0 = .ok (.iload_n 1, 1) := by decide +kernel
theorem dX4_given_1 : decode cX4_given 1 = .ok (.invokestatic 22, 3) := by decide +kernel
theorem dX4_given_4 : decode cX4_given 4 = .ok (.ifCond .eq 23, 3) := by decide +kernel
theorem dX4_given_7 : decode cX4_given 7 = .ok (.iload_n 2, 1) := by decide +kernel
theorem dX4_given_8 : decode cX4_given 8 = .ok (.invokestatic 26, 3) := by decide +kernel
theorem dX4_given_11 : decode cX4_given 11 = .ok (.ifCond .eq 16, 3) := by decide +kernel
theorem dX4_given_14 : decode cX4_given 14 = .ok (.aload_n 0, 1) := by decide +kernel
theorem dX4_given_15 : decode cX4_given 15 = .ok (.getfield 15, 3) := by decide +kernel
theorem dX4_given_18 : decode cX4_given 18 = .ok (.iload_n 1, 1) := by decide +kernel
theorem dX4_given_19 : decode cX4_given 19 = .ok (.iconst 4, 1) := by decide +kernel
theorem dX4_given_20 : decode cX4_given 20 = .ok (.imul, 1) := by decide +kernel
theorem dX4_given_21 : decode cX4_given 21 = .ok (.iload_n 2, 1) := by decide +kernel
theorem dX4_given_22 : decode cX4_given 22 = .ok (.iadd, 1) := by decide +kernel
theorem dX4_given_23 : decode cX4_given 23 = .ok (.iaload, 1) := by decide +kernel
theorem dX4_given_24 : decode cX4_given 24 = .ok (.goto 4, 3) := by decide +kernel
theorem dX4_given_27 : decode cX4_given 27 = .ok (.iconst 0, 1) := by decide +kernel
theorem dX4_given_28 : decode cX4_given 28 = .ok (.ireturn, 1) := by decide +kernel
set_option maxRecDepth 100000 in
set_option maxHeartbeats 4000000 in
theorem C_X4_given (l : Launch) (E : gE) (x : gX) {v1 v2 : Int32} {M : gM} {r : Int32} (hf : f_X4_given v1 v2 M = some r) : gM0 l E yX4_given (.code yX4_given cX4_given 3 (some .int)) (gR 1 20) M x [.ref (E.2.1 135), .int v1, .int v2] (some (.int r)) M := by
  refine gMet (by decide +kernel) (Nat.le_of_ble_eq_true rfl) ?_
  intro p e s m args below meth c H locs ls Q hC hl hI kr kv
  replace hC : gC p s m args c cX4_given 3 RX4 E := hC
  replace hl : lv_has ls 3 [(0, .ref (E.2.1 135)), (1, .int v1), (2, .int v2)] := hl
  have hx := hC.1
  have hb := hC.2.1
  unfold f_X4_given at hf
  refine lv_iload_n hx hb dX4_given_0 rfl (lv_at hl 1 rfl) ?_
  obtain ⟨r1, hr2, hf⟩ := gbind hf
  have hr2 := C_X4_isRow l E x  hr2
  refine g_callSi (rest := []) hC hI hr2 Y_X4_isRow S_X4_isRow w918 ⟨rfl, rfl⟩ ⟨Nat.le_of_ble_eq_true rfl, Nat.le_of_ble_eq_true rfl⟩ rfl hl.1 rfl (Nat.le_of_ble_eq_true rfl) dX4_given_1 ⟨Nat.le_of_ble_eq_true rfl, Nat.le_of_ble_eq_true rfl⟩ (fun H locs hI => ?_)
  refine lv_if_eq (tgt := 27) hx hb dX4_given_4 rfl (fun h3 => ?_) (fun h3 => ?_)
  · replace hf := gif h3 hf
    refine lv_iconst (v := 0) hx hb dX4_given_27 (by decide) ?_
    exact kr _ _ _ _ _ _ (gri hf) hI ⟨.int, rfl, rfl⟩ dX4_given_28
  · replace hf := gifn h3 hf
    refine lv_iload_n hx hb dX4_given_7 rfl (lv_at hl 2 rfl) ?_
    obtain ⟨r4, hr5, hf⟩ := gbind hf
    have hr5 := C_X4_isPlace l E x  hr5
    refine g_callSi (rest := []) hC hI hr5 Y_X4_isPlace S_X4_isPlace w986 ⟨rfl, rfl⟩ ⟨Nat.le_of_ble_eq_true rfl, Nat.le_of_ble_eq_true rfl⟩ rfl hl.1 rfl (Nat.le_of_ble_eq_true rfl) dX4_given_8 ⟨Nat.le_of_ble_eq_true rfl, Nat.le_of_ble_eq_true rfl⟩ (fun H locs hI => ?_)
    refine lv_if_eq (tgt := 27) hx hb dX4_given_11 rfl (fun h6 => ?_) (fun h6 => ?_)
    · replace hf := gif h6 hf
      refine lv_iconst (v := 0) hx hb dX4_given_27 (by decide) ?_
      exact kr _ _ _ _ _ _ (gri hf) hI ⟨.int, rfl, rfl⟩ dX4_given_28
    · replace hf := gifn h6 hf
      refine lv_aload_n hx hb dX4_given_14 rfl (lv_at hl 0 rfl) ?_
      refine gt_X4_X4_arguments hC hI dX4_given_15 ?_
      refine lv_iload_n hx hb dX4_given_18 rfl (lv_at hl 1 rfl) ?_
      refine lv_iconst (v := 4) hx hb dX4_given_19 (by decide) ?_
      refine lv_imul hx hb dX4_given_20 ?_
      refine lv_iload_n hx hb dX4_given_21 rfl (lv_at hl 2 rfl) ?_
      refine lv_iadd hx hb dX4_given_22 ?_
      obtain ⟨h7, hf⟩ := gifN hf
      refine g_iald hC hI (k := ((v1 * 4) + v2).toNatClampNeg) gIA_args h7 rfl dX4_given_23 ?_
      refine lv_goto (tgt := 28) hx hb dX4_given_24 rfl ?_
      exact kr _ _ _ _ _ _ (gri hf) hI ⟨.int, rfl, rfl⟩ dX4_given_28
theorem dX4_kind_0 : decode cX4_kind 0 = .ok (.iload_n 1, 1) := by decide +kernel
theorem dX4_kind_1 : decode cX4_kind 1 = .ok (.invokestatic 22, 3) := by decide +kernel
theorem dX4_kind_4 : decode cX4_kind 4 = .ok (.ifCond .eq 12, 3) := by decide +kernel
theorem dX4_kind_7 : decode cX4_kind 7 = .ok (.aload_n 0, 1) := by decide +kernel
theorem dX4_kind_8 : decode cX4_kind 8 = .ok (.getfield 9, 3) := by decide +kernel
theorem dX4_kind_11 : decode cX4_kind 11 = .ok (.iload_n 1, 1) := by decide +kernel
theorem dX4_kind_12 : decode cX4_kind 12 = .ok (.iaload, 1) := by decide +kernel
theorem dX4_kind_13 : decode cX4_kind 13 = .ok (.goto 4, 3) := by decide +kernel
theorem dX4_kind_16 : decode cX4_kind 16 = .ok (.iconst (-1), 1) := by decide +kernel
theorem dX4_kind_17 : decode cX4_kind 17 = .ok (.ireturn, 1) := by decide +kernel
set_option maxRecDepth 100000 in
set_option maxHeartbeats 4000000 in
theorem C_X4_kind (l : Launch) (E : gE) (x : gX) {v1 : Int32} {M : gM} {r : Int32} (hf : f_X4_kind v1 M = some r) : gM0 l E yX4_kind (.code yX4_kind cX4_kind 2 (some .int)) (gR 1 20) M x [.ref (E.2.1 135), .int v1] (some (.int r)) M := by
  refine gMet (by decide +kernel) (Nat.le_of_ble_eq_true rfl) ?_
  intro p e s m args below meth c H locs ls Q hC hl hI kr kv
  replace hC : gC p s m args c cX4_kind 2 RX4 E := hC
  replace hl : lv_has ls 2 [(0, .ref (E.2.1 135)), (1, .int v1)] := hl
  have hx := hC.1
  have hb := hC.2.1
  unfold f_X4_kind at hf
  refine lv_iload_n hx hb dX4_kind_0 rfl (lv_at hl 1 rfl) ?_
  obtain ⟨r1, hr2, hf⟩ := gbind hf
  have hr2 := C_X4_isRow l E x  hr2
  refine g_callSi (rest := []) hC hI hr2 Y_X4_isRow S_X4_isRow w918 ⟨rfl, rfl⟩ ⟨Nat.le_of_ble_eq_true rfl, Nat.le_of_ble_eq_true rfl⟩ rfl hl.1 rfl (Nat.le_of_ble_eq_true rfl) dX4_kind_1 ⟨Nat.le_of_ble_eq_true rfl, Nat.le_of_ble_eq_true rfl⟩ (fun H locs hI => ?_)
  refine lv_if_eq (tgt := 16) hx hb dX4_kind_4 rfl (fun h3 => ?_) (fun h3 => ?_)
  · replace hf := gif h3 hf
    refine lv_iconst (v := (-1)) hx hb dX4_kind_16 (by decide) ?_
    exact kr _ _ _ _ _ _ (gri hf) hI ⟨.int, rfl, rfl⟩ dX4_kind_17
  · replace hf := gifn h3 hf
    refine lv_aload_n hx hb dX4_kind_7 rfl (lv_at hl 0 rfl) ?_
    refine gt_X4_X4_kinds hC hI dX4_kind_8 ?_
    refine lv_iload_n hx hb dX4_kind_11 rfl (lv_at hl 1 rfl) ?_
    obtain ⟨h4, hf⟩ := gifN hf
    refine g_iald hC hI (k := v1.toNatClampNeg) gIA_kinds h4 rfl dX4_kind_12 ?_
    refine lv_goto (tgt := 17) hx hb dX4_kind_13 rfl ?_
    exact kr _ _ _ _ _ _ (gri hf) hI ⟨.int, rfl, rfl⟩ dX4_kind_17
theorem dX4_faultOf_0 : decode cX4_faultOf 0 = .ok (.aload_n 0, 1) := by decide +kernel
theorem dX4_faultOf_1 : decode cX4_faultOf 1 = .ok (.iload_n 2, 1) := by decide +kernel
theorem dX4_faultOf_2 : decode cX4_faultOf 2 = .ok (.iconst 0, 1) := by decide +kernel
theorem dX4_faultOf_3 : decode cX4_faultOf 3 = .ok (.invokevirtual 37, 3) := by decide +kernel
theorem dX4_faultOf_6 : decode cX4_faultOf 6 = .ok (.istore_n 3, 1) := by decide +kernel
theorem dX4_faultOf_7 : decode cX4_faultOf 7 = .ok (.aload_n 0, 1) := by decide +kernel
theorem dX4_faultOf_8 : decode cX4_faultOf 8 = .ok (.iload_n 2, 1) := by decide +kernel
theorem dX4_faultOf_9 : decode cX4_faultOf 9 = .ok (.iconst 1, 1) := by decide +kernel
theorem dX4_faultOf_10 : decode cX4_faultOf 10 = .ok (.invokevirtual 37, 3) := by decide +kernel
theorem dX4_faultOf_13 : decode cX4_faultOf 13 = .ok (.istore 4, 2) := by decide +kernel
theorem dX4_faultOf_15 : decode cX4_faultOf 15 = .ok (.aload_n 0, 1) := by decide +kernel
theorem dX4_faultOf_16 : decode cX4_faultOf 16 = .ok (.iload_n 2, 1) := by decide +kernel
theorem dX4_faultOf_17 : decode cX4_faultOf 17 = .ok (.iconst 2, 1) := by decide +kernel
theorem dX4_faultOf_18 : decode cX4_faultOf 18 = .ok (.invokevirtual 37, 3) := by decide +kernel
theorem dX4_faultOf_21 : decode cX4_faultOf 21 = .ok (.istore 5, 2) := by decide +kernel
theorem dX4_faultOf_23 : decode cX4_faultOf 23 = .ok (.aload_n 0, 1) := by decide +kernel
theorem dX4_faultOf_24 : decode cX4_faultOf 24 = .ok (.iload_n 2, 1) := by decide +kernel
theorem dX4_faultOf_25 : decode cX4_faultOf 25 = .ok (.invokevirtual 41, 3) := by decide +kernel
theorem dX4_faultOf_28 : decode cX4_faultOf 28 = .ok (.tableswitch 98 1 6 #[40, 50, 66, 76, 86, 92], 40) := by decide +kernel
theorem dX4_faultOf_68 : decode cX4_faultOf 68 = .ok (.aload_n 1, 1) := by decide +kernel
theorem dX4_faultOf_69 : decode cX4_faultOf 69 = .ok (.iload_n 3, 1) := by decide +kernel
theorem dX4_faultOf_70 : decode cX4_faultOf 70 = .ok (.iload 4, 2) := by decide +kernel
theorem dX4_faultOf_72 : decode cX4_faultOf 72 = .ok (.iload 5, 2) := by decide +kernel
theorem dX4_faultOf_74 : decode cX4_faultOf 74 = .ok (.invokevirtual 45, 3) := by decide +kernel
theorem dX4_faultOf_77 : decode cX4_faultOf 77 = .ok (.ireturn, 1) := by decide +kernel
theorem dX4_faultOf_78 : decode cX4_faultOf 78 = .ok (.aload_n 1, 1) := by decide +kernel
theorem dX4_faultOf_79 : decode cX4_faultOf 79 = .ok (.iload_n 3, 1) := by decide +kernel
theorem dX4_faultOf_80 : decode cX4_faultOf 80 = .ok (.iload 4, 2) := by decide +kernel
theorem dX4_faultOf_82 : decode cX4_faultOf 82 = .ok (.iload 5, 2) := by decide +kernel
theorem dX4_faultOf_84 : decode cX4_faultOf 84 = .ok (.aload_n 0, 1) := by decide +kernel
theorem dX4_faultOf_85 : decode cX4_faultOf 85 = .ok (.iload_n 2, 1) := by decide +kernel
theorem dX4_faultOf_86 : decode cX4_faultOf 86 = .ok (.iconst 3, 1) := by decide +kernel
theorem dX4_faultOf_87 : decode cX4_faultOf 87 = .ok (.invokevirtual 37, 3) := by decide +kernel
theorem dX4_faultOf_90 : decode cX4_faultOf 90 = .ok (.invokevirtual 51, 3) := by decide +kernel
theorem dX4_faultOf_93 : decode cX4_faultOf 93 = .ok (.ireturn, 1) := by decide +kernel
theorem dX4_faultOf_94 : decode cX4_faultOf 94 = .ok (.aload_n 1, 1) := by decide +kernel
theorem dX4_faultOf_95 : decode cX4_faultOf 95 = .ok (.iload_n 3, 1) := by decide +kernel
theorem dX4_faultOf_96 : decode cX4_faultOf 96 = .ok (.iload 4, 2) := by decide +kernel
theorem dX4_faultOf_98 : decode cX4_faultOf 98 = .ok (.iload 5, 2) := by decide +kernel
theorem dX4_faultOf_100 : decode cX4_faultOf 100 = .ok (.invokevirtual 55, 3) := by decide +kernel
theorem dX4_faultOf_103 : decode cX4_faultOf 103 = .ok (.ireturn, 1) := by decide +kernel
theorem dX4_faultOf_104 : decode cX4_faultOf 104 = .ok (.aload_n 1, 1) := by decide +kernel
theorem dX4_faultOf_105 : decode cX4_faultOf 105 = .ok (.iload_n 3, 1) := by decide +kernel
theorem dX4_faultOf_106 : decode cX4_faultOf 106 = .ok (.iload 4, 2) := by decide +kernel
theorem dX4_faultOf_108 : decode cX4_faultOf 108 = .ok (.iload 5, 2) := by decide +kernel
theorem dX4_faultOf_110 : decode cX4_faultOf 110 = .ok (.invokevirtual 58, 3) := by decide +kernel
theorem dX4_faultOf_113 : decode cX4_faultOf 113 = .ok (.ireturn, 1) := by decide +kernel
theorem dX4_faultOf_114 : decode cX4_faultOf 114 = .ok (.aload_n 1, 1) := by decide +kernel
theorem dX4_faultOf_115 : decode cX4_faultOf 115 = .ok (.iload_n 3, 1) := by decide +kernel
theorem dX4_faultOf_116 : decode cX4_faultOf 116 = .ok (.invokevirtual 61, 3) := by decide +kernel
theorem dX4_faultOf_119 : decode cX4_faultOf 119 = .ok (.ireturn, 1) := by decide +kernel
theorem dX4_faultOf_120 : decode cX4_faultOf 120 = .ok (.aload_n 1, 1) := by decide +kernel
theorem dX4_faultOf_121 : decode cX4_faultOf 121 = .ok (.iload_n 3, 1) := by decide +kernel
theorem dX4_faultOf_122 : decode cX4_faultOf 122 = .ok (.invokevirtual 64, 3) := by decide +kernel
theorem dX4_faultOf_125 : decode cX4_faultOf 125 = .ok (.ireturn, 1) := by decide +kernel
theorem dX4_faultOf_126 : decode cX4_faultOf 126 = .ok (.iload_n 3, 1) := by decide +kernel
theorem dX4_faultOf_127 : decode cX4_faultOf 127 = .ok (.invokestatic 67, 3) := by decide +kernel
theorem dX4_faultOf_130 : decode cX4_faultOf 130 = .ok (.ireturn, 1) := by decide +kernel
set_option maxRecDepth 100000 in
set_option maxHeartbeats 4000000 in
theorem C_X4_faultOf (l : Launch) (E : gE) (x : gX) {o1 : Nat} (ho1 : gOk o1) {v2 : Int32} {M : gM} {r : Int32} (hf : f_X4_faultOf o1 v2 M = some r) : gM0 l E yX4_faultOf (.code yX4_faultOf cX4_faultOf 6 (some .int)) (gR 4 87) M x [.ref (E.2.1 135), .ref (E.2.1 o1), .int v2] (some (.int r)) M := by
  refine gMet (by decide +kernel) (Nat.le_of_ble_eq_true rfl) ?_
  intro p e s m args below meth c H locs ls Q hC hl hI kr kv
  replace hC : gC p s m args c cX4_faultOf 6 RX4 E := hC
  replace hl : lv_has ls 6 [(0, .ref (E.2.1 135)), (1, .ref (E.2.1 o1)), (2, .int v2)] := hl
  have hx := hC.1
  have hb := hC.2.1
  unfold f_X4_faultOf at hf
  refine lv_aload_n hx hb dX4_faultOf_0 rfl (lv_at hl 0 rfl) ?_
  refine lv_iload_n hx hb dX4_faultOf_1 rfl (lv_at hl 2 rfl) ?_
  refine lv_iconst (v := 0) hx hb dX4_faultOf_2 (by decide) ?_
  obtain ⟨r1, hr2, hf⟩ := gbind hf
  have hr2 := C_X4_given l E x  hr2
  refine g_callVi (rest := []) hC hI hr2 Y_X4_given V_X4_given w1020 (rcv_X4 hC hI) ⟨rfl, rfl⟩ ⟨Nat.le_of_ble_eq_true rfl, Nat.le_of_ble_eq_true rfl⟩ rfl hl.1 rfl (Nat.le_of_ble_eq_true rfl) dX4_faultOf_3 ⟨Nat.le_of_ble_eq_true rfl, Nat.le_of_ble_eq_true rfl⟩ (fun H locs hI => ?_)
  refine lv_istore_n (lv' := [(3, .int r1), (0, .ref (E.2.1 135)), (1, .ref (E.2.1 o1)), (2, .int v2)]) hx hb dX4_faultOf_6 rfl hl (by decide) rfl (fun ls hl => ?_)
  refine lv_aload_n hx hb dX4_faultOf_7 rfl (lv_at hl 1 rfl) ?_
  refine lv_iload_n hx hb dX4_faultOf_8 rfl (lv_at hl 3 rfl) ?_
  refine lv_iconst (v := 1) hx hb dX4_faultOf_9 (by decide) ?_
  obtain ⟨r3, hr4, hf⟩ := gbind hf
  have hr4 := C_X4_given l E x  hr4
  refine g_callVi (rest := []) hC hI hr4 Y_X4_given V_X4_given w1020 (rcv_X4 hC hI) ⟨rfl, rfl⟩ ⟨Nat.le_of_ble_eq_true rfl, Nat.le_of_ble_eq_true rfl⟩ rfl hl.1 rfl (Nat.le_of_ble_eq_true rfl) dX4_faultOf_10 ⟨Nat.le_of_ble_eq_true rfl, Nat.le_of_ble_eq_true rfl⟩ (fun H locs hI => ?_)
  refine lv_istore (lv' := [(4, .int r3), (3, .int r1), (0, .ref (E.2.1 135)), (1, .ref (E.2.1 o1)), (2, .int v2)]) hx hb dX4_faultOf_13 hl (by decide) rfl (fun ls hl => ?_)
  refine lv_aload_n hx hb dX4_faultOf_15 rfl (lv_at hl 2 rfl) ?_
  refine lv_iload_n hx hb dX4_faultOf_16 rfl (lv_at hl 4 rfl) ?_
  refine lv_iconst (v := 2) hx hb dX4_faultOf_17 (by decide) ?_
  obtain ⟨r5, hr6, hf⟩ := gbind hf
  have hr6 := C_X4_given l E x  hr6
  refine g_callVi (rest := []) hC hI hr6 Y_X4_given V_X4_given w1020 (rcv_X4 hC hI) ⟨rfl, rfl⟩ ⟨Nat.le_of_ble_eq_true rfl, Nat.le_of_ble_eq_true rfl⟩ rfl hl.1 rfl (Nat.le_of_ble_eq_true rfl) dX4_faultOf_18 ⟨Nat.le_of_ble_eq_true rfl, Nat.le_of_ble_eq_true rfl⟩ (fun H locs hI => ?_)
  refine lv_istore (lv' := [(5, .int r5), (4, .int r3), (3, .int r1), (0, .ref (E.2.1 135)), (1, .ref (E.2.1 o1)), (2, .int v2)]) hx hb dX4_faultOf_21 hl (by decide) rfl (fun ls hl => ?_)
  refine lv_aload_n hx hb dX4_faultOf_23 rfl (lv_at hl 3 rfl) ?_
  refine lv_iload_n hx hb dX4_faultOf_24 rfl (lv_at hl 5 rfl) ?_
  obtain ⟨r7, hr8, hf⟩ := gbind hf
  have hr8 := C_X4_kind l E x  hr8
  refine g_callVi (rest := []) hC hI hr8 Y_X4_kind V_X4_kind w1024 (rcv_X4 hC hI) ⟨rfl, rfl⟩ ⟨Nat.le_of_ble_eq_true rfl, Nat.le_of_ble_eq_true rfl⟩ rfl hl.1 rfl (Nat.le_of_ble_eq_true rfl) dX4_faultOf_25 ⟨Nat.le_of_ble_eq_true rfl, Nat.le_of_ble_eq_true rfl⟩ (fun H locs hI => ?_)
  by_cases h9 : r7 = 1
  · replace hf := gif h9 hf
    refine g_tabK (k := 1) (tgt := 68) hC dX4_faultOf_28 h9 (by decide) (by decide) rfl rfl ?_
    refine lv_aload_n hx hb dX4_faultOf_68 rfl (lv_at hl 4 rfl) ?_
    refine lv_iload_n hx hb dX4_faultOf_69 rfl (lv_at hl 2 rfl) ?_
    refine lv_iload hx hb dX4_faultOf_70 (lv_at hl 1 rfl) ?_
    refine lv_iload hx hb dX4_faultOf_72 (lv_at hl 0 rfl) ?_
    obtain ⟨r10, hr11, hf⟩ := gbind hf
    have hr11 := C_X5_mooringFault l E x ho1 hr11
    refine g_callVi (rest := []) hC hI hr11 Y_X5_mooringFault V_X5_mooringFault w1028 (rcv_X5 hC hI ho1) ⟨rfl, rfl⟩ ⟨Nat.le_of_ble_eq_true rfl, Nat.le_of_ble_eq_true rfl⟩ rfl hl.1 rfl (Nat.le_of_ble_eq_true rfl) dX4_faultOf_74 ⟨Nat.le_of_ble_eq_true rfl, Nat.le_of_ble_eq_true rfl⟩ (fun H locs hI => ?_)
    exact kr _ _ _ _ _ _ (gri hf) hI ⟨.int, rfl, rfl⟩ dX4_faultOf_77
  · replace hf := gifn h9 hf
    by_cases h12 : r7 = 2
    · replace hf := gif h12 hf
      refine g_tabK (k := 2) (tgt := 78) hC dX4_faultOf_28 h12 (by decide) (by decide) rfl rfl ?_
      refine lv_aload_n hx hb dX4_faultOf_78 rfl (lv_at hl 4 rfl) ?_
      refine lv_iload_n hx hb dX4_faultOf_79 rfl (lv_at hl 2 rfl) ?_
      refine lv_iload hx hb dX4_faultOf_80 (lv_at hl 1 rfl) ?_
      refine lv_iload hx hb dX4_faultOf_82 (lv_at hl 0 rfl) ?_
      refine lv_aload_n hx hb dX4_faultOf_84 rfl (lv_at hl 3 rfl) ?_
      refine lv_iload_n hx hb dX4_faultOf_85 rfl (lv_at hl 5 rfl) ?_
      refine lv_iconst (v := 3) hx hb dX4_faultOf_86 (by decide) ?_
      obtain ⟨r13, hr14, hf⟩ := gbind hf
      have hr14 := C_X4_given l E x  hr14
      refine g_callVi (rest := [.int r5, .int r3, .int r1, .ref (E.2.1 o1)]) hC hI hr14 Y_X4_given V_X4_given w1020 (rcv_X4 hC hI) ⟨rfl, rfl⟩ ⟨Nat.le_of_ble_eq_true rfl, Nat.le_of_ble_eq_true rfl⟩ rfl hl.1 rfl (Nat.le_of_ble_eq_true rfl) dX4_faultOf_87 ⟨Nat.le_of_ble_eq_true rfl, Nat.le_of_ble_eq_true rfl⟩ (fun H locs hI => ?_)
      obtain ⟨r15, hr16, hf⟩ := gbind hf
      have hr16 := C_X5_stowingFault l E x ho1 hr16
      refine g_callVi (rest := []) hC hI hr16 Y_X5_stowingFault V_X5_stowingFault w1032 (rcv_X5 hC hI ho1) ⟨rfl, rfl⟩ ⟨Nat.le_of_ble_eq_true rfl, Nat.le_of_ble_eq_true rfl⟩ rfl hl.1 rfl (Nat.le_of_ble_eq_true rfl) dX4_faultOf_90 ⟨Nat.le_of_ble_eq_true rfl, Nat.le_of_ble_eq_true rfl⟩ (fun H locs hI => ?_)
      exact kr _ _ _ _ _ _ (gri hf) hI ⟨.int, rfl, rfl⟩ dX4_faultOf_93
    · replace hf := gifn h12 hf
      by_cases h17 : r7 = 3
      · replace hf := gif h17 hf
        refine g_tabK (k := 3) (tgt := 94) hC dX4_faultOf_28 h17 (by decide) (by decide) rfl rfl ?_
        refine lv_aload_n hx hb dX4_faultOf_94 rfl (lv_at hl 4 rfl) ?_
        refine lv_iload_n hx hb dX4_faultOf_95 rfl (lv_at hl 2 rfl) ?_
        refine lv_iload hx hb dX4_faultOf_96 (lv_at hl 1 rfl) ?_
        refine lv_iload hx hb dX4_faultOf_98 (lv_at hl 0 rfl) ?_
        obtain ⟨r18, hr19, hf⟩ := gbind hf
        have hr19 := C_X5_clearingFault l E x ho1 hr19
        refine g_callVi (rest := []) hC hI hr19 Y_X5_clearingFault V_X5_clearingFault w1033 (rcv_X5 hC hI ho1) ⟨rfl, rfl⟩ ⟨Nat.le_of_ble_eq_true rfl, Nat.le_of_ble_eq_true rfl⟩ rfl hl.1 rfl (Nat.le_of_ble_eq_true rfl) dX4_faultOf_100 ⟨Nat.le_of_ble_eq_true rfl, Nat.le_of_ble_eq_true rfl⟩ (fun H locs hI => ?_)
        exact kr _ _ _ _ _ _ (gri hf) hI ⟨.int, rfl, rfl⟩ dX4_faultOf_103
      · replace hf := gifn h17 hf
        by_cases h20 : r7 = 4
        · replace hf := gif h20 hf
          refine g_tabK (k := 4) (tgt := 104) hC dX4_faultOf_28 h20 (by decide) (by decide) rfl rfl ?_
          refine lv_aload_n hx hb dX4_faultOf_104 rfl (lv_at hl 4 rfl) ?_
          refine lv_iload_n hx hb dX4_faultOf_105 rfl (lv_at hl 2 rfl) ?_
          refine lv_iload hx hb dX4_faultOf_106 (lv_at hl 1 rfl) ?_
          refine lv_iload hx hb dX4_faultOf_108 (lv_at hl 0 rfl) ?_
          obtain ⟨r21, hr22, hf⟩ := gbind hf
          have hr22 := C_X5_movingFault l E x ho1 hr22
          refine g_callVi (rest := []) hC hI hr22 Y_X5_movingFault V_X5_movingFault w1034 (rcv_X5 hC hI ho1) ⟨rfl, rfl⟩ ⟨Nat.le_of_ble_eq_true rfl, Nat.le_of_ble_eq_true rfl⟩ rfl hl.1 rfl (Nat.le_of_ble_eq_true rfl) dX4_faultOf_110 ⟨Nat.le_of_ble_eq_true rfl, Nat.le_of_ble_eq_true rfl⟩ (fun H locs hI => ?_)
          exact kr _ _ _ _ _ _ (gri hf) hI ⟨.int, rfl, rfl⟩ dX4_faultOf_113
        · replace hf := gifn h20 hf
          by_cases h23 : r7 = 5
          · replace hf := gif h23 hf
            refine g_tabK (k := 5) (tgt := 114) hC dX4_faultOf_28 h23 (by decide) (by decide) rfl rfl ?_
            refine lv_aload_n hx hb dX4_faultOf_114 rfl (lv_at hl 4 rfl) ?_
            refine lv_iload_n hx hb dX4_faultOf_115 rfl (lv_at hl 2 rfl) ?_
            obtain ⟨r24, hr25, hf⟩ := gbind hf
            have hr25 := C_X5_deliveringFault l E x ho1 hr25
            refine g_callVi (rest := []) hC hI hr25 Y_X5_deliveringFault V_X5_deliveringFault w1035 (rcv_X5 hC hI ho1) ⟨rfl, rfl⟩ ⟨Nat.le_of_ble_eq_true rfl, Nat.le_of_ble_eq_true rfl⟩ rfl hl.1 rfl (Nat.le_of_ble_eq_true rfl) dX4_faultOf_116 ⟨Nat.le_of_ble_eq_true rfl, Nat.le_of_ble_eq_true rfl⟩ (fun H locs hI => ?_)
            exact kr _ _ _ _ _ _ (gri hf) hI ⟨.int, rfl, rfl⟩ dX4_faultOf_119
          · replace hf := gifn h23 hf
            by_cases h26 : r7 = 6
            · replace hf := gif h26 hf
              refine g_tabK (k := 6) (tgt := 120) hC dX4_faultOf_28 h26 (by decide) (by decide) rfl rfl ?_
              refine lv_aload_n hx hb dX4_faultOf_120 rfl (lv_at hl 4 rfl) ?_
              refine lv_iload_n hx hb dX4_faultOf_121 rfl (lv_at hl 2 rfl) ?_
              obtain ⟨r27, hr28, hf⟩ := gbind hf
              have hr28 := C_X5_leavingFault l E x ho1 hr28
              refine g_callVi (rest := []) hC hI hr28 Y_X5_leavingFault V_X5_leavingFault w1036 (rcv_X5 hC hI ho1) ⟨rfl, rfl⟩ ⟨Nat.le_of_ble_eq_true rfl, Nat.le_of_ble_eq_true rfl⟩ rfl hl.1 rfl (Nat.le_of_ble_eq_true rfl) dX4_faultOf_122 ⟨Nat.le_of_ble_eq_true rfl, Nat.le_of_ble_eq_true rfl⟩ (fun H locs hI => ?_)
              exact kr _ _ _ _ _ _ (gri hf) hI ⟨.int, rfl, rfl⟩ dX4_faultOf_125
            · replace hf := gifn h26 hf
              refine g_tabD (tgt := 126) [1, 2, 3, 4, 5, 6] hC dX4_faultOf_28 (List.forall_mem_cons.mpr ⟨h9, List.forall_mem_cons.mpr ⟨h12, List.forall_mem_cons.mpr ⟨h17, List.forall_mem_cons.mpr ⟨h20, List.forall_mem_cons.mpr ⟨h23, List.forall_mem_cons.mpr ⟨h26, fun _ h => absurd h List.not_mem_nil⟩⟩⟩⟩⟩⟩) (by decide) rfl ?_
              refine lv_iload_n hx hb dX4_faultOf_126 rfl (lv_at hl 2 rfl) ?_
              obtain ⟨r29, hr30, hf⟩ := gbind hf
              have hr30 := C_X6_passingFault l E x  hr30
              refine g_callSNi (rest := []) hC hI hr30 Y_X6_passingFault S_X6_passingFault (List.mem_of_getElem? (i := 11) rfl) ⟨rfl, rfl⟩ ⟨Nat.le_of_ble_eq_true rfl, Nat.le_of_ble_eq_true rfl⟩ rfl hl.1 rfl (Nat.le_of_ble_eq_true rfl) dX4_faultOf_127 ⟨Nat.le_of_ble_eq_true rfl, Nat.le_of_ble_eq_true rfl⟩ (fun H locs hI => ?_)
              exact kr _ _ _ _ _ _ (gri hf) hI ⟨.int, rfl, rfl⟩ dX4_faultOf_130
theorem dX4_carryOut_0 : decode cX4_carryOut 0 = .ok (.aload_n 0, 1) := by decide +kernel
theorem dX4_carryOut_1 : decode cX4_carryOut 1 = .ok (.iload_n 2, 1) := by decide +kernel
theorem dX4_carryOut_2 : decode cX4_carryOut 2 = .ok (.iconst 0, 1) := by decide +kernel
theorem dX4_carryOut_3 : decode cX4_carryOut 3 = .ok (.invokevirtual 37, 3) := by decide +kernel
theorem dX4_carryOut_6 : decode cX4_carryOut 6 = .ok (.istore_n 3, 1) := by decide +kernel
theorem dX4_carryOut_7 : decode cX4_carryOut 7 = .ok (.aload_n 0, 1) := by decide +kernel
theorem dX4_carryOut_8 : decode cX4_carryOut 8 = .ok (.iload_n 2, 1) := by decide +kernel
theorem dX4_carryOut_9 : decode cX4_carryOut 9 = .ok (.iconst 1, 1) := by decide +kernel
theorem dX4_carryOut_10 : decode cX4_carryOut 10 = .ok (.invokevirtual 37, 3) := by decide +kernel
theorem dX4_carryOut_13 : decode cX4_carryOut 13 = .ok (.istore 4, 2) := by decide +kernel
theorem dX4_carryOut_15 : decode cX4_carryOut 15 = .ok (.aload_n 0, 1) := by decide +kernel
theorem dX4_carryOut_16 : decode cX4_carryOut 16 = .ok (.iload_n 2, 1) := by decide +kernel
theorem dX4_carryOut_17 : decode cX4_carryOut 17 = .ok (.iconst 2, 1) := by decide +kernel
theorem dX4_carryOut_18 : decode cX4_carryOut 18 = .ok (.invokevirtual 37, 3) := by decide +kernel
theorem dX4_carryOut_21 : decode cX4_carryOut 21 = .ok (.istore 5, 2) := by decide +kernel
theorem dX4_carryOut_23 : decode cX4_carryOut 23 = .ok (.aload_n 0, 1) := by decide +kernel
theorem dX4_carryOut_24 : decode cX4_carryOut 24 = .ok (.iload_n 2, 1) := by decide +kernel
theorem dX4_carryOut_25 : decode cX4_carryOut 25 = .ok (.invokevirtual 41, 3) := by decide +kernel
theorem dX4_carryOut_28 : decode cX4_carryOut 28 = .ok (.tableswitch 113 1 6 #[40, 52, 71, 84, 97, 105], 40) := by decide +kernel
theorem dX4_carryOut_68 : decode cX4_carryOut 68 = .ok (.aload_n 1, 1) := by decide +kernel
theorem dX4_carryOut_69 : decode cX4_carryOut 69 = .ok (.iload_n 3, 1) := by decide +kernel
theorem dX4_carryOut_70 : decode cX4_carryOut 70 = .ok (.iload 4, 2) := by decide +kernel
theorem dX4_carryOut_72 : decode cX4_carryOut 72 = .ok (.iload 5, 2) := by decide +kernel
theorem dX4_carryOut_74 : decode cX4_carryOut 74 = .ok (.invokevirtual 70, 3) := by decide +kernel
theorem dX4_carryOut_77 : decode cX4_carryOut 77 = .ok (.goto 70, 3) := by decide +kernel
theorem dX4_carryOut_80 : decode cX4_carryOut 80 = .ok (.aload_n 1, 1) := by decide +kernel
theorem dX4_carryOut_81 : decode cX4_carryOut 81 = .ok (.iload_n 3, 1) := by decide +kernel
theorem dX4_carryOut_82 : decode cX4_carryOut 82 = .ok (.iload 4, 2) := by decide +kernel
theorem dX4_carryOut_84 : decode cX4_carryOut 84 = .ok (.iload 5, 2) := by decide +kernel
theorem dX4_carryOut_86 : decode cX4_carryOut 86 = .ok (.aload_n 0, 1) := by decide +kernel
theorem dX4_carryOut_87 : decode cX4_carryOut 87 = .ok (.iload_n 2, 1) := by decide +kernel
theorem dX4_carryOut_88 : decode cX4_carryOut 88 = .ok (.iconst 3, 1) := by decide +kernel
theorem dX4_carryOut_89 : decode cX4_carryOut 89 = .ok (.invokevirtual 37, 3) := by decide +kernel
theorem dX4_carryOut_92 : decode cX4_carryOut 92 = .ok (.invokevirtual 74, 3) := by decide +kernel
theorem dX4_carryOut_95 : decode cX4_carryOut 95 = .ok (.pop, 1) := by decide +kernel
theorem dX4_carryOut_96 : decode cX4_carryOut 96 = .ok (.goto 51, 3) := by decide +kernel
theorem dX4_carryOut_99 : decode cX4_carryOut 99 = .ok (.aload_n 1, 1) := by decide +kernel
theorem dX4_carryOut_100 : decode cX4_carryOut 100 = .ok (.iload_n 3, 1) := by decide +kernel
theorem dX4_carryOut_101 : decode cX4_carryOut 101 = .ok (.iload 4, 2) := by decide +kernel
theorem dX4_carryOut_103 : decode cX4_carryOut 103 = .ok (.iload 5, 2) := by decide +kernel
theorem dX4_carryOut_105 : decode cX4_carryOut 105 = .ok (.invokevirtual 77, 3) := by decide +kernel
theorem dX4_carryOut_108 : decode cX4_carryOut 108 = .ok (.pop, 1) := by decide +kernel
theorem dX4_carryOut_109 : decode cX4_carryOut 109 = .ok (.goto 38, 3) := by decide +kernel
theorem dX4_carryOut_112 : decode cX4_carryOut 112 = .ok (.aload_n 1, 1) := by decide +kernel
theorem dX4_carryOut_113 : decode cX4_carryOut 113 = .ok (.iload_n 3, 1) := by decide +kernel
theorem dX4_carryOut_114 : decode cX4_carryOut 114 = .ok (.iload 4, 2) := by decide +kernel
theorem dX4_carryOut_116 : decode cX4_carryOut 116 = .ok (.iload 5, 2) := by decide +kernel
theorem dX4_carryOut_118 : decode cX4_carryOut 118 = .ok (.invokevirtual 81, 3) := by decide +kernel
theorem dX4_carryOut_121 : decode cX4_carryOut 121 = .ok (.pop, 1) := by decide +kernel
theorem dX4_carryOut_122 : decode cX4_carryOut 122 = .ok (.goto 25, 3) := by decide +kernel
theorem dX4_carryOut_125 : decode cX4_carryOut 125 = .ok (.aload_n 1, 1) := by decide +kernel
theorem dX4_carryOut_126 : decode cX4_carryOut 126 = .ok (.iload_n 3, 1) := by decide +kernel
theorem dX4_carryOut_127 : decode cX4_carryOut 127 = .ok (.invokevirtual 84, 3) := by decide +kernel
theorem dX4_carryOut_130 : decode cX4_carryOut 130 = .ok (.goto 17, 3) := by decide +kernel
theorem dX4_carryOut_133 : decode cX4_carryOut 133 = .ok (.aload_n 1, 1) := by decide +kernel
theorem dX4_carryOut_134 : decode cX4_carryOut 134 = .ok (.iload_n 3, 1) := by decide +kernel
theorem dX4_carryOut_135 : decode cX4_carryOut 135 = .ok (.invokevirtual 88, 3) := by decide +kernel
theorem dX4_carryOut_138 : decode cX4_carryOut 138 = .ok (.goto 9, 3) := by decide +kernel
theorem dX4_carryOut_141 : decode cX4_carryOut 141 = .ok (.aload_n 1, 1) := by decide +kernel
theorem dX4_carryOut_142 : decode cX4_carryOut 142 = .ok (.iload_n 3, 1) := by decide +kernel
theorem dX4_carryOut_143 : decode cX4_carryOut 143 = .ok (.invokevirtual 91, 3) := by decide +kernel
theorem dX4_carryOut_146 : decode cX4_carryOut 146 = .ok (.pop, 1) := by decide +kernel
theorem dX4_carryOut_147 : decode cX4_carryOut 147 = .ok (.return_, 1) := by decide +kernel
set_option maxRecDepth 100000 in
set_option maxHeartbeats 4000000 in
theorem C_X4_carryOut (l : Launch) (E : gE) (x : gX) {o1 : Nat} (ho1 : gOk o1) {v2 : Int32} {M : gM} {M' : gM} (hf : f_X4_carryOut o1 v2 M = some M') : gM0 l E yX4_carryOut (.code yX4_carryOut cX4_carryOut 6 none) (gR 4 91) M x [.ref (E.2.1 135), .ref (E.2.1 o1), .int v2] none M' := by
  refine gMet (by decide +kernel) (Nat.le_of_ble_eq_true rfl) ?_
  intro p e s m args below meth c H locs ls Q hC hl hI kr kv
  replace hC : gC p s m args c cX4_carryOut 6 RX4 E := hC
  replace hl : lv_has ls 6 [(0, .ref (E.2.1 135)), (1, .ref (E.2.1 o1)), (2, .int v2)] := hl
  have hx := hC.1
  have hb := hC.2.1
  unfold f_X4_carryOut at hf
  refine lv_aload_n hx hb dX4_carryOut_0 rfl (lv_at hl 0 rfl) ?_
  refine lv_iload_n hx hb dX4_carryOut_1 rfl (lv_at hl 2 rfl) ?_
  refine lv_iconst (v := 0) hx hb dX4_carryOut_2 (by decide) ?_
  obtain ⟨r1, hr2, hf⟩ := gbind hf
  have hr2 := C_X4_given l E x  hr2
  refine g_callVi (rest := []) hC hI hr2 Y_X4_given V_X4_given w1020 (rcv_X4 hC hI) ⟨rfl, rfl⟩ ⟨Nat.le_of_ble_eq_true rfl, Nat.le_of_ble_eq_true rfl⟩ rfl hl.1 rfl (Nat.le_of_ble_eq_true rfl) dX4_carryOut_3 ⟨Nat.le_of_ble_eq_true rfl, Nat.le_of_ble_eq_true rfl⟩ (fun H locs hI => ?_)
  refine lv_istore_n (lv' := [(3, .int r1), (0, .ref (E.2.1 135)), (1, .ref (E.2.1 o1)), (2, .int v2)]) hx hb dX4_carryOut_6 rfl hl (by decide) rfl (fun ls hl => ?_)
  refine lv_aload_n hx hb dX4_carryOut_7 rfl (lv_at hl 1 rfl) ?_
  refine lv_iload_n hx hb dX4_carryOut_8 rfl (lv_at hl 3 rfl) ?_
  refine lv_iconst (v := 1) hx hb dX4_carryOut_9 (by decide) ?_
  obtain ⟨r3, hr4, hf⟩ := gbind hf
  have hr4 := C_X4_given l E x  hr4
  refine g_callVi (rest := []) hC hI hr4 Y_X4_given V_X4_given w1020 (rcv_X4 hC hI) ⟨rfl, rfl⟩ ⟨Nat.le_of_ble_eq_true rfl, Nat.le_of_ble_eq_true rfl⟩ rfl hl.1 rfl (Nat.le_of_ble_eq_true rfl) dX4_carryOut_10 ⟨Nat.le_of_ble_eq_true rfl, Nat.le_of_ble_eq_true rfl⟩ (fun H locs hI => ?_)
  refine lv_istore (lv' := [(4, .int r3), (3, .int r1), (0, .ref (E.2.1 135)), (1, .ref (E.2.1 o1)), (2, .int v2)]) hx hb dX4_carryOut_13 hl (by decide) rfl (fun ls hl => ?_)
  refine lv_aload_n hx hb dX4_carryOut_15 rfl (lv_at hl 2 rfl) ?_
  refine lv_iload_n hx hb dX4_carryOut_16 rfl (lv_at hl 4 rfl) ?_
  refine lv_iconst (v := 2) hx hb dX4_carryOut_17 (by decide) ?_
  obtain ⟨r5, hr6, hf⟩ := gbind hf
  have hr6 := C_X4_given l E x  hr6
  refine g_callVi (rest := []) hC hI hr6 Y_X4_given V_X4_given w1020 (rcv_X4 hC hI) ⟨rfl, rfl⟩ ⟨Nat.le_of_ble_eq_true rfl, Nat.le_of_ble_eq_true rfl⟩ rfl hl.1 rfl (Nat.le_of_ble_eq_true rfl) dX4_carryOut_18 ⟨Nat.le_of_ble_eq_true rfl, Nat.le_of_ble_eq_true rfl⟩ (fun H locs hI => ?_)
  refine lv_istore (lv' := [(5, .int r5), (4, .int r3), (3, .int r1), (0, .ref (E.2.1 135)), (1, .ref (E.2.1 o1)), (2, .int v2)]) hx hb dX4_carryOut_21 hl (by decide) rfl (fun ls hl => ?_)
  refine lv_aload_n hx hb dX4_carryOut_23 rfl (lv_at hl 3 rfl) ?_
  refine lv_iload_n hx hb dX4_carryOut_24 rfl (lv_at hl 5 rfl) ?_
  obtain ⟨r7, hr8, hf⟩ := gbind hf
  have hr8 := C_X4_kind l E x  hr8
  refine g_callVi (rest := []) hC hI hr8 Y_X4_kind V_X4_kind w1024 (rcv_X4 hC hI) ⟨rfl, rfl⟩ ⟨Nat.le_of_ble_eq_true rfl, Nat.le_of_ble_eq_true rfl⟩ rfl hl.1 rfl (Nat.le_of_ble_eq_true rfl) dX4_carryOut_25 ⟨Nat.le_of_ble_eq_true rfl, Nat.le_of_ble_eq_true rfl⟩ (fun H locs hI => ?_)
  by_cases h9 : r7 = 1
  · replace hf := gif h9 hf
    refine g_tabK (k := 1) (tgt := 68) hC dX4_carryOut_28 h9 (by decide) (by decide) rfl rfl ?_
    refine lv_aload_n hx hb dX4_carryOut_68 rfl (lv_at hl 4 rfl) ?_
    refine lv_iload_n hx hb dX4_carryOut_69 rfl (lv_at hl 2 rfl) ?_
    refine lv_iload hx hb dX4_carryOut_70 (lv_at hl 1 rfl) ?_
    refine lv_iload hx hb dX4_carryOut_72 (lv_at hl 0 rfl) ?_
    obtain ⟨r10, hr11, hf⟩ := gbind hf
    have hr11 := C_X5_putShip l E x ho1 hr11
    refine g_callVv (rest := []) hC hI hr11 Y_X5_putShip V_X5_putShip w1042 (rcv_X5 hC hI ho1) ⟨rfl, rfl⟩ ⟨Nat.le_of_ble_eq_true rfl, Nat.le_of_ble_eq_true rfl⟩ rfl hl.1 rfl (Nat.le_of_ble_eq_true rfl) dX4_carryOut_74 ⟨Nat.le_of_ble_eq_true rfl, Nat.le_of_ble_eq_true rfl⟩ (fun H locs hI => ?_)
    refine lv_goto (tgt := 147) hx hb dX4_carryOut_77 rfl ?_
    exact kv _ _ _ _ _ (grv hf) hI rfl dX4_carryOut_147
  · replace hf := gifn h9 hf
    by_cases h12 : r7 = 2
    · replace hf := gif h12 hf
      refine g_tabK (k := 2) (tgt := 80) hC dX4_carryOut_28 h12 (by decide) (by decide) rfl rfl ?_
      refine lv_aload_n hx hb dX4_carryOut_80 rfl (lv_at hl 4 rfl) ?_
      refine lv_iload_n hx hb dX4_carryOut_81 rfl (lv_at hl 2 rfl) ?_
      refine lv_iload hx hb dX4_carryOut_82 (lv_at hl 1 rfl) ?_
      refine lv_iload hx hb dX4_carryOut_84 (lv_at hl 0 rfl) ?_
      refine lv_aload_n hx hb dX4_carryOut_86 rfl (lv_at hl 3 rfl) ?_
      refine lv_iload_n hx hb dX4_carryOut_87 rfl (lv_at hl 5 rfl) ?_
      refine lv_iconst (v := 3) hx hb dX4_carryOut_88 (by decide) ?_
      obtain ⟨r13, hr14, hf⟩ := gbind hf
      have hr14 := C_X4_given l E x  hr14
      refine g_callVi (rest := [.int r5, .int r3, .int r1, .ref (E.2.1 o1)]) hC hI hr14 Y_X4_given V_X4_given w1020 (rcv_X4 hC hI) ⟨rfl, rfl⟩ ⟨Nat.le_of_ble_eq_true rfl, Nat.le_of_ble_eq_true rfl⟩ rfl hl.1 rfl (Nat.le_of_ble_eq_true rfl) dX4_carryOut_89 ⟨Nat.le_of_ble_eq_true rfl, Nat.le_of_ble_eq_true rfl⟩ (fun H locs hI => ?_)
      obtain ⟨r15, hr16, hf⟩ := gbind hf
      have hr16 := C_X5_putContainer l E x ho1 hr16
      refine g_callVi (rest := []) hC hI hr16 Y_X5_putContainer V_X5_putContainer w1046 (rcv_X5 hC hI ho1) ⟨rfl, rfl⟩ ⟨Nat.le_of_ble_eq_true rfl, Nat.le_of_ble_eq_true rfl⟩ rfl hl.1 rfl (Nat.le_of_ble_eq_true rfl) dX4_carryOut_92 ⟨Nat.le_of_ble_eq_true rfl, Nat.le_of_ble_eq_true rfl⟩ (fun H locs hI => ?_)
      refine lv_pop hx hb dX4_carryOut_95 rfl ?_
      refine lv_goto (tgt := 147) hx hb dX4_carryOut_96 rfl ?_
      exact kv _ _ _ _ _ (grv hf) hI rfl dX4_carryOut_147
    · replace hf := gifn h12 hf
      by_cases h17 : r7 = 3
      · replace hf := gif h17 hf
        refine g_tabK (k := 3) (tgt := 99) hC dX4_carryOut_28 h17 (by decide) (by decide) rfl rfl ?_
        refine lv_aload_n hx hb dX4_carryOut_99 rfl (lv_at hl 4 rfl) ?_
        refine lv_iload_n hx hb dX4_carryOut_100 rfl (lv_at hl 2 rfl) ?_
        refine lv_iload hx hb dX4_carryOut_101 (lv_at hl 1 rfl) ?_
        refine lv_iload hx hb dX4_carryOut_103 (lv_at hl 0 rfl) ?_
        obtain ⟨r18, hr19, hf⟩ := gbind hf
        have hr19 := C_X5_tryAnswer l E x ho1 hr19
        refine g_callVi (rest := []) hC hI hr19 Y_X5_tryAnswer V_X5_tryAnswer w1047 (rcv_X5 hC hI ho1) ⟨rfl, rfl⟩ ⟨Nat.le_of_ble_eq_true rfl, Nat.le_of_ble_eq_true rfl⟩ rfl hl.1 rfl (Nat.le_of_ble_eq_true rfl) dX4_carryOut_105 ⟨Nat.le_of_ble_eq_true rfl, Nat.le_of_ble_eq_true rfl⟩ (fun H locs hI => ?_)
        refine lv_pop hx hb dX4_carryOut_108 rfl ?_
        refine lv_goto (tgt := 147) hx hb dX4_carryOut_109 rfl ?_
        exact kv _ _ _ _ _ (grv hf) hI rfl dX4_carryOut_147
      · replace hf := gifn h17 hf
        by_cases h20 : r7 = 4
        · replace hf := gif h20 hf
          refine g_tabK (k := 4) (tgt := 112) hC dX4_carryOut_28 h20 (by decide) (by decide) rfl rfl ?_
          refine lv_aload_n hx hb dX4_carryOut_112 rfl (lv_at hl 4 rfl) ?_
          refine lv_iload_n hx hb dX4_carryOut_113 rfl (lv_at hl 2 rfl) ?_
          refine lv_iload hx hb dX4_carryOut_114 (lv_at hl 1 rfl) ?_
          refine lv_iload hx hb dX4_carryOut_116 (lv_at hl 0 rfl) ?_
          obtain ⟨r21, hr22, hf⟩ := gbind hf
          have hr22 := C_X5_shiftTop l E x ho1 hr22
          refine g_callVi (rest := []) hC hI hr22 Y_X5_shiftTop V_X5_shiftTop w1048 (rcv_X5 hC hI ho1) ⟨rfl, rfl⟩ ⟨Nat.le_of_ble_eq_true rfl, Nat.le_of_ble_eq_true rfl⟩ rfl hl.1 rfl (Nat.le_of_ble_eq_true rfl) dX4_carryOut_118 ⟨Nat.le_of_ble_eq_true rfl, Nat.le_of_ble_eq_true rfl⟩ (fun H locs hI => ?_)
          refine lv_pop hx hb dX4_carryOut_121 rfl ?_
          refine lv_goto (tgt := 147) hx hb dX4_carryOut_122 rfl ?_
          exact kv _ _ _ _ _ (grv hf) hI rfl dX4_carryOut_147
        · replace hf := gifn h20 hf
          by_cases h23 : r7 = 5
          · replace hf := gif h23 hf
            refine g_tabK (k := 5) (tgt := 125) hC dX4_carryOut_28 h23 (by decide) (by decide) rfl rfl ?_
            refine lv_aload_n hx hb dX4_carryOut_125 rfl (lv_at hl 4 rfl) ?_
            refine lv_iload_n hx hb dX4_carryOut_126 rfl (lv_at hl 2 rfl) ?_
            obtain ⟨r24, hr25, hf⟩ := gbind hf
            have hr25 := C_X5_handOver l E x ho1 hr25
            refine g_callVv (rest := []) hC hI hr25 Y_X5_handOver V_X5_handOver w1049 (rcv_X5 hC hI ho1) ⟨rfl, rfl⟩ ⟨Nat.le_of_ble_eq_true rfl, Nat.le_of_ble_eq_true rfl⟩ rfl hl.1 rfl (Nat.le_of_ble_eq_true rfl) dX4_carryOut_127 ⟨Nat.le_of_ble_eq_true rfl, Nat.le_of_ble_eq_true rfl⟩ (fun H locs hI => ?_)
            refine lv_goto (tgt := 147) hx hb dX4_carryOut_130 rfl ?_
            exact kv _ _ _ _ _ (grv hf) hI rfl dX4_carryOut_147
          · replace hf := gifn h23 hf
            by_cases h26 : r7 = 6
            · replace hf := gif h26 hf
              refine g_tabK (k := 6) (tgt := 133) hC dX4_carryOut_28 h26 (by decide) (by decide) rfl rfl ?_
              refine lv_aload_n hx hb dX4_carryOut_133 rfl (lv_at hl 4 rfl) ?_
              refine lv_iload_n hx hb dX4_carryOut_134 rfl (lv_at hl 2 rfl) ?_
              obtain ⟨r27, hr28, hf⟩ := gbind hf
              have hr28 := C_X5_takeShip l E x ho1 hr28
              refine g_callVv (rest := []) hC hI hr28 Y_X5_takeShip V_X5_takeShip w1050 (rcv_X5 hC hI ho1) ⟨rfl, rfl⟩ ⟨Nat.le_of_ble_eq_true rfl, Nat.le_of_ble_eq_true rfl⟩ rfl hl.1 rfl (Nat.le_of_ble_eq_true rfl) dX4_carryOut_135 ⟨Nat.le_of_ble_eq_true rfl, Nat.le_of_ble_eq_true rfl⟩ (fun H locs hI => ?_)
              refine lv_goto (tgt := 147) hx hb dX4_carryOut_138 rfl ?_
              exact kv _ _ _ _ _ (grv hf) hI rfl dX4_carryOut_147
            · replace hf := gifn h26 hf
              refine g_tabD (tgt := 141) [1, 2, 3, 4, 5, 6] hC dX4_carryOut_28 (List.forall_mem_cons.mpr ⟨h9, List.forall_mem_cons.mpr ⟨h12, List.forall_mem_cons.mpr ⟨h17, List.forall_mem_cons.mpr ⟨h20, List.forall_mem_cons.mpr ⟨h23, List.forall_mem_cons.mpr ⟨h26, fun _ h => absurd h List.not_mem_nil⟩⟩⟩⟩⟩⟩) (by decide) rfl ?_
              refine lv_aload_n hx hb dX4_carryOut_141 rfl (lv_at hl 4 rfl) ?_
              refine lv_iload_n hx hb dX4_carryOut_142 rfl (lv_at hl 2 rfl) ?_
              obtain ⟨r29, hr30, hf⟩ := gbind hf
              have hr30 := C_X5_letHoursPass l E x ho1 hr30
              refine g_callVi (rest := []) hC hI hr30 Y_X5_letHoursPass V_X5_letHoursPass w1051 (rcv_X5 hC hI ho1) ⟨rfl, rfl⟩ ⟨Nat.le_of_ble_eq_true rfl, Nat.le_of_ble_eq_true rfl⟩ rfl hl.1 rfl (Nat.le_of_ble_eq_true rfl) dX4_carryOut_143 ⟨Nat.le_of_ble_eq_true rfl, Nat.le_of_ble_eq_true rfl⟩ (fun H locs hI => ?_)
              refine lv_pop hx hb dX4_carryOut_146 rfl ?_
              exact kv _ _ _ _ _ (grv hf) hI rfl dX4_carryOut_147
theorem dX4_firstFailureOn_0 : decode cX4_firstFailureOn 0 = .ok (.iconst 0, 1) := by decide +kernel
theorem dX4_firstFailureOn_1 : decode cX4_firstFailureOn 1 = .ok (.istore_n 2, 1) := by decide +kernel
theorem dX4_firstFailureOn_2 : decode cX4_firstFailureOn 2 = .ok (.iload_n 2, 1) := by decide +kernel
theorem dX4_firstFailureOn_3 : decode cX4_firstFailureOn 3 = .ok (.aload_n 0, 1) := by decide +kernel
theorem dX4_firstFailureOn_4 : decode cX4_firstFailureOn 4 = .ok (.getfield 18, 3) := by decide +kernel
theorem dX4_firstFailureOn_7 : decode cX4_firstFailureOn 7 = .ok (.if_icmp .ge 26, 3) := by decide +kernel
theorem dX4_firstFailureOn_10 : decode cX4_firstFailureOn 10 = .ok (.aload_n 0, 1) := by decide +kernel
theorem dX4_firstFailureOn_11 : decode cX4_firstFailureOn 11 = .ok (.aload_n 1, 1) := by decide +kernel
theorem dX4_firstFailureOn_12 : decode cX4_firstFailureOn 12 = .ok (.iload_n 2, 1) := by decide +kernel
theorem dX4_firstFailureOn_13 : decode cX4_firstFailureOn 13 = .ok (.invokevirtual 29, 3) := by decide +kernel
theorem dX4_firstFailureOn_16 : decode cX4_firstFailureOn 16 = .ok (.ifCond .eq 5, 3) := by decide +kernel
theorem dX4_firstFailureOn_19 : decode cX4_firstFailureOn 19 = .ok (.iload_n 2, 1) := by decide +kernel
theorem dX4_firstFailureOn_20 : decode cX4_firstFailureOn 20 = .ok (.ireturn, 1) := by decide +kernel
theorem dX4_firstFailureOn_21 : decode cX4_firstFailureOn 21 = .ok (.aload_n 0, 1) := by decide +kernel
theorem dX4_firstFailureOn_22 : decode cX4_firstFailureOn 22 = .ok (.aload_n 1, 1) := by decide +kernel
theorem dX4_firstFailureOn_23 : decode cX4_firstFailureOn 23 = .ok (.iload_n 2, 1) := by decide +kernel
theorem dX4_firstFailureOn_24 : decode cX4_firstFailureOn 24 = .ok (.invokevirtual 33, 3) := by decide +kernel
theorem dX4_firstFailureOn_27 : decode cX4_firstFailureOn 27 = .ok (.iinc 2 1, 3) := by decide +kernel
theorem dX4_firstFailureOn_30 : decode cX4_firstFailureOn 30 = .ok (.goto (-28), 3) := by decide +kernel
theorem dX4_firstFailureOn_33 : decode cX4_firstFailureOn 33 = .ok (.iconst (-1), 1) := by decide +kernel
theorem dX4_firstFailureOn_34 : decode cX4_firstFailureOn 34 = .ok (.ireturn, 1) := by decide +kernel
set_option maxRecDepth 100000 in
set_option maxHeartbeats 4000000 in
theorem C_X4_firstFailureOn (l : Launch) (E : gE) (x : gX) {o1 : Nat} (ho1 : gOk o1) {M : gM} {r : Int32} {M' : gM} (hf : f_X4_firstFailureOn o1 M = some (r, M')) : gM0 l E yX4_firstFailureOn (.code yX4_firstFailureOn cX4_firstFailureOn 3 (some .int)) (gR 5 116) M x [.ref (E.2.1 135), .ref (E.2.1 o1)] (some (.int r)) M' := by
  refine gMet (by decide +kernel) (Nat.le_of_ble_eq_true rfl) ?_
  intro p e s m args below meth c H locs ls Q hC hl hI kr kv
  replace hC : gC p s m args c cX4_firstFailureOn 3 RX4 E := hC
  replace hl : lv_has ls 3 [(0, .ref (E.2.1 135)), (1, .ref (E.2.1 o1))] := hl
  have hx := hC.1
  have hb := hC.2.1
  have L2 : ∀ (n : Nat) (v2 : Int32) (M : gM), f_X4_firstFailureOn_L2 o1 n v2 M = some (r, M') → ∀ (H : Heap) (locs : List Loc) (ls : Array Slot), gI E s M x H locs → lv_has ls 3 [(2, .int v2), (0, .ref (E.2.1 135)), (1, .ref (E.2.1 o1))] → W p l e (gR 5 116) s m args below meth c H locs 0 0 Q (F0 m 2 ls []) := by
    intro  n
    induction n with
    | zero => intro v2 M hf; rw [f_X4_firstFailureOn_L2] at hf; cases hf
    | succ n ih =>
      intro v2 M hf H locs ls hI hl
      rw [f_X4_firstFailureOn_L2] at hf
      refine lv_iload_n hx hb dX4_firstFailureOn_2 rfl (lv_at hl 0 rfl) ?_
      refine lv_aload_n hx hb dX4_firstFailureOn_3 rfl (lv_at hl 1 rfl) ?_
      refine gt_X4_X4_count hC hI dX4_firstFailureOn_4 ?_
      refine lv_icmp_ge (tgt := 33) hx hb dX4_firstFailureOn_7 rfl (fun h1 => ?_) (fun h1 => ?_)
      · replace hf := gif h1 hf
        refine lv_iconst (v := (-1)) hx hb dX4_firstFailureOn_33 (by decide) ?_
        exact kr _ _ _ _ _ _ (grw hf) hI ⟨.int, rfl, rfl⟩ dX4_firstFailureOn_34
      · replace hf := gifn h1 hf
        refine lv_aload_n hx hb dX4_firstFailureOn_10 rfl (lv_at hl 1 rfl) ?_
        refine lv_aload_n hx hb dX4_firstFailureOn_11 rfl (lv_at hl 2 rfl) ?_
        refine lv_iload_n hx hb dX4_firstFailureOn_12 rfl (lv_at hl 0 rfl) ?_
        obtain ⟨r2, hr3, hf⟩ := gbind hf
        have hr3 := C_X4_faultOf l E x ho1 hr3
        refine g_callVi (rest := []) hC hI hr3 Y_X4_faultOf V_X4_faultOf w1016 (rcv_X4 hC hI) ⟨rfl, rfl⟩ ⟨Nat.le_of_ble_eq_true rfl, Nat.le_of_ble_eq_true rfl⟩ rfl hl.1 rfl (Nat.le_of_ble_eq_true rfl) dX4_firstFailureOn_13 ⟨Nat.le_of_ble_eq_true rfl, Nat.le_of_ble_eq_true rfl⟩ (fun H locs hI => ?_)
        refine lv_if_eq (tgt := 21) hx hb dX4_firstFailureOn_16 rfl (fun h4 => ?_) (fun h4 => ?_)
        · replace hf := gif h4 hf
          refine lv_aload_n hx hb dX4_firstFailureOn_21 rfl (lv_at hl 1 rfl) ?_
          refine lv_aload_n hx hb dX4_firstFailureOn_22 rfl (lv_at hl 2 rfl) ?_
          refine lv_iload_n hx hb dX4_firstFailureOn_23 rfl (lv_at hl 0 rfl) ?_
          obtain ⟨r5, hr6, hf⟩ := gbind hf
          have hr6 := C_X4_carryOut l E x ho1 hr6
          refine g_callVv (rest := []) hC hI hr6 Y_X4_carryOut V_X4_carryOut w1038 (rcv_X4 hC hI) ⟨rfl, rfl⟩ ⟨Nat.le_of_ble_eq_true rfl, Nat.le_of_ble_eq_true rfl⟩ rfl hl.1 rfl (Nat.le_of_ble_eq_true rfl) dX4_firstFailureOn_24 ⟨Nat.le_of_ble_eq_true rfl, Nat.le_of_ble_eq_true rfl⟩ (fun H locs hI => ?_)
          refine lv_iinc (k := 0) (v := v2 + 1) (lv' := [(2, .int (v2 + 1)), (0, .ref (E.2.1 135)), (1, .ref (E.2.1 o1))]) hx hb dX4_firstFailureOn_27 hl rfl rfl (by decide) rfl (fun ls hl => ?_)
          refine lv_goto (tgt := 2) hx hb dX4_firstFailureOn_30 rfl ?_
          exact ih (v2 + 1) r5 hf _ _ _ hI (lv_sub hl [0, 1, 2] rfl)
        · replace hf := gifn h4 hf
          refine lv_iload_n hx hb dX4_firstFailureOn_19 rfl (lv_at hl 0 rfl) ?_
          exact kr _ _ _ _ _ _ (grw hf) hI ⟨.int, rfl, rfl⟩ dX4_firstFailureOn_20
  unfold f_X4_firstFailureOn at hf
  refine lv_iconst (v := 0) hx hb dX4_firstFailureOn_0 (by decide) ?_
  refine lv_istore_n (lv' := [(2, .int 0), (0, .ref (E.2.1 135)), (1, .ref (E.2.1 o1))]) hx hb dX4_firstFailureOn_1 rfl hl (by decide) rfl (fun ls hl => ?_)
  exact L2 gF 0 M hf _ _ _ hI (lv_sub hl [0, 1, 2] rfl)
theorem dX6_run_0 : decode cX6_run 0 = .ok (.aload_n 0, 1) := by decide +kernel
theorem dX6_run_1 : decode cX6_run 1 = .ok (.getfield 43, 3) := by decide +kernel
theorem dX6_run_4 : decode cX6_run 4 = .ok (.aload_n 0, 1) := by decide +kernel
theorem dX6_run_5 : decode cX6_run 5 = .ok (.getfield 36, 3) := by decide +kernel
theorem dX6_run_8 : decode cX6_run 8 = .ok (.invokevirtual 329, 3) := by decide +kernel
theorem dX6_run_11 : decode cX6_run 11 = .ok (.istore_n 1, 1) := by decide +kernel
theorem dX6_run_12 : decode cX6_run 12 = .ok (.aload_n 0, 1) := by decide +kernel
theorem dX6_run_13 : decode cX6_run 13 = .ok (.getfield 43, 3) := by decide +kernel
theorem dX6_run_16 : decode cX6_run 16 = .ok (.iconst 0, 1) := by decide +kernel
theorem dX6_run_17 : decode cX6_run 17 = .ok (.putfield 319, 3) := by decide +kernel
theorem dX6_run_20 : decode cX6_run 20 = .ok (.iload_n 1, 1) := by decide +kernel
theorem dX6_run_21 : decode cX6_run 21 = .ok (.ifCond .ne 25, 3) := by decide +kernel
theorem dX6_run_24 : decode cX6_run 24 = .ok (.aload_n 0, 1) := by decide +kernel
theorem dX6_run_25 : decode cX6_run 25 = .ok (.aload_n 0, 1) := by decide +kernel
theorem dX6_run_26 : decode cX6_run 26 = .ok (.getfield 43, 3) := by decide +kernel
theorem dX6_run_29 : decode cX6_run 29 = .ok (.getfield 333, 3) := by decide +kernel
theorem dX6_run_32 : decode cX6_run 32 = .ok (.putfield 54, 3) := by decide +kernel
theorem dX6_run_35 : decode cX6_run 35 = .ok (.new 314, 3) := by decide +kernel
theorem dX6_run_38 : decode cX6_run 38 = .ok (.dup, 1) := by decide +kernel
theorem dX6_run_39 : decode cX6_run 39 = .ok (.ldc_w 336, 3) := by decide +kernel
theorem dX6_run_42 : decode cX6_run 42 = .ok (.invokespecial 318, 3) := by decide +kernel
theorem dX6_run_45 : decode cX6_run 45 = .ok (.athrow, 1) := by decide +kernel
theorem dX6_run_46 : decode cX6_run 46 = .ok (.aload_n 0, 1) := by decide +kernel
theorem dX6_run_47 : decode cX6_run 47 = .ok (.getfield 16, 3) := by decide +kernel
theorem dX6_run_50 : decode cX6_run 50 = .ok (.aload_n 0, 1) := by decide +kernel
theorem dX6_run_51 : decode cX6_run 51 = .ok (.getfield 10, 3) := by decide +kernel
theorem dX6_run_54 : decode cX6_run 54 = .ok (.invokevirtual 258, 3) := by decide +kernel
theorem dX6_run_57 : decode cX6_run 57 = .ok (.aload_n 0, 1) := by decide +kernel
theorem dX6_run_58 : decode cX6_run 58 = .ok (.getfield 36, 3) := by decide +kernel
theorem dX6_run_61 : decode cX6_run 61 = .ok (.aload_n 0, 1) := by decide +kernel
theorem dX6_run_62 : decode cX6_run 62 = .ok (.getfield 16, 3) := by decide +kernel
theorem dX6_run_65 : decode cX6_run 65 = .ok (.invokevirtual 338, 3) := by decide +kernel
theorem dX6_run_68 : decode cX6_run 68 = .ok (.istore_n 2, 1) := by decide +kernel
theorem dX6_run_69 : decode cX6_run 69 = .ok (.iload_n 2, 1) := by decide +kernel
theorem dX6_run_70 : decode cX6_run 70 = .ok (.iconst (-1), 1) := by decide +kernel
theorem dX6_run_71 : decode cX6_run 71 = .ok (.if_icmp .eq 19, 3) := by decide +kernel
theorem dX6_run_74 : decode cX6_run 74 = .ok (.aload_n 0, 1) := by decide +kernel
theorem dX6_run_75 : decode cX6_run 75 = .ok (.iload_n 2, 1) := by decide +kernel
theorem dX6_run_76 : decode cX6_run 76 = .ok (.putfield 58, 3) := by decide +kernel
theorem dX6_run_79 : decode cX6_run 79 = .ok (.new 320, 3) := by decide +kernel
theorem dX6_run_82 : decode cX6_run 82 = .ok (.dup, 1) := by decide +kernel
theorem dX6_run_83 : decode cX6_run 83 = .ok (.ldc_w 342, 3) := by decide +kernel
theorem dX6_run_86 : decode cX6_run 86 = .ok (.invokespecial 324, 3) := by decide +kernel
theorem dX6_run_89 : decode cX6_run 89 = .ok (.athrow, 1) := by decide +kernel
theorem dX6_run_90 : decode cX6_run 90 = .ok (.aload_n 0, 1) := by decide +kernel
theorem dX6_run_91 : decode cX6_run 91 = .ok (.getfield 29, 3) := by decide +kernel
theorem dX6_run_94 : decode cX6_run 94 = .ok (.aload_n 0, 1) := by decide +kernel
theorem dX6_run_95 : decode cX6_run 95 = .ok (.getfield 10, 3) := by decide +kernel
theorem dX6_run_98 : decode cX6_run 98 = .ok (.invokevirtual 69, 3) := by decide +kernel
theorem dX6_run_101 : decode cX6_run 101 = .ok (.aload_n 0, 1) := by decide +kernel
theorem dX6_run_102 : decode cX6_run 102 = .ok (.getfield 10, 3) := by decide +kernel
theorem dX6_run_105 : decode cX6_run 105 = .ok (.aload_n 0, 1) := by decide +kernel
theorem dX6_run_106 : decode cX6_run 106 = .ok (.getfield 16, 3) := by decide +kernel
theorem dX6_run_109 : decode cX6_run 109 = .ok (.invokevirtual 258, 3) := by decide +kernel
theorem dX6_run_112 : decode cX6_run 112 = .ok (.aload_n 0, 1) := by decide +kernel
theorem dX6_run_113 : decode cX6_run 113 = .ok (.getfield 36, 3) := by decide +kernel
theorem dX6_run_116 : decode cX6_run 116 = .ok (.getfield 344, 3) := by decide +kernel
theorem dX6_run_119 : decode cX6_run 119 = .ok (.ireturn, 1) := by decide +kernel
set_option maxRecDepth 100000 in
set_option maxHeartbeats 4000000 in
theorem C_X6_run (l : Launch) (hst : l.stackTraces = false) (E : gE) (x : gX) {M : gM} {oc : String ⊕ Int32} {M' : gM} (hf : f_X6_run M = some (oc, M')) : gX0 l E yX6_run (.code yX6_run cX6_run 3 (some .int)) (gRX 10 227 1 6) M x [.ref (E.2.1 132)] (gO oc) M' 1 6 := by
  refine gMetX hst (by decide +kernel) (Nat.le_of_ble_eq_true rfl) ?_
  intro p e s m args below meth c H locs ls Q hC hl hI kr kv kx kt kd kf
  replace hC : gC p s m args c cX6_run 3 RX6 E := hC
  replace hl : lv_has ls 3 [(0, .ref (E.2.1 132))] := hl
  have hx := hC.1
  have hb := hC.2.1
  unfold f_X6_run at hf
  refine lv_aload_n hx hb dX6_run_0 rfl (lv_at hl 0 rfl) ?_
  refine gt_X6_X6_input hC hI dX6_run_1 ?_
  refine lv_aload_n hx hb dX6_run_4 rfl (lv_at hl 0 rfl) ?_
  refine gt_X6_X6_program hC hI dX6_run_5 ?_
  obtain ⟨r1, hr2, hf⟩ := gbind hf
  have hr2 := C_X2_readInto l E x  hr2
  refine g_callVi (rest := []) hC hI hr2 Y_X2_readInto V_X2_readInto w894 (rcv_X2 hC hI) ⟨rfl, rfl⟩ ⟨Nat.le_of_ble_eq_true rfl, Nat.le_of_ble_eq_true rfl⟩ rfl hl.1 rfl (Nat.le_of_ble_eq_true rfl) dX6_run_8 ⟨Nat.le_of_ble_eq_true rfl, Nat.le_of_ble_eq_true rfl⟩ (fun H locs hI => ?_)
  refine lv_istore_n (lv' := [(1, .int (gb r1.1)), (0, .ref (E.2.1 132))]) hx hb dX6_run_11 rfl hl (by decide) rfl (fun ls hl => ?_)
  refine lv_aload_n hx hb dX6_run_12 rfl (lv_at hl 1 rfl) ?_
  refine gt_X6_X6_input hC hI dX6_run_13 ?_
  refine lv_iconst (v := 0) hx hb dX6_run_16 (by decide) ?_
  obtain ⟨M3, eM3, hf⟩ := glet hf
  refine pt_X6_X2_length hC hI dX6_run_17 (fun H locs hI => ?_)
  replace hI := g_mem eM3 hI
  refine lv_iload_n hx hb dX6_run_20 rfl (lv_at hl 0 rfl) ?_
  refine lv_if_ne (tgt := 46) hx hb dX6_run_21 rfl (fun h4 => ?_) (fun h4 => ?_)
  · replace hf := gifn h4 hf
    refine lv_aload_n hx hb dX6_run_46 rfl (lv_at hl 1 rfl) ?_
    refine gt_X6_X6_trial hC hI dX6_run_47 ?_
    refine lv_aload_n hx hb dX6_run_50 rfl (lv_at hl 1 rfl) ?_
    refine gt_X6_X6_now hC hI dX6_run_51 ?_
    obtain ⟨r5, hr6, hf⟩ := gbind hf
    have hr6 := C_X5_copyFrom l E x gOk_12 gOk_0 hr6
    refine g_callVv (rest := []) hC hI hr6 Y_X5_copyFrom V_X5_copyFrom w791 (rcv_X5 hC hI gOk_12) ⟨rfl, rfl⟩ ⟨Nat.le_of_ble_eq_true rfl, Nat.le_of_ble_eq_true rfl⟩ rfl hl.1 rfl (Nat.le_of_ble_eq_true rfl) dX6_run_54 ⟨Nat.le_of_ble_eq_true rfl, Nat.le_of_ble_eq_true rfl⟩ (fun H locs hI => ?_)
    refine lv_aload_n hx hb dX6_run_57 rfl (lv_at hl 1 rfl) ?_
    refine gt_X6_X6_program hC hI dX6_run_58 ?_
    refine lv_aload_n hx hb dX6_run_61 rfl (lv_at hl 1 rfl) ?_
    refine gt_X6_X6_trial hC hI dX6_run_62 ?_
    obtain ⟨r7, hr8, hf⟩ := gbind hf
    have hr8 := C_X4_firstFailureOn l E x gOk_12 hr8
    refine g_callVi (rest := []) hC hI hr8 Y_X4_firstFailureOn V_X4_firstFailureOn w1012 (rcv_X4 hC hI) ⟨rfl, rfl⟩ ⟨Nat.le_of_ble_eq_true rfl, Nat.le_of_ble_eq_true rfl⟩ rfl hl.1 rfl (Nat.le_of_ble_eq_true rfl) dX6_run_65 ⟨Nat.le_of_ble_eq_true rfl, Nat.le_of_ble_eq_true rfl⟩ (fun H locs hI => ?_)
    refine lv_istore_n (lv' := [(2, .int r7.1), (1, .int (gb r1.1)), (0, .ref (E.2.1 132))]) hx hb dX6_run_68 rfl hl (by decide) rfl (fun ls hl => ?_)
    refine lv_iload_n hx hb dX6_run_69 rfl (lv_at hl 0 rfl) ?_
    refine lv_iconst (v := (-1)) hx hb dX6_run_70 (by decide) ?_
    refine lv_icmp_eq (tgt := 90) hx hb dX6_run_71 rfl (fun h9 => ?_) (fun h9 => ?_)
    · replace hf := gif h9 hf
      refine lv_aload_n hx hb dX6_run_90 rfl (lv_at hl 2 rfl) ?_
      refine gt_X6_X6_history hC hI dX6_run_91 ?_
      refine lv_aload_n hx hb dX6_run_94 rfl (lv_at hl 2 rfl) ?_
      refine gt_X6_X6_now hC hI dX6_run_95 ?_
      obtain ⟨r10, hr11, hf⟩ := gbind hf
      have hr11 := C_X1_push l E x gOk_0 hr11
      refine g_callVv (rest := []) hC hI hr11 Y_X1_push V_X1_push w377 (rcv_X1 hC hI) ⟨rfl, rfl⟩ ⟨Nat.le_of_ble_eq_true rfl, Nat.le_of_ble_eq_true rfl⟩ rfl hl.1 rfl (Nat.le_of_ble_eq_true rfl) dX6_run_98 ⟨Nat.le_of_ble_eq_true rfl, Nat.le_of_ble_eq_true rfl⟩ (fun H locs hI => ?_)
      refine lv_aload_n hx hb dX6_run_101 rfl (lv_at hl 2 rfl) ?_
      refine gt_X6_X6_now hC hI dX6_run_102 ?_
      refine lv_aload_n hx hb dX6_run_105 rfl (lv_at hl 2 rfl) ?_
      refine gt_X6_X6_trial hC hI dX6_run_106 ?_
      obtain ⟨r12, hr13, hf⟩ := gbind hf
      have hr13 := C_X5_copyFrom l E x gOk_0 gOk_12 hr13
      refine g_callVv (rest := []) hC hI hr13 Y_X5_copyFrom V_X5_copyFrom w791 (rcv_X5 hC hI gOk_0) ⟨rfl, rfl⟩ ⟨Nat.le_of_ble_eq_true rfl, Nat.le_of_ble_eq_true rfl⟩ rfl hl.1 rfl (Nat.le_of_ble_eq_true rfl) dX6_run_109 ⟨Nat.le_of_ble_eq_true rfl, Nat.le_of_ble_eq_true rfl⟩ (fun H locs hI => ?_)
      refine lv_aload_n hx hb dX6_run_112 rfl (lv_at hl 2 rfl) ?_
      refine gt_X6_X6_program hC hI dX6_run_113 ?_
      refine gt_X6_X4_count hC hI dX6_run_116 ?_
      exact kr _ _ _ _ _ _ _ _ (gre hf) hI ⟨.int, rfl, rfl⟩ ⟨Nat.le_of_ble_eq_true rfl, Nat.le_of_ble_eq_true rfl⟩ dX6_run_119
    · replace hf := gifn h9 hf
      refine lv_aload_n hx hb dX6_run_74 rfl (lv_at hl 2 rfl) ?_
      refine lv_iload_n hx hb dX6_run_75 rfl (lv_at hl 0 rfl) ?_
      obtain ⟨M14, eM14, hf⟩ := glet hf
      refine pt_X6_X6_storedFailedCommand hC hI dX6_run_76 (fun H locs hI => ?_)
      replace hI := g_mem eM14 hI
      exact kt _ _ _ _ _ _ _ _ "java/lang/IllegalStateException" "a command failed" 320 342 324 (gtx hf) hI hl.1 rfl gTh_320_324 (by decide +kernel) ⟨Nat.le_of_ble_eq_true rfl, Nat.le_of_ble_eq_true rfl⟩ ⟨Nat.le_of_ble_eq_true rfl, Nat.le_of_ble_eq_true rfl⟩ ⟨dX6_run_79, dX6_run_82, Or.inl ⟨dX6_run_83, dX6_run_86, dX6_run_89⟩⟩
  · replace hf := gif h4 hf
    refine lv_aload_n hx hb dX6_run_24 rfl (lv_at hl 1 rfl) ?_
    refine lv_aload_n hx hb dX6_run_25 rfl (lv_at hl 1 rfl) ?_
    refine gt_X6_X6_input hC hI dX6_run_26 ?_
    refine gt_X6_X2_position hC hI dX6_run_29 ?_
    obtain ⟨M15, eM15, hf⟩ := glet hf
    refine pt_X6_X6_storedErrorPosition hC hI dX6_run_32 (fun H locs hI => ?_)
    replace hI := g_mem eM15 hI
    exact kt _ _ _ _ _ _ _ _ "java/lang/IllegalArgumentException" "the program is malformed" 314 336 318 (gtx hf) hI hl.1 rfl gTh_314_318 (by decide +kernel) ⟨Nat.le_of_ble_eq_true rfl, Nat.le_of_ble_eq_true rfl⟩ ⟨Nat.le_of_ble_eq_true rfl, Nat.le_of_ble_eq_true rfl⟩ ⟨dX6_run_35, dX6_run_38, Or.inl ⟨dX6_run_39, dX6_run_42, dX6_run_45⟩⟩
theorem dX6_errorPosition_0 : decode cX6_errorPosition 0 = .ok (.aload_n 0, 1) := by decide +kernel
theorem dX6_errorPosition_1 : decode cX6_errorPosition 1 = .ok (.getfield 54, 3) := by decide +kernel
theorem dX6_errorPosition_4 : decode cX6_errorPosition 4 = .ok (.invokestatic 189, 3) := by decide +kernel
theorem dX6_errorPosition_7 : decode cX6_errorPosition 7 = .ok (.ireturn, 1) := by decide +kernel
set_option maxRecDepth 100000 in
set_option maxHeartbeats 4000000 in
theorem C_X6_errorPosition (l : Launch) (hst : l.stackTraces = false) (E : gE) (x : gX) {M : gM} {oc : String ⊕ Int32} {M' : gM} (hf : f_X6_errorPosition M = some (oc, M')) : gX0 l E yX6_errorPosition (.code yX6_errorPosition cX6_errorPosition 1 (some .int)) (gRX 8 130 1 6) M x [.ref (E.2.1 132)] (gO oc) M' 1 6 := by
  refine gMetX hst (by decide +kernel) (Nat.le_of_ble_eq_true rfl) ?_
  intro p e s m args below meth c H locs ls Q hC hl hI kr kv kx kt kd kf
  replace hC : gC p s m args c cX6_errorPosition 1 RX6 E := hC
  replace hl : lv_has ls 1 [(0, .ref (E.2.1 132))] := hl
  have hx := hC.1
  have hb := hC.2.1
  unfold f_X6_errorPosition at hf
  refine lv_aload_n hx hb dX6_errorPosition_0 rfl (lv_at hl 0 rfl) ?_
  refine gt_X6_X6_storedErrorPosition hC hI dX6_errorPosition_1 ?_
  rcases gseq hf with ⟨er, Mr, hr2, hf⟩ | ⟨r1, M3, hr2, hf⟩
  · replace hr2 := C_X6_found l hst E x  hr2
    exact g_xSx (rest := []) hC hI hr2 Y_X6_found S_X6_found w637 ⟨rfl, rfl⟩ ⟨Nat.le_of_ble_eq_true rfl, Nat.le_of_ble_eq_true rfl⟩ rfl hl.1 rfl (Nat.le_of_ble_eq_true rfl) dX6_errorPosition_4 ⟨Nat.le_of_ble_eq_true rfl, Nat.le_of_ble_eq_true rfl⟩ (fun ce q H locs hI h1 h2 h3 => kx _ _ _ _ _ _ _ _ _ _ _ (gtx hf) hI h1 h2 h3 ⟨Nat.le_of_ble_eq_true rfl, Nat.le_of_ble_eq_true rfl⟩)
  replace hr2 := C_X6_found l hst E x  hr2
  refine g_xSi (rest := []) hC hI hr2 Y_X6_found S_X6_found w637 ⟨rfl, rfl⟩ ⟨Nat.le_of_ble_eq_true rfl, Nat.le_of_ble_eq_true rfl⟩ rfl hl.1 rfl (Nat.le_of_ble_eq_true rfl) dX6_errorPosition_4 ⟨Nat.le_of_ble_eq_true rfl, Nat.le_of_ble_eq_true rfl⟩ (fun H locs hI => ?_)
  exact kr _ _ _ _ _ _ _ _ (gre hf) hI ⟨.int, rfl, rfl⟩ ⟨Nat.le_of_ble_eq_true rfl, Nat.le_of_ble_eq_true rfl⟩ dX6_errorPosition_7
theorem dX6_failedCommand_0 : decode cX6_failedCommand 0 = .ok (.aload_n 0, 1) := by decide +kernel
theorem dX6_failedCommand_1 : decode cX6_failedCommand 1 = .ok (.getfield 58, 3) := by decide +kernel
theorem dX6_failedCommand_4 : decode cX6_failedCommand 4 = .ok (.invokestatic 189, 3) := by decide +kernel
theorem dX6_failedCommand_7 : decode cX6_failedCommand 7 = .ok (.ireturn, 1) := by decide +kernel
set_option maxRecDepth 100000 in
set_option maxHeartbeats 4000000 in
theorem C_X6_failedCommand (l : Launch) (hst : l.stackTraces = false) (E : gE) (x : gX) {M : gM} {oc : String ⊕ Int32} {M' : gM} (hf : f_X6_failedCommand M = some (oc, M')) : gX0 l E yX6_failedCommand (.code yX6_failedCommand cX6_failedCommand 1 (some .int)) (gRX 8 130 1 6) M x [.ref (E.2.1 132)] (gO oc) M' 1 6 := by
  refine gMetX hst (by decide +kernel) (Nat.le_of_ble_eq_true rfl) ?_
  intro p e s m args below meth c H locs ls Q hC hl hI kr kv kx kt kd kf
  replace hC : gC p s m args c cX6_failedCommand 1 RX6 E := hC
  replace hl : lv_has ls 1 [(0, .ref (E.2.1 132))] := hl
  have hx := hC.1
  have hb := hC.2.1
  unfold f_X6_failedCommand at hf
  refine lv_aload_n hx hb dX6_failedCommand_0 rfl (lv_at hl 0 rfl) ?_
  refine gt_X6_X6_storedFailedCommand hC hI dX6_failedCommand_1 ?_
  rcases gseq hf with ⟨er, Mr, hr2, hf⟩ | ⟨r1, M3, hr2, hf⟩
  · replace hr2 := C_X6_found l hst E x  hr2
    exact g_xSx (rest := []) hC hI hr2 Y_X6_found S_X6_found w637 ⟨rfl, rfl⟩ ⟨Nat.le_of_ble_eq_true rfl, Nat.le_of_ble_eq_true rfl⟩ rfl hl.1 rfl (Nat.le_of_ble_eq_true rfl) dX6_failedCommand_4 ⟨Nat.le_of_ble_eq_true rfl, Nat.le_of_ble_eq_true rfl⟩ (fun ce q H locs hI h1 h2 h3 => kx _ _ _ _ _ _ _ _ _ _ _ (gtx hf) hI h1 h2 h3 ⟨Nat.le_of_ble_eq_true rfl, Nat.le_of_ble_eq_true rfl⟩)
  replace hr2 := C_X6_found l hst E x  hr2
  refine g_xSi (rest := []) hC hI hr2 Y_X6_found S_X6_found w637 ⟨rfl, rfl⟩ ⟨Nat.le_of_ble_eq_true rfl, Nat.le_of_ble_eq_true rfl⟩ rfl hl.1 rfl (Nat.le_of_ble_eq_true rfl) dX6_failedCommand_4 ⟨Nat.le_of_ble_eq_true rfl, Nat.le_of_ble_eq_true rfl⟩ (fun H locs hI => ?_)
  exact kr _ _ _ _ _ _ _ _ (gre hf) hI ⟨.int, rfl, rfl⟩ ⟨Nat.le_of_ble_eq_true rfl, Nat.le_of_ble_eq_true rfl⟩ dX6_failedCommand_7
theorem dX1_popInto_0 : decode cX1_popInto 0 = .ok (.aload_n 0, 1) := by decide +kernel
theorem dX1_popInto_1 : decode cX1_popInto 1 = .ok (.getfield 17, 3) := by decide +kernel
theorem dX1_popInto_4 : decode cX1_popInto 4 = .ok (.bipush 8, 2) := by decide +kernel
theorem dX1_popInto_6 : decode cX1_popInto 6 = .ok (.iadd, 1) := by decide +kernel
theorem dX1_popInto_7 : decode cX1_popInto 7 = .ok (.iconst 1, 1) := by decide +kernel
theorem dX1_popInto_8 : decode cX1_popInto 8 = .ok (.isub, 1) := by decide +kernel
theorem dX1_popInto_9 : decode cX1_popInto 9 = .ok (.bipush 8, 2) := by decide +kernel
theorem dX1_popInto_11 : decode cX1_popInto 11 = .ok (.irem, 1) := by decide +kernel
theorem dX1_popInto_12 : decode cX1_popInto 12 = .ok (.istore_n 2, 1) := by decide +kernel
theorem dX1_popInto_13 : decode cX1_popInto 13 = .ok (.aload_n 0, 1) := by decide +kernel
theorem dX1_popInto_14 : decode cX1_popInto 14 = .ok (.iload_n 2, 1) := by decide +kernel
theorem dX1_popInto_15 : decode cX1_popInto 15 = .ok (.invokevirtual 25, 3) := by decide +kernel
theorem dX1_popInto_18 : decode cX1_popInto 18 = .ok (.astore_n 3, 1) := by decide +kernel
theorem dX1_popInto_19 : decode cX1_popInto 19 = .ok (.aload_n 3, 1) := by decide +kernel
theorem dX1_popInto_20 : decode cX1_popInto 20 = .ok (.ifnonnull 4, 3) := by decide +kernel
theorem dX1_popInto_23 : decode cX1_popInto 23 = .ok (.return_, 1) := by decide +kernel
theorem dX1_popInto_24 : decode cX1_popInto 24 = .ok (.aload_n 1, 1) := by decide +kernel
theorem dX1_popInto_25 : decode cX1_popInto 25 = .ok (.aload_n 3, 1) := by decide +kernel
theorem dX1_popInto_26 : decode cX1_popInto 26 = .ok (.invokevirtual 29, 3) := by decide +kernel
theorem dX1_popInto_29 : decode cX1_popInto 29 = .ok (.aload_n 0, 1) := by decide +kernel
theorem dX1_popInto_30 : decode cX1_popInto 30 = .ok (.iload_n 2, 1) := by decide +kernel
theorem dX1_popInto_31 : decode cX1_popInto 31 = .ok (.putfield 17, 3) := by decide +kernel
theorem dX1_popInto_34 : decode cX1_popInto 34 = .ok (.aload_n 0, 1) := by decide +kernel
theorem dX1_popInto_35 : decode cX1_popInto 35 = .ok (.dup, 1) := by decide +kernel
theorem dX1_popInto_36 : decode cX1_popInto 36 = .ok (.getfield 21, 3) := by decide +kernel
theorem dX1_popInto_39 : decode cX1_popInto 39 = .ok (.iconst 1, 1) := by decide +kernel
theorem dX1_popInto_40 : decode cX1_popInto 40 = .ok (.isub, 1) := by decide +kernel
theorem dX1_popInto_41 : decode cX1_popInto 41 = .ok (.putfield 21, 3) := by decide +kernel
theorem dX1_popInto_44 : decode cX1_popInto 44 = .ok (.return_, 1) := by decide +kernel
set_option maxRecDepth 100000 in
set_option maxHeartbeats 4000000 in
theorem C_X1_popInto (l : Launch) (E : gE) (x : gX) {o1 : Nat} (ho1 : gOk o1) {M : gM} {M' : gM} (hf : f_X1_popInto o1 M = some M') : gM0 l E yX1_popInto (.code yX1_popInto cX1_popInto 4 none) (gR 3 102) M x [.ref (E.2.1 133), .ref (E.2.1 o1)] none M' := by
  refine gMet (by decide +kernel) (Nat.le_of_ble_eq_true rfl) ?_
  intro p e s m args below meth c H locs ls Q hC hl hI kr kv
  replace hC : gC p s m args c cX1_popInto 4 RX1 E := hC
  replace hl : lv_has ls 4 [(0, .ref (E.2.1 133)), (1, .ref (E.2.1 o1))] := hl
  have hx := hC.1
  have hb := hC.2.1
  unfold f_X1_popInto at hf
  refine lv_aload_n hx hb dX1_popInto_0 rfl (lv_at hl 0 rfl) ?_
  refine gt_X1_X1_next hC hI dX1_popInto_1 ?_
  refine lv_bipush (v := 8) hx hb dX1_popInto_4 (by decide) ?_
  refine lv_iadd hx hb dX1_popInto_6 ?_
  refine lv_iconst (v := 1) hx hb dX1_popInto_7 (by decide) ?_
  refine lv_isub hx hb dX1_popInto_8 ?_
  refine lv_bipush (v := 8) hx hb dX1_popInto_9 (by decide) ?_
  refine lv_irem hx hb dX1_popInto_11 (by decide) ?_
  obtain ⟨z1, ez1, hf⟩ := glet hf
  refine g_top ez1 ?_
  refine lv_istore_n (lv' := [(2, .int z1), (0, .ref (E.2.1 133)), (1, .ref (E.2.1 o1))]) hx hb dX1_popInto_12 rfl hl (by decide) rfl (fun ls hl => ?_)
  refine lv_aload_n hx hb dX1_popInto_13 rfl (lv_at hl 1 rfl) ?_
  refine lv_iload_n hx hb dX1_popInto_14 rfl (lv_at hl 0 rfl) ?_
  obtain ⟨h2, hf⟩ := gifN hf
  refine g_callVr (rest := []) hC hI (C_X1_stateAt l E x h2) Y_X1_stateAt V_X1_stateAt w381 (rcv_X1 hC hI) ⟨rfl, rfl⟩ ⟨Nat.le_of_ble_eq_true rfl, Nat.le_of_ble_eq_true rfl⟩ rfl hl.1 rfl (Nat.le_of_ble_eq_true rfl) dX1_popInto_15 ⟨Nat.le_of_ble_eq_true rfl, Nat.le_of_ble_eq_true rfl⟩ (fun H locs hI => ?_)
  refine lv_astore_n (lv' := [(3, .ref (E.2.1 (36 + 12 * z1.toNatClampNeg))), (2, .int z1), (0, .ref (E.2.1 133)), (1, .ref (E.2.1 o1))]) hx hb dX1_popInto_18 rfl hl (by decide) rfl (fun ls hl => ?_)
  refine lv_aload_n hx hb dX1_popInto_19 rfl (lv_at hl 0 rfl) ?_
  refine lv_ifnonnull (tgt := 24) hx hb dX1_popInto_20 rfl ?_
  refine lv_aload_n hx hb dX1_popInto_24 rfl (lv_at hl 3 rfl) ?_
  refine lv_aload_n hx hb dX1_popInto_25 rfl (lv_at hl 0 rfl) ?_
  obtain ⟨r3, hr4, hf⟩ := gbind hf
  have hr4 := C_X5_copyFrom l E x ho1 (gOk_h (gin_lt h2)) hr4
  refine g_callVv (rest := []) hC hI hr4 Y_X5_copyFrom V_X5_copyFrom w385 (rcv_X5 hC hI ho1) ⟨rfl, rfl⟩ ⟨Nat.le_of_ble_eq_true rfl, Nat.le_of_ble_eq_true rfl⟩ rfl hl.1 rfl (Nat.le_of_ble_eq_true rfl) dX1_popInto_26 ⟨Nat.le_of_ble_eq_true rfl, Nat.le_of_ble_eq_true rfl⟩ (fun H locs hI => ?_)
  refine lv_aload_n hx hb dX1_popInto_29 rfl (lv_at hl 2 rfl) ?_
  refine lv_iload_n hx hb dX1_popInto_30 rfl (lv_at hl 1 rfl) ?_
  obtain ⟨M5, eM5, hf⟩ := glet hf
  refine pt_X1_X1_next hC hI dX1_popInto_31 (fun H locs hI => ?_)
  replace hI := g_mem eM5 hI
  refine lv_aload_n hx hb dX1_popInto_34 rfl (lv_at hl 2 rfl) ?_
  refine lv_dup hx hb dX1_popInto_35 rfl ?_
  refine gt_X1_X1_count hC hI dX1_popInto_36 ?_
  refine lv_iconst (v := 1) hx hb dX1_popInto_39 (by decide) ?_
  refine lv_isub hx hb dX1_popInto_40 ?_
  obtain ⟨M6, eM6, hf⟩ := glet hf
  refine pt_X1_X1_count hC hI dX1_popInto_41 (fun H locs hI => ?_)
  replace hI := g_mem eM6 hI
  exact kv _ _ _ _ _ (grv hf) hI rfl dX1_popInto_44
theorem dX6_undo_0 : decode cX6_undo 0 = .ok (.aload_n 0, 1) := by decide +kernel
theorem dX6_undo_1 : decode cX6_undo 1 = .ok (.getfield 29, 3) := by decide +kernel
theorem dX6_undo_4 : decode cX6_undo 4 = .ok (.getfield 347, 3) := by decide +kernel
theorem dX6_undo_7 : decode cX6_undo 7 = .ok (.ifCond .ne 14, 3) := by decide +kernel
theorem dX6_undo_10 : decode cX6_undo 10 = .ok (.new 320, 3) := by decide +kernel
theorem dX6_undo_13 : decode cX6_undo 13 = .ok (.dup, 1) := by decide +kernel
theorem dX6_undo_14 : decode cX6_undo 14 = .ok (.ldc_w 348, 3) := by decide +kernel
theorem dX6_undo_17 : decode cX6_undo 17 = .ok (.invokespecial 324, 3) := by decide +kernel
theorem dX6_undo_20 : decode cX6_undo 20 = .ok (.athrow, 1) := by decide +kernel
theorem dX6_undo_21 : decode cX6_undo 21 = .ok (.aload_n 0, 1) := by decide +kernel
theorem dX6_undo_22 : decode cX6_undo 22 = .ok (.getfield 29, 3) := by decide +kernel
theorem dX6_undo_25 : decode cX6_undo 25 = .ok (.aload_n 0, 1) := by decide +kernel
theorem dX6_undo_26 : decode cX6_undo 26 = .ok (.getfield 10, 3) := by decide +kernel
theorem dX6_undo_29 : decode cX6_undo 29 = .ok (.invokevirtual 350, 3) := by decide +kernel
theorem dX6_undo_32 : decode cX6_undo 32 = .ok (.aload_n 0, 1) := by decide +kernel
theorem dX6_undo_33 : decode cX6_undo 33 = .ok (.getfield 29, 3) := by decide +kernel
theorem dX6_undo_36 : decode cX6_undo 36 = .ok (.getfield 347, 3) := by decide +kernel
theorem dX6_undo_39 : decode cX6_undo 39 = .ok (.ireturn, 1) := by decide +kernel
set_option maxRecDepth 100000 in
set_option maxHeartbeats 4000000 in
theorem C_X6_undo (l : Launch) (hst : l.stackTraces = false) (E : gE) (x : gX) {M : gM} {oc : String ⊕ Int32} {M' : gM} (hf : f_X6_undo M = some (oc, M')) : gX0 l E yX6_undo (.code yX6_undo cX6_undo 1 (some .int)) (gRX 6 125 1 6) M x [.ref (E.2.1 132)] (gO oc) M' 1 6 := by
  refine gMetX hst (by decide +kernel) (Nat.le_of_ble_eq_true rfl) ?_
  intro p e s m args below meth c H locs ls Q hC hl hI kr kv kx kt kd kf
  replace hC : gC p s m args c cX6_undo 1 RX6 E := hC
  replace hl : lv_has ls 1 [(0, .ref (E.2.1 132))] := hl
  have hx := hC.1
  have hb := hC.2.1
  unfold f_X6_undo at hf
  refine lv_aload_n hx hb dX6_undo_0 rfl (lv_at hl 0 rfl) ?_
  refine gt_X6_X6_history hC hI dX6_undo_1 ?_
  refine gt_X6_X1_count hC hI dX6_undo_4 ?_
  refine lv_if_ne (tgt := 21) hx hb dX6_undo_7 rfl (fun h1 => ?_) (fun h1 => ?_)
  · replace hf := gifn h1 hf
    refine lv_aload_n hx hb dX6_undo_21 rfl (lv_at hl 0 rfl) ?_
    refine gt_X6_X6_history hC hI dX6_undo_22 ?_
    refine lv_aload_n hx hb dX6_undo_25 rfl (lv_at hl 0 rfl) ?_
    refine gt_X6_X6_now hC hI dX6_undo_26 ?_
    obtain ⟨r2, hr3, hf⟩ := gbind hf
    have hr3 := C_X1_popInto l E x gOk_0 hr3
    refine g_callVv (rest := []) hC hI hr3 Y_X1_popInto V_X1_popInto w1062 (rcv_X1 hC hI) ⟨rfl, rfl⟩ ⟨Nat.le_of_ble_eq_true rfl, Nat.le_of_ble_eq_true rfl⟩ rfl hl.1 rfl (Nat.le_of_ble_eq_true rfl) dX6_undo_29 ⟨Nat.le_of_ble_eq_true rfl, Nat.le_of_ble_eq_true rfl⟩ (fun H locs hI => ?_)
    refine lv_aload_n hx hb dX6_undo_32 rfl (lv_at hl 0 rfl) ?_
    refine gt_X6_X6_history hC hI dX6_undo_33 ?_
    refine gt_X6_X1_count hC hI dX6_undo_36 ?_
    exact kr _ _ _ _ _ _ _ _ (gre hf) hI ⟨.int, rfl, rfl⟩ ⟨Nat.le_of_ble_eq_true rfl, Nat.le_of_ble_eq_true rfl⟩ dX6_undo_39
  · replace hf := gif h1 hf
    exact kt _ _ _ _ _ _ _ _ "java/lang/IllegalStateException" "no change can be undone" 320 348 324 (gtx hf) hI hl.1 rfl gTh_320_324 (by decide +kernel) ⟨Nat.le_of_ble_eq_true rfl, Nat.le_of_ble_eq_true rfl⟩ ⟨Nat.le_of_ble_eq_true rfl, Nat.le_of_ble_eq_true rfl⟩ ⟨dX6_undo_10, dX6_undo_13, Or.inl ⟨dX6_undo_14, dX6_undo_17, dX6_undo_20⟩⟩
theorem dX6_save_0 : decode cX6_save 0 = .ok (.aload_n 0, 1) := by decide +kernel
theorem dX6_save_1 : decode cX6_save 1 = .ok (.getfield 19, 3) := by decide +kernel
theorem dX6_save_4 : decode cX6_save 4 = .ok (.aload_n 0, 1) := by decide +kernel
theorem dX6_save_5 : decode cX6_save 5 = .ok (.getfield 10, 3) := by decide +kernel
theorem dX6_save_8 : decode cX6_save 8 = .ok (.invokevirtual 258, 3) := by decide +kernel
theorem dX6_save_11 : decode cX6_save 11 = .ok (.aload_n 0, 1) := by decide +kernel
theorem dX6_save_12 : decode cX6_save 12 = .ok (.iconst 1, 1) := by decide +kernel
theorem dX6_save_13 : decode cX6_save 13 = .ok (.putfield 22, 3) := by decide +kernel
theorem dX6_save_16 : decode cX6_save 16 = .ok (.aload_n 0, 1) := by decide +kernel
theorem dX6_save_17 : decode cX6_save 17 = .ok (.getfield 10, 3) := by decide +kernel
theorem dX6_save_20 : decode cX6_save 20 = .ok (.invokevirtual 77, 3) := by decide +kernel
theorem dX6_save_23 : decode cX6_save 23 = .ok (.ireturn, 1) := by decide +kernel
set_option maxRecDepth 100000 in
set_option maxHeartbeats 4000000 in
theorem C_X6_save (l : Launch) (E : gE) (x : gX) {M : gM} {r : Int32} {M' : gM} (hf : f_X6_save M = some (r, M')) : gM0 l E yX6_save (.code yX6_save cX6_save 1 (some .int)) (gR 3 102) M x [.ref (E.2.1 132)] (some (.int r)) M' := by
  refine gMet (by decide +kernel) (Nat.le_of_ble_eq_true rfl) ?_
  intro p e s m args below meth c H locs ls Q hC hl hI kr kv
  replace hC : gC p s m args c cX6_save 1 RX6 E := hC
  replace hl : lv_has ls 1 [(0, .ref (E.2.1 132))] := hl
  have hx := hC.1
  have hb := hC.2.1
  unfold f_X6_save at hf
  refine lv_aload_n hx hb dX6_save_0 rfl (lv_at hl 0 rfl) ?_
  refine gt_X6_X6_saved hC hI dX6_save_1 ?_
  refine lv_aload_n hx hb dX6_save_4 rfl (lv_at hl 0 rfl) ?_
  refine gt_X6_X6_now hC hI dX6_save_5 ?_
  obtain ⟨r1, hr2, hf⟩ := gbind hf
  have hr2 := C_X5_copyFrom l E x gOk_24 gOk_0 hr2
  refine g_callVv (rest := []) hC hI hr2 Y_X5_copyFrom V_X5_copyFrom w791 (rcv_X5 hC hI gOk_24) ⟨rfl, rfl⟩ ⟨Nat.le_of_ble_eq_true rfl, Nat.le_of_ble_eq_true rfl⟩ rfl hl.1 rfl (Nat.le_of_ble_eq_true rfl) dX6_save_8 ⟨Nat.le_of_ble_eq_true rfl, Nat.le_of_ble_eq_true rfl⟩ (fun H locs hI => ?_)
  refine lv_aload_n hx hb dX6_save_11 rfl (lv_at hl 0 rfl) ?_
  refine lv_iconst (v := 1) hx hb dX6_save_12 (by decide) ?_
  obtain ⟨M3, eM3, hf⟩ := glet hf
  refine pt_X6_X6_hasSaved hC hI rfl rfl dX6_save_13 (fun H locs hI => ?_)
  replace hI := g_mem eM3 hI
  refine lv_aload_n hx hb dX6_save_16 rfl (lv_at hl 0 rfl) ?_
  refine gt_X6_X6_now hC hI dX6_save_17 ?_
  obtain ⟨r4, hr5, hf⟩ := gbind hf
  have hr5 := C_X5_ships l E x gOk_0 hr5
  refine g_callVi (rest := []) hC hI hr5 Y_X5_ships V_X5_ships w534 (rcv_X5 hC hI gOk_0) ⟨rfl, rfl⟩ ⟨Nat.le_of_ble_eq_true rfl, Nat.le_of_ble_eq_true rfl⟩ rfl hl.1 rfl (Nat.le_of_ble_eq_true rfl) dX6_save_20 ⟨Nat.le_of_ble_eq_true rfl, Nat.le_of_ble_eq_true rfl⟩ (fun H locs hI => ?_)
  exact kr _ _ _ _ _ _ (grw hf) hI ⟨.int, rfl, rfl⟩ dX6_save_23
theorem dX6_restore_0 : decode cX6_restore 0 = .ok (.aload_n 0, 1) := by decide +kernel
theorem dX6_restore_1 : decode cX6_restore 1 = .ok (.getfield 22, 3) := by decide +kernel
theorem dX6_restore_4 : decode cX6_restore 4 = .ok (.ifCond .ne 14, 3) := by decide +kernel
theorem dX6_restore_7 : decode cX6_restore 7 = .ok (.new 320, 3) := by decide +kernel
theorem dX6_restore_10 : decode cX6_restore 10 = .ok (.dup, 1) := by decide +kernel
theorem dX6_restore_11 : decode cX6_restore 11 = .ok (.ldc_w 353, 3) := by decide +kernel
theorem dX6_restore_14 : decode cX6_restore 14 = .ok (.invokespecial 324, 3) := by decide +kernel
theorem dX6_restore_17 : decode cX6_restore 17 = .ok (.athrow, 1) := by decide +kernel
theorem dX6_restore_18 : decode cX6_restore 18 = .ok (.aload_n 0, 1) := by decide +kernel
theorem dX6_restore_19 : decode cX6_restore 19 = .ok (.getfield 10, 3) := by decide +kernel
theorem dX6_restore_22 : decode cX6_restore 22 = .ok (.aload_n 0, 1) := by decide +kernel
theorem dX6_restore_23 : decode cX6_restore 23 = .ok (.getfield 19, 3) := by decide +kernel
theorem dX6_restore_26 : decode cX6_restore 26 = .ok (.invokevirtual 258, 3) := by decide +kernel
theorem dX6_restore_29 : decode cX6_restore 29 = .ok (.aload_n 0, 1) := by decide +kernel
theorem dX6_restore_30 : decode cX6_restore 30 = .ok (.getfield 29, 3) := by decide +kernel
theorem dX6_restore_33 : decode cX6_restore 33 = .ok (.iconst 0, 1) := by decide +kernel
theorem dX6_restore_34 : decode cX6_restore 34 = .ok (.putfield 347, 3) := by decide +kernel
theorem dX6_restore_37 : decode cX6_restore 37 = .ok (.aload_n 0, 1) := by decide +kernel
theorem dX6_restore_38 : decode cX6_restore 38 = .ok (.getfield 10, 3) := by decide +kernel
theorem dX6_restore_41 : decode cX6_restore 41 = .ok (.invokevirtual 77, 3) := by decide +kernel
theorem dX6_restore_44 : decode cX6_restore 44 = .ok (.ireturn, 1) := by decide +kernel
set_option maxRecDepth 100000 in
set_option maxHeartbeats 4000000 in
theorem C_X6_restore (l : Launch) (hst : l.stackTraces = false) (E : gE) (x : gX) {M : gM} {oc : String ⊕ Int32} {M' : gM} (hf : f_X6_restore M = some (oc, M')) : gX0 l E yX6_restore (.code yX6_restore cX6_restore 1 (some .int)) (gRX 6 102 1 6) M x [.ref (E.2.1 132)] (gO oc) M' 1 6 := by
  refine gMetX hst (by decide +kernel) (Nat.le_of_ble_eq_true rfl) ?_
  intro p e s m args below meth c H locs ls Q hC hl hI kr kv kx kt kd kf
  replace hC : gC p s m args c cX6_restore 1 RX6 E := hC
  replace hl : lv_has ls 1 [(0, .ref (E.2.1 132))] := hl
  have hx := hC.1
  have hb := hC.2.1
  unfold f_X6_restore at hf
  refine lv_aload_n hx hb dX6_restore_0 rfl (lv_at hl 0 rfl) ?_
  refine gt_X6_X6_hasSaved hC hI dX6_restore_1 ?_
  refine lv_if_ne (tgt := 18) hx hb dX6_restore_4 rfl (fun h1 => ?_) (fun h1 => ?_)
  · replace hf := gifn h1 hf
    refine lv_aload_n hx hb dX6_restore_18 rfl (lv_at hl 0 rfl) ?_
    refine gt_X6_X6_now hC hI dX6_restore_19 ?_
    refine lv_aload_n hx hb dX6_restore_22 rfl (lv_at hl 0 rfl) ?_
    refine gt_X6_X6_saved hC hI dX6_restore_23 ?_
    obtain ⟨r2, hr3, hf⟩ := gbind hf
    have hr3 := C_X5_copyFrom l E x gOk_0 gOk_24 hr3
    refine g_callVv (rest := []) hC hI hr3 Y_X5_copyFrom V_X5_copyFrom w791 (rcv_X5 hC hI gOk_0) ⟨rfl, rfl⟩ ⟨Nat.le_of_ble_eq_true rfl, Nat.le_of_ble_eq_true rfl⟩ rfl hl.1 rfl (Nat.le_of_ble_eq_true rfl) dX6_restore_26 ⟨Nat.le_of_ble_eq_true rfl, Nat.le_of_ble_eq_true rfl⟩ (fun H locs hI => ?_)
    refine lv_aload_n hx hb dX6_restore_29 rfl (lv_at hl 0 rfl) ?_
    refine gt_X6_X6_history hC hI dX6_restore_30 ?_
    refine lv_iconst (v := 0) hx hb dX6_restore_33 (by decide) ?_
    obtain ⟨M4, eM4, hf⟩ := glet hf
    refine pt_X6_X1_count hC hI dX6_restore_34 (fun H locs hI => ?_)
    replace hI := g_mem eM4 hI
    refine lv_aload_n hx hb dX6_restore_37 rfl (lv_at hl 0 rfl) ?_
    refine gt_X6_X6_now hC hI dX6_restore_38 ?_
    obtain ⟨r5, hr6, hf⟩ := gbind hf
    have hr6 := C_X5_ships l E x gOk_0 hr6
    refine g_callVi (rest := []) hC hI hr6 Y_X5_ships V_X5_ships w534 (rcv_X5 hC hI gOk_0) ⟨rfl, rfl⟩ ⟨Nat.le_of_ble_eq_true rfl, Nat.le_of_ble_eq_true rfl⟩ rfl hl.1 rfl (Nat.le_of_ble_eq_true rfl) dX6_restore_41 ⟨Nat.le_of_ble_eq_true rfl, Nat.le_of_ble_eq_true rfl⟩ (fun H locs hI => ?_)
    exact kr _ _ _ _ _ _ _ _ (gre hf) hI ⟨.int, rfl, rfl⟩ ⟨Nat.le_of_ble_eq_true rfl, Nat.le_of_ble_eq_true rfl⟩ dX6_restore_44
  · replace hf := gif h1 hf
    exact kt _ _ _ _ _ _ _ _ "java/lang/IllegalStateException" "there is no saved copy" 320 353 324 (gtx hf) hI hl.1 rfl gTh_320_324 (by decide +kernel) ⟨Nat.le_of_ble_eq_true rfl, Nat.le_of_ble_eq_true rfl⟩ ⟨Nat.le_of_ble_eq_true rfl, Nat.le_of_ble_eq_true rfl⟩ ⟨dX6_restore_7, dX6_restore_10, Or.inl ⟨dX6_restore_11, dX6_restore_14, dX6_restore_17⟩⟩
theorem dJ9_max_7cf53_0 : decode cJ9_max_7cf53 0 = .ok (.iload_n 0, 1) := by decide +kernel
theorem dJ9_max_7cf53_1 : decode cJ9_max_7cf53 1 = .ok (.iload_n 1, 1) := by decide +kernel
theorem dJ9_max_7cf53_2 : decode cJ9_max_7cf53 2 = .ok (.if_icmp .lt 7, 3) := by decide +kernel
theorem dJ9_max_7cf53_5 : decode cJ9_max_7cf53 5 = .ok (.iload_n 0, 1) := by decide +kernel
theorem dJ9_max_7cf53_6 : decode cJ9_max_7cf53 6 = .ok (.goto 4, 3) := by decide +kernel
theorem dJ9_max_7cf53_9 : decode cJ9_max_7cf53 9 = .ok (.iload_n 1, 1) := by decide +kernel
theorem dJ9_max_7cf53_10 : decode cJ9_max_7cf53 10 = .ok (.ireturn, 1) := by decide +kernel
set_option maxRecDepth 100000 in
set_option maxHeartbeats 4000000 in
theorem C_J9_max_7cf53 (l : Launch) (E : gE) (x : gX) {v0 v1 : Int32} {M : gM} {r : Int32} (hf : f_J9_max_7cf53 v0 v1 M = some r) : gM0 l E yJ9_max_7cf53 (.code yJ9_max_7cf53 cJ9_max_7cf53 2 (some .int)) (gR 0 0) M x [.int v0, .int v1] (some (.int r)) M := by
  refine gMet (by decide +kernel) (Nat.le_of_ble_eq_true rfl) ?_
  intro p e s m args below meth c H locs ls Q hC hl hI kr kv
  replace hC : gC p s m args c cJ9_max_7cf53 2 RJ9 E := hC
  replace hl : lv_has ls 2 [(0, .int v0), (1, .int v1)] := hl
  have hx := hC.1
  have hb := hC.2.1
  unfold f_J9_max_7cf53 at hf
  refine lv_iload_n hx hb dJ9_max_7cf53_0 rfl (lv_at hl 0 rfl) ?_
  refine lv_iload_n hx hb dJ9_max_7cf53_1 rfl (lv_at hl 1 rfl) ?_
  refine lv_icmp_lt (tgt := 9) hx hb dJ9_max_7cf53_2 rfl (fun h1 => ?_) (fun h1 => ?_)
  · replace hf := gif h1 hf
    refine lv_iload_n hx hb dJ9_max_7cf53_9 rfl (lv_at hl 1 rfl) ?_
    exact kr _ _ _ _ _ _ (gri hf) hI ⟨.int, rfl, rfl⟩ dJ9_max_7cf53_10
  · replace hf := gifn h1 hf
    refine lv_iload_n hx hb dJ9_max_7cf53_5 rfl (lv_at hl 0 rfl) ?_
    refine lv_goto (tgt := 10) hx hb dJ9_max_7cf53_6 rfl ?_
    exact kr _ _ _ _ _ _ (gri hf) hI ⟨.int, rfl, rfl⟩ dJ9_max_7cf53_10
theorem dJ9_min_7cf53_0 : decode cJ9_min_7cf53 0 = .ok (.iload_n 0, 1) := by decide +kernel
theorem dJ9_min_7cf53_1 : decode cJ9_min_7cf53 1 = .ok (.iload_n 1, 1) := by decide +kernel
theorem dJ9_min_7cf53_2 : decode cJ9_min_7cf53 2 = .ok (.if_icmp .gt 7, 3) := by decide +kernel
theorem dJ9_min_7cf53_5 : decode cJ9_min_7cf53 5 = .ok (.iload_n 0, 1) := by decide +kernel
theorem dJ9_min_7cf53_6 : decode cJ9_min_7cf53 6 = .ok (.goto 4, 3) := by decide +kernel
theorem dJ9_min_7cf53_9 : decode cJ9_min_7cf53 9 = .ok (.iload_n 1, 1) := by decide +kernel
theorem dJ9_min_7cf53_10 : decode cJ9_min_7cf53 10 = .ok (.ireturn, 1) := by decide +kernel
set_option maxRecDepth 100000 in
set_option maxHeartbeats 4000000 in
theorem C_J9_min_7cf53 (l : Launch) (E : gE) (x : gX) {v0 v1 : Int32} {M : gM} {r : Int32} (hf : f_J9_min_7cf53 v0 v1 M = some r) : gM0 l E yJ9_min_7cf53 (.code yJ9_min_7cf53 cJ9_min_7cf53 2 (some .int)) (gR 0 0) M x [.int v0, .int v1] (some (.int r)) M := by
  refine gMet (by decide +kernel) (Nat.le_of_ble_eq_true rfl) ?_
  intro p e s m args below meth c H locs ls Q hC hl hI kr kv
  replace hC : gC p s m args c cJ9_min_7cf53 2 RJ9 E := hC
  replace hl : lv_has ls 2 [(0, .int v0), (1, .int v1)] := hl
  have hx := hC.1
  have hb := hC.2.1
  unfold f_J9_min_7cf53 at hf
  refine lv_iload_n hx hb dJ9_min_7cf53_0 rfl (lv_at hl 0 rfl) ?_
  refine lv_iload_n hx hb dJ9_min_7cf53_1 rfl (lv_at hl 1 rfl) ?_
  refine lv_icmp_gt (tgt := 9) hx hb dJ9_min_7cf53_2 rfl (fun h1 => ?_) (fun h1 => ?_)
  · replace hf := gif h1 hf
    refine lv_iload_n hx hb dJ9_min_7cf53_9 rfl (lv_at hl 1 rfl) ?_
    exact kr _ _ _ _ _ _ (gri hf) hI ⟨.int, rfl, rfl⟩ dJ9_min_7cf53_10
  · replace hf := gifn h1 hf
    refine lv_iload_n hx hb dJ9_min_7cf53_5 rfl (lv_at hl 0 rfl) ?_
    refine lv_goto (tgt := 10) hx hb dJ9_min_7cf53_6 rfl ?_
    exact kr _ _ _ _ _ _ (gri hf) hI ⟨.int, rfl, rfl⟩ dJ9_min_7cf53_10
