theorem dL_feesAfter_0 : decode cL_feesAfter 0 = .ok (.aload_n 2, 1) := by decide +kernel
theorem dL_feesAfter_1 : decode cL_feesAfter 1 = .ok (.iconst 0, 1) := by decide +kernel
theorem dL_feesAfter_2 : decode cL_feesAfter 2 = .ok (.aload_n 0, 1) := by decide +kernel
theorem dL_feesAfter_3 : decode cL_feesAfter 3 = .ok (.iload_n 1, 1) := by decide +kernel
theorem dL_feesAfter_4 : decode cL_feesAfter 4 = .ok (.invokevirtual 132, 3) := by decide +kernel
theorem dL_feesAfter_7 : decode cL_feesAfter 7 = .ok (.i2l, 1) := by decide +kernel
theorem dL_feesAfter_8 : decode cL_feesAfter 8 = .ok (.lastore, 1) := by decide +kernel
theorem dL_feesAfter_9 : decode cL_feesAfter 9 = .ok (.goto 6, 3) := by decide +kernel
theorem dL_feesAfter_12 : decode cL_feesAfter 12 = .ok (.astore_n 3, 1) := by decide +kernel
theorem dL_feesAfter_13 : decode cL_feesAfter 13 = .ok (.iconst 1, 1) := by decide +kernel
theorem dL_feesAfter_14 : decode cL_feesAfter 14 = .ok (.ireturn, 1) := by decide +kernel
theorem dL_feesAfter_15 : decode cL_feesAfter 15 = .ok (.iconst 0, 1) := by decide +kernel
theorem dL_feesAfter_16 : decode cL_feesAfter 16 = .ok (.ireturn, 1) := by decide +kernel
set_option maxRecDepth 100000 in
set_option maxHeartbeats 4000000 in
theorem H_feesAfter (l : Launch) (hst : l.stackTraces = false) (E : gE) (x : gX) {v1 : Int32} {M : gM} {oc : String ⊕ Int32} {M1 : gM} {z : Int32} {b : Int32} (hf : f_X6_feesAfter v1 M = some (oc, M1)) (ha : gAns ["java/lang/IllegalArgumentException"] oc z b) : gH0 l E yL_feesAfter (.codeWith yL_feesAfter cL_feesAfter 4 (some .int) [(0, 9, 12, 15)]) (gRX 8 131 1 6) M x [.ref (E.2.1 132), .int v1, .ref (E.2.1 159)] z M1 (gXo x z b.toInt64) 1 6 := by
  refine gMetH (by decide +kernel) (Nat.le_of_ble_eq_true rfl) ?_
  intro p e s m args below meth c H locs ls Q hC hN hT hl hI kr
  replace hC : gC p s m args c cL_feesAfter 4 RL E := hC
  replace hl : lv_has ls 4 [(0, .ref (E.2.1 132)), (1, .int v1), (2, .ref (E.2.1 159))] := hl
  have hx := hC.1
  have hb := hC.2.1
  refine lv_aload_n hx hb dL_feesAfter_0 rfl (lv_at hl 2 rfl) ?_
  refine lv_iconst (v := 0) hx hb dL_feesAfter_1 (by decide) ?_
  refine lv_aload_n hx hb dL_feesAfter_2 rfl (lv_at hl 0 rfl) ?_
  refine lv_iload_n hx hb dL_feesAfter_3 rfl (lv_at hl 1 rfl) ?_
  have hm := C_X6_feesAfter l hst E x hf
  rcases ha with ⟨e1, e2⟩ | ⟨i, En, hi, e1, e2⟩
  · subst e1 e2
    refine g_xV hC hI hm Y_X6_feesAfter V_X6_feesAfter w1022 (rcv_X6 hC hI) ⟨rfl, rfl⟩ ⟨Nat.le_of_ble_eq_true rfl, Nat.le_of_ble_eq_true rfl⟩ rfl hl.1 rfl (Nat.le_of_ble_eq_true rfl) dL_feesAfter_4 ⟨Nat.le_of_ble_eq_true rfl, Nat.le_of_ble_eq_true rfl⟩ (fun rv H locs ho hI => ?_) (fun En ce q H locs ho => nomatch ho)
    cases ho
    refine lv_i2l (v := b.toInt64) hx hb dL_feesAfter_7 rfl ?_
    refine g_lastX hC hI dL_feesAfter_8 (fun H locs hI => ?_)
    refine lv_goto (tgt := 15) hx hb dL_feesAfter_9 rfl ?_
    refine lv_iconst (v := 0) hx hb dL_feesAfter_15 (by decide) ?_
    exact kr _ _ _ _ _ _ _ _ nI_0.symm (by rw [gXo_0]) hI ⟨Nat.le_of_ble_eq_true rfl, Nat.le_of_ble_eq_true rfl⟩ dL_feesAfter_16
  · subst e1 e2
    refine g_xV hC hI hm Y_X6_feesAfter V_X6_feesAfter w1022 (rcv_X6 hC hI) ⟨rfl, rfl⟩ ⟨Nat.le_of_ble_eq_true rfl, Nat.le_of_ble_eq_true rfl⟩ rfl hl.1 rfl (Nat.le_of_ble_eq_true rfl) dL_feesAfter_4 ⟨Nat.le_of_ble_eq_true rfl, Nat.le_of_ble_eq_true rfl⟩ (fun rv H locs ho => nomatch ho) (fun En2 ce q H locs ho hI hce hcv hcl => ?_)
    cases ho
    match i, hi with
    | 0, hi =>
      cases hi
      refine g_catch hC hT [] ⟨0, 9, 12, 15⟩ [] rfl (fun _ h => absurd h List.not_mem_nil) (by decide) (by decide) w521 (by decide +kernel) hce hcv hcl ?_
      refine lv_astore_n (lv' := [(3, .ref q), (0, .ref (E.2.1 132)), (1, .int v1), (2, .ref (E.2.1 159))]) hx hb dL_feesAfter_12 rfl hl (by decide) rfl (fun ls hl => ?_)
      refine lv_iconst (v := 1) hx hb dL_feesAfter_13 (by decide) ?_
      exact kr _ _ _ _ _ _ _ _ rfl (by rw [gXo_n x (by decide)]) hI ⟨Nat.le_of_ble_eq_true rfl, Nat.le_of_ble_eq_true rfl⟩ dL_feesAfter_14
    | k + 1, hi => cases hi
theorem dL_meanHeight_0 : decode cL_meanHeight 0 = .ok (.aload_n 1, 1) := by decide +kernel
theorem dL_meanHeight_1 : decode cL_meanHeight 1 = .ok (.iconst 0, 1) := by decide +kernel
theorem dL_meanHeight_2 : decode cL_meanHeight 2 = .ok (.aload_n 0, 1) := by decide +kernel
theorem dL_meanHeight_3 : decode cL_meanHeight 3 = .ok (.invokevirtual 135, 3) := by decide +kernel
theorem dL_meanHeight_6 : decode cL_meanHeight 6 = .ok (.dastore, 1) := by decide +kernel
theorem dL_meanHeight_7 : decode cL_meanHeight 7 = .ok (.goto 6, 3) := by decide +kernel
theorem dL_meanHeight_10 : decode cL_meanHeight 10 = .ok (.astore_n 2, 1) := by decide +kernel
theorem dL_meanHeight_11 : decode cL_meanHeight 11 = .ok (.iconst 1, 1) := by decide +kernel
theorem dL_meanHeight_12 : decode cL_meanHeight 12 = .ok (.ireturn, 1) := by decide +kernel
theorem dL_meanHeight_13 : decode cL_meanHeight 13 = .ok (.iconst 0, 1) := by decide +kernel
theorem dL_meanHeight_14 : decode cL_meanHeight 14 = .ok (.ireturn, 1) := by decide +kernel
set_option maxRecDepth 100000 in
set_option maxHeartbeats 4000000 in
theorem H_meanHeight (l : Launch) (hst : l.stackTraces = false) (E : gE) (x : gX) {M : gM} {oc : String ⊕ UInt64} {M1 : gM} {z : Int32} {b : UInt64} (hf : f_X6_meanHeight M = some (oc, M1)) (ha : gAns ["java/lang/ArithmeticException"] oc z b) : gH0 l E yL_meanHeight (.codeWith yL_meanHeight cL_meanHeight 3 (some .int) [(0, 7, 10, 139)]) (gRX 7 111 1 6) M x [.ref (E.2.1 132), .ref (E.2.1 160)] z M1 (gXd x z b) 1 6 := by
  refine gMetH (by decide +kernel) (Nat.le_of_ble_eq_true rfl) ?_
  intro p e s m args below meth c H locs ls Q hC hN hT hl hI kr
  replace hC : gC p s m args c cL_meanHeight 3 RL E := hC
  replace hl : lv_has ls 3 [(0, .ref (E.2.1 132)), (1, .ref (E.2.1 160))] := hl
  have hx := hC.1
  have hb := hC.2.1
  refine lv_aload_n hx hb dL_meanHeight_0 rfl (lv_at hl 1 rfl) ?_
  refine lv_iconst (v := 0) hx hb dL_meanHeight_1 (by decide) ?_
  refine lv_aload_n hx hb dL_meanHeight_2 rfl (lv_at hl 0 rfl) ?_
  have hm := C_X6_meanHeight l hst E x hf
  rcases ha with ⟨e1, e2⟩ | ⟨i, En, hi, e1, e2⟩
  · subst e1 e2
    refine g_xV hC hI hm Y_X6_meanHeight V_X6_meanHeight w1043 (rcv_X6 hC hI) ⟨rfl, rfl⟩ ⟨Nat.le_of_ble_eq_true rfl, Nat.le_of_ble_eq_true rfl⟩ rfl hl.1 rfl (Nat.le_of_ble_eq_true rfl) dL_meanHeight_3 ⟨Nat.le_of_ble_eq_true rfl, Nat.le_of_ble_eq_true rfl⟩ (fun rv H locs ho hI => ?_) (fun En ce q H locs ho => nomatch ho)
    cases ho
    refine g_dastX hC hI dL_meanHeight_6 (fun H locs hI => ?_)
    refine lv_goto (tgt := 13) hx hb dL_meanHeight_7 rfl ?_
    refine lv_iconst (v := 0) hx hb dL_meanHeight_13 (by decide) ?_
    exact kr _ _ _ _ _ _ _ _ nI_0.symm (by rw [gXd_0]) hI ⟨Nat.le_of_ble_eq_true rfl, Nat.le_of_ble_eq_true rfl⟩ dL_meanHeight_14
  · subst e1 e2
    refine g_xV hC hI hm Y_X6_meanHeight V_X6_meanHeight w1043 (rcv_X6 hC hI) ⟨rfl, rfl⟩ ⟨Nat.le_of_ble_eq_true rfl, Nat.le_of_ble_eq_true rfl⟩ rfl hl.1 rfl (Nat.le_of_ble_eq_true rfl) dL_meanHeight_3 ⟨Nat.le_of_ble_eq_true rfl, Nat.le_of_ble_eq_true rfl⟩ (fun rv H locs ho => nomatch ho) (fun En2 ce q H locs ho hI hce hcv hcl => ?_)
    cases ho
    match i, hi with
    | 0, hi =>
      cases hi
      refine g_catch hC hT [] ⟨0, 7, 10, 139⟩ [] rfl (fun _ h => absurd h List.not_mem_nil) (by decide) (by decide) w1029 (by decide +kernel) hce hcv hcl ?_
      refine lv_astore_n (lv' := [(2, .ref q), (0, .ref (E.2.1 132)), (1, .ref (E.2.1 160))]) hx hb dL_meanHeight_10 rfl hl (by decide) rfl (fun ls hl => ?_)
      refine lv_iconst (v := 1) hx hb dL_meanHeight_11 (by decide) ?_
      exact kr _ _ _ _ _ _ _ _ rfl (by rw [gXd_n x (by decide)]) hI ⟨Nat.le_of_ble_eq_true rfl, Nat.le_of_ble_eq_true rfl⟩ dL_meanHeight_12
    | k + 1, hi => cases hi
theorem dL_rightShare_0 : decode cL_rightShare 0 = .ok (.aload_n 1, 1) := by decide +kernel
theorem dL_rightShare_1 : decode cL_rightShare 1 = .ok (.iconst 0, 1) := by decide +kernel
theorem dL_rightShare_2 : decode cL_rightShare 2 = .ok (.aload_n 0, 1) := by decide +kernel
theorem dL_rightShare_3 : decode cL_rightShare 3 = .ok (.invokevirtual 141, 3) := by decide +kernel
theorem dL_rightShare_6 : decode cL_rightShare 6 = .ok (.f2d, 1) := by decide +kernel
theorem dL_rightShare_7 : decode cL_rightShare 7 = .ok (.dastore, 1) := by decide +kernel
theorem dL_rightShare_8 : decode cL_rightShare 8 = .ok (.goto 6, 3) := by decide +kernel
theorem dL_rightShare_11 : decode cL_rightShare 11 = .ok (.astore_n 2, 1) := by decide +kernel
theorem dL_rightShare_12 : decode cL_rightShare 12 = .ok (.iconst 1, 1) := by decide +kernel
theorem dL_rightShare_13 : decode cL_rightShare 13 = .ok (.ireturn, 1) := by decide +kernel
theorem dL_rightShare_14 : decode cL_rightShare 14 = .ok (.iconst 0, 1) := by decide +kernel
theorem dL_rightShare_15 : decode cL_rightShare 15 = .ok (.ireturn, 1) := by decide +kernel
set_option maxRecDepth 100000 in
set_option maxHeartbeats 4000000 in
theorem H_rightShare (l : Launch) (hst : l.stackTraces = false) (E : gE) (x : gX) {M : gM} {oc : String ⊕ UInt32} {M1 : gM} {z : Int32} {b : UInt32} (hf : f_X6_rightShare M = some (oc, M1)) (ha : gAns ["java/lang/ArithmeticException"] oc z b) : gH0 l E yL_rightShare (.codeWith yL_rightShare cL_rightShare 3 (some .int) [(0, 8, 11, 139)]) (gRX 7 111 1 6) M x [.ref (E.2.1 132), .ref (E.2.1 160)] z M1 (gXd x z (FP.f2d b)) 1 6 := by
  refine gMetH (by decide +kernel) (Nat.le_of_ble_eq_true rfl) ?_
  intro p e s m args below meth c H locs ls Q hC hN hT hl hI kr
  replace hC : gC p s m args c cL_rightShare 3 RL E := hC
  replace hl : lv_has ls 3 [(0, .ref (E.2.1 132)), (1, .ref (E.2.1 160))] := hl
  have hx := hC.1
  have hb := hC.2.1
  refine lv_aload_n hx hb dL_rightShare_0 rfl (lv_at hl 1 rfl) ?_
  refine lv_iconst (v := 0) hx hb dL_rightShare_1 (by decide) ?_
  refine lv_aload_n hx hb dL_rightShare_2 rfl (lv_at hl 0 rfl) ?_
  have hm := C_X6_rightShare l hst E x hf
  rcases ha with ⟨e1, e2⟩ | ⟨i, En, hi, e1, e2⟩
  · subst e1 e2
    refine g_xV hC hI hm Y_X6_rightShare V_X6_rightShare w1052 (rcv_X6 hC hI) ⟨rfl, rfl⟩ ⟨Nat.le_of_ble_eq_true rfl, Nat.le_of_ble_eq_true rfl⟩ rfl hl.1 rfl (Nat.le_of_ble_eq_true rfl) dL_rightShare_3 ⟨Nat.le_of_ble_eq_true rfl, Nat.le_of_ble_eq_true rfl⟩ (fun rv H locs ho hI => ?_) (fun En ce q H locs ho => nomatch ho)
    cases ho
    refine lv_f2d hx hb dL_rightShare_6 (gf2d (rs_n hf)) ?_
    refine g_dastX hC hI dL_rightShare_7 (fun H locs hI => ?_)
    refine lv_goto (tgt := 14) hx hb dL_rightShare_8 rfl ?_
    refine lv_iconst (v := 0) hx hb dL_rightShare_14 (by decide) ?_
    exact kr _ _ _ _ _ _ _ _ nI_0.symm (by rw [gXd_0]) hI ⟨Nat.le_of_ble_eq_true rfl, Nat.le_of_ble_eq_true rfl⟩ dL_rightShare_15
  · subst e1 e2
    refine g_xV hC hI hm Y_X6_rightShare V_X6_rightShare w1052 (rcv_X6 hC hI) ⟨rfl, rfl⟩ ⟨Nat.le_of_ble_eq_true rfl, Nat.le_of_ble_eq_true rfl⟩ rfl hl.1 rfl (Nat.le_of_ble_eq_true rfl) dL_rightShare_3 ⟨Nat.le_of_ble_eq_true rfl, Nat.le_of_ble_eq_true rfl⟩ (fun rv H locs ho => nomatch ho) (fun En2 ce q H locs ho hI hce hcv hcl => ?_)
    cases ho
    match i, hi with
    | 0, hi =>
      cases hi
      refine g_catch hC hT [] ⟨0, 8, 11, 139⟩ [] rfl (fun _ h => absurd h List.not_mem_nil) (by decide) (by decide) w1029 (by decide +kernel) hce hcv hcl ?_
      refine lv_astore_n (lv' := [(2, .ref q), (0, .ref (E.2.1 132)), (1, .ref (E.2.1 160))]) hx hb dL_rightShare_11 rfl hl (by decide) rfl (fun ls hl => ?_)
      refine lv_iconst (v := 1) hx hb dL_rightShare_12 (by decide) ?_
      exact kr _ _ _ _ _ _ _ _ rfl (by rw [gXd_n x (by decide)]) hI ⟨Nat.le_of_ble_eq_true rfl, Nat.le_of_ble_eq_true rfl⟩ dL_rightShare_13
    | k + 1, hi => cases hi
theorem dL_formatStack_0 : decode cL_formatStack 0 = .ok (.aload_n 3, 1) := by decide +kernel
theorem dL_formatStack_1 : decode cL_formatStack 1 = .ok (.iconst 0, 1) := by decide +kernel
theorem dL_formatStack_2 : decode cL_formatStack 2 = .ok (.aload_n 0, 1) := by decide +kernel
theorem dL_formatStack_3 : decode cL_formatStack 3 = .ok (.iload_n 1, 1) := by decide +kernel
theorem dL_formatStack_4 : decode cL_formatStack 4 = .ok (.iload_n 2, 1) := by decide +kernel
theorem dL_formatStack_5 : decode cL_formatStack 5 = .ok (.invokevirtual 145, 3) := by decide +kernel
theorem dL_formatStack_8 : decode cL_formatStack 8 = .ok (.i2l, 1) := by decide +kernel
theorem dL_formatStack_9 : decode cL_formatStack 9 = .ok (.lastore, 1) := by decide +kernel
theorem dL_formatStack_10 : decode cL_formatStack 10 = .ok (.goto 11, 3) := by decide +kernel
theorem dL_formatStack_13 : decode cL_formatStack 13 = .ok (.astore 4, 2) := by decide +kernel
theorem dL_formatStack_15 : decode cL_formatStack 15 = .ok (.iconst 1, 1) := by decide +kernel
theorem dL_formatStack_16 : decode cL_formatStack 16 = .ok (.ireturn, 1) := by decide +kernel
theorem dL_formatStack_17 : decode cL_formatStack 17 = .ok (.astore 4, 2) := by decide +kernel
theorem dL_formatStack_19 : decode cL_formatStack 19 = .ok (.iconst 2, 1) := by decide +kernel
theorem dL_formatStack_20 : decode cL_formatStack 20 = .ok (.ireturn, 1) := by decide +kernel
theorem dL_formatStack_21 : decode cL_formatStack 21 = .ok (.iconst 0, 1) := by decide +kernel
theorem dL_formatStack_22 : decode cL_formatStack 22 = .ok (.ireturn, 1) := by decide +kernel
set_option maxRecDepth 100000 in
set_option maxHeartbeats 4000000 in
theorem H_formatStack (l : Launch) (hst : l.stackTraces = false) (E : gE) (x : gX) {v1 v2 : Int32} {M : gM} {oc : String ⊕ Int32} {M1 : gM} {z : Int32} {b : Int32} (hf : f_X6_formatStack v1 v2 M = some (oc, M1)) (ha : gAns ["java/lang/IndexOutOfBoundsException", "java/util/NoSuchElementException"] oc z b) : gH0 l E yL_formatStack (.codeWith yL_formatStack cL_formatStack 5 (some .int) [(0, 10, 13, 13), (0, 10, 17, 34)]) (gRX 11 195 3 18) M x [.ref (E.2.1 132), .int v1, .int v2, .ref (E.2.1 159)] z M1 (gXo x z b.toInt64) 3 18 := by
  refine gMetH (by decide +kernel) (Nat.le_of_ble_eq_true rfl) ?_
  intro p e s m args below meth c H locs ls Q hC hN hT hl hI kr
  replace hC : gC p s m args c cL_formatStack 5 RL E := hC
  replace hl : lv_has ls 5 [(0, .ref (E.2.1 132)), (1, .int v1), (2, .int v2), (3, .ref (E.2.1 159))] := hl
  have hx := hC.1
  have hb := hC.2.1
  refine lv_aload_n hx hb dL_formatStack_0 rfl (lv_at hl 3 rfl) ?_
  refine lv_iconst (v := 0) hx hb dL_formatStack_1 (by decide) ?_
  refine lv_aload_n hx hb dL_formatStack_2 rfl (lv_at hl 0 rfl) ?_
  refine lv_iload_n hx hb dL_formatStack_3 rfl (lv_at hl 1 rfl) ?_
  refine lv_iload_n hx hb dL_formatStack_4 rfl (lv_at hl 2 rfl) ?_
  have hm := C_X6_formatStack l hst E x hf
  rcases ha with ⟨e1, e2⟩ | ⟨i, En, hi, e1, e2⟩
  · subst e1 e2
    refine g_xV hC hI hm Y_X6_formatStack V_X6_formatStack w1060 (rcv_X6 hC hI) ⟨rfl, rfl⟩ ⟨Nat.le_of_ble_eq_true rfl, Nat.le_of_ble_eq_true rfl⟩ rfl hl.1 rfl (Nat.le_of_ble_eq_true rfl) dL_formatStack_5 ⟨Nat.le_of_ble_eq_true rfl, Nat.le_of_ble_eq_true rfl⟩ (fun rv H locs ho hI => ?_) (fun En ce q H locs ho => nomatch ho)
    cases ho
    refine lv_i2l (v := b.toInt64) hx hb dL_formatStack_8 rfl ?_
    refine g_lastX hC hI dL_formatStack_9 (fun H locs hI => ?_)
    refine lv_goto (tgt := 21) hx hb dL_formatStack_10 rfl ?_
    refine lv_iconst (v := 0) hx hb dL_formatStack_21 (by decide) ?_
    exact kr _ _ _ _ _ _ _ _ nI_0.symm (by rw [gXo_0]) hI ⟨Nat.le_of_ble_eq_true rfl, Nat.le_of_ble_eq_true rfl⟩ dL_formatStack_22
  · subst e1 e2
    refine g_xV hC hI hm Y_X6_formatStack V_X6_formatStack w1060 (rcv_X6 hC hI) ⟨rfl, rfl⟩ ⟨Nat.le_of_ble_eq_true rfl, Nat.le_of_ble_eq_true rfl⟩ rfl hl.1 rfl (Nat.le_of_ble_eq_true rfl) dL_formatStack_5 ⟨Nat.le_of_ble_eq_true rfl, Nat.le_of_ble_eq_true rfl⟩ (fun rv H locs ho => nomatch ho) (fun En2 ce q H locs ho hI hce hcv hcl => ?_)
    cases ho
    match i, hi with
    | 0, hi =>
      cases hi
      refine g_catch hC hT [] ⟨0, 10, 13, 13⟩ [⟨0, 10, 17, 34⟩] rfl (fun _ h => absurd h List.not_mem_nil) (by decide) (by decide) w442 (by decide +kernel) hce hcv hcl ?_
      refine lv_astore (lv' := [(4, .ref q), (0, .ref (E.2.1 132)), (1, .int v1), (2, .int v2), (3, .ref (E.2.1 159))]) hx hb dL_formatStack_13 hl (by decide) rfl (fun ls hl => ?_)
      refine lv_iconst (v := 1) hx hb dL_formatStack_15 (by decide) ?_
      exact kr _ _ _ _ _ _ _ _ rfl (by rw [gXo_n x (by decide)]) hI ⟨Nat.le_of_ble_eq_true rfl, Nat.le_of_ble_eq_true rfl⟩ dL_formatStack_16
    | 1, hi =>
      cases hi
      refine g_catch hC hT [⟨0, 10, 13, 13⟩] ⟨0, 10, 17, 34⟩ [] rfl (List.forall_mem_cons.mpr ⟨⟨by decide, _, w442, hN ("java/util/NoSuchElementException", "java/lang/IndexOutOfBoundsException") (by decide +kernel)⟩, (fun _ h => absurd h List.not_mem_nil)⟩) (by decide) (by decide) w682 (by decide +kernel) hce hcv hcl ?_
      refine lv_astore (lv' := [(4, .ref q), (0, .ref (E.2.1 132)), (1, .int v1), (2, .int v2), (3, .ref (E.2.1 159))]) hx hb dL_formatStack_17 hl (by decide) rfl (fun ls hl => ?_)
      refine lv_iconst (v := 2) hx hb dL_formatStack_19 (by decide) ?_
      exact kr _ _ _ _ _ _ _ _ rfl (by rw [gXo_n x (by decide)]) hI ⟨Nat.le_of_ble_eq_true rfl, Nat.le_of_ble_eq_true rfl⟩ dL_formatStack_20
    | k + 2, hi => cases hi
theorem dL_formatBerth_0 : decode cL_formatBerth 0 = .ok (.aload_n 2, 1) := by decide +kernel
theorem dL_formatBerth_1 : decode cL_formatBerth 1 = .ok (.iconst 0, 1) := by decide +kernel
theorem dL_formatBerth_2 : decode cL_formatBerth 2 = .ok (.aload_n 0, 1) := by decide +kernel
theorem dL_formatBerth_3 : decode cL_formatBerth 3 = .ok (.iload_n 1, 1) := by decide +kernel
theorem dL_formatBerth_4 : decode cL_formatBerth 4 = .ok (.invokevirtual 148, 3) := by decide +kernel
theorem dL_formatBerth_7 : decode cL_formatBerth 7 = .ok (.i2l, 1) := by decide +kernel
theorem dL_formatBerth_8 : decode cL_formatBerth 8 = .ok (.lastore, 1) := by decide +kernel
theorem dL_formatBerth_9 : decode cL_formatBerth 9 = .ok (.goto 6, 3) := by decide +kernel
theorem dL_formatBerth_12 : decode cL_formatBerth 12 = .ok (.astore_n 3, 1) := by decide +kernel
theorem dL_formatBerth_13 : decode cL_formatBerth 13 = .ok (.iconst 1, 1) := by decide +kernel
theorem dL_formatBerth_14 : decode cL_formatBerth 14 = .ok (.ireturn, 1) := by decide +kernel
theorem dL_formatBerth_15 : decode cL_formatBerth 15 = .ok (.iconst 0, 1) := by decide +kernel
theorem dL_formatBerth_16 : decode cL_formatBerth 16 = .ok (.ireturn, 1) := by decide +kernel
set_option maxRecDepth 100000 in
set_option maxHeartbeats 4000000 in
theorem H_formatBerth (l : Launch) (hst : l.stackTraces = false) (E : gE) (x : gX) {v1 : Int32} {M : gM} {oc : String ⊕ Int32} {M1 : gM} {z : Int32} {b : Int32} (hf : f_X6_formatBerth v1 M = some (oc, M1)) (ha : gAns ["java/lang/IndexOutOfBoundsException"] oc z b) : gH0 l E yL_formatBerth (.codeWith yL_formatBerth cL_formatBerth 4 (some .int) [(0, 9, 12, 13)]) (gRX 9 151 1 6) M x [.ref (E.2.1 132), .int v1, .ref (E.2.1 159)] z M1 (gXo x z b.toInt64) 1 6 := by
  refine gMetH (by decide +kernel) (Nat.le_of_ble_eq_true rfl) ?_
  intro p e s m args below meth c H locs ls Q hC hN hT hl hI kr
  replace hC : gC p s m args c cL_formatBerth 4 RL E := hC
  replace hl : lv_has ls 4 [(0, .ref (E.2.1 132)), (1, .int v1), (2, .ref (E.2.1 159))] := hl
  have hx := hC.1
  have hb := hC.2.1
  refine lv_aload_n hx hb dL_formatBerth_0 rfl (lv_at hl 2 rfl) ?_
  refine lv_iconst (v := 0) hx hb dL_formatBerth_1 (by decide) ?_
  refine lv_aload_n hx hb dL_formatBerth_2 rfl (lv_at hl 0 rfl) ?_
  refine lv_iload_n hx hb dL_formatBerth_3 rfl (lv_at hl 1 rfl) ?_
  have hm := C_X6_formatBerth l hst E x hf
  rcases ha with ⟨e1, e2⟩ | ⟨i, En, hi, e1, e2⟩
  · subst e1 e2
    refine g_xV hC hI hm Y_X6_formatBerth V_X6_formatBerth w1085 (rcv_X6 hC hI) ⟨rfl, rfl⟩ ⟨Nat.le_of_ble_eq_true rfl, Nat.le_of_ble_eq_true rfl⟩ rfl hl.1 rfl (Nat.le_of_ble_eq_true rfl) dL_formatBerth_4 ⟨Nat.le_of_ble_eq_true rfl, Nat.le_of_ble_eq_true rfl⟩ (fun rv H locs ho hI => ?_) (fun En ce q H locs ho => nomatch ho)
    cases ho
    refine lv_i2l (v := b.toInt64) hx hb dL_formatBerth_7 rfl ?_
    refine g_lastX hC hI dL_formatBerth_8 (fun H locs hI => ?_)
    refine lv_goto (tgt := 15) hx hb dL_formatBerth_9 rfl ?_
    refine lv_iconst (v := 0) hx hb dL_formatBerth_15 (by decide) ?_
    exact kr _ _ _ _ _ _ _ _ nI_0.symm (by rw [gXo_0]) hI ⟨Nat.le_of_ble_eq_true rfl, Nat.le_of_ble_eq_true rfl⟩ dL_formatBerth_16
  · subst e1 e2
    refine g_xV hC hI hm Y_X6_formatBerth V_X6_formatBerth w1085 (rcv_X6 hC hI) ⟨rfl, rfl⟩ ⟨Nat.le_of_ble_eq_true rfl, Nat.le_of_ble_eq_true rfl⟩ rfl hl.1 rfl (Nat.le_of_ble_eq_true rfl) dL_formatBerth_4 ⟨Nat.le_of_ble_eq_true rfl, Nat.le_of_ble_eq_true rfl⟩ (fun rv H locs ho => nomatch ho) (fun En2 ce q H locs ho hI hce hcv hcl => ?_)
    cases ho
    match i, hi with
    | 0, hi =>
      cases hi
      refine g_catch hC hT [] ⟨0, 9, 12, 13⟩ [] rfl (fun _ h => absurd h List.not_mem_nil) (by decide) (by decide) w442 (by decide +kernel) hce hcv hcl ?_
      refine lv_astore_n (lv' := [(3, .ref q), (0, .ref (E.2.1 132)), (1, .int v1), (2, .ref (E.2.1 159))]) hx hb dL_formatBerth_12 rfl hl (by decide) rfl (fun ls hl => ?_)
      refine lv_iconst (v := 1) hx hb dL_formatBerth_13 (by decide) ?_
      exact kr _ _ _ _ _ _ _ _ rfl (by rw [gXo_n x (by decide)]) hI ⟨Nat.le_of_ble_eq_true rfl, Nat.le_of_ble_eq_true rfl⟩ dL_formatBerth_14
    | k + 1, hi => cases hi
theorem dL_lineChar_0 : decode cL_lineChar 0 = .ok (.aload_n 2, 1) := by decide +kernel
theorem dL_lineChar_1 : decode cL_lineChar 1 = .ok (.iconst 0, 1) := by decide +kernel
theorem dL_lineChar_2 : decode cL_lineChar 2 = .ok (.aload_n 0, 1) := by decide +kernel
theorem dL_lineChar_3 : decode cL_lineChar 3 = .ok (.iload_n 1, 1) := by decide +kernel
theorem dL_lineChar_4 : decode cL_lineChar 4 = .ok (.invokevirtual 151, 3) := by decide +kernel
theorem dL_lineChar_7 : decode cL_lineChar 7 = .ok (.i2l, 1) := by decide +kernel
theorem dL_lineChar_8 : decode cL_lineChar 8 = .ok (.lastore, 1) := by decide +kernel
theorem dL_lineChar_9 : decode cL_lineChar 9 = .ok (.goto 6, 3) := by decide +kernel
theorem dL_lineChar_12 : decode cL_lineChar 12 = .ok (.astore_n 3, 1) := by decide +kernel
theorem dL_lineChar_13 : decode cL_lineChar 13 = .ok (.iconst 1, 1) := by decide +kernel
theorem dL_lineChar_14 : decode cL_lineChar 14 = .ok (.ireturn, 1) := by decide +kernel
theorem dL_lineChar_15 : decode cL_lineChar 15 = .ok (.iconst 0, 1) := by decide +kernel
theorem dL_lineChar_16 : decode cL_lineChar 16 = .ok (.ireturn, 1) := by decide +kernel
set_option maxRecDepth 100000 in
set_option maxHeartbeats 4000000 in
theorem H_lineChar (l : Launch) (hst : l.stackTraces = false) (E : gE) (x : gX) {v1 : Int32} {M : gM} {oc : String ⊕ Int32} {M1 : gM} {z : Int32} {b : Int32} (hf : f_X6_lineChar v1 M = some (oc, M1)) (ha : gAns ["java/lang/IndexOutOfBoundsException"] oc z b) : gH0 l E yL_lineChar (.codeWith yL_lineChar cL_lineChar 4 (some .int) [(0, 9, 12, 13)]) (gRX 7 111 1 6) M x [.ref (E.2.1 132), .int v1, .ref (E.2.1 159)] z M1 (gXo x z b.toInt64) 1 6 := by
  refine gMetH (by decide +kernel) (Nat.le_of_ble_eq_true rfl) ?_
  intro p e s m args below meth c H locs ls Q hC hN hT hl hI kr
  replace hC : gC p s m args c cL_lineChar 4 RL E := hC
  replace hl : lv_has ls 4 [(0, .ref (E.2.1 132)), (1, .int v1), (2, .ref (E.2.1 159))] := hl
  have hx := hC.1
  have hb := hC.2.1
  refine lv_aload_n hx hb dL_lineChar_0 rfl (lv_at hl 2 rfl) ?_
  refine lv_iconst (v := 0) hx hb dL_lineChar_1 (by decide) ?_
  refine lv_aload_n hx hb dL_lineChar_2 rfl (lv_at hl 0 rfl) ?_
  refine lv_iload_n hx hb dL_lineChar_3 rfl (lv_at hl 1 rfl) ?_
  have hm := C_X6_lineChar l hst E x hf
  rcases ha with ⟨e1, e2⟩ | ⟨i, En, hi, e1, e2⟩
  · subst e1 e2
    refine g_xV hC hI hm Y_X6_lineChar V_X6_lineChar w1102 (rcv_X6 hC hI) ⟨rfl, rfl⟩ ⟨Nat.le_of_ble_eq_true rfl, Nat.le_of_ble_eq_true rfl⟩ rfl hl.1 rfl (Nat.le_of_ble_eq_true rfl) dL_lineChar_4 ⟨Nat.le_of_ble_eq_true rfl, Nat.le_of_ble_eq_true rfl⟩ (fun rv H locs ho hI => ?_) (fun En ce q H locs ho => nomatch ho)
    cases ho
    refine lv_i2l (v := b.toInt64) hx hb dL_lineChar_7 rfl ?_
    refine g_lastX hC hI dL_lineChar_8 (fun H locs hI => ?_)
    refine lv_goto (tgt := 15) hx hb dL_lineChar_9 rfl ?_
    refine lv_iconst (v := 0) hx hb dL_lineChar_15 (by decide) ?_
    exact kr _ _ _ _ _ _ _ _ nI_0.symm (by rw [gXo_0]) hI ⟨Nat.le_of_ble_eq_true rfl, Nat.le_of_ble_eq_true rfl⟩ dL_lineChar_16
  · subst e1 e2
    refine g_xV hC hI hm Y_X6_lineChar V_X6_lineChar w1102 (rcv_X6 hC hI) ⟨rfl, rfl⟩ ⟨Nat.le_of_ble_eq_true rfl, Nat.le_of_ble_eq_true rfl⟩ rfl hl.1 rfl (Nat.le_of_ble_eq_true rfl) dL_lineChar_4 ⟨Nat.le_of_ble_eq_true rfl, Nat.le_of_ble_eq_true rfl⟩ (fun rv H locs ho => nomatch ho) (fun En2 ce q H locs ho hI hce hcv hcl => ?_)
    cases ho
    match i, hi with
    | 0, hi =>
      cases hi
      refine g_catch hC hT [] ⟨0, 9, 12, 13⟩ [] rfl (fun _ h => absurd h List.not_mem_nil) (by decide) (by decide) w442 (by decide +kernel) hce hcv hcl ?_
      refine lv_astore_n (lv' := [(3, .ref q), (0, .ref (E.2.1 132)), (1, .int v1), (2, .ref (E.2.1 159))]) hx hb dL_lineChar_12 rfl hl (by decide) rfl (fun ls hl => ?_)
      refine lv_iconst (v := 1) hx hb dL_lineChar_13 (by decide) ?_
      exact kr _ _ _ _ _ _ _ _ rfl (by rw [gXo_n x (by decide)]) hI ⟨Nat.le_of_ble_eq_true rfl, Nat.le_of_ble_eq_true rfl⟩ dL_lineChar_14
    | k + 1, hi => cases hi
theorem dL_append_0 : decode cL_append 0 = .ok (.aload_n 2, 1) := by decide +kernel
theorem dL_append_1 : decode cL_append 1 = .ok (.iconst 0, 1) := by decide +kernel
theorem dL_append_2 : decode cL_append 2 = .ok (.aload_n 0, 1) := by decide +kernel
theorem dL_append_3 : decode cL_append 3 = .ok (.iload_n 1, 1) := by decide +kernel
theorem dL_append_4 : decode cL_append 4 = .ok (.invokevirtual 155, 3) := by decide +kernel
theorem dL_append_7 : decode cL_append 7 = .ok (.i2l, 1) := by decide +kernel
theorem dL_append_8 : decode cL_append 8 = .ok (.lastore, 1) := by decide +kernel
theorem dL_append_9 : decode cL_append 9 = .ok (.goto 9, 3) := by decide +kernel
theorem dL_append_12 : decode cL_append 12 = .ok (.astore_n 3, 1) := by decide +kernel
theorem dL_append_13 : decode cL_append 13 = .ok (.iconst 1, 1) := by decide +kernel
theorem dL_append_14 : decode cL_append 14 = .ok (.ireturn, 1) := by decide +kernel
theorem dL_append_15 : decode cL_append 15 = .ok (.astore_n 3, 1) := by decide +kernel
theorem dL_append_16 : decode cL_append 16 = .ok (.iconst 2, 1) := by decide +kernel
theorem dL_append_17 : decode cL_append 17 = .ok (.ireturn, 1) := by decide +kernel
theorem dL_append_18 : decode cL_append 18 = .ok (.iconst 0, 1) := by decide +kernel
theorem dL_append_19 : decode cL_append 19 = .ok (.ireturn, 1) := by decide +kernel
set_option maxRecDepth 100000 in
set_option maxHeartbeats 4000000 in
theorem H_append (l : Launch) (hst : l.stackTraces = false) (E : gE) (x : gX) {v1 : Int32} {M : gM} {oc : String ⊕ Int32} {M1 : gM} {z : Int32} {b : Int32} (hf : f_X6_append v1 M = some (oc, M1)) (ha : gAns ["java/lang/IllegalArgumentException", "java/lang/IllegalStateException"] oc z b) : gH0 l E yL_append (.codeWith yL_append cL_append 4 (some .int) [(0, 9, 12, 15), (0, 9, 15, 17)]) (gRX 7 111 1 6) M x [.ref (E.2.1 132), .int v1, .ref (E.2.1 159)] z M1 (gXo x z b.toInt64) 1 6 := by
  refine gMetH (by decide +kernel) (Nat.le_of_ble_eq_true rfl) ?_
  intro p e s m args below meth c H locs ls Q hC hN hT hl hI kr
  replace hC : gC p s m args c cL_append 4 RL E := hC
  replace hl : lv_has ls 4 [(0, .ref (E.2.1 132)), (1, .int v1), (2, .ref (E.2.1 159))] := hl
  have hx := hC.1
  have hb := hC.2.1
  refine lv_aload_n hx hb dL_append_0 rfl (lv_at hl 2 rfl) ?_
  refine lv_iconst (v := 0) hx hb dL_append_1 (by decide) ?_
  refine lv_aload_n hx hb dL_append_2 rfl (lv_at hl 0 rfl) ?_
  refine lv_iload_n hx hb dL_append_3 rfl (lv_at hl 1 rfl) ?_
  have hm := C_X6_append l hst E x hf
  rcases ha with ⟨e1, e2⟩ | ⟨i, En, hi, e1, e2⟩
  · subst e1 e2
    refine g_xV hC hI hm Y_X6_append V_X6_append w1114 (rcv_X6 hC hI) ⟨rfl, rfl⟩ ⟨Nat.le_of_ble_eq_true rfl, Nat.le_of_ble_eq_true rfl⟩ rfl hl.1 rfl (Nat.le_of_ble_eq_true rfl) dL_append_4 ⟨Nat.le_of_ble_eq_true rfl, Nat.le_of_ble_eq_true rfl⟩ (fun rv H locs ho hI => ?_) (fun En ce q H locs ho => nomatch ho)
    cases ho
    refine lv_i2l (v := b.toInt64) hx hb dL_append_7 rfl ?_
    refine g_lastX hC hI dL_append_8 (fun H locs hI => ?_)
    refine lv_goto (tgt := 18) hx hb dL_append_9 rfl ?_
    refine lv_iconst (v := 0) hx hb dL_append_18 (by decide) ?_
    exact kr _ _ _ _ _ _ _ _ nI_0.symm (by rw [gXo_0]) hI ⟨Nat.le_of_ble_eq_true rfl, Nat.le_of_ble_eq_true rfl⟩ dL_append_19
  · subst e1 e2
    refine g_xV hC hI hm Y_X6_append V_X6_append w1114 (rcv_X6 hC hI) ⟨rfl, rfl⟩ ⟨Nat.le_of_ble_eq_true rfl, Nat.le_of_ble_eq_true rfl⟩ rfl hl.1 rfl (Nat.le_of_ble_eq_true rfl) dL_append_4 ⟨Nat.le_of_ble_eq_true rfl, Nat.le_of_ble_eq_true rfl⟩ (fun rv H locs ho => nomatch ho) (fun En2 ce q H locs ho hI hce hcv hcl => ?_)
    cases ho
    match i, hi with
    | 0, hi =>
      cases hi
      refine g_catch hC hT [] ⟨0, 9, 12, 15⟩ [⟨0, 9, 15, 17⟩] rfl (fun _ h => absurd h List.not_mem_nil) (by decide) (by decide) w521 (by decide +kernel) hce hcv hcl ?_
      refine lv_astore_n (lv' := [(3, .ref q), (0, .ref (E.2.1 132)), (1, .int v1), (2, .ref (E.2.1 159))]) hx hb dL_append_12 rfl hl (by decide) rfl (fun ls hl => ?_)
      refine lv_iconst (v := 1) hx hb dL_append_13 (by decide) ?_
      exact kr _ _ _ _ _ _ _ _ rfl (by rw [gXo_n x (by decide)]) hI ⟨Nat.le_of_ble_eq_true rfl, Nat.le_of_ble_eq_true rfl⟩ dL_append_14
    | 1, hi =>
      cases hi
      refine g_catch hC hT [⟨0, 9, 12, 15⟩] ⟨0, 9, 15, 17⟩ [] rfl (List.forall_mem_cons.mpr ⟨⟨by decide, _, w521, hN ("java/lang/IllegalStateException", "java/lang/IllegalArgumentException") (by decide +kernel)⟩, (fun _ h => absurd h List.not_mem_nil)⟩) (by decide) (by decide) w522 (by decide +kernel) hce hcv hcl ?_
      refine lv_astore_n (lv' := [(3, .ref q), (0, .ref (E.2.1 132)), (1, .int v1), (2, .ref (E.2.1 159))]) hx hb dL_append_15 rfl hl (by decide) rfl (fun ls hl => ?_)
      refine lv_iconst (v := 2) hx hb dL_append_16 (by decide) ?_
      exact kr _ _ _ _ _ _ _ _ rfl (by rw [gXo_n x (by decide)]) hI ⟨Nat.le_of_ble_eq_true rfl, Nat.le_of_ble_eq_true rfl⟩ dL_append_17
    | k + 2, hi => cases hi
theorem dL_run_0 : decode cL_run 0 = .ok (.aload_n 1, 1) := by decide +kernel
theorem dL_run_1 : decode cL_run 1 = .ok (.iconst 0, 1) := by decide +kernel
theorem dL_run_2 : decode cL_run 2 = .ok (.aload_n 0, 1) := by decide +kernel
theorem dL_run_3 : decode cL_run 3 = .ok (.invokevirtual 159, 3) := by decide +kernel
theorem dL_run_6 : decode cL_run 6 = .ok (.i2l, 1) := by decide +kernel
theorem dL_run_7 : decode cL_run 7 = .ok (.lastore, 1) := by decide +kernel
theorem dL_run_8 : decode cL_run 8 = .ok (.goto 9, 3) := by decide +kernel
theorem dL_run_11 : decode cL_run 11 = .ok (.astore_n 2, 1) := by decide +kernel
theorem dL_run_12 : decode cL_run 12 = .ok (.iconst 1, 1) := by decide +kernel
theorem dL_run_13 : decode cL_run 13 = .ok (.ireturn, 1) := by decide +kernel
theorem dL_run_14 : decode cL_run 14 = .ok (.astore_n 2, 1) := by decide +kernel
theorem dL_run_15 : decode cL_run 15 = .ok (.iconst 2, 1) := by decide +kernel
theorem dL_run_16 : decode cL_run 16 = .ok (.ireturn, 1) := by decide +kernel
theorem dL_run_17 : decode cL_run 17 = .ok (.iconst 0, 1) := by decide +kernel
theorem dL_run_18 : decode cL_run 18 = .ok (.ireturn, 1) := by decide +kernel
set_option maxRecDepth 100000 in
set_option maxHeartbeats 4000000 in
theorem H_run (l : Launch) (hst : l.stackTraces = false) (E : gE) (x : gX) {M : gM} {oc : String ⊕ Int32} {M1 : gM} {z : Int32} {b : Int32} (hf : f_X6_run M = some (oc, M1)) (ha : gAns ["java/lang/IllegalArgumentException", "java/lang/IllegalStateException"] oc z b) : gH0 l E yL_run (.codeWith yL_run cL_run 3 (some .int) [(0, 8, 11, 15), (0, 8, 14, 17)]) (gRX 11 249 1 6) M x [.ref (E.2.1 132), .ref (E.2.1 159)] z M1 (gXo x z b.toInt64) 1 6 := by
  refine gMetH (by decide +kernel) (Nat.le_of_ble_eq_true rfl) ?_
  intro p e s m args below meth c H locs ls Q hC hN hT hl hI kr
  replace hC : gC p s m args c cL_run 3 RL E := hC
  replace hl : lv_has ls 3 [(0, .ref (E.2.1 132)), (1, .ref (E.2.1 159))] := hl
  have hx := hC.1
  have hb := hC.2.1
  refine lv_aload_n hx hb dL_run_0 rfl (lv_at hl 1 rfl) ?_
  refine lv_iconst (v := 0) hx hb dL_run_1 (by decide) ?_
  refine lv_aload_n hx hb dL_run_2 rfl (lv_at hl 0 rfl) ?_
  have hm := C_X6_run l hst E x hf
  rcases ha with ⟨e1, e2⟩ | ⟨i, En, hi, e1, e2⟩
  · subst e1 e2
    refine g_xV hC hI hm Y_X6_run V_X6_run w1127 (rcv_X6 hC hI) ⟨rfl, rfl⟩ ⟨Nat.le_of_ble_eq_true rfl, Nat.le_of_ble_eq_true rfl⟩ rfl hl.1 rfl (Nat.le_of_ble_eq_true rfl) dL_run_3 ⟨Nat.le_of_ble_eq_true rfl, Nat.le_of_ble_eq_true rfl⟩ (fun rv H locs ho hI => ?_) (fun En ce q H locs ho => nomatch ho)
    cases ho
    refine lv_i2l (v := b.toInt64) hx hb dL_run_6 rfl ?_
    refine g_lastX hC hI dL_run_7 (fun H locs hI => ?_)
    refine lv_goto (tgt := 17) hx hb dL_run_8 rfl ?_
    refine lv_iconst (v := 0) hx hb dL_run_17 (by decide) ?_
    exact kr _ _ _ _ _ _ _ _ nI_0.symm (by rw [gXo_0]) hI ⟨Nat.le_of_ble_eq_true rfl, Nat.le_of_ble_eq_true rfl⟩ dL_run_18
  · subst e1 e2
    refine g_xV hC hI hm Y_X6_run V_X6_run w1127 (rcv_X6 hC hI) ⟨rfl, rfl⟩ ⟨Nat.le_of_ble_eq_true rfl, Nat.le_of_ble_eq_true rfl⟩ rfl hl.1 rfl (Nat.le_of_ble_eq_true rfl) dL_run_3 ⟨Nat.le_of_ble_eq_true rfl, Nat.le_of_ble_eq_true rfl⟩ (fun rv H locs ho => nomatch ho) (fun En2 ce q H locs ho hI hce hcv hcl => ?_)
    cases ho
    match i, hi with
    | 0, hi =>
      cases hi
      refine g_catch hC hT [] ⟨0, 8, 11, 15⟩ [⟨0, 8, 14, 17⟩] rfl (fun _ h => absurd h List.not_mem_nil) (by decide) (by decide) w521 (by decide +kernel) hce hcv hcl ?_
      refine lv_astore_n (lv' := [(2, .ref q), (0, .ref (E.2.1 132)), (1, .ref (E.2.1 159))]) hx hb dL_run_11 rfl hl (by decide) rfl (fun ls hl => ?_)
      refine lv_iconst (v := 1) hx hb dL_run_12 (by decide) ?_
      exact kr _ _ _ _ _ _ _ _ rfl (by rw [gXo_n x (by decide)]) hI ⟨Nat.le_of_ble_eq_true rfl, Nat.le_of_ble_eq_true rfl⟩ dL_run_13
    | 1, hi =>
      cases hi
      refine g_catch hC hT [⟨0, 8, 11, 15⟩] ⟨0, 8, 14, 17⟩ [] rfl (List.forall_mem_cons.mpr ⟨⟨by decide, _, w521, hN ("java/lang/IllegalStateException", "java/lang/IllegalArgumentException") (by decide +kernel)⟩, (fun _ h => absurd h List.not_mem_nil)⟩) (by decide) (by decide) w522 (by decide +kernel) hce hcv hcl ?_
      refine lv_astore_n (lv' := [(2, .ref q), (0, .ref (E.2.1 132)), (1, .ref (E.2.1 159))]) hx hb dL_run_14 rfl hl (by decide) rfl (fun ls hl => ?_)
      refine lv_iconst (v := 2) hx hb dL_run_15 (by decide) ?_
      exact kr _ _ _ _ _ _ _ _ rfl (by rw [gXo_n x (by decide)]) hI ⟨Nat.le_of_ble_eq_true rfl, Nat.le_of_ble_eq_true rfl⟩ dL_run_16
    | k + 2, hi => cases hi
theorem dL_errorPosition_0 : decode cL_errorPosition 0 = .ok (.aload_n 1, 1) := by decide +kernel
theorem dL_errorPosition_1 : decode cL_errorPosition 1 = .ok (.iconst 0, 1) := by decide +kernel
theorem dL_errorPosition_2 : decode cL_errorPosition 2 = .ok (.aload_n 0, 1) := by decide +kernel
theorem dL_errorPosition_3 : decode cL_errorPosition 3 = .ok (.invokevirtual 162, 3) := by decide +kernel
theorem dL_errorPosition_6 : decode cL_errorPosition 6 = .ok (.i2l, 1) := by decide +kernel
theorem dL_errorPosition_7 : decode cL_errorPosition 7 = .ok (.lastore, 1) := by decide +kernel
theorem dL_errorPosition_8 : decode cL_errorPosition 8 = .ok (.goto 6, 3) := by decide +kernel
theorem dL_errorPosition_11 : decode cL_errorPosition 11 = .ok (.astore_n 2, 1) := by decide +kernel
theorem dL_errorPosition_12 : decode cL_errorPosition 12 = .ok (.iconst 1, 1) := by decide +kernel
theorem dL_errorPosition_13 : decode cL_errorPosition 13 = .ok (.ireturn, 1) := by decide +kernel
theorem dL_errorPosition_14 : decode cL_errorPosition 14 = .ok (.iconst 0, 1) := by decide +kernel
theorem dL_errorPosition_15 : decode cL_errorPosition 15 = .ok (.ireturn, 1) := by decide +kernel
set_option maxRecDepth 100000 in
set_option maxHeartbeats 4000000 in
theorem H_errorPosition (l : Launch) (hst : l.stackTraces = false) (E : gE) (x : gX) {M : gM} {oc : String ⊕ Int32} {M1 : gM} {z : Int32} {b : Int32} (hf : f_X6_errorPosition M = some (oc, M1)) (ha : gAns ["java/util/NoSuchElementException"] oc z b) : gH0 l E yL_errorPosition (.codeWith yL_errorPosition cL_errorPosition 3 (some .int) [(0, 8, 11, 34)]) (gRX 9 150 1 6) M x [.ref (E.2.1 132), .ref (E.2.1 159)] z M1 (gXo x z b.toInt64) 1 6 := by
  refine gMetH (by decide +kernel) (Nat.le_of_ble_eq_true rfl) ?_
  intro p e s m args below meth c H locs ls Q hC hN hT hl hI kr
  replace hC : gC p s m args c cL_errorPosition 3 RL E := hC
  replace hl : lv_has ls 3 [(0, .ref (E.2.1 132)), (1, .ref (E.2.1 159))] := hl
  have hx := hC.1
  have hb := hC.2.1
  refine lv_aload_n hx hb dL_errorPosition_0 rfl (lv_at hl 1 rfl) ?_
  refine lv_iconst (v := 0) hx hb dL_errorPosition_1 (by decide) ?_
  refine lv_aload_n hx hb dL_errorPosition_2 rfl (lv_at hl 0 rfl) ?_
  have hm := C_X6_errorPosition l hst E x hf
  rcases ha with ⟨e1, e2⟩ | ⟨i, En, hi, e1, e2⟩
  · subst e1 e2
    refine g_xV hC hI hm Y_X6_errorPosition V_X6_errorPosition w1287 (rcv_X6 hC hI) ⟨rfl, rfl⟩ ⟨Nat.le_of_ble_eq_true rfl, Nat.le_of_ble_eq_true rfl⟩ rfl hl.1 rfl (Nat.le_of_ble_eq_true rfl) dL_errorPosition_3 ⟨Nat.le_of_ble_eq_true rfl, Nat.le_of_ble_eq_true rfl⟩ (fun rv H locs ho hI => ?_) (fun En ce q H locs ho => nomatch ho)
    cases ho
    refine lv_i2l (v := b.toInt64) hx hb dL_errorPosition_6 rfl ?_
    refine g_lastX hC hI dL_errorPosition_7 (fun H locs hI => ?_)
    refine lv_goto (tgt := 14) hx hb dL_errorPosition_8 rfl ?_
    refine lv_iconst (v := 0) hx hb dL_errorPosition_14 (by decide) ?_
    exact kr _ _ _ _ _ _ _ _ nI_0.symm (by rw [gXo_0]) hI ⟨Nat.le_of_ble_eq_true rfl, Nat.le_of_ble_eq_true rfl⟩ dL_errorPosition_15
  · subst e1 e2
    refine g_xV hC hI hm Y_X6_errorPosition V_X6_errorPosition w1287 (rcv_X6 hC hI) ⟨rfl, rfl⟩ ⟨Nat.le_of_ble_eq_true rfl, Nat.le_of_ble_eq_true rfl⟩ rfl hl.1 rfl (Nat.le_of_ble_eq_true rfl) dL_errorPosition_3 ⟨Nat.le_of_ble_eq_true rfl, Nat.le_of_ble_eq_true rfl⟩ (fun rv H locs ho => nomatch ho) (fun En2 ce q H locs ho hI hce hcv hcl => ?_)
    cases ho
    match i, hi with
    | 0, hi =>
      cases hi
      refine g_catch hC hT [] ⟨0, 8, 11, 34⟩ [] rfl (fun _ h => absurd h List.not_mem_nil) (by decide) (by decide) w682 (by decide +kernel) hce hcv hcl ?_
      refine lv_astore_n (lv' := [(2, .ref q), (0, .ref (E.2.1 132)), (1, .ref (E.2.1 159))]) hx hb dL_errorPosition_11 rfl hl (by decide) rfl (fun ls hl => ?_)
      refine lv_iconst (v := 1) hx hb dL_errorPosition_12 (by decide) ?_
      exact kr _ _ _ _ _ _ _ _ rfl (by rw [gXo_n x (by decide)]) hI ⟨Nat.le_of_ble_eq_true rfl, Nat.le_of_ble_eq_true rfl⟩ dL_errorPosition_13
    | k + 1, hi => cases hi
theorem dL_failedCommand_0 : decode cL_failedCommand 0 = .ok (.aload_n 1, 1) := by decide +kernel
theorem dL_failedCommand_1 : decode cL_failedCommand 1 = .ok (.iconst 0, 1) := by decide +kernel
theorem dL_failedCommand_2 : decode cL_failedCommand 2 = .ok (.aload_n 0, 1) := by decide +kernel
theorem dL_failedCommand_3 : decode cL_failedCommand 3 = .ok (.invokevirtual 165, 3) := by decide +kernel
theorem dL_failedCommand_6 : decode cL_failedCommand 6 = .ok (.i2l, 1) := by decide +kernel
theorem dL_failedCommand_7 : decode cL_failedCommand 7 = .ok (.lastore, 1) := by decide +kernel
theorem dL_failedCommand_8 : decode cL_failedCommand 8 = .ok (.goto 6, 3) := by decide +kernel
theorem dL_failedCommand_11 : decode cL_failedCommand 11 = .ok (.astore_n 2, 1) := by decide +kernel
theorem dL_failedCommand_12 : decode cL_failedCommand 12 = .ok (.iconst 1, 1) := by decide +kernel
theorem dL_failedCommand_13 : decode cL_failedCommand 13 = .ok (.ireturn, 1) := by decide +kernel
theorem dL_failedCommand_14 : decode cL_failedCommand 14 = .ok (.iconst 0, 1) := by decide +kernel
theorem dL_failedCommand_15 : decode cL_failedCommand 15 = .ok (.ireturn, 1) := by decide +kernel
set_option maxRecDepth 100000 in
set_option maxHeartbeats 4000000 in
theorem H_failedCommand (l : Launch) (hst : l.stackTraces = false) (E : gE) (x : gX) {M : gM} {oc : String ⊕ Int32} {M1 : gM} {z : Int32} {b : Int32} (hf : f_X6_failedCommand M = some (oc, M1)) (ha : gAns ["java/util/NoSuchElementException"] oc z b) : gH0 l E yL_failedCommand (.codeWith yL_failedCommand cL_failedCommand 3 (some .int) [(0, 8, 11, 34)]) (gRX 9 150 1 6) M x [.ref (E.2.1 132), .ref (E.2.1 159)] z M1 (gXo x z b.toInt64) 1 6 := by
  refine gMetH (by decide +kernel) (Nat.le_of_ble_eq_true rfl) ?_
  intro p e s m args below meth c H locs ls Q hC hN hT hl hI kr
  replace hC : gC p s m args c cL_failedCommand 3 RL E := hC
  replace hl : lv_has ls 3 [(0, .ref (E.2.1 132)), (1, .ref (E.2.1 159))] := hl
  have hx := hC.1
  have hb := hC.2.1
  refine lv_aload_n hx hb dL_failedCommand_0 rfl (lv_at hl 1 rfl) ?_
  refine lv_iconst (v := 0) hx hb dL_failedCommand_1 (by decide) ?_
  refine lv_aload_n hx hb dL_failedCommand_2 rfl (lv_at hl 0 rfl) ?_
  have hm := C_X6_failedCommand l hst E x hf
  rcases ha with ⟨e1, e2⟩ | ⟨i, En, hi, e1, e2⟩
  · subst e1 e2
    refine g_xV hC hI hm Y_X6_failedCommand V_X6_failedCommand w1294 (rcv_X6 hC hI) ⟨rfl, rfl⟩ ⟨Nat.le_of_ble_eq_true rfl, Nat.le_of_ble_eq_true rfl⟩ rfl hl.1 rfl (Nat.le_of_ble_eq_true rfl) dL_failedCommand_3 ⟨Nat.le_of_ble_eq_true rfl, Nat.le_of_ble_eq_true rfl⟩ (fun rv H locs ho hI => ?_) (fun En ce q H locs ho => nomatch ho)
    cases ho
    refine lv_i2l (v := b.toInt64) hx hb dL_failedCommand_6 rfl ?_
    refine g_lastX hC hI dL_failedCommand_7 (fun H locs hI => ?_)
    refine lv_goto (tgt := 14) hx hb dL_failedCommand_8 rfl ?_
    refine lv_iconst (v := 0) hx hb dL_failedCommand_14 (by decide) ?_
    exact kr _ _ _ _ _ _ _ _ nI_0.symm (by rw [gXo_0]) hI ⟨Nat.le_of_ble_eq_true rfl, Nat.le_of_ble_eq_true rfl⟩ dL_failedCommand_15
  · subst e1 e2
    refine g_xV hC hI hm Y_X6_failedCommand V_X6_failedCommand w1294 (rcv_X6 hC hI) ⟨rfl, rfl⟩ ⟨Nat.le_of_ble_eq_true rfl, Nat.le_of_ble_eq_true rfl⟩ rfl hl.1 rfl (Nat.le_of_ble_eq_true rfl) dL_failedCommand_3 ⟨Nat.le_of_ble_eq_true rfl, Nat.le_of_ble_eq_true rfl⟩ (fun rv H locs ho => nomatch ho) (fun En2 ce q H locs ho hI hce hcv hcl => ?_)
    cases ho
    match i, hi with
    | 0, hi =>
      cases hi
      refine g_catch hC hT [] ⟨0, 8, 11, 34⟩ [] rfl (fun _ h => absurd h List.not_mem_nil) (by decide) (by decide) w682 (by decide +kernel) hce hcv hcl ?_
      refine lv_astore_n (lv' := [(2, .ref q), (0, .ref (E.2.1 132)), (1, .ref (E.2.1 159))]) hx hb dL_failedCommand_11 rfl hl (by decide) rfl (fun ls hl => ?_)
      refine lv_iconst (v := 1) hx hb dL_failedCommand_12 (by decide) ?_
      exact kr _ _ _ _ _ _ _ _ rfl (by rw [gXo_n x (by decide)]) hI ⟨Nat.le_of_ble_eq_true rfl, Nat.le_of_ble_eq_true rfl⟩ dL_failedCommand_13
    | k + 1, hi => cases hi
theorem dL_undo_0 : decode cL_undo 0 = .ok (.aload_n 1, 1) := by decide +kernel
theorem dL_undo_1 : decode cL_undo 1 = .ok (.iconst 0, 1) := by decide +kernel
theorem dL_undo_2 : decode cL_undo 2 = .ok (.aload_n 0, 1) := by decide +kernel
theorem dL_undo_3 : decode cL_undo 3 = .ok (.invokevirtual 168, 3) := by decide +kernel
theorem dL_undo_6 : decode cL_undo 6 = .ok (.i2l, 1) := by decide +kernel
theorem dL_undo_7 : decode cL_undo 7 = .ok (.lastore, 1) := by decide +kernel
theorem dL_undo_8 : decode cL_undo 8 = .ok (.goto 6, 3) := by decide +kernel
theorem dL_undo_11 : decode cL_undo 11 = .ok (.astore_n 2, 1) := by decide +kernel
theorem dL_undo_12 : decode cL_undo 12 = .ok (.iconst 1, 1) := by decide +kernel
theorem dL_undo_13 : decode cL_undo 13 = .ok (.ireturn, 1) := by decide +kernel
theorem dL_undo_14 : decode cL_undo 14 = .ok (.iconst 0, 1) := by decide +kernel
theorem dL_undo_15 : decode cL_undo 15 = .ok (.ireturn, 1) := by decide +kernel
set_option maxRecDepth 100000 in
set_option maxHeartbeats 4000000 in
theorem H_undo (l : Launch) (hst : l.stackTraces = false) (E : gE) (x : gX) {M : gM} {oc : String ⊕ Int32} {M1 : gM} {z : Int32} {b : Int32} (hf : f_X6_undo M = some (oc, M1)) (ha : gAns ["java/lang/IllegalStateException"] oc z b) : gH0 l E yL_undo (.codeWith yL_undo cL_undo 3 (some .int) [(0, 8, 11, 17)]) (gRX 7 145 1 6) M x [.ref (E.2.1 132), .ref (E.2.1 159)] z M1 (gXo x z b.toInt64) 1 6 := by
  refine gMetH (by decide +kernel) (Nat.le_of_ble_eq_true rfl) ?_
  intro p e s m args below meth c H locs ls Q hC hN hT hl hI kr
  replace hC : gC p s m args c cL_undo 3 RL E := hC
  replace hl : lv_has ls 3 [(0, .ref (E.2.1 132)), (1, .ref (E.2.1 159))] := hl
  have hx := hC.1
  have hb := hC.2.1
  refine lv_aload_n hx hb dL_undo_0 rfl (lv_at hl 1 rfl) ?_
  refine lv_iconst (v := 0) hx hb dL_undo_1 (by decide) ?_
  refine lv_aload_n hx hb dL_undo_2 rfl (lv_at hl 0 rfl) ?_
  have hm := C_X6_undo l hst E x hf
  rcases ha with ⟨e1, e2⟩ | ⟨i, En, hi, e1, e2⟩
  · subst e1 e2
    refine g_xV hC hI hm Y_X6_undo V_X6_undo w1301 (rcv_X6 hC hI) ⟨rfl, rfl⟩ ⟨Nat.le_of_ble_eq_true rfl, Nat.le_of_ble_eq_true rfl⟩ rfl hl.1 rfl (Nat.le_of_ble_eq_true rfl) dL_undo_3 ⟨Nat.le_of_ble_eq_true rfl, Nat.le_of_ble_eq_true rfl⟩ (fun rv H locs ho hI => ?_) (fun En ce q H locs ho => nomatch ho)
    cases ho
    refine lv_i2l (v := b.toInt64) hx hb dL_undo_6 rfl ?_
    refine g_lastX hC hI dL_undo_7 (fun H locs hI => ?_)
    refine lv_goto (tgt := 14) hx hb dL_undo_8 rfl ?_
    refine lv_iconst (v := 0) hx hb dL_undo_14 (by decide) ?_
    exact kr _ _ _ _ _ _ _ _ nI_0.symm (by rw [gXo_0]) hI ⟨Nat.le_of_ble_eq_true rfl, Nat.le_of_ble_eq_true rfl⟩ dL_undo_15
  · subst e1 e2
    refine g_xV hC hI hm Y_X6_undo V_X6_undo w1301 (rcv_X6 hC hI) ⟨rfl, rfl⟩ ⟨Nat.le_of_ble_eq_true rfl, Nat.le_of_ble_eq_true rfl⟩ rfl hl.1 rfl (Nat.le_of_ble_eq_true rfl) dL_undo_3 ⟨Nat.le_of_ble_eq_true rfl, Nat.le_of_ble_eq_true rfl⟩ (fun rv H locs ho => nomatch ho) (fun En2 ce q H locs ho hI hce hcv hcl => ?_)
    cases ho
    match i, hi with
    | 0, hi =>
      cases hi
      refine g_catch hC hT [] ⟨0, 8, 11, 17⟩ [] rfl (fun _ h => absurd h List.not_mem_nil) (by decide) (by decide) w522 (by decide +kernel) hce hcv hcl ?_
      refine lv_astore_n (lv' := [(2, .ref q), (0, .ref (E.2.1 132)), (1, .ref (E.2.1 159))]) hx hb dL_undo_11 rfl hl (by decide) rfl (fun ls hl => ?_)
      refine lv_iconst (v := 1) hx hb dL_undo_12 (by decide) ?_
      exact kr _ _ _ _ _ _ _ _ rfl (by rw [gXo_n x (by decide)]) hI ⟨Nat.le_of_ble_eq_true rfl, Nat.le_of_ble_eq_true rfl⟩ dL_undo_13
    | k + 1, hi => cases hi
theorem dL_restore_0 : decode cL_restore 0 = .ok (.aload_n 1, 1) := by decide +kernel
theorem dL_restore_1 : decode cL_restore 1 = .ok (.iconst 0, 1) := by decide +kernel
theorem dL_restore_2 : decode cL_restore 2 = .ok (.aload_n 0, 1) := by decide +kernel
theorem dL_restore_3 : decode cL_restore 3 = .ok (.invokevirtual 171, 3) := by decide +kernel
theorem dL_restore_6 : decode cL_restore 6 = .ok (.i2l, 1) := by decide +kernel
theorem dL_restore_7 : decode cL_restore 7 = .ok (.lastore, 1) := by decide +kernel
theorem dL_restore_8 : decode cL_restore 8 = .ok (.goto 6, 3) := by decide +kernel
theorem dL_restore_11 : decode cL_restore 11 = .ok (.astore_n 2, 1) := by decide +kernel
theorem dL_restore_12 : decode cL_restore 12 = .ok (.iconst 1, 1) := by decide +kernel
theorem dL_restore_13 : decode cL_restore 13 = .ok (.ireturn, 1) := by decide +kernel
theorem dL_restore_14 : decode cL_restore 14 = .ok (.iconst 0, 1) := by decide +kernel
theorem dL_restore_15 : decode cL_restore 15 = .ok (.ireturn, 1) := by decide +kernel
set_option maxRecDepth 100000 in
set_option maxHeartbeats 4000000 in
theorem H_restore (l : Launch) (hst : l.stackTraces = false) (E : gE) (x : gX) {M : gM} {oc : String ⊕ Int32} {M1 : gM} {z : Int32} {b : Int32} (hf : f_X6_restore M = some (oc, M1)) (ha : gAns ["java/lang/IllegalStateException"] oc z b) : gH0 l E yL_restore (.codeWith yL_restore cL_restore 3 (some .int) [(0, 8, 11, 17)]) (gRX 7 122 1 6) M x [.ref (E.2.1 132), .ref (E.2.1 159)] z M1 (gXo x z b.toInt64) 1 6 := by
  refine gMetH (by decide +kernel) (Nat.le_of_ble_eq_true rfl) ?_
  intro p e s m args below meth c H locs ls Q hC hN hT hl hI kr
  replace hC : gC p s m args c cL_restore 3 RL E := hC
  replace hl : lv_has ls 3 [(0, .ref (E.2.1 132)), (1, .ref (E.2.1 159))] := hl
  have hx := hC.1
  have hb := hC.2.1
  refine lv_aload_n hx hb dL_restore_0 rfl (lv_at hl 1 rfl) ?_
  refine lv_iconst (v := 0) hx hb dL_restore_1 (by decide) ?_
  refine lv_aload_n hx hb dL_restore_2 rfl (lv_at hl 0 rfl) ?_
  have hm := C_X6_restore l hst E x hf
  rcases ha with ⟨e1, e2⟩ | ⟨i, En, hi, e1, e2⟩
  · subst e1 e2
    refine g_xV hC hI hm Y_X6_restore V_X6_restore w1313 (rcv_X6 hC hI) ⟨rfl, rfl⟩ ⟨Nat.le_of_ble_eq_true rfl, Nat.le_of_ble_eq_true rfl⟩ rfl hl.1 rfl (Nat.le_of_ble_eq_true rfl) dL_restore_3 ⟨Nat.le_of_ble_eq_true rfl, Nat.le_of_ble_eq_true rfl⟩ (fun rv H locs ho hI => ?_) (fun En ce q H locs ho => nomatch ho)
    cases ho
    refine lv_i2l (v := b.toInt64) hx hb dL_restore_6 rfl ?_
    refine g_lastX hC hI dL_restore_7 (fun H locs hI => ?_)
    refine lv_goto (tgt := 14) hx hb dL_restore_8 rfl ?_
    refine lv_iconst (v := 0) hx hb dL_restore_14 (by decide) ?_
    exact kr _ _ _ _ _ _ _ _ nI_0.symm (by rw [gXo_0]) hI ⟨Nat.le_of_ble_eq_true rfl, Nat.le_of_ble_eq_true rfl⟩ dL_restore_15
  · subst e1 e2
    refine g_xV hC hI hm Y_X6_restore V_X6_restore w1313 (rcv_X6 hC hI) ⟨rfl, rfl⟩ ⟨Nat.le_of_ble_eq_true rfl, Nat.le_of_ble_eq_true rfl⟩ rfl hl.1 rfl (Nat.le_of_ble_eq_true rfl) dL_restore_3 ⟨Nat.le_of_ble_eq_true rfl, Nat.le_of_ble_eq_true rfl⟩ (fun rv H locs ho => nomatch ho) (fun En2 ce q H locs ho hI hce hcv hcl => ?_)
    cases ho
    match i, hi with
    | 0, hi =>
      cases hi
      refine g_catch hC hT [] ⟨0, 8, 11, 17⟩ [] rfl (fun _ h => absurd h List.not_mem_nil) (by decide) (by decide) w522 (by decide +kernel) hce hcv hcl ?_
      refine lv_astore_n (lv' := [(2, .ref q), (0, .ref (E.2.1 132)), (1, .ref (E.2.1 159))]) hx hb dL_restore_11 rfl hl (by decide) rfl (fun ls hl => ?_)
      refine lv_iconst (v := 1) hx hb dL_restore_12 (by decide) ?_
      exact kr _ _ _ _ _ _ _ _ rfl (by rw [gXo_n x (by decide)]) hI ⟨Nat.le_of_ble_eq_true rfl, Nat.le_of_ble_eq_true rfl⟩ dL_restore_13
    | k + 1, hi => cases hi
