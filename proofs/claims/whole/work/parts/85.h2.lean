theorem dL_hoursUntilFloatingByTide_0 : decode cL_hoursUntilFloatingByTide 0 = .ok (.aload_n 2, 1) := by decide +kernel
theorem dL_hoursUntilFloatingByTide_1 : decode cL_hoursUntilFloatingByTide 1 = .ok (.iconst 0, 1) := by decide +kernel
theorem dL_hoursUntilFloatingByTide_2 : decode cL_hoursUntilFloatingByTide 2 = .ok (.aload_n 0, 1) := by decide +kernel
theorem dL_hoursUntilFloatingByTide_3 : decode cL_hoursUntilFloatingByTide 3 = .ok (.iload_n 1, 1) := by decide +kernel
theorem dL_hoursUntilFloatingByTide_4 : decode cL_hoursUntilFloatingByTide 4 = .ok (.invokevirtual 58, 3) := by decide +kernel
theorem dL_hoursUntilFloatingByTide_7 : decode cL_hoursUntilFloatingByTide 7 = .ok (.i2l, 1) := by decide +kernel
theorem dL_hoursUntilFloatingByTide_8 : decode cL_hoursUntilFloatingByTide 8 = .ok (.lastore, 1) := by decide +kernel
theorem dL_hoursUntilFloatingByTide_9 : decode cL_hoursUntilFloatingByTide 9 = .ok (.goto 9, 3) := by decide +kernel
theorem dL_hoursUntilFloatingByTide_12 : decode cL_hoursUntilFloatingByTide 12 = .ok (.astore_n 3, 1) := by decide +kernel
theorem dL_hoursUntilFloatingByTide_13 : decode cL_hoursUntilFloatingByTide 13 = .ok (.iconst 1, 1) := by decide +kernel
theorem dL_hoursUntilFloatingByTide_14 : decode cL_hoursUntilFloatingByTide 14 = .ok (.ireturn, 1) := by decide +kernel
theorem dL_hoursUntilFloatingByTide_15 : decode cL_hoursUntilFloatingByTide 15 = .ok (.astore_n 3, 1) := by decide +kernel
theorem dL_hoursUntilFloatingByTide_16 : decode cL_hoursUntilFloatingByTide 16 = .ok (.iconst 2, 1) := by decide +kernel
theorem dL_hoursUntilFloatingByTide_17 : decode cL_hoursUntilFloatingByTide 17 = .ok (.ireturn, 1) := by decide +kernel
theorem dL_hoursUntilFloatingByTide_18 : decode cL_hoursUntilFloatingByTide 18 = .ok (.iconst 0, 1) := by decide +kernel
theorem dL_hoursUntilFloatingByTide_19 : decode cL_hoursUntilFloatingByTide 19 = .ok (.ireturn, 1) := by decide +kernel
set_option maxRecDepth 100000 in
set_option maxHeartbeats 4000000 in
theorem H_hoursUntilFloatingByTide (l : Launch) (hst : l.stackTraces = false) (E : gE) (x : gX) {v1 : Int32} {M : gM} {oc : String ⊕ Int32} {M1 : gM} {z : Int32} {b : Int32} (hf : f_X6_hoursUntilFloatingByTide v1 M = some (oc, M1)) (ha : gAns ["java/lang/IndexOutOfBoundsException", "java/util/NoSuchElementException"] oc z b) : gH0 l E yL_hoursUntilFloatingByTide (.codeWith yL_hoursUntilFloatingByTide cL_hoursUntilFloatingByTide 4 (some .int) [(0, 9, 12, 13), (0, 9, 15, 34)]) (gRX 10 172 2 12) M x [.ref (E.2.1 132), .int v1, .ref (E.2.1 159)] z M1 (gXo x z b.toInt64) 2 12 := by
  refine gMetH (by decide +kernel) (Nat.le_of_ble_eq_true rfl) ?_
  intro p e s m args below meth c H locs ls Q hC hN hT hl hI kr
  replace hC : gC p s m args c cL_hoursUntilFloatingByTide 4 RL E := hC
  replace hl : lv_has ls 4 [(0, .ref (E.2.1 132)), (1, .int v1), (2, .ref (E.2.1 159))] := hl
  have hx := hC.1
  have hb := hC.2.1
  refine lv_aload_n hx hb dL_hoursUntilFloatingByTide_0 rfl (lv_at hl 2 rfl) ?_
  refine lv_iconst (v := 0) hx hb dL_hoursUntilFloatingByTide_1 (by decide) ?_
  refine lv_aload_n hx hb dL_hoursUntilFloatingByTide_2 rfl (lv_at hl 0 rfl) ?_
  refine lv_iload_n hx hb dL_hoursUntilFloatingByTide_3 rfl (lv_at hl 1 rfl) ?_
  have hm := C_X6_hoursUntilFloatingByTide l hst E x hf
  rcases ha with ⟨e1, e2⟩ | ⟨i, En, hi, e1, e2⟩
  · subst e1 e2
    refine g_xV hC hI hm Y_X6_hoursUntilFloatingByTide V_X6_hoursUntilFloatingByTide w794 (rcv_X6 hC hI) ⟨rfl, rfl⟩ ⟨Nat.le_of_ble_eq_true rfl, Nat.le_of_ble_eq_true rfl⟩ rfl hl.1 rfl (Nat.le_of_ble_eq_true rfl) dL_hoursUntilFloatingByTide_4 ⟨Nat.le_of_ble_eq_true rfl, Nat.le_of_ble_eq_true rfl⟩ (fun rv H locs ho hI => ?_) (fun En ce q H locs ho => nomatch ho)
    cases ho
    refine lv_i2l (v := b.toInt64) hx hb dL_hoursUntilFloatingByTide_7 rfl ?_
    refine g_lastX hC hI dL_hoursUntilFloatingByTide_8 (fun H locs hI => ?_)
    refine lv_goto (tgt := 18) hx hb dL_hoursUntilFloatingByTide_9 rfl ?_
    refine lv_iconst (v := 0) hx hb dL_hoursUntilFloatingByTide_18 (by decide) ?_
    exact kr _ _ _ _ _ _ _ _ nI_0.symm (by rw [gXo_0]) hI ⟨Nat.le_of_ble_eq_true rfl, Nat.le_of_ble_eq_true rfl⟩ dL_hoursUntilFloatingByTide_19
  · subst e1 e2
    refine g_xV hC hI hm Y_X6_hoursUntilFloatingByTide V_X6_hoursUntilFloatingByTide w794 (rcv_X6 hC hI) ⟨rfl, rfl⟩ ⟨Nat.le_of_ble_eq_true rfl, Nat.le_of_ble_eq_true rfl⟩ rfl hl.1 rfl (Nat.le_of_ble_eq_true rfl) dL_hoursUntilFloatingByTide_4 ⟨Nat.le_of_ble_eq_true rfl, Nat.le_of_ble_eq_true rfl⟩ (fun rv H locs ho => nomatch ho) (fun En2 ce q H locs ho hI hce hcv hcl => ?_)
    cases ho
    match i, hi with
    | 0, hi =>
      cases hi
      refine g_catch hC hT [] ⟨0, 9, 12, 13⟩ [⟨0, 9, 15, 34⟩] rfl (fun _ h => absurd h List.not_mem_nil) (by decide) (by decide) w442 (by decide +kernel) hce hcv hcl ?_
      refine lv_astore_n (lv' := [(3, .ref q), (0, .ref (E.2.1 132)), (1, .int v1), (2, .ref (E.2.1 159))]) hx hb dL_hoursUntilFloatingByTide_12 rfl hl (by decide) rfl (fun ls hl => ?_)
      refine lv_iconst (v := 1) hx hb dL_hoursUntilFloatingByTide_13 (by decide) ?_
      exact kr _ _ _ _ _ _ _ _ rfl (by rw [gXo_n x (by decide)]) hI ⟨Nat.le_of_ble_eq_true rfl, Nat.le_of_ble_eq_true rfl⟩ dL_hoursUntilFloatingByTide_14
    | 1, hi =>
      cases hi
      refine g_catch hC hT [⟨0, 9, 12, 13⟩] ⟨0, 9, 15, 34⟩ [] rfl (List.forall_mem_cons.mpr ⟨⟨by decide, _, w442, hN ("java/util/NoSuchElementException", "java/lang/IndexOutOfBoundsException") (by decide +kernel)⟩, (fun _ h => absurd h List.not_mem_nil)⟩) (by decide) (by decide) w682 (by decide +kernel) hce hcv hcl ?_
      refine lv_astore_n (lv' := [(3, .ref q), (0, .ref (E.2.1 132)), (1, .int v1), (2, .ref (E.2.1 159))]) hx hb dL_hoursUntilFloatingByTide_15 rfl hl (by decide) rfl (fun ls hl => ?_)
      refine lv_iconst (v := 2) hx hb dL_hoursUntilFloatingByTide_16 (by decide) ?_
      exact kr _ _ _ _ _ _ _ _ rfl (by rw [gXo_n x (by decide)]) hI ⟨Nat.le_of_ble_eq_true rfl, Nat.le_of_ble_eq_true rfl⟩ dL_hoursUntilFloatingByTide_17
    | k + 2, hi => cases hi
theorem dL_mostUrgent_0 : decode cL_mostUrgent 0 = .ok (.aload_n 1, 1) := by decide +kernel
theorem dL_mostUrgent_1 : decode cL_mostUrgent 1 = .ok (.iconst 0, 1) := by decide +kernel
theorem dL_mostUrgent_2 : decode cL_mostUrgent 2 = .ok (.aload_n 0, 1) := by decide +kernel
theorem dL_mostUrgent_3 : decode cL_mostUrgent 3 = .ok (.invokevirtual 61, 3) := by decide +kernel
theorem dL_mostUrgent_6 : decode cL_mostUrgent 6 = .ok (.i2l, 1) := by decide +kernel
theorem dL_mostUrgent_7 : decode cL_mostUrgent 7 = .ok (.lastore, 1) := by decide +kernel
theorem dL_mostUrgent_8 : decode cL_mostUrgent 8 = .ok (.goto 6, 3) := by decide +kernel
theorem dL_mostUrgent_11 : decode cL_mostUrgent 11 = .ok (.astore_n 2, 1) := by decide +kernel
theorem dL_mostUrgent_12 : decode cL_mostUrgent 12 = .ok (.iconst 1, 1) := by decide +kernel
theorem dL_mostUrgent_13 : decode cL_mostUrgent 13 = .ok (.ireturn, 1) := by decide +kernel
theorem dL_mostUrgent_14 : decode cL_mostUrgent 14 = .ok (.iconst 0, 1) := by decide +kernel
theorem dL_mostUrgent_15 : decode cL_mostUrgent 15 = .ok (.ireturn, 1) := by decide +kernel
set_option maxRecDepth 100000 in
set_option maxHeartbeats 4000000 in
theorem H_mostUrgent (l : Launch) (hst : l.stackTraces = false) (E : gE) (x : gX) {M : gM} {oc : String ⊕ Int32} {M1 : gM} {z : Int32} {b : Int32} (hf : f_X6_mostUrgent M = some (oc, M1)) (ha : gAns ["java/util/NoSuchElementException"] oc z b) : gH0 l E yL_mostUrgent (.codeWith yL_mostUrgent cL_mostUrgent 3 (some .int) [(0, 8, 11, 34)]) (gRX 7 111 1 6) M x [.ref (E.2.1 132), .ref (E.2.1 159)] z M1 (gXo x z b.toInt64) 1 6 := by
  refine gMetH (by decide +kernel) (Nat.le_of_ble_eq_true rfl) ?_
  intro p e s m args below meth c H locs ls Q hC hN hT hl hI kr
  replace hC : gC p s m args c cL_mostUrgent 3 RL E := hC
  replace hl : lv_has ls 3 [(0, .ref (E.2.1 132)), (1, .ref (E.2.1 159))] := hl
  have hx := hC.1
  have hb := hC.2.1
  refine lv_aload_n hx hb dL_mostUrgent_0 rfl (lv_at hl 1 rfl) ?_
  refine lv_iconst (v := 0) hx hb dL_mostUrgent_1 (by decide) ?_
  refine lv_aload_n hx hb dL_mostUrgent_2 rfl (lv_at hl 0 rfl) ?_
  have hm := C_X6_mostUrgent l hst E x hf
  rcases ha with ⟨e1, e2⟩ | ⟨i, En, hi, e1, e2⟩
  · subst e1 e2
    refine g_xV hC hI hm Y_X6_mostUrgent V_X6_mostUrgent w802 (rcv_X6 hC hI) ⟨rfl, rfl⟩ ⟨Nat.le_of_ble_eq_true rfl, Nat.le_of_ble_eq_true rfl⟩ rfl hl.1 rfl (Nat.le_of_ble_eq_true rfl) dL_mostUrgent_3 ⟨Nat.le_of_ble_eq_true rfl, Nat.le_of_ble_eq_true rfl⟩ (fun rv H locs ho hI => ?_) (fun En ce q H locs ho => nomatch ho)
    cases ho
    refine lv_i2l (v := b.toInt64) hx hb dL_mostUrgent_6 rfl ?_
    refine g_lastX hC hI dL_mostUrgent_7 (fun H locs hI => ?_)
    refine lv_goto (tgt := 14) hx hb dL_mostUrgent_8 rfl ?_
    refine lv_iconst (v := 0) hx hb dL_mostUrgent_14 (by decide) ?_
    exact kr _ _ _ _ _ _ _ _ nI_0.symm (by rw [gXo_0]) hI ⟨Nat.le_of_ble_eq_true rfl, Nat.le_of_ble_eq_true rfl⟩ dL_mostUrgent_15
  · subst e1 e2
    refine g_xV hC hI hm Y_X6_mostUrgent V_X6_mostUrgent w802 (rcv_X6 hC hI) ⟨rfl, rfl⟩ ⟨Nat.le_of_ble_eq_true rfl, Nat.le_of_ble_eq_true rfl⟩ rfl hl.1 rfl (Nat.le_of_ble_eq_true rfl) dL_mostUrgent_3 ⟨Nat.le_of_ble_eq_true rfl, Nat.le_of_ble_eq_true rfl⟩ (fun rv H locs ho => nomatch ho) (fun En2 ce q H locs ho hI hce hcv hcl => ?_)
    cases ho
    match i, hi with
    | 0, hi =>
      cases hi
      refine g_catch hC hT [] ⟨0, 8, 11, 34⟩ [] rfl (fun _ h => absurd h List.not_mem_nil) (by decide) (by decide) w682 (by decide +kernel) hce hcv hcl ?_
      refine lv_astore_n (lv' := [(2, .ref q), (0, .ref (E.2.1 132)), (1, .ref (E.2.1 159))]) hx hb dL_mostUrgent_11 rfl hl (by decide) rfl (fun ls hl => ?_)
      refine lv_iconst (v := 1) hx hb dL_mostUrgent_12 (by decide) ?_
      exact kr _ _ _ _ _ _ _ _ rfl (by rw [gXo_n x (by decide)]) hI ⟨Nat.le_of_ble_eq_true rfl, Nat.le_of_ble_eq_true rfl⟩ dL_mostUrgent_13
    | k + 1, hi => cases hi
theorem dL_canLeave_0 : decode cL_canLeave 0 = .ok (.aload_n 2, 1) := by decide +kernel
theorem dL_canLeave_1 : decode cL_canLeave 1 = .ok (.iconst 0, 1) := by decide +kernel
theorem dL_canLeave_2 : decode cL_canLeave 2 = .ok (.aload_n 0, 1) := by decide +kernel
theorem dL_canLeave_3 : decode cL_canLeave 3 = .ok (.iload_n 1, 1) := by decide +kernel
theorem dL_canLeave_4 : decode cL_canLeave 4 = .ok (.invokevirtual 65, 3) := by decide +kernel
theorem dL_canLeave_7 : decode cL_canLeave 7 = .ok (.ifCond .eq 7, 3) := by decide +kernel
theorem dL_canLeave_10 : decode cL_canLeave 10 = .ok (.lconst 1, 1) := by decide +kernel
theorem dL_canLeave_11 : decode cL_canLeave 11 = .ok (.goto 4, 3) := by decide +kernel
theorem dL_canLeave_14 : decode cL_canLeave 14 = .ok (.lconst 0, 1) := by decide +kernel
theorem dL_canLeave_15 : decode cL_canLeave 15 = .ok (.lastore, 1) := by decide +kernel
theorem dL_canLeave_16 : decode cL_canLeave 16 = .ok (.goto 6, 3) := by decide +kernel
theorem dL_canLeave_19 : decode cL_canLeave 19 = .ok (.astore_n 3, 1) := by decide +kernel
theorem dL_canLeave_20 : decode cL_canLeave 20 = .ok (.iconst 1, 1) := by decide +kernel
theorem dL_canLeave_21 : decode cL_canLeave 21 = .ok (.ireturn, 1) := by decide +kernel
theorem dL_canLeave_22 : decode cL_canLeave 22 = .ok (.iconst 0, 1) := by decide +kernel
theorem dL_canLeave_23 : decode cL_canLeave 23 = .ok (.ireturn, 1) := by decide +kernel
set_option maxRecDepth 100000 in
set_option maxHeartbeats 4000000 in
theorem H_canLeave (l : Launch) (hst : l.stackTraces = false) (E : gE) (x : gX) {v1 : Int32} {M : gM} {oc : String ⊕ Bool} {M1 : gM} {z : Int32} {b : Bool} (hf : f_X6_canLeave v1 M = some (oc, M1)) (ha : gAns ["java/lang/IndexOutOfBoundsException"] oc z b) : gH0 l E yL_canLeave (.codeWith yL_canLeave cL_canLeave 4 (some .int) [(0, 16, 19, 13)]) (gRX 9 151 1 6) M x [.ref (E.2.1 132), .int v1, .ref (E.2.1 159)] z M1 (gXo x z (if b then 1 else 0)) 1 6 := by
  refine gMetH (by decide +kernel) (Nat.le_of_ble_eq_true rfl) ?_
  intro p e s m args below meth c H locs ls Q hC hN hT hl hI kr
  replace hC : gC p s m args c cL_canLeave 4 RL E := hC
  replace hl : lv_has ls 4 [(0, .ref (E.2.1 132)), (1, .int v1), (2, .ref (E.2.1 159))] := hl
  have hx := hC.1
  have hb := hC.2.1
  refine lv_aload_n hx hb dL_canLeave_0 rfl (lv_at hl 2 rfl) ?_
  refine lv_iconst (v := 0) hx hb dL_canLeave_1 (by decide) ?_
  refine lv_aload_n hx hb dL_canLeave_2 rfl (lv_at hl 0 rfl) ?_
  refine lv_iload_n hx hb dL_canLeave_3 rfl (lv_at hl 1 rfl) ?_
  have hm := C_X6_canLeave l hst E x hf
  rcases ha with ⟨e1, e2⟩ | ⟨i, En, hi, e1, e2⟩
  · subst e1 e2
    refine g_xV hC hI hm Y_X6_canLeave V_X6_canLeave w822 (rcv_X6 hC hI) ⟨rfl, rfl⟩ ⟨Nat.le_of_ble_eq_true rfl, Nat.le_of_ble_eq_true rfl⟩ rfl hl.1 rfl (Nat.le_of_ble_eq_true rfl) dL_canLeave_4 ⟨Nat.le_of_ble_eq_true rfl, Nat.le_of_ble_eq_true rfl⟩ (fun rv H locs ho hI => ?_) (fun En ce q H locs ho => nomatch ho)
    cases ho
    cases b
    · refine lv_if_eq (tgt := 14) hx hb dL_canLeave_7 rfl (fun h1 => ?_) (fun h1 => absurd rfl h1)
      refine lv_lconst (v := 0) hx hb dL_canLeave_14 rfl ?_
      refine g_lastX hC hI dL_canLeave_15 (fun H locs hI => ?_)
      refine lv_goto (tgt := 22) hx hb dL_canLeave_16 rfl ?_
      refine lv_iconst (v := 0) hx hb dL_canLeave_22 (by decide) ?_
      exact kr _ _ _ _ _ _ _ _ nI_0.symm (by rw [gXo_0]; rfl) hI ⟨Nat.le_of_ble_eq_true rfl, Nat.le_of_ble_eq_true rfl⟩ dL_canLeave_23
    · refine lv_if_eq (tgt := 14) hx hb dL_canLeave_7 rfl (fun h1 => absurd h1 (by decide)) (fun h1 => ?_)
      refine lv_lconst (v := 1) hx hb dL_canLeave_10 rfl ?_
      refine lv_goto (tgt := 15) hx hb dL_canLeave_11 rfl ?_
      refine g_lastX hC hI dL_canLeave_15 (fun H locs hI => ?_)
      refine lv_goto (tgt := 22) hx hb dL_canLeave_16 rfl ?_
      refine lv_iconst (v := 0) hx hb dL_canLeave_22 (by decide) ?_
      exact kr _ _ _ _ _ _ _ _ nI_0.symm (by rw [gXo_0]; rfl) hI ⟨Nat.le_of_ble_eq_true rfl, Nat.le_of_ble_eq_true rfl⟩ dL_canLeave_23
  · subst e1 e2
    refine g_xV hC hI hm Y_X6_canLeave V_X6_canLeave w822 (rcv_X6 hC hI) ⟨rfl, rfl⟩ ⟨Nat.le_of_ble_eq_true rfl, Nat.le_of_ble_eq_true rfl⟩ rfl hl.1 rfl (Nat.le_of_ble_eq_true rfl) dL_canLeave_4 ⟨Nat.le_of_ble_eq_true rfl, Nat.le_of_ble_eq_true rfl⟩ (fun rv H locs ho => nomatch ho) (fun En2 ce q H locs ho hI hce hcv hcl => ?_)
    cases ho
    match i, hi with
    | 0, hi =>
      cases hi
      refine g_catch hC hT [] ⟨0, 16, 19, 13⟩ [] rfl (fun _ h => absurd h List.not_mem_nil) (by decide) (by decide) w442 (by decide +kernel) hce hcv hcl ?_
      refine lv_astore_n (lv' := [(3, .ref q), (0, .ref (E.2.1 132)), (1, .int v1), (2, .ref (E.2.1 159))]) hx hb dL_canLeave_19 rfl hl (by decide) rfl (fun ls hl => ?_)
      refine lv_iconst (v := 1) hx hb dL_canLeave_20 (by decide) ?_
      exact kr _ _ _ _ _ _ _ _ rfl (by rw [gXo_n x (by decide)]) hI ⟨Nat.le_of_ble_eq_true rfl, Nat.le_of_ble_eq_true rfl⟩ dL_canLeave_21
    | k + 1, hi => cases hi
theorem dL_lockedHours_0 : decode cL_lockedHours 0 = .ok (.aload_n 2, 1) := by decide +kernel
theorem dL_lockedHours_1 : decode cL_lockedHours 1 = .ok (.iconst 0, 1) := by decide +kernel
theorem dL_lockedHours_2 : decode cL_lockedHours 2 = .ok (.aload_n 0, 1) := by decide +kernel
theorem dL_lockedHours_3 : decode cL_lockedHours 3 = .ok (.iload_n 1, 1) := by decide +kernel
theorem dL_lockedHours_4 : decode cL_lockedHours 4 = .ok (.invokevirtual 68, 3) := by decide +kernel
theorem dL_lockedHours_7 : decode cL_lockedHours 7 = .ok (.i2l, 1) := by decide +kernel
theorem dL_lockedHours_8 : decode cL_lockedHours 8 = .ok (.lastore, 1) := by decide +kernel
theorem dL_lockedHours_9 : decode cL_lockedHours 9 = .ok (.goto 6, 3) := by decide +kernel
theorem dL_lockedHours_12 : decode cL_lockedHours 12 = .ok (.astore_n 3, 1) := by decide +kernel
theorem dL_lockedHours_13 : decode cL_lockedHours 13 = .ok (.iconst 1, 1) := by decide +kernel
theorem dL_lockedHours_14 : decode cL_lockedHours 14 = .ok (.ireturn, 1) := by decide +kernel
theorem dL_lockedHours_15 : decode cL_lockedHours 15 = .ok (.iconst 0, 1) := by decide +kernel
theorem dL_lockedHours_16 : decode cL_lockedHours 16 = .ok (.ireturn, 1) := by decide +kernel
set_option maxRecDepth 100000 in
set_option maxHeartbeats 4000000 in
theorem H_lockedHours (l : Launch) (hst : l.stackTraces = false) (E : gE) (x : gX) {v1 : Int32} {M : gM} {oc : String ⊕ Int32} {M1 : gM} {z : Int32} {b : Int32} (hf : f_X6_lockedHours v1 M = some (oc, M1)) (ha : gAns ["java/lang/IndexOutOfBoundsException"] oc z b) : gH0 l E yL_lockedHours (.codeWith yL_lockedHours cL_lockedHours 4 (some .int) [(0, 9, 12, 13)]) (gRX 9 151 1 6) M x [.ref (E.2.1 132), .int v1, .ref (E.2.1 159)] z M1 (gXo x z b.toInt64) 1 6 := by
  refine gMetH (by decide +kernel) (Nat.le_of_ble_eq_true rfl) ?_
  intro p e s m args below meth c H locs ls Q hC hN hT hl hI kr
  replace hC : gC p s m args c cL_lockedHours 4 RL E := hC
  replace hl : lv_has ls 4 [(0, .ref (E.2.1 132)), (1, .int v1), (2, .ref (E.2.1 159))] := hl
  have hx := hC.1
  have hb := hC.2.1
  refine lv_aload_n hx hb dL_lockedHours_0 rfl (lv_at hl 2 rfl) ?_
  refine lv_iconst (v := 0) hx hb dL_lockedHours_1 (by decide) ?_
  refine lv_aload_n hx hb dL_lockedHours_2 rfl (lv_at hl 0 rfl) ?_
  refine lv_iload_n hx hb dL_lockedHours_3 rfl (lv_at hl 1 rfl) ?_
  have hm := C_X6_lockedHours l hst E x hf
  rcases ha with ⟨e1, e2⟩ | ⟨i, En, hi, e1, e2⟩
  · subst e1 e2
    refine g_xV hC hI hm Y_X6_lockedHours V_X6_lockedHours w829 (rcv_X6 hC hI) ⟨rfl, rfl⟩ ⟨Nat.le_of_ble_eq_true rfl, Nat.le_of_ble_eq_true rfl⟩ rfl hl.1 rfl (Nat.le_of_ble_eq_true rfl) dL_lockedHours_4 ⟨Nat.le_of_ble_eq_true rfl, Nat.le_of_ble_eq_true rfl⟩ (fun rv H locs ho hI => ?_) (fun En ce q H locs ho => nomatch ho)
    cases ho
    refine lv_i2l (v := b.toInt64) hx hb dL_lockedHours_7 rfl ?_
    refine g_lastX hC hI dL_lockedHours_8 (fun H locs hI => ?_)
    refine lv_goto (tgt := 15) hx hb dL_lockedHours_9 rfl ?_
    refine lv_iconst (v := 0) hx hb dL_lockedHours_15 (by decide) ?_
    exact kr _ _ _ _ _ _ _ _ nI_0.symm (by rw [gXo_0]) hI ⟨Nat.le_of_ble_eq_true rfl, Nat.le_of_ble_eq_true rfl⟩ dL_lockedHours_16
  · subst e1 e2
    refine g_xV hC hI hm Y_X6_lockedHours V_X6_lockedHours w829 (rcv_X6 hC hI) ⟨rfl, rfl⟩ ⟨Nat.le_of_ble_eq_true rfl, Nat.le_of_ble_eq_true rfl⟩ rfl hl.1 rfl (Nat.le_of_ble_eq_true rfl) dL_lockedHours_4 ⟨Nat.le_of_ble_eq_true rfl, Nat.le_of_ble_eq_true rfl⟩ (fun rv H locs ho => nomatch ho) (fun En2 ce q H locs ho hI hce hcv hcl => ?_)
    cases ho
    match i, hi with
    | 0, hi =>
      cases hi
      refine g_catch hC hT [] ⟨0, 9, 12, 13⟩ [] rfl (fun _ h => absurd h List.not_mem_nil) (by decide) (by decide) w442 (by decide +kernel) hce hcv hcl ?_
      refine lv_astore_n (lv' := [(3, .ref q), (0, .ref (E.2.1 132)), (1, .int v1), (2, .ref (E.2.1 159))]) hx hb dL_lockedHours_12 rfl hl (by decide) rfl (fun ls hl => ?_)
      refine lv_iconst (v := 1) hx hb dL_lockedHours_13 (by decide) ?_
      exact kr _ _ _ _ _ _ _ _ rfl (by rw [gXo_n x (by decide)]) hI ⟨Nat.le_of_ble_eq_true rfl, Nat.le_of_ble_eq_true rfl⟩ dL_lockedHours_14
    | k + 1, hi => cases hi
theorem dL_wrongAnswers_0 : decode cL_wrongAnswers 0 = .ok (.aload_n 2, 1) := by decide +kernel
theorem dL_wrongAnswers_1 : decode cL_wrongAnswers 1 = .ok (.iconst 0, 1) := by decide +kernel
theorem dL_wrongAnswers_2 : decode cL_wrongAnswers 2 = .ok (.aload_n 0, 1) := by decide +kernel
theorem dL_wrongAnswers_3 : decode cL_wrongAnswers 3 = .ok (.iload_n 1, 1) := by decide +kernel
theorem dL_wrongAnswers_4 : decode cL_wrongAnswers 4 = .ok (.invokevirtual 71, 3) := by decide +kernel
theorem dL_wrongAnswers_7 : decode cL_wrongAnswers 7 = .ok (.i2l, 1) := by decide +kernel
theorem dL_wrongAnswers_8 : decode cL_wrongAnswers 8 = .ok (.lastore, 1) := by decide +kernel
theorem dL_wrongAnswers_9 : decode cL_wrongAnswers 9 = .ok (.goto 6, 3) := by decide +kernel
theorem dL_wrongAnswers_12 : decode cL_wrongAnswers 12 = .ok (.astore_n 3, 1) := by decide +kernel
theorem dL_wrongAnswers_13 : decode cL_wrongAnswers 13 = .ok (.iconst 1, 1) := by decide +kernel
theorem dL_wrongAnswers_14 : decode cL_wrongAnswers 14 = .ok (.ireturn, 1) := by decide +kernel
theorem dL_wrongAnswers_15 : decode cL_wrongAnswers 15 = .ok (.iconst 0, 1) := by decide +kernel
theorem dL_wrongAnswers_16 : decode cL_wrongAnswers 16 = .ok (.ireturn, 1) := by decide +kernel
set_option maxRecDepth 100000 in
set_option maxHeartbeats 4000000 in
theorem H_wrongAnswers (l : Launch) (hst : l.stackTraces = false) (E : gE) (x : gX) {v1 : Int32} {M : gM} {oc : String ⊕ Int32} {M1 : gM} {z : Int32} {b : Int32} (hf : f_X6_wrongAnswers v1 M = some (oc, M1)) (ha : gAns ["java/lang/IndexOutOfBoundsException"] oc z b) : gH0 l E yL_wrongAnswers (.codeWith yL_wrongAnswers cL_wrongAnswers 4 (some .int) [(0, 9, 12, 13)]) (gRX 9 151 1 6) M x [.ref (E.2.1 132), .int v1, .ref (E.2.1 159)] z M1 (gXo x z b.toInt64) 1 6 := by
  refine gMetH (by decide +kernel) (Nat.le_of_ble_eq_true rfl) ?_
  intro p e s m args below meth c H locs ls Q hC hN hT hl hI kr
  replace hC : gC p s m args c cL_wrongAnswers 4 RL E := hC
  replace hl : lv_has ls 4 [(0, .ref (E.2.1 132)), (1, .int v1), (2, .ref (E.2.1 159))] := hl
  have hx := hC.1
  have hb := hC.2.1
  refine lv_aload_n hx hb dL_wrongAnswers_0 rfl (lv_at hl 2 rfl) ?_
  refine lv_iconst (v := 0) hx hb dL_wrongAnswers_1 (by decide) ?_
  refine lv_aload_n hx hb dL_wrongAnswers_2 rfl (lv_at hl 0 rfl) ?_
  refine lv_iload_n hx hb dL_wrongAnswers_3 rfl (lv_at hl 1 rfl) ?_
  have hm := C_X6_wrongAnswers l hst E x hf
  rcases ha with ⟨e1, e2⟩ | ⟨i, En, hi, e1, e2⟩
  · subst e1 e2
    refine g_xV hC hI hm Y_X6_wrongAnswers V_X6_wrongAnswers w836 (rcv_X6 hC hI) ⟨rfl, rfl⟩ ⟨Nat.le_of_ble_eq_true rfl, Nat.le_of_ble_eq_true rfl⟩ rfl hl.1 rfl (Nat.le_of_ble_eq_true rfl) dL_wrongAnswers_4 ⟨Nat.le_of_ble_eq_true rfl, Nat.le_of_ble_eq_true rfl⟩ (fun rv H locs ho hI => ?_) (fun En ce q H locs ho => nomatch ho)
    cases ho
    refine lv_i2l (v := b.toInt64) hx hb dL_wrongAnswers_7 rfl ?_
    refine g_lastX hC hI dL_wrongAnswers_8 (fun H locs hI => ?_)
    refine lv_goto (tgt := 15) hx hb dL_wrongAnswers_9 rfl ?_
    refine lv_iconst (v := 0) hx hb dL_wrongAnswers_15 (by decide) ?_
    exact kr _ _ _ _ _ _ _ _ nI_0.symm (by rw [gXo_0]) hI ⟨Nat.le_of_ble_eq_true rfl, Nat.le_of_ble_eq_true rfl⟩ dL_wrongAnswers_16
  · subst e1 e2
    refine g_xV hC hI hm Y_X6_wrongAnswers V_X6_wrongAnswers w836 (rcv_X6 hC hI) ⟨rfl, rfl⟩ ⟨Nat.le_of_ble_eq_true rfl, Nat.le_of_ble_eq_true rfl⟩ rfl hl.1 rfl (Nat.le_of_ble_eq_true rfl) dL_wrongAnswers_4 ⟨Nat.le_of_ble_eq_true rfl, Nat.le_of_ble_eq_true rfl⟩ (fun rv H locs ho => nomatch ho) (fun En2 ce q H locs ho hI hce hcv hcl => ?_)
    cases ho
    match i, hi with
    | 0, hi =>
      cases hi
      refine g_catch hC hT [] ⟨0, 9, 12, 13⟩ [] rfl (fun _ h => absurd h List.not_mem_nil) (by decide) (by decide) w442 (by decide +kernel) hce hcv hcl ?_
      refine lv_astore_n (lv' := [(3, .ref q), (0, .ref (E.2.1 132)), (1, .int v1), (2, .ref (E.2.1 159))]) hx hb dL_wrongAnswers_12 rfl hl (by decide) rfl (fun ls hl => ?_)
      refine lv_iconst (v := 1) hx hb dL_wrongAnswers_13 (by decide) ?_
      exact kr _ _ _ _ _ _ _ _ rfl (by rw [gXo_n x (by decide)]) hI ⟨Nat.le_of_ble_eq_true rfl, Nat.le_of_ble_eq_true rfl⟩ dL_wrongAnswers_14
    | k + 1, hi => cases hi
theorem dL_stackHeight_0 : decode cL_stackHeight 0 = .ok (.aload_n 3, 1) := by decide +kernel
theorem dL_stackHeight_1 : decode cL_stackHeight 1 = .ok (.iconst 0, 1) := by decide +kernel
theorem dL_stackHeight_2 : decode cL_stackHeight 2 = .ok (.aload_n 0, 1) := by decide +kernel
theorem dL_stackHeight_3 : decode cL_stackHeight 3 = .ok (.iload_n 1, 1) := by decide +kernel
theorem dL_stackHeight_4 : decode cL_stackHeight 4 = .ok (.iload_n 2, 1) := by decide +kernel
theorem dL_stackHeight_5 : decode cL_stackHeight 5 = .ok (.invokevirtual 74, 3) := by decide +kernel
theorem dL_stackHeight_8 : decode cL_stackHeight 8 = .ok (.i2l, 1) := by decide +kernel
theorem dL_stackHeight_9 : decode cL_stackHeight 9 = .ok (.lastore, 1) := by decide +kernel
theorem dL_stackHeight_10 : decode cL_stackHeight 10 = .ok (.goto 11, 3) := by decide +kernel
theorem dL_stackHeight_13 : decode cL_stackHeight 13 = .ok (.astore 4, 2) := by decide +kernel
theorem dL_stackHeight_15 : decode cL_stackHeight 15 = .ok (.iconst 1, 1) := by decide +kernel
theorem dL_stackHeight_16 : decode cL_stackHeight 16 = .ok (.ireturn, 1) := by decide +kernel
theorem dL_stackHeight_17 : decode cL_stackHeight 17 = .ok (.astore 4, 2) := by decide +kernel
theorem dL_stackHeight_19 : decode cL_stackHeight 19 = .ok (.iconst 2, 1) := by decide +kernel
theorem dL_stackHeight_20 : decode cL_stackHeight 20 = .ok (.ireturn, 1) := by decide +kernel
theorem dL_stackHeight_21 : decode cL_stackHeight 21 = .ok (.iconst 0, 1) := by decide +kernel
theorem dL_stackHeight_22 : decode cL_stackHeight 22 = .ok (.ireturn, 1) := by decide +kernel
set_option maxRecDepth 100000 in
set_option maxHeartbeats 4000000 in
theorem H_stackHeight (l : Launch) (hst : l.stackTraces = false) (E : gE) (x : gX) {v1 v2 : Int32} {M : gM} {oc : String ⊕ Int32} {M1 : gM} {z : Int32} {b : Int32} (hf : f_X6_stackHeight v1 v2 M = some (oc, M1)) (ha : gAns ["java/lang/IndexOutOfBoundsException", "java/util/NoSuchElementException"] oc z b) : gH0 l E yL_stackHeight (.codeWith yL_stackHeight cL_stackHeight 5 (some .int) [(0, 10, 13, 13), (0, 10, 17, 34)]) (gRX 11 195 3 18) M x [.ref (E.2.1 132), .int v1, .int v2, .ref (E.2.1 159)] z M1 (gXo x z b.toInt64) 3 18 := by
  refine gMetH (by decide +kernel) (Nat.le_of_ble_eq_true rfl) ?_
  intro p e s m args below meth c H locs ls Q hC hN hT hl hI kr
  replace hC : gC p s m args c cL_stackHeight 5 RL E := hC
  replace hl : lv_has ls 5 [(0, .ref (E.2.1 132)), (1, .int v1), (2, .int v2), (3, .ref (E.2.1 159))] := hl
  have hx := hC.1
  have hb := hC.2.1
  refine lv_aload_n hx hb dL_stackHeight_0 rfl (lv_at hl 3 rfl) ?_
  refine lv_iconst (v := 0) hx hb dL_stackHeight_1 (by decide) ?_
  refine lv_aload_n hx hb dL_stackHeight_2 rfl (lv_at hl 0 rfl) ?_
  refine lv_iload_n hx hb dL_stackHeight_3 rfl (lv_at hl 1 rfl) ?_
  refine lv_iload_n hx hb dL_stackHeight_4 rfl (lv_at hl 2 rfl) ?_
  have hm := C_X6_stackHeight l hst E x hf
  rcases ha with ⟨e1, e2⟩ | ⟨i, En, hi, e1, e2⟩
  · subst e1 e2
    refine g_xV hC hI hm Y_X6_stackHeight V_X6_stackHeight w843 (rcv_X6 hC hI) ⟨rfl, rfl⟩ ⟨Nat.le_of_ble_eq_true rfl, Nat.le_of_ble_eq_true rfl⟩ rfl hl.1 rfl (Nat.le_of_ble_eq_true rfl) dL_stackHeight_5 ⟨Nat.le_of_ble_eq_true rfl, Nat.le_of_ble_eq_true rfl⟩ (fun rv H locs ho hI => ?_) (fun En ce q H locs ho => nomatch ho)
    cases ho
    refine lv_i2l (v := b.toInt64) hx hb dL_stackHeight_8 rfl ?_
    refine g_lastX hC hI dL_stackHeight_9 (fun H locs hI => ?_)
    refine lv_goto (tgt := 21) hx hb dL_stackHeight_10 rfl ?_
    refine lv_iconst (v := 0) hx hb dL_stackHeight_21 (by decide) ?_
    exact kr _ _ _ _ _ _ _ _ nI_0.symm (by rw [gXo_0]) hI ⟨Nat.le_of_ble_eq_true rfl, Nat.le_of_ble_eq_true rfl⟩ dL_stackHeight_22
  · subst e1 e2
    refine g_xV hC hI hm Y_X6_stackHeight V_X6_stackHeight w843 (rcv_X6 hC hI) ⟨rfl, rfl⟩ ⟨Nat.le_of_ble_eq_true rfl, Nat.le_of_ble_eq_true rfl⟩ rfl hl.1 rfl (Nat.le_of_ble_eq_true rfl) dL_stackHeight_5 ⟨Nat.le_of_ble_eq_true rfl, Nat.le_of_ble_eq_true rfl⟩ (fun rv H locs ho => nomatch ho) (fun En2 ce q H locs ho hI hce hcv hcl => ?_)
    cases ho
    match i, hi with
    | 0, hi =>
      cases hi
      refine g_catch hC hT [] ⟨0, 10, 13, 13⟩ [⟨0, 10, 17, 34⟩] rfl (fun _ h => absurd h List.not_mem_nil) (by decide) (by decide) w442 (by decide +kernel) hce hcv hcl ?_
      refine lv_astore (lv' := [(4, .ref q), (0, .ref (E.2.1 132)), (1, .int v1), (2, .int v2), (3, .ref (E.2.1 159))]) hx hb dL_stackHeight_13 hl (by decide) rfl (fun ls hl => ?_)
      refine lv_iconst (v := 1) hx hb dL_stackHeight_15 (by decide) ?_
      exact kr _ _ _ _ _ _ _ _ rfl (by rw [gXo_n x (by decide)]) hI ⟨Nat.le_of_ble_eq_true rfl, Nat.le_of_ble_eq_true rfl⟩ dL_stackHeight_16
    | 1, hi =>
      cases hi
      refine g_catch hC hT [⟨0, 10, 13, 13⟩] ⟨0, 10, 17, 34⟩ [] rfl (List.forall_mem_cons.mpr ⟨⟨by decide, _, w442, hN ("java/util/NoSuchElementException", "java/lang/IndexOutOfBoundsException") (by decide +kernel)⟩, (fun _ h => absurd h List.not_mem_nil)⟩) (by decide) (by decide) w682 (by decide +kernel) hce hcv hcl ?_
      refine lv_astore (lv' := [(4, .ref q), (0, .ref (E.2.1 132)), (1, .int v1), (2, .int v2), (3, .ref (E.2.1 159))]) hx hb dL_stackHeight_17 hl (by decide) rfl (fun ls hl => ?_)
      refine lv_iconst (v := 2) hx hb dL_stackHeight_19 (by decide) ?_
      exact kr _ _ _ _ _ _ _ _ rfl (by rw [gXo_n x (by decide)]) hI ⟨Nat.le_of_ble_eq_true rfl, Nat.le_of_ble_eq_true rfl⟩ dL_stackHeight_20
    | k + 2, hi => cases hi
theorem dL_containerAt_0 : decode cL_containerAt 0 = .ok (.aload 4, 2) := by decide +kernel
theorem dL_containerAt_2 : decode cL_containerAt 2 = .ok (.iconst 0, 1) := by decide +kernel
theorem dL_containerAt_3 : decode cL_containerAt 3 = .ok (.aload_n 0, 1) := by decide +kernel
theorem dL_containerAt_4 : decode cL_containerAt 4 = .ok (.iload_n 1, 1) := by decide +kernel
theorem dL_containerAt_5 : decode cL_containerAt 5 = .ok (.iload_n 2, 1) := by decide +kernel
theorem dL_containerAt_6 : decode cL_containerAt 6 = .ok (.iload_n 3, 1) := by decide +kernel
theorem dL_containerAt_7 : decode cL_containerAt 7 = .ok (.invokevirtual 78, 3) := by decide +kernel
theorem dL_containerAt_10 : decode cL_containerAt 10 = .ok (.i2l, 1) := by decide +kernel
theorem dL_containerAt_11 : decode cL_containerAt 11 = .ok (.lastore, 1) := by decide +kernel
theorem dL_containerAt_12 : decode cL_containerAt 12 = .ok (.goto 11, 3) := by decide +kernel
theorem dL_containerAt_15 : decode cL_containerAt 15 = .ok (.astore 5, 2) := by decide +kernel
theorem dL_containerAt_17 : decode cL_containerAt 17 = .ok (.iconst 1, 1) := by decide +kernel
theorem dL_containerAt_18 : decode cL_containerAt 18 = .ok (.ireturn, 1) := by decide +kernel
theorem dL_containerAt_19 : decode cL_containerAt 19 = .ok (.astore 5, 2) := by decide +kernel
theorem dL_containerAt_21 : decode cL_containerAt 21 = .ok (.iconst 2, 1) := by decide +kernel
theorem dL_containerAt_22 : decode cL_containerAt 22 = .ok (.ireturn, 1) := by decide +kernel
theorem dL_containerAt_23 : decode cL_containerAt 23 = .ok (.iconst 0, 1) := by decide +kernel
theorem dL_containerAt_24 : decode cL_containerAt 24 = .ok (.ireturn, 1) := by decide +kernel
set_option maxRecDepth 100000 in
set_option maxHeartbeats 4000000 in
theorem H_containerAt (l : Launch) (hst : l.stackTraces = false) (E : gE) (x : gX) {v1 v2 v3 : Int32} {M : gM} {oc : String ⊕ Int32} {M1 : gM} {z : Int32} {b : Int32} (hf : f_X6_containerAt v1 v2 v3 M = some (oc, M1)) (ha : gAns ["java/lang/IndexOutOfBoundsException", "java/util/NoSuchElementException"] oc z b) : gH0 l E yL_containerAt (.codeWith yL_containerAt cL_containerAt 6 (some .int) [(0, 12, 15, 13), (0, 12, 19, 34)]) (gRX 11 196 4 24) M x [.ref (E.2.1 132), .int v1, .int v2, .int v3, .ref (E.2.1 159)] z M1 (gXo x z b.toInt64) 4 24 := by
  refine gMetH (by decide +kernel) (Nat.le_of_ble_eq_true rfl) ?_
  intro p e s m args below meth c H locs ls Q hC hN hT hl hI kr
  replace hC : gC p s m args c cL_containerAt 6 RL E := hC
  replace hl : lv_has ls 6 [(0, .ref (E.2.1 132)), (1, .int v1), (2, .int v2), (3, .int v3), (4, .ref (E.2.1 159))] := hl
  have hx := hC.1
  have hb := hC.2.1
  refine lv_aload hx hb dL_containerAt_0 (lv_at hl 4 rfl) ?_
  refine lv_iconst (v := 0) hx hb dL_containerAt_2 (by decide) ?_
  refine lv_aload_n hx hb dL_containerAt_3 rfl (lv_at hl 0 rfl) ?_
  refine lv_iload_n hx hb dL_containerAt_4 rfl (lv_at hl 1 rfl) ?_
  refine lv_iload_n hx hb dL_containerAt_5 rfl (lv_at hl 2 rfl) ?_
  refine lv_iload_n hx hb dL_containerAt_6 rfl (lv_at hl 3 rfl) ?_
  have hm := C_X6_containerAt l hst E x hf
  rcases ha with ⟨e1, e2⟩ | ⟨i, En, hi, e1, e2⟩
  · subst e1 e2
    refine g_xV hC hI hm Y_X6_containerAt V_X6_containerAt w856 (rcv_X6 hC hI) ⟨rfl, rfl⟩ ⟨Nat.le_of_ble_eq_true rfl, Nat.le_of_ble_eq_true rfl⟩ rfl hl.1 rfl (Nat.le_of_ble_eq_true rfl) dL_containerAt_7 ⟨Nat.le_of_ble_eq_true rfl, Nat.le_of_ble_eq_true rfl⟩ (fun rv H locs ho hI => ?_) (fun En ce q H locs ho => nomatch ho)
    cases ho
    refine lv_i2l (v := b.toInt64) hx hb dL_containerAt_10 rfl ?_
    refine g_lastX hC hI dL_containerAt_11 (fun H locs hI => ?_)
    refine lv_goto (tgt := 23) hx hb dL_containerAt_12 rfl ?_
    refine lv_iconst (v := 0) hx hb dL_containerAt_23 (by decide) ?_
    exact kr _ _ _ _ _ _ _ _ nI_0.symm (by rw [gXo_0]) hI ⟨Nat.le_of_ble_eq_true rfl, Nat.le_of_ble_eq_true rfl⟩ dL_containerAt_24
  · subst e1 e2
    refine g_xV hC hI hm Y_X6_containerAt V_X6_containerAt w856 (rcv_X6 hC hI) ⟨rfl, rfl⟩ ⟨Nat.le_of_ble_eq_true rfl, Nat.le_of_ble_eq_true rfl⟩ rfl hl.1 rfl (Nat.le_of_ble_eq_true rfl) dL_containerAt_7 ⟨Nat.le_of_ble_eq_true rfl, Nat.le_of_ble_eq_true rfl⟩ (fun rv H locs ho => nomatch ho) (fun En2 ce q H locs ho hI hce hcv hcl => ?_)
    cases ho
    match i, hi with
    | 0, hi =>
      cases hi
      refine g_catch hC hT [] ⟨0, 12, 15, 13⟩ [⟨0, 12, 19, 34⟩] rfl (fun _ h => absurd h List.not_mem_nil) (by decide) (by decide) w442 (by decide +kernel) hce hcv hcl ?_
      refine lv_astore (lv' := [(5, .ref q), (0, .ref (E.2.1 132)), (1, .int v1), (2, .int v2), (3, .int v3), (4, .ref (E.2.1 159))]) hx hb dL_containerAt_15 hl (by decide) rfl (fun ls hl => ?_)
      refine lv_iconst (v := 1) hx hb dL_containerAt_17 (by decide) ?_
      exact kr _ _ _ _ _ _ _ _ rfl (by rw [gXo_n x (by decide)]) hI ⟨Nat.le_of_ble_eq_true rfl, Nat.le_of_ble_eq_true rfl⟩ dL_containerAt_18
    | 1, hi =>
      cases hi
      refine g_catch hC hT [⟨0, 12, 15, 13⟩] ⟨0, 12, 19, 34⟩ [] rfl (List.forall_mem_cons.mpr ⟨⟨by decide, _, w442, hN ("java/util/NoSuchElementException", "java/lang/IndexOutOfBoundsException") (by decide +kernel)⟩, (fun _ h => absurd h List.not_mem_nil)⟩) (by decide) (by decide) w682 (by decide +kernel) hce hcv hcl ?_
      refine lv_astore (lv' := [(5, .ref q), (0, .ref (E.2.1 132)), (1, .int v1), (2, .int v2), (3, .int v3), (4, .ref (E.2.1 159))]) hx hb dL_containerAt_19 hl (by decide) rfl (fun ls hl => ?_)
      refine lv_iconst (v := 2) hx hb dL_containerAt_21 (by decide) ?_
      exact kr _ _ _ _ _ _ _ _ rfl (by rw [gXo_n x (by decide)]) hI ⟨Nat.le_of_ble_eq_true rfl, Nat.le_of_ble_eq_true rfl⟩ dL_containerAt_22
    | k + 2, hi => cases hi
theorem dL_topOf_0 : decode cL_topOf 0 = .ok (.aload_n 3, 1) := by decide +kernel
theorem dL_topOf_1 : decode cL_topOf 1 = .ok (.iconst 0, 1) := by decide +kernel
theorem dL_topOf_2 : decode cL_topOf 2 = .ok (.aload_n 0, 1) := by decide +kernel
theorem dL_topOf_3 : decode cL_topOf 3 = .ok (.iload_n 1, 1) := by decide +kernel
theorem dL_topOf_4 : decode cL_topOf 4 = .ok (.iload_n 2, 1) := by decide +kernel
theorem dL_topOf_5 : decode cL_topOf 5 = .ok (.invokevirtual 81, 3) := by decide +kernel
theorem dL_topOf_8 : decode cL_topOf 8 = .ok (.i2l, 1) := by decide +kernel
theorem dL_topOf_9 : decode cL_topOf 9 = .ok (.lastore, 1) := by decide +kernel
theorem dL_topOf_10 : decode cL_topOf 10 = .ok (.goto 11, 3) := by decide +kernel
theorem dL_topOf_13 : decode cL_topOf 13 = .ok (.astore 4, 2) := by decide +kernel
theorem dL_topOf_15 : decode cL_topOf 15 = .ok (.iconst 1, 1) := by decide +kernel
theorem dL_topOf_16 : decode cL_topOf 16 = .ok (.ireturn, 1) := by decide +kernel
theorem dL_topOf_17 : decode cL_topOf 17 = .ok (.astore 4, 2) := by decide +kernel
theorem dL_topOf_19 : decode cL_topOf 19 = .ok (.iconst 2, 1) := by decide +kernel
theorem dL_topOf_20 : decode cL_topOf 20 = .ok (.ireturn, 1) := by decide +kernel
theorem dL_topOf_21 : decode cL_topOf 21 = .ok (.iconst 0, 1) := by decide +kernel
theorem dL_topOf_22 : decode cL_topOf 22 = .ok (.ireturn, 1) := by decide +kernel
set_option maxRecDepth 100000 in
set_option maxHeartbeats 4000000 in
theorem H_topOf (l : Launch) (hst : l.stackTraces = false) (E : gE) (x : gX) {v1 v2 : Int32} {M : gM} {oc : String ⊕ Int32} {M1 : gM} {z : Int32} {b : Int32} (hf : f_X6_topOf v1 v2 M = some (oc, M1)) (ha : gAns ["java/lang/IndexOutOfBoundsException", "java/util/NoSuchElementException"] oc z b) : gH0 l E yL_topOf (.codeWith yL_topOf cL_topOf 5 (some .int) [(0, 10, 13, 13), (0, 10, 17, 34)]) (gRX 11 195 4 24) M x [.ref (E.2.1 132), .int v1, .int v2, .ref (E.2.1 159)] z M1 (gXo x z b.toInt64) 4 24 := by
  refine gMetH (by decide +kernel) (Nat.le_of_ble_eq_true rfl) ?_
  intro p e s m args below meth c H locs ls Q hC hN hT hl hI kr
  replace hC : gC p s m args c cL_topOf 5 RL E := hC
  replace hl : lv_has ls 5 [(0, .ref (E.2.1 132)), (1, .int v1), (2, .int v2), (3, .ref (E.2.1 159))] := hl
  have hx := hC.1
  have hb := hC.2.1
  refine lv_aload_n hx hb dL_topOf_0 rfl (lv_at hl 3 rfl) ?_
  refine lv_iconst (v := 0) hx hb dL_topOf_1 (by decide) ?_
  refine lv_aload_n hx hb dL_topOf_2 rfl (lv_at hl 0 rfl) ?_
  refine lv_iload_n hx hb dL_topOf_3 rfl (lv_at hl 1 rfl) ?_
  refine lv_iload_n hx hb dL_topOf_4 rfl (lv_at hl 2 rfl) ?_
  have hm := C_X6_topOf l hst E x hf
  rcases ha with ⟨e1, e2⟩ | ⟨i, En, hi, e1, e2⟩
  · subst e1 e2
    refine g_xV hC hI hm Y_X6_topOf V_X6_topOf w868 (rcv_X6 hC hI) ⟨rfl, rfl⟩ ⟨Nat.le_of_ble_eq_true rfl, Nat.le_of_ble_eq_true rfl⟩ rfl hl.1 rfl (Nat.le_of_ble_eq_true rfl) dL_topOf_5 ⟨Nat.le_of_ble_eq_true rfl, Nat.le_of_ble_eq_true rfl⟩ (fun rv H locs ho hI => ?_) (fun En ce q H locs ho => nomatch ho)
    cases ho
    refine lv_i2l (v := b.toInt64) hx hb dL_topOf_8 rfl ?_
    refine g_lastX hC hI dL_topOf_9 (fun H locs hI => ?_)
    refine lv_goto (tgt := 21) hx hb dL_topOf_10 rfl ?_
    refine lv_iconst (v := 0) hx hb dL_topOf_21 (by decide) ?_
    exact kr _ _ _ _ _ _ _ _ nI_0.symm (by rw [gXo_0]) hI ⟨Nat.le_of_ble_eq_true rfl, Nat.le_of_ble_eq_true rfl⟩ dL_topOf_22
  · subst e1 e2
    refine g_xV hC hI hm Y_X6_topOf V_X6_topOf w868 (rcv_X6 hC hI) ⟨rfl, rfl⟩ ⟨Nat.le_of_ble_eq_true rfl, Nat.le_of_ble_eq_true rfl⟩ rfl hl.1 rfl (Nat.le_of_ble_eq_true rfl) dL_topOf_5 ⟨Nat.le_of_ble_eq_true rfl, Nat.le_of_ble_eq_true rfl⟩ (fun rv H locs ho => nomatch ho) (fun En2 ce q H locs ho hI hce hcv hcl => ?_)
    cases ho
    match i, hi with
    | 0, hi =>
      cases hi
      refine g_catch hC hT [] ⟨0, 10, 13, 13⟩ [⟨0, 10, 17, 34⟩] rfl (fun _ h => absurd h List.not_mem_nil) (by decide) (by decide) w442 (by decide +kernel) hce hcv hcl ?_
      refine lv_astore (lv' := [(4, .ref q), (0, .ref (E.2.1 132)), (1, .int v1), (2, .int v2), (3, .ref (E.2.1 159))]) hx hb dL_topOf_13 hl (by decide) rfl (fun ls hl => ?_)
      refine lv_iconst (v := 1) hx hb dL_topOf_15 (by decide) ?_
      exact kr _ _ _ _ _ _ _ _ rfl (by rw [gXo_n x (by decide)]) hI ⟨Nat.le_of_ble_eq_true rfl, Nat.le_of_ble_eq_true rfl⟩ dL_topOf_16
    | 1, hi =>
      cases hi
      refine g_catch hC hT [⟨0, 10, 13, 13⟩] ⟨0, 10, 17, 34⟩ [] rfl (List.forall_mem_cons.mpr ⟨⟨by decide, _, w442, hN ("java/util/NoSuchElementException", "java/lang/IndexOutOfBoundsException") (by decide +kernel)⟩, (fun _ h => absurd h List.not_mem_nil)⟩) (by decide) (by decide) w682 (by decide +kernel) hce hcv hcl ?_
      refine lv_astore (lv' := [(4, .ref q), (0, .ref (E.2.1 132)), (1, .int v1), (2, .int v2), (3, .ref (E.2.1 159))]) hx hb dL_topOf_17 hl (by decide) rfl (fun ls hl => ?_)
      refine lv_iconst (v := 2) hx hb dL_topOf_19 (by decide) ?_
      exact kr _ _ _ _ _ _ _ _ rfl (by rw [gXo_n x (by decide)]) hI ⟨Nat.le_of_ble_eq_true rfl, Nat.le_of_ble_eq_true rfl⟩ dL_topOf_20
    | k + 2, hi => cases hi
theorem dL_containersOn_0 : decode cL_containersOn 0 = .ok (.aload_n 2, 1) := by decide +kernel
theorem dL_containersOn_1 : decode cL_containersOn 1 = .ok (.iconst 0, 1) := by decide +kernel
theorem dL_containersOn_2 : decode cL_containersOn 2 = .ok (.aload_n 0, 1) := by decide +kernel
theorem dL_containersOn_3 : decode cL_containersOn 3 = .ok (.iload_n 1, 1) := by decide +kernel
theorem dL_containersOn_4 : decode cL_containersOn 4 = .ok (.invokevirtual 84, 3) := by decide +kernel
theorem dL_containersOn_7 : decode cL_containersOn 7 = .ok (.i2l, 1) := by decide +kernel
theorem dL_containersOn_8 : decode cL_containersOn 8 = .ok (.lastore, 1) := by decide +kernel
theorem dL_containersOn_9 : decode cL_containersOn 9 = .ok (.goto 9, 3) := by decide +kernel
theorem dL_containersOn_12 : decode cL_containersOn 12 = .ok (.astore_n 3, 1) := by decide +kernel
theorem dL_containersOn_13 : decode cL_containersOn 13 = .ok (.iconst 1, 1) := by decide +kernel
theorem dL_containersOn_14 : decode cL_containersOn 14 = .ok (.ireturn, 1) := by decide +kernel
theorem dL_containersOn_15 : decode cL_containersOn 15 = .ok (.astore_n 3, 1) := by decide +kernel
theorem dL_containersOn_16 : decode cL_containersOn 16 = .ok (.iconst 2, 1) := by decide +kernel
theorem dL_containersOn_17 : decode cL_containersOn 17 = .ok (.ireturn, 1) := by decide +kernel
theorem dL_containersOn_18 : decode cL_containersOn 18 = .ok (.iconst 0, 1) := by decide +kernel
theorem dL_containersOn_19 : decode cL_containersOn 19 = .ok (.ireturn, 1) := by decide +kernel
set_option maxRecDepth 100000 in
set_option maxHeartbeats 4000000 in
theorem H_containersOn (l : Launch) (hst : l.stackTraces = false) (E : gE) (x : gX) {v1 : Int32} {M : gM} {oc : String ⊕ Int32} {M1 : gM} {z : Int32} {b : Int32} (hf : f_X6_containersOn v1 M = some (oc, M1)) (ha : gAns ["java/lang/IndexOutOfBoundsException", "java/util/NoSuchElementException"] oc z b) : gH0 l E yL_containersOn (.codeWith yL_containersOn cL_containersOn 4 (some .int) [(0, 9, 12, 13), (0, 9, 15, 34)]) (gRX 10 172 2 12) M x [.ref (E.2.1 132), .int v1, .ref (E.2.1 159)] z M1 (gXo x z b.toInt64) 2 12 := by
  refine gMetH (by decide +kernel) (Nat.le_of_ble_eq_true rfl) ?_
  intro p e s m args below meth c H locs ls Q hC hN hT hl hI kr
  replace hC : gC p s m args c cL_containersOn 4 RL E := hC
  replace hl : lv_has ls 4 [(0, .ref (E.2.1 132)), (1, .int v1), (2, .ref (E.2.1 159))] := hl
  have hx := hC.1
  have hb := hC.2.1
  refine lv_aload_n hx hb dL_containersOn_0 rfl (lv_at hl 2 rfl) ?_
  refine lv_iconst (v := 0) hx hb dL_containersOn_1 (by decide) ?_
  refine lv_aload_n hx hb dL_containersOn_2 rfl (lv_at hl 0 rfl) ?_
  refine lv_iload_n hx hb dL_containersOn_3 rfl (lv_at hl 1 rfl) ?_
  have hm := C_X6_containersOn l hst E x hf
  rcases ha with ⟨e1, e2⟩ | ⟨i, En, hi, e1, e2⟩
  · subst e1 e2
    refine g_xV hC hI hm Y_X6_containersOn V_X6_containersOn w876 (rcv_X6 hC hI) ⟨rfl, rfl⟩ ⟨Nat.le_of_ble_eq_true rfl, Nat.le_of_ble_eq_true rfl⟩ rfl hl.1 rfl (Nat.le_of_ble_eq_true rfl) dL_containersOn_4 ⟨Nat.le_of_ble_eq_true rfl, Nat.le_of_ble_eq_true rfl⟩ (fun rv H locs ho hI => ?_) (fun En ce q H locs ho => nomatch ho)
    cases ho
    refine lv_i2l (v := b.toInt64) hx hb dL_containersOn_7 rfl ?_
    refine g_lastX hC hI dL_containersOn_8 (fun H locs hI => ?_)
    refine lv_goto (tgt := 18) hx hb dL_containersOn_9 rfl ?_
    refine lv_iconst (v := 0) hx hb dL_containersOn_18 (by decide) ?_
    exact kr _ _ _ _ _ _ _ _ nI_0.symm (by rw [gXo_0]) hI ⟨Nat.le_of_ble_eq_true rfl, Nat.le_of_ble_eq_true rfl⟩ dL_containersOn_19
  · subst e1 e2
    refine g_xV hC hI hm Y_X6_containersOn V_X6_containersOn w876 (rcv_X6 hC hI) ⟨rfl, rfl⟩ ⟨Nat.le_of_ble_eq_true rfl, Nat.le_of_ble_eq_true rfl⟩ rfl hl.1 rfl (Nat.le_of_ble_eq_true rfl) dL_containersOn_4 ⟨Nat.le_of_ble_eq_true rfl, Nat.le_of_ble_eq_true rfl⟩ (fun rv H locs ho => nomatch ho) (fun En2 ce q H locs ho hI hce hcv hcl => ?_)
    cases ho
    match i, hi with
    | 0, hi =>
      cases hi
      refine g_catch hC hT [] ⟨0, 9, 12, 13⟩ [⟨0, 9, 15, 34⟩] rfl (fun _ h => absurd h List.not_mem_nil) (by decide) (by decide) w442 (by decide +kernel) hce hcv hcl ?_
      refine lv_astore_n (lv' := [(3, .ref q), (0, .ref (E.2.1 132)), (1, .int v1), (2, .ref (E.2.1 159))]) hx hb dL_containersOn_12 rfl hl (by decide) rfl (fun ls hl => ?_)
      refine lv_iconst (v := 1) hx hb dL_containersOn_13 (by decide) ?_
      exact kr _ _ _ _ _ _ _ _ rfl (by rw [gXo_n x (by decide)]) hI ⟨Nat.le_of_ble_eq_true rfl, Nat.le_of_ble_eq_true rfl⟩ dL_containersOn_14
    | 1, hi =>
      cases hi
      refine g_catch hC hT [⟨0, 9, 12, 13⟩] ⟨0, 9, 15, 34⟩ [] rfl (List.forall_mem_cons.mpr ⟨⟨by decide, _, w442, hN ("java/util/NoSuchElementException", "java/lang/IndexOutOfBoundsException") (by decide +kernel)⟩, (fun _ h => absurd h List.not_mem_nil)⟩) (by decide) (by decide) w682 (by decide +kernel) hce hcv hcl ?_
      refine lv_astore_n (lv' := [(3, .ref q), (0, .ref (E.2.1 132)), (1, .int v1), (2, .ref (E.2.1 159))]) hx hb dL_containersOn_15 rfl hl (by decide) rfl (fun ls hl => ?_)
      refine lv_iconst (v := 2) hx hb dL_containersOn_16 (by decide) ?_
      exact kr _ _ _ _ _ _ _ _ rfl (by rw [gXo_n x (by decide)]) hI ⟨Nat.le_of_ble_eq_true rfl, Nat.le_of_ble_eq_true rfl⟩ dL_containersOn_17
    | k + 2, hi => cases hi
theorem dL_weightOn_0 : decode cL_weightOn 0 = .ok (.aload_n 2, 1) := by decide +kernel
theorem dL_weightOn_1 : decode cL_weightOn 1 = .ok (.iconst 0, 1) := by decide +kernel
theorem dL_weightOn_2 : decode cL_weightOn 2 = .ok (.aload_n 0, 1) := by decide +kernel
theorem dL_weightOn_3 : decode cL_weightOn 3 = .ok (.iload_n 1, 1) := by decide +kernel
theorem dL_weightOn_4 : decode cL_weightOn 4 = .ok (.invokevirtual 87, 3) := by decide +kernel
theorem dL_weightOn_7 : decode cL_weightOn 7 = .ok (.i2l, 1) := by decide +kernel
theorem dL_weightOn_8 : decode cL_weightOn 8 = .ok (.lastore, 1) := by decide +kernel
theorem dL_weightOn_9 : decode cL_weightOn 9 = .ok (.goto 9, 3) := by decide +kernel
theorem dL_weightOn_12 : decode cL_weightOn 12 = .ok (.astore_n 3, 1) := by decide +kernel
theorem dL_weightOn_13 : decode cL_weightOn 13 = .ok (.iconst 1, 1) := by decide +kernel
theorem dL_weightOn_14 : decode cL_weightOn 14 = .ok (.ireturn, 1) := by decide +kernel
theorem dL_weightOn_15 : decode cL_weightOn 15 = .ok (.astore_n 3, 1) := by decide +kernel
theorem dL_weightOn_16 : decode cL_weightOn 16 = .ok (.iconst 2, 1) := by decide +kernel
theorem dL_weightOn_17 : decode cL_weightOn 17 = .ok (.ireturn, 1) := by decide +kernel
theorem dL_weightOn_18 : decode cL_weightOn 18 = .ok (.iconst 0, 1) := by decide +kernel
theorem dL_weightOn_19 : decode cL_weightOn 19 = .ok (.ireturn, 1) := by decide +kernel
set_option maxRecDepth 100000 in
set_option maxHeartbeats 4000000 in
theorem H_weightOn (l : Launch) (hst : l.stackTraces = false) (E : gE) (x : gX) {v1 : Int32} {M : gM} {oc : String ⊕ Int32} {M1 : gM} {z : Int32} {b : Int32} (hf : f_X6_weightOn v1 M = some (oc, M1)) (ha : gAns ["java/lang/IndexOutOfBoundsException", "java/util/NoSuchElementException"] oc z b) : gH0 l E yL_weightOn (.codeWith yL_weightOn cL_weightOn 4 (some .int) [(0, 9, 12, 13), (0, 9, 15, 34)]) (gRX 10 172 2 12) M x [.ref (E.2.1 132), .int v1, .ref (E.2.1 159)] z M1 (gXo x z b.toInt64) 2 12 := by
  refine gMetH (by decide +kernel) (Nat.le_of_ble_eq_true rfl) ?_
  intro p e s m args below meth c H locs ls Q hC hN hT hl hI kr
  replace hC : gC p s m args c cL_weightOn 4 RL E := hC
  replace hl : lv_has ls 4 [(0, .ref (E.2.1 132)), (1, .int v1), (2, .ref (E.2.1 159))] := hl
  have hx := hC.1
  have hb := hC.2.1
  refine lv_aload_n hx hb dL_weightOn_0 rfl (lv_at hl 2 rfl) ?_
  refine lv_iconst (v := 0) hx hb dL_weightOn_1 (by decide) ?_
  refine lv_aload_n hx hb dL_weightOn_2 rfl (lv_at hl 0 rfl) ?_
  refine lv_iload_n hx hb dL_weightOn_3 rfl (lv_at hl 1 rfl) ?_
  have hm := C_X6_weightOn l hst E x hf
  rcases ha with ⟨e1, e2⟩ | ⟨i, En, hi, e1, e2⟩
  · subst e1 e2
    refine g_xV hC hI hm Y_X6_weightOn V_X6_weightOn w884 (rcv_X6 hC hI) ⟨rfl, rfl⟩ ⟨Nat.le_of_ble_eq_true rfl, Nat.le_of_ble_eq_true rfl⟩ rfl hl.1 rfl (Nat.le_of_ble_eq_true rfl) dL_weightOn_4 ⟨Nat.le_of_ble_eq_true rfl, Nat.le_of_ble_eq_true rfl⟩ (fun rv H locs ho hI => ?_) (fun En ce q H locs ho => nomatch ho)
    cases ho
    refine lv_i2l (v := b.toInt64) hx hb dL_weightOn_7 rfl ?_
    refine g_lastX hC hI dL_weightOn_8 (fun H locs hI => ?_)
    refine lv_goto (tgt := 18) hx hb dL_weightOn_9 rfl ?_
    refine lv_iconst (v := 0) hx hb dL_weightOn_18 (by decide) ?_
    exact kr _ _ _ _ _ _ _ _ nI_0.symm (by rw [gXo_0]) hI ⟨Nat.le_of_ble_eq_true rfl, Nat.le_of_ble_eq_true rfl⟩ dL_weightOn_19
  · subst e1 e2
    refine g_xV hC hI hm Y_X6_weightOn V_X6_weightOn w884 (rcv_X6 hC hI) ⟨rfl, rfl⟩ ⟨Nat.le_of_ble_eq_true rfl, Nat.le_of_ble_eq_true rfl⟩ rfl hl.1 rfl (Nat.le_of_ble_eq_true rfl) dL_weightOn_4 ⟨Nat.le_of_ble_eq_true rfl, Nat.le_of_ble_eq_true rfl⟩ (fun rv H locs ho => nomatch ho) (fun En2 ce q H locs ho hI hce hcv hcl => ?_)
    cases ho
    match i, hi with
    | 0, hi =>
      cases hi
      refine g_catch hC hT [] ⟨0, 9, 12, 13⟩ [⟨0, 9, 15, 34⟩] rfl (fun _ h => absurd h List.not_mem_nil) (by decide) (by decide) w442 (by decide +kernel) hce hcv hcl ?_
      refine lv_astore_n (lv' := [(3, .ref q), (0, .ref (E.2.1 132)), (1, .int v1), (2, .ref (E.2.1 159))]) hx hb dL_weightOn_12 rfl hl (by decide) rfl (fun ls hl => ?_)
      refine lv_iconst (v := 1) hx hb dL_weightOn_13 (by decide) ?_
      exact kr _ _ _ _ _ _ _ _ rfl (by rw [gXo_n x (by decide)]) hI ⟨Nat.le_of_ble_eq_true rfl, Nat.le_of_ble_eq_true rfl⟩ dL_weightOn_14
    | 1, hi =>
      cases hi
      refine g_catch hC hT [⟨0, 9, 12, 13⟩] ⟨0, 9, 15, 34⟩ [] rfl (List.forall_mem_cons.mpr ⟨⟨by decide, _, w442, hN ("java/util/NoSuchElementException", "java/lang/IndexOutOfBoundsException") (by decide +kernel)⟩, (fun _ h => absurd h List.not_mem_nil)⟩) (by decide) (by decide) w682 (by decide +kernel) hce hcv hcl ?_
      refine lv_astore_n (lv' := [(3, .ref q), (0, .ref (E.2.1 132)), (1, .int v1), (2, .ref (E.2.1 159))]) hx hb dL_weightOn_15 rfl hl (by decide) rfl (fun ls hl => ?_)
      refine lv_iconst (v := 2) hx hb dL_weightOn_16 (by decide) ?_
      exact kr _ _ _ _ _ _ _ _ rfl (by rw [gXo_n x (by decide)]) hI ⟨Nat.le_of_ble_eq_true rfl, Nat.le_of_ble_eq_true rfl⟩ dL_weightOn_17
    | k + 2, hi => cases hi
theorem dL_weightOnByContainers_0 : decode cL_weightOnByContainers 0 = .ok (.aload_n 2, 1) := by decide +kernel
theorem dL_weightOnByContainers_1 : decode cL_weightOnByContainers 1 = .ok (.iconst 0, 1) := by decide +kernel
theorem dL_weightOnByContainers_2 : decode cL_weightOnByContainers 2 = .ok (.aload_n 0, 1) := by decide +kernel
theorem dL_weightOnByContainers_3 : decode cL_weightOnByContainers 3 = .ok (.iload_n 1, 1) := by decide +kernel
theorem dL_weightOnByContainers_4 : decode cL_weightOnByContainers 4 = .ok (.invokevirtual 90, 3) := by decide +kernel
theorem dL_weightOnByContainers_7 : decode cL_weightOnByContainers 7 = .ok (.i2l, 1) := by decide +kernel
theorem dL_weightOnByContainers_8 : decode cL_weightOnByContainers 8 = .ok (.lastore, 1) := by decide +kernel
theorem dL_weightOnByContainers_9 : decode cL_weightOnByContainers 9 = .ok (.goto 9, 3) := by decide +kernel
theorem dL_weightOnByContainers_12 : decode cL_weightOnByContainers 12 = .ok (.astore_n 3, 1) := by decide +kernel
theorem dL_weightOnByContainers_13 : decode cL_weightOnByContainers 13 = .ok (.iconst 1, 1) := by decide +kernel
theorem dL_weightOnByContainers_14 : decode cL_weightOnByContainers 14 = .ok (.ireturn, 1) := by decide +kernel
theorem dL_weightOnByContainers_15 : decode cL_weightOnByContainers 15 = .ok (.astore_n 3, 1) := by decide +kernel
theorem dL_weightOnByContainers_16 : decode cL_weightOnByContainers 16 = .ok (.iconst 2, 1) := by decide +kernel
theorem dL_weightOnByContainers_17 : decode cL_weightOnByContainers 17 = .ok (.ireturn, 1) := by decide +kernel
theorem dL_weightOnByContainers_18 : decode cL_weightOnByContainers 18 = .ok (.iconst 0, 1) := by decide +kernel
theorem dL_weightOnByContainers_19 : decode cL_weightOnByContainers 19 = .ok (.ireturn, 1) := by decide +kernel
set_option maxRecDepth 100000 in
set_option maxHeartbeats 4000000 in
theorem H_weightOnByContainers (l : Launch) (hst : l.stackTraces = false) (E : gE) (x : gX) {v1 : Int32} {M : gM} {oc : String ⊕ Int32} {M1 : gM} {z : Int32} {b : Int32} (hf : f_X6_weightOnByContainers v1 M = some (oc, M1)) (ha : gAns ["java/lang/IndexOutOfBoundsException", "java/util/NoSuchElementException"] oc z b) : gH0 l E yL_weightOnByContainers (.codeWith yL_weightOnByContainers cL_weightOnByContainers 4 (some .int) [(0, 9, 12, 13), (0, 9, 15, 34)]) (gRX 10 172 2 12) M x [.ref (E.2.1 132), .int v1, .ref (E.2.1 159)] z M1 (gXo x z b.toInt64) 2 12 := by
  refine gMetH (by decide +kernel) (Nat.le_of_ble_eq_true rfl) ?_
  intro p e s m args below meth c H locs ls Q hC hN hT hl hI kr
  replace hC : gC p s m args c cL_weightOnByContainers 4 RL E := hC
  replace hl : lv_has ls 4 [(0, .ref (E.2.1 132)), (1, .int v1), (2, .ref (E.2.1 159))] := hl
  have hx := hC.1
  have hb := hC.2.1
  refine lv_aload_n hx hb dL_weightOnByContainers_0 rfl (lv_at hl 2 rfl) ?_
  refine lv_iconst (v := 0) hx hb dL_weightOnByContainers_1 (by decide) ?_
  refine lv_aload_n hx hb dL_weightOnByContainers_2 rfl (lv_at hl 0 rfl) ?_
  refine lv_iload_n hx hb dL_weightOnByContainers_3 rfl (lv_at hl 1 rfl) ?_
  have hm := C_X6_weightOnByContainers l hst E x hf
  rcases ha with ⟨e1, e2⟩ | ⟨i, En, hi, e1, e2⟩
  · subst e1 e2
    refine g_xV hC hI hm Y_X6_weightOnByContainers V_X6_weightOnByContainers w892 (rcv_X6 hC hI) ⟨rfl, rfl⟩ ⟨Nat.le_of_ble_eq_true rfl, Nat.le_of_ble_eq_true rfl⟩ rfl hl.1 rfl (Nat.le_of_ble_eq_true rfl) dL_weightOnByContainers_4 ⟨Nat.le_of_ble_eq_true rfl, Nat.le_of_ble_eq_true rfl⟩ (fun rv H locs ho hI => ?_) (fun En ce q H locs ho => nomatch ho)
    cases ho
    refine lv_i2l (v := b.toInt64) hx hb dL_weightOnByContainers_7 rfl ?_
    refine g_lastX hC hI dL_weightOnByContainers_8 (fun H locs hI => ?_)
    refine lv_goto (tgt := 18) hx hb dL_weightOnByContainers_9 rfl ?_
    refine lv_iconst (v := 0) hx hb dL_weightOnByContainers_18 (by decide) ?_
    exact kr _ _ _ _ _ _ _ _ nI_0.symm (by rw [gXo_0]) hI ⟨Nat.le_of_ble_eq_true rfl, Nat.le_of_ble_eq_true rfl⟩ dL_weightOnByContainers_19
  · subst e1 e2
    refine g_xV hC hI hm Y_X6_weightOnByContainers V_X6_weightOnByContainers w892 (rcv_X6 hC hI) ⟨rfl, rfl⟩ ⟨Nat.le_of_ble_eq_true rfl, Nat.le_of_ble_eq_true rfl⟩ rfl hl.1 rfl (Nat.le_of_ble_eq_true rfl) dL_weightOnByContainers_4 ⟨Nat.le_of_ble_eq_true rfl, Nat.le_of_ble_eq_true rfl⟩ (fun rv H locs ho => nomatch ho) (fun En2 ce q H locs ho hI hce hcv hcl => ?_)
    cases ho
    match i, hi with
    | 0, hi =>
      cases hi
      refine g_catch hC hT [] ⟨0, 9, 12, 13⟩ [⟨0, 9, 15, 34⟩] rfl (fun _ h => absurd h List.not_mem_nil) (by decide) (by decide) w442 (by decide +kernel) hce hcv hcl ?_
      refine lv_astore_n (lv' := [(3, .ref q), (0, .ref (E.2.1 132)), (1, .int v1), (2, .ref (E.2.1 159))]) hx hb dL_weightOnByContainers_12 rfl hl (by decide) rfl (fun ls hl => ?_)
      refine lv_iconst (v := 1) hx hb dL_weightOnByContainers_13 (by decide) ?_
      exact kr _ _ _ _ _ _ _ _ rfl (by rw [gXo_n x (by decide)]) hI ⟨Nat.le_of_ble_eq_true rfl, Nat.le_of_ble_eq_true rfl⟩ dL_weightOnByContainers_14
    | 1, hi =>
      cases hi
      refine g_catch hC hT [⟨0, 9, 12, 13⟩] ⟨0, 9, 15, 34⟩ [] rfl (List.forall_mem_cons.mpr ⟨⟨by decide, _, w442, hN ("java/util/NoSuchElementException", "java/lang/IndexOutOfBoundsException") (by decide +kernel)⟩, (fun _ h => absurd h List.not_mem_nil)⟩) (by decide) (by decide) w682 (by decide +kernel) hce hcv hcl ?_
      refine lv_astore_n (lv' := [(3, .ref q), (0, .ref (E.2.1 132)), (1, .int v1), (2, .ref (E.2.1 159))]) hx hb dL_weightOnByContainers_15 rfl hl (by decide) rfl (fun ls hl => ?_)
      refine lv_iconst (v := 2) hx hb dL_weightOnByContainers_16 (by decide) ?_
      exact kr _ _ _ _ _ _ _ _ rfl (by rw [gXo_n x (by decide)]) hI ⟨Nat.le_of_ble_eq_true rfl, Nat.le_of_ble_eq_true rfl⟩ dL_weightOnByContainers_17
    | k + 2, hi => cases hi
theorem dL_weightOf_0 : decode cL_weightOf 0 = .ok (.aload_n 2, 1) := by decide +kernel
theorem dL_weightOf_1 : decode cL_weightOf 1 = .ok (.iconst 0, 1) := by decide +kernel
theorem dL_weightOf_2 : decode cL_weightOf 2 = .ok (.aload_n 0, 1) := by decide +kernel
theorem dL_weightOf_3 : decode cL_weightOf 3 = .ok (.iload_n 1, 1) := by decide +kernel
theorem dL_weightOf_4 : decode cL_weightOf 4 = .ok (.invokevirtual 93, 3) := by decide +kernel
theorem dL_weightOf_7 : decode cL_weightOf 7 = .ok (.i2l, 1) := by decide +kernel
theorem dL_weightOf_8 : decode cL_weightOf 8 = .ok (.lastore, 1) := by decide +kernel
theorem dL_weightOf_9 : decode cL_weightOf 9 = .ok (.goto 6, 3) := by decide +kernel
theorem dL_weightOf_12 : decode cL_weightOf 12 = .ok (.astore_n 3, 1) := by decide +kernel
theorem dL_weightOf_13 : decode cL_weightOf 13 = .ok (.iconst 1, 1) := by decide +kernel
theorem dL_weightOf_14 : decode cL_weightOf 14 = .ok (.ireturn, 1) := by decide +kernel
theorem dL_weightOf_15 : decode cL_weightOf 15 = .ok (.iconst 0, 1) := by decide +kernel
theorem dL_weightOf_16 : decode cL_weightOf 16 = .ok (.ireturn, 1) := by decide +kernel
set_option maxRecDepth 100000 in
set_option maxHeartbeats 4000000 in
theorem H_weightOf (l : Launch) (hst : l.stackTraces = false) (E : gE) (x : gX) {v1 : Int32} {M : gM} {oc : String ⊕ Int32} {M1 : gM} {z : Int32} {b : Int32} (hf : f_X6_weightOf v1 M = some (oc, M1)) (ha : gAns ["java/util/NoSuchElementException"] oc z b) : gH0 l E yL_weightOf (.codeWith yL_weightOf cL_weightOf 4 (some .int) [(0, 9, 12, 34)]) (gRX 9 151 1 6) M x [.ref (E.2.1 132), .int v1, .ref (E.2.1 159)] z M1 (gXo x z b.toInt64) 1 6 := by
  refine gMetH (by decide +kernel) (Nat.le_of_ble_eq_true rfl) ?_
  intro p e s m args below meth c H locs ls Q hC hN hT hl hI kr
  replace hC : gC p s m args c cL_weightOf 4 RL E := hC
  replace hl : lv_has ls 4 [(0, .ref (E.2.1 132)), (1, .int v1), (2, .ref (E.2.1 159))] := hl
  have hx := hC.1
  have hb := hC.2.1
  refine lv_aload_n hx hb dL_weightOf_0 rfl (lv_at hl 2 rfl) ?_
  refine lv_iconst (v := 0) hx hb dL_weightOf_1 (by decide) ?_
  refine lv_aload_n hx hb dL_weightOf_2 rfl (lv_at hl 0 rfl) ?_
  refine lv_iload_n hx hb dL_weightOf_3 rfl (lv_at hl 1 rfl) ?_
  have hm := C_X6_weightOf l hst E x hf
  rcases ha with ⟨e1, e2⟩ | ⟨i, En, hi, e1, e2⟩
  · subst e1 e2
    refine g_xV hC hI hm Y_X6_weightOf V_X6_weightOf w900 (rcv_X6 hC hI) ⟨rfl, rfl⟩ ⟨Nat.le_of_ble_eq_true rfl, Nat.le_of_ble_eq_true rfl⟩ rfl hl.1 rfl (Nat.le_of_ble_eq_true rfl) dL_weightOf_4 ⟨Nat.le_of_ble_eq_true rfl, Nat.le_of_ble_eq_true rfl⟩ (fun rv H locs ho hI => ?_) (fun En ce q H locs ho => nomatch ho)
    cases ho
    refine lv_i2l (v := b.toInt64) hx hb dL_weightOf_7 rfl ?_
    refine g_lastX hC hI dL_weightOf_8 (fun H locs hI => ?_)
    refine lv_goto (tgt := 15) hx hb dL_weightOf_9 rfl ?_
    refine lv_iconst (v := 0) hx hb dL_weightOf_15 (by decide) ?_
    exact kr _ _ _ _ _ _ _ _ nI_0.symm (by rw [gXo_0]) hI ⟨Nat.le_of_ble_eq_true rfl, Nat.le_of_ble_eq_true rfl⟩ dL_weightOf_16
  · subst e1 e2
    refine g_xV hC hI hm Y_X6_weightOf V_X6_weightOf w900 (rcv_X6 hC hI) ⟨rfl, rfl⟩ ⟨Nat.le_of_ble_eq_true rfl, Nat.le_of_ble_eq_true rfl⟩ rfl hl.1 rfl (Nat.le_of_ble_eq_true rfl) dL_weightOf_4 ⟨Nat.le_of_ble_eq_true rfl, Nat.le_of_ble_eq_true rfl⟩ (fun rv H locs ho => nomatch ho) (fun En2 ce q H locs ho hI hce hcv hcl => ?_)
    cases ho
    match i, hi with
    | 0, hi =>
      cases hi
      refine g_catch hC hT [] ⟨0, 9, 12, 34⟩ [] rfl (fun _ h => absurd h List.not_mem_nil) (by decide) (by decide) w682 (by decide +kernel) hce hcv hcl ?_
      refine lv_astore_n (lv' := [(3, .ref q), (0, .ref (E.2.1 132)), (1, .int v1), (2, .ref (E.2.1 159))]) hx hb dL_weightOf_12 rfl hl (by decide) rfl (fun ls hl => ?_)
      refine lv_iconst (v := 1) hx hb dL_weightOf_13 (by decide) ?_
      exact kr _ _ _ _ _ _ _ _ rfl (by rw [gXo_n x (by decide)]) hI ⟨Nat.le_of_ble_eq_true rfl, Nat.le_of_ble_eq_true rfl⟩ dL_weightOf_14
    | k + 1, hi => cases hi
