theorem dL_keyOf_0 : decode cL_keyOf 0 = .ok (.aload_n 2, 1) := by decide +kernel
theorem dL_keyOf_1 : decode cL_keyOf 1 = .ok (.iconst 0, 1) := by decide +kernel
theorem dL_keyOf_2 : decode cL_keyOf 2 = .ok (.aload_n 0, 1) := by decide +kernel
theorem dL_keyOf_3 : decode cL_keyOf 3 = .ok (.iload_n 1, 1) := by decide +kernel
theorem dL_keyOf_4 : decode cL_keyOf 4 = .ok (.invokevirtual 96, 3) := by decide +kernel
theorem dL_keyOf_7 : decode cL_keyOf 7 = .ok (.i2l, 1) := by decide +kernel
theorem dL_keyOf_8 : decode cL_keyOf 8 = .ok (.lastore, 1) := by decide +kernel
theorem dL_keyOf_9 : decode cL_keyOf 9 = .ok (.goto 6, 3) := by decide +kernel
theorem dL_keyOf_12 : decode cL_keyOf 12 = .ok (.astore_n 3, 1) := by decide +kernel
theorem dL_keyOf_13 : decode cL_keyOf 13 = .ok (.iconst 1, 1) := by decide +kernel
theorem dL_keyOf_14 : decode cL_keyOf 14 = .ok (.ireturn, 1) := by decide +kernel
theorem dL_keyOf_15 : decode cL_keyOf 15 = .ok (.iconst 0, 1) := by decide +kernel
theorem dL_keyOf_16 : decode cL_keyOf 16 = .ok (.ireturn, 1) := by decide +kernel
set_option maxRecDepth 100000 in
set_option maxHeartbeats 4000000 in
theorem H_keyOf (l : Launch) (hst : l.stackTraces = false) (E : gE) (x : gX) {v1 : Int32} {M : gM} {oc : String ⊕ Int32} {M1 : gM} {z : Int32} {b : Int32} (hf : f_X6_keyOf v1 M = some (oc, M1)) (ha : gAns ["java/util/NoSuchElementException"] oc z b) : gH0 l E yL_keyOf (.codeWith yL_keyOf cL_keyOf 4 (some .int) [(0, 9, 12, 34)]) (gRX 9 151 1 6) M x [.ref (E.2.1 132), .int v1, .ref (E.2.1 159)] z M1 (gXo x z b.toInt64) 1 6 := by
  refine gMetH (by decide +kernel) (Nat.le_of_ble_eq_true rfl) ?_
  intro p e s m args below meth c H locs ls Q hC hN hT hl hI kr
  replace hC : gC p s m args c cL_keyOf 4 RL E := hC
  replace hl : lv_has ls 4 [(0, .ref (E.2.1 132)), (1, .int v1), (2, .ref (E.2.1 159))] := hl
  have hx := hC.1
  have hb := hC.2.1
  refine lv_aload_n hx hb dL_keyOf_0 rfl (lv_at hl 2 rfl) ?_
  refine lv_iconst (v := 0) hx hb dL_keyOf_1 (by decide) ?_
  refine lv_aload_n hx hb dL_keyOf_2 rfl (lv_at hl 0 rfl) ?_
  refine lv_iload_n hx hb dL_keyOf_3 rfl (lv_at hl 1 rfl) ?_
  have hm := C_X6_keyOf l hst E x hf
  rcases ha with ⟨e1, e2⟩ | ⟨i, En, hi, e1, e2⟩
  · subst e1 e2
    refine g_xV hC hI hm Y_X6_keyOf V_X6_keyOf w909 (rcv_X6 hC hI) ⟨rfl, rfl⟩ ⟨Nat.le_of_ble_eq_true rfl, Nat.le_of_ble_eq_true rfl⟩ rfl hl.1 rfl (Nat.le_of_ble_eq_true rfl) dL_keyOf_4 ⟨Nat.le_of_ble_eq_true rfl, Nat.le_of_ble_eq_true rfl⟩ (fun rv H locs ho hI => ?_) (fun En ce q H locs ho => nomatch ho)
    cases ho
    refine lv_i2l (v := b.toInt64) hx hb dL_keyOf_7 rfl ?_
    refine g_lastX hC hI dL_keyOf_8 (fun H locs hI => ?_)
    refine lv_goto (tgt := 15) hx hb dL_keyOf_9 rfl ?_
    refine lv_iconst (v := 0) hx hb dL_keyOf_15 (by decide) ?_
    exact kr _ _ _ _ _ _ _ _ nI_0.symm (by rw [gXo_0]) hI ⟨Nat.le_of_ble_eq_true rfl, Nat.le_of_ble_eq_true rfl⟩ dL_keyOf_16
  · subst e1 e2
    refine g_xV hC hI hm Y_X6_keyOf V_X6_keyOf w909 (rcv_X6 hC hI) ⟨rfl, rfl⟩ ⟨Nat.le_of_ble_eq_true rfl, Nat.le_of_ble_eq_true rfl⟩ rfl hl.1 rfl (Nat.le_of_ble_eq_true rfl) dL_keyOf_4 ⟨Nat.le_of_ble_eq_true rfl, Nat.le_of_ble_eq_true rfl⟩ (fun rv H locs ho => nomatch ho) (fun En2 ce q H locs ho hI hce hcv hcl => ?_)
    cases ho
    match i, hi with
    | 0, hi =>
      cases hi
      refine g_catch hC hT [] ⟨0, 9, 12, 34⟩ [] rfl (fun _ h => absurd h List.not_mem_nil) (by decide) (by decide) w682 (by decide +kernel) hce hcv hcl ?_
      refine lv_astore_n (lv' := [(3, .ref q), (0, .ref (E.2.1 132)), (1, .int v1), (2, .ref (E.2.1 159))]) hx hb dL_keyOf_12 rfl hl (by decide) rfl (fun ls hl => ?_)
      refine lv_iconst (v := 1) hx hb dL_keyOf_13 (by decide) ?_
      exact kr _ _ _ _ _ _ _ _ rfl (by rw [gXo_n x (by decide)]) hI ⟨Nat.le_of_ble_eq_true rfl, Nat.le_of_ble_eq_true rfl⟩ dL_keyOf_14
    | k + 1, hi => cases hi
theorem dL_answerOf_0 : decode cL_answerOf 0 = .ok (.aload_n 2, 1) := by decide +kernel
theorem dL_answerOf_1 : decode cL_answerOf 1 = .ok (.iconst 0, 1) := by decide +kernel
theorem dL_answerOf_2 : decode cL_answerOf 2 = .ok (.aload_n 0, 1) := by decide +kernel
theorem dL_answerOf_3 : decode cL_answerOf 3 = .ok (.iload_n 1, 1) := by decide +kernel
theorem dL_answerOf_4 : decode cL_answerOf 4 = .ok (.invokevirtual 99, 3) := by decide +kernel
theorem dL_answerOf_7 : decode cL_answerOf 7 = .ok (.i2l, 1) := by decide +kernel
theorem dL_answerOf_8 : decode cL_answerOf 8 = .ok (.lastore, 1) := by decide +kernel
theorem dL_answerOf_9 : decode cL_answerOf 9 = .ok (.goto 6, 3) := by decide +kernel
theorem dL_answerOf_12 : decode cL_answerOf 12 = .ok (.astore_n 3, 1) := by decide +kernel
theorem dL_answerOf_13 : decode cL_answerOf 13 = .ok (.iconst 1, 1) := by decide +kernel
theorem dL_answerOf_14 : decode cL_answerOf 14 = .ok (.ireturn, 1) := by decide +kernel
theorem dL_answerOf_15 : decode cL_answerOf 15 = .ok (.iconst 0, 1) := by decide +kernel
theorem dL_answerOf_16 : decode cL_answerOf 16 = .ok (.ireturn, 1) := by decide +kernel
set_option maxRecDepth 100000 in
set_option maxHeartbeats 4000000 in
theorem H_answerOf (l : Launch) (hst : l.stackTraces = false) (E : gE) (x : gX) {v1 : Int32} {M : gM} {oc : String ⊕ Int32} {M1 : gM} {z : Int32} {b : Int32} (hf : f_X6_answerOf v1 M = some (oc, M1)) (ha : gAns ["java/util/NoSuchElementException"] oc z b) : gH0 l E yL_answerOf (.codeWith yL_answerOf cL_answerOf 4 (some .int) [(0, 9, 12, 34)]) (gRX 9 151 1 6) M x [.ref (E.2.1 132), .int v1, .ref (E.2.1 159)] z M1 (gXo x z b.toInt64) 1 6 := by
  refine gMetH (by decide +kernel) (Nat.le_of_ble_eq_true rfl) ?_
  intro p e s m args below meth c H locs ls Q hC hN hT hl hI kr
  replace hC : gC p s m args c cL_answerOf 4 RL E := hC
  replace hl : lv_has ls 4 [(0, .ref (E.2.1 132)), (1, .int v1), (2, .ref (E.2.1 159))] := hl
  have hx := hC.1
  have hb := hC.2.1
  refine lv_aload_n hx hb dL_answerOf_0 rfl (lv_at hl 2 rfl) ?_
  refine lv_iconst (v := 0) hx hb dL_answerOf_1 (by decide) ?_
  refine lv_aload_n hx hb dL_answerOf_2 rfl (lv_at hl 0 rfl) ?_
  refine lv_iload_n hx hb dL_answerOf_3 rfl (lv_at hl 1 rfl) ?_
  have hm := C_X6_answerOf l hst E x hf
  rcases ha with ⟨e1, e2⟩ | ⟨i, En, hi, e1, e2⟩
  · subst e1 e2
    refine g_xV hC hI hm Y_X6_answerOf V_X6_answerOf w917 (rcv_X6 hC hI) ⟨rfl, rfl⟩ ⟨Nat.le_of_ble_eq_true rfl, Nat.le_of_ble_eq_true rfl⟩ rfl hl.1 rfl (Nat.le_of_ble_eq_true rfl) dL_answerOf_4 ⟨Nat.le_of_ble_eq_true rfl, Nat.le_of_ble_eq_true rfl⟩ (fun rv H locs ho hI => ?_) (fun En ce q H locs ho => nomatch ho)
    cases ho
    refine lv_i2l (v := b.toInt64) hx hb dL_answerOf_7 rfl ?_
    refine g_lastX hC hI dL_answerOf_8 (fun H locs hI => ?_)
    refine lv_goto (tgt := 15) hx hb dL_answerOf_9 rfl ?_
    refine lv_iconst (v := 0) hx hb dL_answerOf_15 (by decide) ?_
    exact kr _ _ _ _ _ _ _ _ nI_0.symm (by rw [gXo_0]) hI ⟨Nat.le_of_ble_eq_true rfl, Nat.le_of_ble_eq_true rfl⟩ dL_answerOf_16
  · subst e1 e2
    refine g_xV hC hI hm Y_X6_answerOf V_X6_answerOf w917 (rcv_X6 hC hI) ⟨rfl, rfl⟩ ⟨Nat.le_of_ble_eq_true rfl, Nat.le_of_ble_eq_true rfl⟩ rfl hl.1 rfl (Nat.le_of_ble_eq_true rfl) dL_answerOf_4 ⟨Nat.le_of_ble_eq_true rfl, Nat.le_of_ble_eq_true rfl⟩ (fun rv H locs ho => nomatch ho) (fun En2 ce q H locs ho hI hce hcv hcl => ?_)
    cases ho
    match i, hi with
    | 0, hi =>
      cases hi
      refine g_catch hC hT [] ⟨0, 9, 12, 34⟩ [] rfl (fun _ h => absurd h List.not_mem_nil) (by decide) (by decide) w682 (by decide +kernel) hce hcv hcl ?_
      refine lv_astore_n (lv' := [(3, .ref q), (0, .ref (E.2.1 132)), (1, .int v1), (2, .ref (E.2.1 159))]) hx hb dL_answerOf_12 rfl hl (by decide) rfl (fun ls hl => ?_)
      refine lv_iconst (v := 1) hx hb dL_answerOf_13 (by decide) ?_
      exact kr _ _ _ _ _ _ _ _ rfl (by rw [gXo_n x (by decide)]) hI ⟨Nat.le_of_ble_eq_true rfl, Nat.le_of_ble_eq_true rfl⟩ dL_answerOf_14
    | k + 1, hi => cases hi
theorem dL_berthOf_0 : decode cL_berthOf 0 = .ok (.aload_n 2, 1) := by decide +kernel
theorem dL_berthOf_1 : decode cL_berthOf 1 = .ok (.iconst 0, 1) := by decide +kernel
theorem dL_berthOf_2 : decode cL_berthOf 2 = .ok (.aload_n 0, 1) := by decide +kernel
theorem dL_berthOf_3 : decode cL_berthOf 3 = .ok (.iload_n 1, 1) := by decide +kernel
theorem dL_berthOf_4 : decode cL_berthOf 4 = .ok (.invokevirtual 102, 3) := by decide +kernel
theorem dL_berthOf_7 : decode cL_berthOf 7 = .ok (.i2l, 1) := by decide +kernel
theorem dL_berthOf_8 : decode cL_berthOf 8 = .ok (.lastore, 1) := by decide +kernel
theorem dL_berthOf_9 : decode cL_berthOf 9 = .ok (.goto 6, 3) := by decide +kernel
theorem dL_berthOf_12 : decode cL_berthOf 12 = .ok (.astore_n 3, 1) := by decide +kernel
theorem dL_berthOf_13 : decode cL_berthOf 13 = .ok (.iconst 1, 1) := by decide +kernel
theorem dL_berthOf_14 : decode cL_berthOf 14 = .ok (.ireturn, 1) := by decide +kernel
theorem dL_berthOf_15 : decode cL_berthOf 15 = .ok (.iconst 0, 1) := by decide +kernel
theorem dL_berthOf_16 : decode cL_berthOf 16 = .ok (.ireturn, 1) := by decide +kernel
set_option maxRecDepth 100000 in
set_option maxHeartbeats 4000000 in
theorem H_berthOf (l : Launch) (hst : l.stackTraces = false) (E : gE) (x : gX) {v1 : Int32} {M : gM} {oc : String ⊕ Int32} {M1 : gM} {z : Int32} {b : Int32} (hf : f_X6_berthOf v1 M = some (oc, M1)) (ha : gAns ["java/util/NoSuchElementException"] oc z b) : gH0 l E yL_berthOf (.codeWith yL_berthOf cL_berthOf 4 (some .int) [(0, 9, 12, 34)]) (gRX 9 151 1 6) M x [.ref (E.2.1 132), .int v1, .ref (E.2.1 159)] z M1 (gXo x z b.toInt64) 1 6 := by
  refine gMetH (by decide +kernel) (Nat.le_of_ble_eq_true rfl) ?_
  intro p e s m args below meth c H locs ls Q hC hN hT hl hI kr
  replace hC : gC p s m args c cL_berthOf 4 RL E := hC
  replace hl : lv_has ls 4 [(0, .ref (E.2.1 132)), (1, .int v1), (2, .ref (E.2.1 159))] := hl
  have hx := hC.1
  have hb := hC.2.1
  refine lv_aload_n hx hb dL_berthOf_0 rfl (lv_at hl 2 rfl) ?_
  refine lv_iconst (v := 0) hx hb dL_berthOf_1 (by decide) ?_
  refine lv_aload_n hx hb dL_berthOf_2 rfl (lv_at hl 0 rfl) ?_
  refine lv_iload_n hx hb dL_berthOf_3 rfl (lv_at hl 1 rfl) ?_
  have hm := C_X6_berthOf l hst E x hf
  rcases ha with ⟨e1, e2⟩ | ⟨i, En, hi, e1, e2⟩
  · subst e1 e2
    refine g_xV hC hI hm Y_X6_berthOf V_X6_berthOf w925 (rcv_X6 hC hI) ⟨rfl, rfl⟩ ⟨Nat.le_of_ble_eq_true rfl, Nat.le_of_ble_eq_true rfl⟩ rfl hl.1 rfl (Nat.le_of_ble_eq_true rfl) dL_berthOf_4 ⟨Nat.le_of_ble_eq_true rfl, Nat.le_of_ble_eq_true rfl⟩ (fun rv H locs ho hI => ?_) (fun En ce q H locs ho => nomatch ho)
    cases ho
    refine lv_i2l (v := b.toInt64) hx hb dL_berthOf_7 rfl ?_
    refine g_lastX hC hI dL_berthOf_8 (fun H locs hI => ?_)
    refine lv_goto (tgt := 15) hx hb dL_berthOf_9 rfl ?_
    refine lv_iconst (v := 0) hx hb dL_berthOf_15 (by decide) ?_
    exact kr _ _ _ _ _ _ _ _ nI_0.symm (by rw [gXo_0]) hI ⟨Nat.le_of_ble_eq_true rfl, Nat.le_of_ble_eq_true rfl⟩ dL_berthOf_16
  · subst e1 e2
    refine g_xV hC hI hm Y_X6_berthOf V_X6_berthOf w925 (rcv_X6 hC hI) ⟨rfl, rfl⟩ ⟨Nat.le_of_ble_eq_true rfl, Nat.le_of_ble_eq_true rfl⟩ rfl hl.1 rfl (Nat.le_of_ble_eq_true rfl) dL_berthOf_4 ⟨Nat.le_of_ble_eq_true rfl, Nat.le_of_ble_eq_true rfl⟩ (fun rv H locs ho => nomatch ho) (fun En2 ce q H locs ho hI hce hcv hcl => ?_)
    cases ho
    match i, hi with
    | 0, hi =>
      cases hi
      refine g_catch hC hT [] ⟨0, 9, 12, 34⟩ [] rfl (fun _ h => absurd h List.not_mem_nil) (by decide) (by decide) w682 (by decide +kernel) hce hcv hcl ?_
      refine lv_astore_n (lv' := [(3, .ref q), (0, .ref (E.2.1 132)), (1, .int v1), (2, .ref (E.2.1 159))]) hx hb dL_berthOf_12 rfl hl (by decide) rfl (fun ls hl => ?_)
      refine lv_iconst (v := 1) hx hb dL_berthOf_13 (by decide) ?_
      exact kr _ _ _ _ _ _ _ _ rfl (by rw [gXo_n x (by decide)]) hI ⟨Nat.le_of_ble_eq_true rfl, Nat.le_of_ble_eq_true rfl⟩ dL_berthOf_14
    | k + 1, hi => cases hi
theorem dL_stackOf_0 : decode cL_stackOf 0 = .ok (.aload_n 2, 1) := by decide +kernel
theorem dL_stackOf_1 : decode cL_stackOf 1 = .ok (.iconst 0, 1) := by decide +kernel
theorem dL_stackOf_2 : decode cL_stackOf 2 = .ok (.aload_n 0, 1) := by decide +kernel
theorem dL_stackOf_3 : decode cL_stackOf 3 = .ok (.iload_n 1, 1) := by decide +kernel
theorem dL_stackOf_4 : decode cL_stackOf 4 = .ok (.invokevirtual 105, 3) := by decide +kernel
theorem dL_stackOf_7 : decode cL_stackOf 7 = .ok (.i2l, 1) := by decide +kernel
theorem dL_stackOf_8 : decode cL_stackOf 8 = .ok (.lastore, 1) := by decide +kernel
theorem dL_stackOf_9 : decode cL_stackOf 9 = .ok (.goto 6, 3) := by decide +kernel
theorem dL_stackOf_12 : decode cL_stackOf 12 = .ok (.astore_n 3, 1) := by decide +kernel
theorem dL_stackOf_13 : decode cL_stackOf 13 = .ok (.iconst 1, 1) := by decide +kernel
theorem dL_stackOf_14 : decode cL_stackOf 14 = .ok (.ireturn, 1) := by decide +kernel
theorem dL_stackOf_15 : decode cL_stackOf 15 = .ok (.iconst 0, 1) := by decide +kernel
theorem dL_stackOf_16 : decode cL_stackOf 16 = .ok (.ireturn, 1) := by decide +kernel
set_option maxRecDepth 100000 in
set_option maxHeartbeats 4000000 in
theorem H_stackOf (l : Launch) (hst : l.stackTraces = false) (E : gE) (x : gX) {v1 : Int32} {M : gM} {oc : String ⊕ Int32} {M1 : gM} {z : Int32} {b : Int32} (hf : f_X6_stackOf v1 M = some (oc, M1)) (ha : gAns ["java/util/NoSuchElementException"] oc z b) : gH0 l E yL_stackOf (.codeWith yL_stackOf cL_stackOf 4 (some .int) [(0, 9, 12, 34)]) (gRX 9 151 1 6) M x [.ref (E.2.1 132), .int v1, .ref (E.2.1 159)] z M1 (gXo x z b.toInt64) 1 6 := by
  refine gMetH (by decide +kernel) (Nat.le_of_ble_eq_true rfl) ?_
  intro p e s m args below meth c H locs ls Q hC hN hT hl hI kr
  replace hC : gC p s m args c cL_stackOf 4 RL E := hC
  replace hl : lv_has ls 4 [(0, .ref (E.2.1 132)), (1, .int v1), (2, .ref (E.2.1 159))] := hl
  have hx := hC.1
  have hb := hC.2.1
  refine lv_aload_n hx hb dL_stackOf_0 rfl (lv_at hl 2 rfl) ?_
  refine lv_iconst (v := 0) hx hb dL_stackOf_1 (by decide) ?_
  refine lv_aload_n hx hb dL_stackOf_2 rfl (lv_at hl 0 rfl) ?_
  refine lv_iload_n hx hb dL_stackOf_3 rfl (lv_at hl 1 rfl) ?_
  have hm := C_X6_stackOf l hst E x hf
  rcases ha with ⟨e1, e2⟩ | ⟨i, En, hi, e1, e2⟩
  · subst e1 e2
    refine g_xV hC hI hm Y_X6_stackOf V_X6_stackOf w933 (rcv_X6 hC hI) ⟨rfl, rfl⟩ ⟨Nat.le_of_ble_eq_true rfl, Nat.le_of_ble_eq_true rfl⟩ rfl hl.1 rfl (Nat.le_of_ble_eq_true rfl) dL_stackOf_4 ⟨Nat.le_of_ble_eq_true rfl, Nat.le_of_ble_eq_true rfl⟩ (fun rv H locs ho hI => ?_) (fun En ce q H locs ho => nomatch ho)
    cases ho
    refine lv_i2l (v := b.toInt64) hx hb dL_stackOf_7 rfl ?_
    refine g_lastX hC hI dL_stackOf_8 (fun H locs hI => ?_)
    refine lv_goto (tgt := 15) hx hb dL_stackOf_9 rfl ?_
    refine lv_iconst (v := 0) hx hb dL_stackOf_15 (by decide) ?_
    exact kr _ _ _ _ _ _ _ _ nI_0.symm (by rw [gXo_0]) hI ⟨Nat.le_of_ble_eq_true rfl, Nat.le_of_ble_eq_true rfl⟩ dL_stackOf_16
  · subst e1 e2
    refine g_xV hC hI hm Y_X6_stackOf V_X6_stackOf w933 (rcv_X6 hC hI) ⟨rfl, rfl⟩ ⟨Nat.le_of_ble_eq_true rfl, Nat.le_of_ble_eq_true rfl⟩ rfl hl.1 rfl (Nat.le_of_ble_eq_true rfl) dL_stackOf_4 ⟨Nat.le_of_ble_eq_true rfl, Nat.le_of_ble_eq_true rfl⟩ (fun rv H locs ho => nomatch ho) (fun En2 ce q H locs ho hI hce hcv hcl => ?_)
    cases ho
    match i, hi with
    | 0, hi =>
      cases hi
      refine g_catch hC hT [] ⟨0, 9, 12, 34⟩ [] rfl (fun _ h => absurd h List.not_mem_nil) (by decide) (by decide) w682 (by decide +kernel) hce hcv hcl ?_
      refine lv_astore_n (lv' := [(3, .ref q), (0, .ref (E.2.1 132)), (1, .int v1), (2, .ref (E.2.1 159))]) hx hb dL_stackOf_12 rfl hl (by decide) rfl (fun ls hl => ?_)
      refine lv_iconst (v := 1) hx hb dL_stackOf_13 (by decide) ?_
      exact kr _ _ _ _ _ _ _ _ rfl (by rw [gXo_n x (by decide)]) hI ⟨Nat.le_of_ble_eq_true rfl, Nat.le_of_ble_eq_true rfl⟩ dL_stackOf_14
    | k + 1, hi => cases hi
theorem dL_levelOf_0 : decode cL_levelOf 0 = .ok (.aload_n 2, 1) := by decide +kernel
theorem dL_levelOf_1 : decode cL_levelOf 1 = .ok (.iconst 0, 1) := by decide +kernel
theorem dL_levelOf_2 : decode cL_levelOf 2 = .ok (.aload_n 0, 1) := by decide +kernel
theorem dL_levelOf_3 : decode cL_levelOf 3 = .ok (.iload_n 1, 1) := by decide +kernel
theorem dL_levelOf_4 : decode cL_levelOf 4 = .ok (.invokevirtual 108, 3) := by decide +kernel
theorem dL_levelOf_7 : decode cL_levelOf 7 = .ok (.i2l, 1) := by decide +kernel
theorem dL_levelOf_8 : decode cL_levelOf 8 = .ok (.lastore, 1) := by decide +kernel
theorem dL_levelOf_9 : decode cL_levelOf 9 = .ok (.goto 6, 3) := by decide +kernel
theorem dL_levelOf_12 : decode cL_levelOf 12 = .ok (.astore_n 3, 1) := by decide +kernel
theorem dL_levelOf_13 : decode cL_levelOf 13 = .ok (.iconst 1, 1) := by decide +kernel
theorem dL_levelOf_14 : decode cL_levelOf 14 = .ok (.ireturn, 1) := by decide +kernel
theorem dL_levelOf_15 : decode cL_levelOf 15 = .ok (.iconst 0, 1) := by decide +kernel
theorem dL_levelOf_16 : decode cL_levelOf 16 = .ok (.ireturn, 1) := by decide +kernel
set_option maxRecDepth 100000 in
set_option maxHeartbeats 4000000 in
theorem H_levelOf (l : Launch) (hst : l.stackTraces = false) (E : gE) (x : gX) {v1 : Int32} {M : gM} {oc : String ⊕ Int32} {M1 : gM} {z : Int32} {b : Int32} (hf : f_X6_levelOf v1 M = some (oc, M1)) (ha : gAns ["java/util/NoSuchElementException"] oc z b) : gH0 l E yL_levelOf (.codeWith yL_levelOf cL_levelOf 4 (some .int) [(0, 9, 12, 34)]) (gRX 9 151 1 6) M x [.ref (E.2.1 132), .int v1, .ref (E.2.1 159)] z M1 (gXo x z b.toInt64) 1 6 := by
  refine gMetH (by decide +kernel) (Nat.le_of_ble_eq_true rfl) ?_
  intro p e s m args below meth c H locs ls Q hC hN hT hl hI kr
  replace hC : gC p s m args c cL_levelOf 4 RL E := hC
  replace hl : lv_has ls 4 [(0, .ref (E.2.1 132)), (1, .int v1), (2, .ref (E.2.1 159))] := hl
  have hx := hC.1
  have hb := hC.2.1
  refine lv_aload_n hx hb dL_levelOf_0 rfl (lv_at hl 2 rfl) ?_
  refine lv_iconst (v := 0) hx hb dL_levelOf_1 (by decide) ?_
  refine lv_aload_n hx hb dL_levelOf_2 rfl (lv_at hl 0 rfl) ?_
  refine lv_iload_n hx hb dL_levelOf_3 rfl (lv_at hl 1 rfl) ?_
  have hm := C_X6_levelOf l hst E x hf
  rcases ha with ⟨e1, e2⟩ | ⟨i, En, hi, e1, e2⟩
  · subst e1 e2
    refine g_xV hC hI hm Y_X6_levelOf V_X6_levelOf w940 (rcv_X6 hC hI) ⟨rfl, rfl⟩ ⟨Nat.le_of_ble_eq_true rfl, Nat.le_of_ble_eq_true rfl⟩ rfl hl.1 rfl (Nat.le_of_ble_eq_true rfl) dL_levelOf_4 ⟨Nat.le_of_ble_eq_true rfl, Nat.le_of_ble_eq_true rfl⟩ (fun rv H locs ho hI => ?_) (fun En ce q H locs ho => nomatch ho)
    cases ho
    refine lv_i2l (v := b.toInt64) hx hb dL_levelOf_7 rfl ?_
    refine g_lastX hC hI dL_levelOf_8 (fun H locs hI => ?_)
    refine lv_goto (tgt := 15) hx hb dL_levelOf_9 rfl ?_
    refine lv_iconst (v := 0) hx hb dL_levelOf_15 (by decide) ?_
    exact kr _ _ _ _ _ _ _ _ nI_0.symm (by rw [gXo_0]) hI ⟨Nat.le_of_ble_eq_true rfl, Nat.le_of_ble_eq_true rfl⟩ dL_levelOf_16
  · subst e1 e2
    refine g_xV hC hI hm Y_X6_levelOf V_X6_levelOf w940 (rcv_X6 hC hI) ⟨rfl, rfl⟩ ⟨Nat.le_of_ble_eq_true rfl, Nat.le_of_ble_eq_true rfl⟩ rfl hl.1 rfl (Nat.le_of_ble_eq_true rfl) dL_levelOf_4 ⟨Nat.le_of_ble_eq_true rfl, Nat.le_of_ble_eq_true rfl⟩ (fun rv H locs ho => nomatch ho) (fun En2 ce q H locs ho hI hce hcv hcl => ?_)
    cases ho
    match i, hi with
    | 0, hi =>
      cases hi
      refine g_catch hC hT [] ⟨0, 9, 12, 34⟩ [] rfl (fun _ h => absurd h List.not_mem_nil) (by decide) (by decide) w682 (by decide +kernel) hce hcv hcl ?_
      refine lv_astore_n (lv' := [(3, .ref q), (0, .ref (E.2.1 132)), (1, .int v1), (2, .ref (E.2.1 159))]) hx hb dL_levelOf_12 rfl hl (by decide) rfl (fun ls hl => ?_)
      refine lv_iconst (v := 1) hx hb dL_levelOf_13 (by decide) ?_
      exact kr _ _ _ _ _ _ _ _ rfl (by rw [gXo_n x (by decide)]) hI ⟨Nat.le_of_ble_eq_true rfl, Nat.le_of_ble_eq_true rfl⟩ dL_levelOf_14
    | k + 1, hi => cases hi
theorem dL_movesToReach_0 : decode cL_movesToReach 0 = .ok (.aload_n 2, 1) := by decide +kernel
theorem dL_movesToReach_1 : decode cL_movesToReach 1 = .ok (.iconst 0, 1) := by decide +kernel
theorem dL_movesToReach_2 : decode cL_movesToReach 2 = .ok (.aload_n 0, 1) := by decide +kernel
theorem dL_movesToReach_3 : decode cL_movesToReach 3 = .ok (.iload_n 1, 1) := by decide +kernel
theorem dL_movesToReach_4 : decode cL_movesToReach 4 = .ok (.invokevirtual 111, 3) := by decide +kernel
theorem dL_movesToReach_7 : decode cL_movesToReach 7 = .ok (.i2l, 1) := by decide +kernel
theorem dL_movesToReach_8 : decode cL_movesToReach 8 = .ok (.lastore, 1) := by decide +kernel
theorem dL_movesToReach_9 : decode cL_movesToReach 9 = .ok (.goto 6, 3) := by decide +kernel
theorem dL_movesToReach_12 : decode cL_movesToReach 12 = .ok (.astore_n 3, 1) := by decide +kernel
theorem dL_movesToReach_13 : decode cL_movesToReach 13 = .ok (.iconst 1, 1) := by decide +kernel
theorem dL_movesToReach_14 : decode cL_movesToReach 14 = .ok (.ireturn, 1) := by decide +kernel
theorem dL_movesToReach_15 : decode cL_movesToReach 15 = .ok (.iconst 0, 1) := by decide +kernel
theorem dL_movesToReach_16 : decode cL_movesToReach 16 = .ok (.ireturn, 1) := by decide +kernel
set_option maxRecDepth 100000 in
set_option maxHeartbeats 4000000 in
theorem H_movesToReach (l : Launch) (hst : l.stackTraces = false) (E : gE) (x : gX) {v1 : Int32} {M : gM} {oc : String ⊕ Int32} {M1 : gM} {z : Int32} {b : Int32} (hf : f_X6_movesToReach v1 M = some (oc, M1)) (ha : gAns ["java/util/NoSuchElementException"] oc z b) : gH0 l E yL_movesToReach (.codeWith yL_movesToReach cL_movesToReach 4 (some .int) [(0, 9, 12, 34)]) (gRX 9 151 1 6) M x [.ref (E.2.1 132), .int v1, .ref (E.2.1 159)] z M1 (gXo x z b.toInt64) 1 6 := by
  refine gMetH (by decide +kernel) (Nat.le_of_ble_eq_true rfl) ?_
  intro p e s m args below meth c H locs ls Q hC hN hT hl hI kr
  replace hC : gC p s m args c cL_movesToReach 4 RL E := hC
  replace hl : lv_has ls 4 [(0, .ref (E.2.1 132)), (1, .int v1), (2, .ref (E.2.1 159))] := hl
  have hx := hC.1
  have hb := hC.2.1
  refine lv_aload_n hx hb dL_movesToReach_0 rfl (lv_at hl 2 rfl) ?_
  refine lv_iconst (v := 0) hx hb dL_movesToReach_1 (by decide) ?_
  refine lv_aload_n hx hb dL_movesToReach_2 rfl (lv_at hl 0 rfl) ?_
  refine lv_iload_n hx hb dL_movesToReach_3 rfl (lv_at hl 1 rfl) ?_
  have hm := C_X6_movesToReach l hst E x hf
  rcases ha with ⟨e1, e2⟩ | ⟨i, En, hi, e1, e2⟩
  · subst e1 e2
    refine g_xV hC hI hm Y_X6_movesToReach V_X6_movesToReach w951 (rcv_X6 hC hI) ⟨rfl, rfl⟩ ⟨Nat.le_of_ble_eq_true rfl, Nat.le_of_ble_eq_true rfl⟩ rfl hl.1 rfl (Nat.le_of_ble_eq_true rfl) dL_movesToReach_4 ⟨Nat.le_of_ble_eq_true rfl, Nat.le_of_ble_eq_true rfl⟩ (fun rv H locs ho hI => ?_) (fun En ce q H locs ho => nomatch ho)
    cases ho
    refine lv_i2l (v := b.toInt64) hx hb dL_movesToReach_7 rfl ?_
    refine g_lastX hC hI dL_movesToReach_8 (fun H locs hI => ?_)
    refine lv_goto (tgt := 15) hx hb dL_movesToReach_9 rfl ?_
    refine lv_iconst (v := 0) hx hb dL_movesToReach_15 (by decide) ?_
    exact kr _ _ _ _ _ _ _ _ nI_0.symm (by rw [gXo_0]) hI ⟨Nat.le_of_ble_eq_true rfl, Nat.le_of_ble_eq_true rfl⟩ dL_movesToReach_16
  · subst e1 e2
    refine g_xV hC hI hm Y_X6_movesToReach V_X6_movesToReach w951 (rcv_X6 hC hI) ⟨rfl, rfl⟩ ⟨Nat.le_of_ble_eq_true rfl, Nat.le_of_ble_eq_true rfl⟩ rfl hl.1 rfl (Nat.le_of_ble_eq_true rfl) dL_movesToReach_4 ⟨Nat.le_of_ble_eq_true rfl, Nat.le_of_ble_eq_true rfl⟩ (fun rv H locs ho => nomatch ho) (fun En2 ce q H locs ho hI hce hcv hcl => ?_)
    cases ho
    match i, hi with
    | 0, hi =>
      cases hi
      refine g_catch hC hT [] ⟨0, 9, 12, 34⟩ [] rfl (fun _ h => absurd h List.not_mem_nil) (by decide) (by decide) w682 (by decide +kernel) hce hcv hcl ?_
      refine lv_astore_n (lv' := [(3, .ref q), (0, .ref (E.2.1 132)), (1, .int v1), (2, .ref (E.2.1 159))]) hx hb dL_movesToReach_12 rfl hl (by decide) rfl (fun ls hl => ?_)
      refine lv_iconst (v := 1) hx hb dL_movesToReach_13 (by decide) ?_
      exact kr _ _ _ _ _ _ _ _ rfl (by rw [gXo_n x (by decide)]) hI ⟨Nat.le_of_ble_eq_true rfl, Nat.le_of_ble_eq_true rfl⟩ dL_movesToReach_14
    | k + 1, hi => cases hi
theorem dL_movesToReachByCopy_0 : decode cL_movesToReachByCopy 0 = .ok (.aload_n 2, 1) := by decide +kernel
theorem dL_movesToReachByCopy_1 : decode cL_movesToReachByCopy 1 = .ok (.iconst 0, 1) := by decide +kernel
theorem dL_movesToReachByCopy_2 : decode cL_movesToReachByCopy 2 = .ok (.aload_n 0, 1) := by decide +kernel
theorem dL_movesToReachByCopy_3 : decode cL_movesToReachByCopy 3 = .ok (.iload_n 1, 1) := by decide +kernel
theorem dL_movesToReachByCopy_4 : decode cL_movesToReachByCopy 4 = .ok (.invokevirtual 114, 3) := by decide +kernel
theorem dL_movesToReachByCopy_7 : decode cL_movesToReachByCopy 7 = .ok (.i2l, 1) := by decide +kernel
theorem dL_movesToReachByCopy_8 : decode cL_movesToReachByCopy 8 = .ok (.lastore, 1) := by decide +kernel
theorem dL_movesToReachByCopy_9 : decode cL_movesToReachByCopy 9 = .ok (.goto 6, 3) := by decide +kernel
theorem dL_movesToReachByCopy_12 : decode cL_movesToReachByCopy 12 = .ok (.astore_n 3, 1) := by decide +kernel
theorem dL_movesToReachByCopy_13 : decode cL_movesToReachByCopy 13 = .ok (.iconst 1, 1) := by decide +kernel
theorem dL_movesToReachByCopy_14 : decode cL_movesToReachByCopy 14 = .ok (.ireturn, 1) := by decide +kernel
theorem dL_movesToReachByCopy_15 : decode cL_movesToReachByCopy 15 = .ok (.iconst 0, 1) := by decide +kernel
theorem dL_movesToReachByCopy_16 : decode cL_movesToReachByCopy 16 = .ok (.ireturn, 1) := by decide +kernel
set_option maxRecDepth 100000 in
set_option maxHeartbeats 4000000 in
theorem H_movesToReachByCopy (l : Launch) (hst : l.stackTraces = false) (E : gE) (x : gX) {v1 : Int32} {M : gM} {oc : String ⊕ Int32} {M1 : gM} {z : Int32} {b : Int32} (hf : f_X6_movesToReachByCopy v1 M = some (oc, M1)) (ha : gAns ["java/util/NoSuchElementException"] oc z b) : gH0 l E yL_movesToReachByCopy (.codeWith yL_movesToReachByCopy cL_movesToReachByCopy 4 (some .int) [(0, 9, 12, 34)]) (gRX 9 151 1 6) M x [.ref (E.2.1 132), .int v1, .ref (E.2.1 159)] z M1 (gXo x z b.toInt64) 1 6 := by
  refine gMetH (by decide +kernel) (Nat.le_of_ble_eq_true rfl) ?_
  intro p e s m args below meth c H locs ls Q hC hN hT hl hI kr
  replace hC : gC p s m args c cL_movesToReachByCopy 4 RL E := hC
  replace hl : lv_has ls 4 [(0, .ref (E.2.1 132)), (1, .int v1), (2, .ref (E.2.1 159))] := hl
  have hx := hC.1
  have hb := hC.2.1
  refine lv_aload_n hx hb dL_movesToReachByCopy_0 rfl (lv_at hl 2 rfl) ?_
  refine lv_iconst (v := 0) hx hb dL_movesToReachByCopy_1 (by decide) ?_
  refine lv_aload_n hx hb dL_movesToReachByCopy_2 rfl (lv_at hl 0 rfl) ?_
  refine lv_iload_n hx hb dL_movesToReachByCopy_3 rfl (lv_at hl 1 rfl) ?_
  have hm := C_X6_movesToReachByCopy l hst E x hf
  rcases ha with ⟨e1, e2⟩ | ⟨i, En, hi, e1, e2⟩
  · subst e1 e2
    refine g_xV hC hI hm Y_X6_movesToReachByCopy V_X6_movesToReachByCopy w959 (rcv_X6 hC hI) ⟨rfl, rfl⟩ ⟨Nat.le_of_ble_eq_true rfl, Nat.le_of_ble_eq_true rfl⟩ rfl hl.1 rfl (Nat.le_of_ble_eq_true rfl) dL_movesToReachByCopy_4 ⟨Nat.le_of_ble_eq_true rfl, Nat.le_of_ble_eq_true rfl⟩ (fun rv H locs ho hI => ?_) (fun En ce q H locs ho => nomatch ho)
    cases ho
    refine lv_i2l (v := b.toInt64) hx hb dL_movesToReachByCopy_7 rfl ?_
    refine g_lastX hC hI dL_movesToReachByCopy_8 (fun H locs hI => ?_)
    refine lv_goto (tgt := 15) hx hb dL_movesToReachByCopy_9 rfl ?_
    refine lv_iconst (v := 0) hx hb dL_movesToReachByCopy_15 (by decide) ?_
    exact kr _ _ _ _ _ _ _ _ nI_0.symm (by rw [gXo_0]) hI ⟨Nat.le_of_ble_eq_true rfl, Nat.le_of_ble_eq_true rfl⟩ dL_movesToReachByCopy_16
  · subst e1 e2
    refine g_xV hC hI hm Y_X6_movesToReachByCopy V_X6_movesToReachByCopy w959 (rcv_X6 hC hI) ⟨rfl, rfl⟩ ⟨Nat.le_of_ble_eq_true rfl, Nat.le_of_ble_eq_true rfl⟩ rfl hl.1 rfl (Nat.le_of_ble_eq_true rfl) dL_movesToReachByCopy_4 ⟨Nat.le_of_ble_eq_true rfl, Nat.le_of_ble_eq_true rfl⟩ (fun rv H locs ho => nomatch ho) (fun En2 ce q H locs ho hI hce hcv hcl => ?_)
    cases ho
    match i, hi with
    | 0, hi =>
      cases hi
      refine g_catch hC hT [] ⟨0, 9, 12, 34⟩ [] rfl (fun _ h => absurd h List.not_mem_nil) (by decide) (by decide) w682 (by decide +kernel) hce hcv hcl ?_
      refine lv_astore_n (lv' := [(3, .ref q), (0, .ref (E.2.1 132)), (1, .int v1), (2, .ref (E.2.1 159))]) hx hb dL_movesToReachByCopy_12 rfl hl (by decide) rfl (fun ls hl => ?_)
      refine lv_iconst (v := 1) hx hb dL_movesToReachByCopy_13 (by decide) ?_
      exact kr _ _ _ _ _ _ _ _ rfl (by rw [gXo_n x (by decide)]) hI ⟨Nat.le_of_ble_eq_true rfl, Nat.le_of_ble_eq_true rfl⟩ dL_movesToReachByCopy_14
    | k + 1, hi => cases hi
theorem dL_heaviestAbove_0 : decode cL_heaviestAbove 0 = .ok (.aload_n 2, 1) := by decide +kernel
theorem dL_heaviestAbove_1 : decode cL_heaviestAbove 1 = .ok (.iconst 0, 1) := by decide +kernel
theorem dL_heaviestAbove_2 : decode cL_heaviestAbove 2 = .ok (.aload_n 0, 1) := by decide +kernel
theorem dL_heaviestAbove_3 : decode cL_heaviestAbove 3 = .ok (.iload_n 1, 1) := by decide +kernel
theorem dL_heaviestAbove_4 : decode cL_heaviestAbove 4 = .ok (.invokevirtual 117, 3) := by decide +kernel
theorem dL_heaviestAbove_7 : decode cL_heaviestAbove 7 = .ok (.i2l, 1) := by decide +kernel
theorem dL_heaviestAbove_8 : decode cL_heaviestAbove 8 = .ok (.lastore, 1) := by decide +kernel
theorem dL_heaviestAbove_9 : decode cL_heaviestAbove 9 = .ok (.goto 6, 3) := by decide +kernel
theorem dL_heaviestAbove_12 : decode cL_heaviestAbove 12 = .ok (.astore_n 3, 1) := by decide +kernel
theorem dL_heaviestAbove_13 : decode cL_heaviestAbove 13 = .ok (.iconst 1, 1) := by decide +kernel
theorem dL_heaviestAbove_14 : decode cL_heaviestAbove 14 = .ok (.ireturn, 1) := by decide +kernel
theorem dL_heaviestAbove_15 : decode cL_heaviestAbove 15 = .ok (.iconst 0, 1) := by decide +kernel
theorem dL_heaviestAbove_16 : decode cL_heaviestAbove 16 = .ok (.ireturn, 1) := by decide +kernel
set_option maxRecDepth 100000 in
set_option maxHeartbeats 4000000 in
theorem H_heaviestAbove (l : Launch) (hst : l.stackTraces = false) (E : gE) (x : gX) {v1 : Int32} {M : gM} {oc : String ⊕ Int32} {M1 : gM} {z : Int32} {b : Int32} (hf : f_X6_heaviestAbove v1 M = some (oc, M1)) (ha : gAns ["java/util/NoSuchElementException"] oc z b) : gH0 l E yL_heaviestAbove (.codeWith yL_heaviestAbove cL_heaviestAbove 4 (some .int) [(0, 9, 12, 34)]) (gRX 9 151 2 12) M x [.ref (E.2.1 132), .int v1, .ref (E.2.1 159)] z M1 (gXo x z b.toInt64) 2 12 := by
  refine gMetH (by decide +kernel) (Nat.le_of_ble_eq_true rfl) ?_
  intro p e s m args below meth c H locs ls Q hC hN hT hl hI kr
  replace hC : gC p s m args c cL_heaviestAbove 4 RL E := hC
  replace hl : lv_has ls 4 [(0, .ref (E.2.1 132)), (1, .int v1), (2, .ref (E.2.1 159))] := hl
  have hx := hC.1
  have hb := hC.2.1
  refine lv_aload_n hx hb dL_heaviestAbove_0 rfl (lv_at hl 2 rfl) ?_
  refine lv_iconst (v := 0) hx hb dL_heaviestAbove_1 (by decide) ?_
  refine lv_aload_n hx hb dL_heaviestAbove_2 rfl (lv_at hl 0 rfl) ?_
  refine lv_iload_n hx hb dL_heaviestAbove_3 rfl (lv_at hl 1 rfl) ?_
  have hm := C_X6_heaviestAbove l hst E x hf
  rcases ha with ⟨e1, e2⟩ | ⟨i, En, hi, e1, e2⟩
  · subst e1 e2
    refine g_xV hC hI hm Y_X6_heaviestAbove V_X6_heaviestAbove w967 (rcv_X6 hC hI) ⟨rfl, rfl⟩ ⟨Nat.le_of_ble_eq_true rfl, Nat.le_of_ble_eq_true rfl⟩ rfl hl.1 rfl (Nat.le_of_ble_eq_true rfl) dL_heaviestAbove_4 ⟨Nat.le_of_ble_eq_true rfl, Nat.le_of_ble_eq_true rfl⟩ (fun rv H locs ho hI => ?_) (fun En ce q H locs ho => nomatch ho)
    cases ho
    refine lv_i2l (v := b.toInt64) hx hb dL_heaviestAbove_7 rfl ?_
    refine g_lastX hC hI dL_heaviestAbove_8 (fun H locs hI => ?_)
    refine lv_goto (tgt := 15) hx hb dL_heaviestAbove_9 rfl ?_
    refine lv_iconst (v := 0) hx hb dL_heaviestAbove_15 (by decide) ?_
    exact kr _ _ _ _ _ _ _ _ nI_0.symm (by rw [gXo_0]) hI ⟨Nat.le_of_ble_eq_true rfl, Nat.le_of_ble_eq_true rfl⟩ dL_heaviestAbove_16
  · subst e1 e2
    refine g_xV hC hI hm Y_X6_heaviestAbove V_X6_heaviestAbove w967 (rcv_X6 hC hI) ⟨rfl, rfl⟩ ⟨Nat.le_of_ble_eq_true rfl, Nat.le_of_ble_eq_true rfl⟩ rfl hl.1 rfl (Nat.le_of_ble_eq_true rfl) dL_heaviestAbove_4 ⟨Nat.le_of_ble_eq_true rfl, Nat.le_of_ble_eq_true rfl⟩ (fun rv H locs ho => nomatch ho) (fun En2 ce q H locs ho hI hce hcv hcl => ?_)
    cases ho
    match i, hi with
    | 0, hi =>
      cases hi
      refine g_catch hC hT [] ⟨0, 9, 12, 34⟩ [] rfl (fun _ h => absurd h List.not_mem_nil) (by decide) (by decide) w682 (by decide +kernel) hce hcv hcl ?_
      refine lv_astore_n (lv' := [(3, .ref q), (0, .ref (E.2.1 132)), (1, .int v1), (2, .ref (E.2.1 159))]) hx hb dL_heaviestAbove_12 rfl hl (by decide) rfl (fun ls hl => ?_)
      refine lv_iconst (v := 1) hx hb dL_heaviestAbove_13 (by decide) ?_
      exact kr _ _ _ _ _ _ _ _ rfl (by rw [gXo_n x (by decide)]) hI ⟨Nat.le_of_ble_eq_true rfl, Nat.le_of_ble_eq_true rfl⟩ dL_heaviestAbove_14
    | k + 1, hi => cases hi
theorem dL_containerByWeight_0 : decode cL_containerByWeight 0 = .ok (.aload_n 2, 1) := by decide +kernel
theorem dL_containerByWeight_1 : decode cL_containerByWeight 1 = .ok (.iconst 0, 1) := by decide +kernel
theorem dL_containerByWeight_2 : decode cL_containerByWeight 2 = .ok (.aload_n 0, 1) := by decide +kernel
theorem dL_containerByWeight_3 : decode cL_containerByWeight 3 = .ok (.iload_n 1, 1) := by decide +kernel
theorem dL_containerByWeight_4 : decode cL_containerByWeight 4 = .ok (.invokevirtual 120, 3) := by decide +kernel
theorem dL_containerByWeight_7 : decode cL_containerByWeight 7 = .ok (.i2l, 1) := by decide +kernel
theorem dL_containerByWeight_8 : decode cL_containerByWeight 8 = .ok (.lastore, 1) := by decide +kernel
theorem dL_containerByWeight_9 : decode cL_containerByWeight 9 = .ok (.goto 6, 3) := by decide +kernel
theorem dL_containerByWeight_12 : decode cL_containerByWeight 12 = .ok (.astore_n 3, 1) := by decide +kernel
theorem dL_containerByWeight_13 : decode cL_containerByWeight 13 = .ok (.iconst 1, 1) := by decide +kernel
theorem dL_containerByWeight_14 : decode cL_containerByWeight 14 = .ok (.ireturn, 1) := by decide +kernel
theorem dL_containerByWeight_15 : decode cL_containerByWeight 15 = .ok (.iconst 0, 1) := by decide +kernel
theorem dL_containerByWeight_16 : decode cL_containerByWeight 16 = .ok (.ireturn, 1) := by decide +kernel
set_option maxRecDepth 100000 in
set_option maxHeartbeats 4000000 in
theorem H_containerByWeight (l : Launch) (hst : l.stackTraces = false) (E : gE) (x : gX) {v1 : Int32} {M : gM} {oc : String ⊕ Int32} {M1 : gM} {z : Int32} {b : Int32} (hf : f_X6_containerByWeight v1 M = some (oc, M1)) (ha : gAns ["java/util/NoSuchElementException"] oc z b) : gH0 l E yL_containerByWeight (.codeWith yL_containerByWeight cL_containerByWeight 4 (some .int) [(0, 9, 12, 34)]) (gRX 9 151 1 6) M x [.ref (E.2.1 132), .int v1, .ref (E.2.1 159)] z M1 (gXo x z b.toInt64) 1 6 := by
  refine gMetH (by decide +kernel) (Nat.le_of_ble_eq_true rfl) ?_
  intro p e s m args below meth c H locs ls Q hC hN hT hl hI kr
  replace hC : gC p s m args c cL_containerByWeight 4 RL E := hC
  replace hl : lv_has ls 4 [(0, .ref (E.2.1 132)), (1, .int v1), (2, .ref (E.2.1 159))] := hl
  have hx := hC.1
  have hb := hC.2.1
  refine lv_aload_n hx hb dL_containerByWeight_0 rfl (lv_at hl 2 rfl) ?_
  refine lv_iconst (v := 0) hx hb dL_containerByWeight_1 (by decide) ?_
  refine lv_aload_n hx hb dL_containerByWeight_2 rfl (lv_at hl 0 rfl) ?_
  refine lv_iload_n hx hb dL_containerByWeight_3 rfl (lv_at hl 1 rfl) ?_
  have hm := C_X6_containerByWeight l hst E x hf
  rcases ha with ⟨e1, e2⟩ | ⟨i, En, hi, e1, e2⟩
  · subst e1 e2
    refine g_xV hC hI hm Y_X6_containerByWeight V_X6_containerByWeight w978 (rcv_X6 hC hI) ⟨rfl, rfl⟩ ⟨Nat.le_of_ble_eq_true rfl, Nat.le_of_ble_eq_true rfl⟩ rfl hl.1 rfl (Nat.le_of_ble_eq_true rfl) dL_containerByWeight_4 ⟨Nat.le_of_ble_eq_true rfl, Nat.le_of_ble_eq_true rfl⟩ (fun rv H locs ho hI => ?_) (fun En ce q H locs ho => nomatch ho)
    cases ho
    refine lv_i2l (v := b.toInt64) hx hb dL_containerByWeight_7 rfl ?_
    refine g_lastX hC hI dL_containerByWeight_8 (fun H locs hI => ?_)
    refine lv_goto (tgt := 15) hx hb dL_containerByWeight_9 rfl ?_
    refine lv_iconst (v := 0) hx hb dL_containerByWeight_15 (by decide) ?_
    exact kr _ _ _ _ _ _ _ _ nI_0.symm (by rw [gXo_0]) hI ⟨Nat.le_of_ble_eq_true rfl, Nat.le_of_ble_eq_true rfl⟩ dL_containerByWeight_16
  · subst e1 e2
    refine g_xV hC hI hm Y_X6_containerByWeight V_X6_containerByWeight w978 (rcv_X6 hC hI) ⟨rfl, rfl⟩ ⟨Nat.le_of_ble_eq_true rfl, Nat.le_of_ble_eq_true rfl⟩ rfl hl.1 rfl (Nat.le_of_ble_eq_true rfl) dL_containerByWeight_4 ⟨Nat.le_of_ble_eq_true rfl, Nat.le_of_ble_eq_true rfl⟩ (fun rv H locs ho => nomatch ho) (fun En2 ce q H locs ho hI hce hcv hcl => ?_)
    cases ho
    match i, hi with
    | 0, hi =>
      cases hi
      refine g_catch hC hT [] ⟨0, 9, 12, 34⟩ [] rfl (fun _ h => absurd h List.not_mem_nil) (by decide) (by decide) w682 (by decide +kernel) hce hcv hcl ?_
      refine lv_astore_n (lv' := [(3, .ref q), (0, .ref (E.2.1 132)), (1, .int v1), (2, .ref (E.2.1 159))]) hx hb dL_containerByWeight_12 rfl hl (by decide) rfl (fun ls hl => ?_)
      refine lv_iconst (v := 1) hx hb dL_containerByWeight_13 (by decide) ?_
      exact kr _ _ _ _ _ _ _ _ rfl (by rw [gXo_n x (by decide)]) hI ⟨Nat.le_of_ble_eq_true rfl, Nat.le_of_ble_eq_true rfl⟩ dL_containerByWeight_14
    | k + 1, hi => cases hi
theorem dL_emptiestStack_0 : decode cL_emptiestStack 0 = .ok (.aload_n 2, 1) := by decide +kernel
theorem dL_emptiestStack_1 : decode cL_emptiestStack 1 = .ok (.iconst 0, 1) := by decide +kernel
theorem dL_emptiestStack_2 : decode cL_emptiestStack 2 = .ok (.aload_n 0, 1) := by decide +kernel
theorem dL_emptiestStack_3 : decode cL_emptiestStack 3 = .ok (.iload_n 1, 1) := by decide +kernel
theorem dL_emptiestStack_4 : decode cL_emptiestStack 4 = .ok (.invokevirtual 123, 3) := by decide +kernel
theorem dL_emptiestStack_7 : decode cL_emptiestStack 7 = .ok (.i2l, 1) := by decide +kernel
theorem dL_emptiestStack_8 : decode cL_emptiestStack 8 = .ok (.lastore, 1) := by decide +kernel
theorem dL_emptiestStack_9 : decode cL_emptiestStack 9 = .ok (.goto 9, 3) := by decide +kernel
theorem dL_emptiestStack_12 : decode cL_emptiestStack 12 = .ok (.astore_n 3, 1) := by decide +kernel
theorem dL_emptiestStack_13 : decode cL_emptiestStack 13 = .ok (.iconst 1, 1) := by decide +kernel
theorem dL_emptiestStack_14 : decode cL_emptiestStack 14 = .ok (.ireturn, 1) := by decide +kernel
theorem dL_emptiestStack_15 : decode cL_emptiestStack 15 = .ok (.astore_n 3, 1) := by decide +kernel
theorem dL_emptiestStack_16 : decode cL_emptiestStack 16 = .ok (.iconst 2, 1) := by decide +kernel
theorem dL_emptiestStack_17 : decode cL_emptiestStack 17 = .ok (.ireturn, 1) := by decide +kernel
theorem dL_emptiestStack_18 : decode cL_emptiestStack 18 = .ok (.iconst 0, 1) := by decide +kernel
theorem dL_emptiestStack_19 : decode cL_emptiestStack 19 = .ok (.ireturn, 1) := by decide +kernel
set_option maxRecDepth 100000 in
set_option maxHeartbeats 4000000 in
theorem H_emptiestStack (l : Launch) (hst : l.stackTraces = false) (E : gE) (x : gX) {v1 : Int32} {M : gM} {oc : String ⊕ Int32} {M1 : gM} {z : Int32} {b : Int32} (hf : f_X6_emptiestStack v1 M = some (oc, M1)) (ha : gAns ["java/lang/IndexOutOfBoundsException", "java/util/NoSuchElementException"] oc z b) : gH0 l E yL_emptiestStack (.codeWith yL_emptiestStack cL_emptiestStack 4 (some .int) [(0, 9, 12, 13), (0, 9, 15, 34)]) (gRX 10 172 2 12) M x [.ref (E.2.1 132), .int v1, .ref (E.2.1 159)] z M1 (gXo x z b.toInt64) 2 12 := by
  refine gMetH (by decide +kernel) (Nat.le_of_ble_eq_true rfl) ?_
  intro p e s m args below meth c H locs ls Q hC hN hT hl hI kr
  replace hC : gC p s m args c cL_emptiestStack 4 RL E := hC
  replace hl : lv_has ls 4 [(0, .ref (E.2.1 132)), (1, .int v1), (2, .ref (E.2.1 159))] := hl
  have hx := hC.1
  have hb := hC.2.1
  refine lv_aload_n hx hb dL_emptiestStack_0 rfl (lv_at hl 2 rfl) ?_
  refine lv_iconst (v := 0) hx hb dL_emptiestStack_1 (by decide) ?_
  refine lv_aload_n hx hb dL_emptiestStack_2 rfl (lv_at hl 0 rfl) ?_
  refine lv_iload_n hx hb dL_emptiestStack_3 rfl (lv_at hl 1 rfl) ?_
  have hm := C_X6_emptiestStack l hst E x hf
  rcases ha with ⟨e1, e2⟩ | ⟨i, En, hi, e1, e2⟩
  · subst e1 e2
    refine g_xV hC hI hm Y_X6_emptiestStack V_X6_emptiestStack w993 (rcv_X6 hC hI) ⟨rfl, rfl⟩ ⟨Nat.le_of_ble_eq_true rfl, Nat.le_of_ble_eq_true rfl⟩ rfl hl.1 rfl (Nat.le_of_ble_eq_true rfl) dL_emptiestStack_4 ⟨Nat.le_of_ble_eq_true rfl, Nat.le_of_ble_eq_true rfl⟩ (fun rv H locs ho hI => ?_) (fun En ce q H locs ho => nomatch ho)
    cases ho
    refine lv_i2l (v := b.toInt64) hx hb dL_emptiestStack_7 rfl ?_
    refine g_lastX hC hI dL_emptiestStack_8 (fun H locs hI => ?_)
    refine lv_goto (tgt := 18) hx hb dL_emptiestStack_9 rfl ?_
    refine lv_iconst (v := 0) hx hb dL_emptiestStack_18 (by decide) ?_
    exact kr _ _ _ _ _ _ _ _ nI_0.symm (by rw [gXo_0]) hI ⟨Nat.le_of_ble_eq_true rfl, Nat.le_of_ble_eq_true rfl⟩ dL_emptiestStack_19
  · subst e1 e2
    refine g_xV hC hI hm Y_X6_emptiestStack V_X6_emptiestStack w993 (rcv_X6 hC hI) ⟨rfl, rfl⟩ ⟨Nat.le_of_ble_eq_true rfl, Nat.le_of_ble_eq_true rfl⟩ rfl hl.1 rfl (Nat.le_of_ble_eq_true rfl) dL_emptiestStack_4 ⟨Nat.le_of_ble_eq_true rfl, Nat.le_of_ble_eq_true rfl⟩ (fun rv H locs ho => nomatch ho) (fun En2 ce q H locs ho hI hce hcv hcl => ?_)
    cases ho
    match i, hi with
    | 0, hi =>
      cases hi
      refine g_catch hC hT [] ⟨0, 9, 12, 13⟩ [⟨0, 9, 15, 34⟩] rfl (fun _ h => absurd h List.not_mem_nil) (by decide) (by decide) w442 (by decide +kernel) hce hcv hcl ?_
      refine lv_astore_n (lv' := [(3, .ref q), (0, .ref (E.2.1 132)), (1, .int v1), (2, .ref (E.2.1 159))]) hx hb dL_emptiestStack_12 rfl hl (by decide) rfl (fun ls hl => ?_)
      refine lv_iconst (v := 1) hx hb dL_emptiestStack_13 (by decide) ?_
      exact kr _ _ _ _ _ _ _ _ rfl (by rw [gXo_n x (by decide)]) hI ⟨Nat.le_of_ble_eq_true rfl, Nat.le_of_ble_eq_true rfl⟩ dL_emptiestStack_14
    | 1, hi =>
      cases hi
      refine g_catch hC hT [⟨0, 9, 12, 13⟩] ⟨0, 9, 15, 34⟩ [] rfl (List.forall_mem_cons.mpr ⟨⟨by decide, _, w442, hN ("java/util/NoSuchElementException", "java/lang/IndexOutOfBoundsException") (by decide +kernel)⟩, (fun _ h => absurd h List.not_mem_nil)⟩) (by decide) (by decide) w682 (by decide +kernel) hce hcv hcl ?_
      refine lv_astore_n (lv' := [(3, .ref q), (0, .ref (E.2.1 132)), (1, .int v1), (2, .ref (E.2.1 159))]) hx hb dL_emptiestStack_15 rfl hl (by decide) rfl (fun ls hl => ?_)
      refine lv_iconst (v := 2) hx hb dL_emptiestStack_16 (by decide) ?_
      exact kr _ _ _ _ _ _ _ _ rfl (by rw [gXo_n x (by decide)]) hI ⟨Nat.le_of_ble_eq_true rfl, Nat.le_of_ble_eq_true rfl⟩ dL_emptiestStack_17
    | k + 2, hi => cases hi
theorem dL_heavyOverLight_0 : decode cL_heavyOverLight 0 = .ok (.aload_n 3, 1) := by decide +kernel
theorem dL_heavyOverLight_1 : decode cL_heavyOverLight 1 = .ok (.iconst 0, 1) := by decide +kernel
theorem dL_heavyOverLight_2 : decode cL_heavyOverLight 2 = .ok (.aload_n 0, 1) := by decide +kernel
theorem dL_heavyOverLight_3 : decode cL_heavyOverLight 3 = .ok (.iload_n 1, 1) := by decide +kernel
theorem dL_heavyOverLight_4 : decode cL_heavyOverLight 4 = .ok (.iload_n 2, 1) := by decide +kernel
theorem dL_heavyOverLight_5 : decode cL_heavyOverLight 5 = .ok (.invokevirtual 126, 3) := by decide +kernel
theorem dL_heavyOverLight_8 : decode cL_heavyOverLight 8 = .ok (.i2l, 1) := by decide +kernel
theorem dL_heavyOverLight_9 : decode cL_heavyOverLight 9 = .ok (.lastore, 1) := by decide +kernel
theorem dL_heavyOverLight_10 : decode cL_heavyOverLight 10 = .ok (.goto 11, 3) := by decide +kernel
theorem dL_heavyOverLight_13 : decode cL_heavyOverLight 13 = .ok (.astore 4, 2) := by decide +kernel
theorem dL_heavyOverLight_15 : decode cL_heavyOverLight 15 = .ok (.iconst 1, 1) := by decide +kernel
theorem dL_heavyOverLight_16 : decode cL_heavyOverLight 16 = .ok (.ireturn, 1) := by decide +kernel
theorem dL_heavyOverLight_17 : decode cL_heavyOverLight 17 = .ok (.astore 4, 2) := by decide +kernel
theorem dL_heavyOverLight_19 : decode cL_heavyOverLight 19 = .ok (.iconst 2, 1) := by decide +kernel
theorem dL_heavyOverLight_20 : decode cL_heavyOverLight 20 = .ok (.ireturn, 1) := by decide +kernel
theorem dL_heavyOverLight_21 : decode cL_heavyOverLight 21 = .ok (.iconst 0, 1) := by decide +kernel
theorem dL_heavyOverLight_22 : decode cL_heavyOverLight 22 = .ok (.ireturn, 1) := by decide +kernel
set_option maxRecDepth 100000 in
set_option maxHeartbeats 4000000 in
theorem H_heavyOverLight (l : Launch) (hst : l.stackTraces = false) (E : gE) (x : gX) {v1 v2 : Int32} {M : gM} {oc : String ⊕ Int32} {M1 : gM} {z : Int32} {b : Int32} (hf : f_X6_heavyOverLight v1 v2 M = some (oc, M1)) (ha : gAns ["java/lang/IndexOutOfBoundsException", "java/util/NoSuchElementException"] oc z b) : gH0 l E yL_heavyOverLight (.codeWith yL_heavyOverLight cL_heavyOverLight 5 (some .int) [(0, 10, 13, 13), (0, 10, 17, 34)]) (gRX 11 195 3 18) M x [.ref (E.2.1 132), .int v1, .int v2, .ref (E.2.1 159)] z M1 (gXo x z b.toInt64) 3 18 := by
  refine gMetH (by decide +kernel) (Nat.le_of_ble_eq_true rfl) ?_
  intro p e s m args below meth c H locs ls Q hC hN hT hl hI kr
  replace hC : gC p s m args c cL_heavyOverLight 5 RL E := hC
  replace hl : lv_has ls 5 [(0, .ref (E.2.1 132)), (1, .int v1), (2, .int v2), (3, .ref (E.2.1 159))] := hl
  have hx := hC.1
  have hb := hC.2.1
  refine lv_aload_n hx hb dL_heavyOverLight_0 rfl (lv_at hl 3 rfl) ?_
  refine lv_iconst (v := 0) hx hb dL_heavyOverLight_1 (by decide) ?_
  refine lv_aload_n hx hb dL_heavyOverLight_2 rfl (lv_at hl 0 rfl) ?_
  refine lv_iload_n hx hb dL_heavyOverLight_3 rfl (lv_at hl 1 rfl) ?_
  refine lv_iload_n hx hb dL_heavyOverLight_4 rfl (lv_at hl 2 rfl) ?_
  have hm := C_X6_heavyOverLight l hst E x hf
  rcases ha with ⟨e1, e2⟩ | ⟨i, En, hi, e1, e2⟩
  · subst e1 e2
    refine g_xV hC hI hm Y_X6_heavyOverLight V_X6_heavyOverLight w1004 (rcv_X6 hC hI) ⟨rfl, rfl⟩ ⟨Nat.le_of_ble_eq_true rfl, Nat.le_of_ble_eq_true rfl⟩ rfl hl.1 rfl (Nat.le_of_ble_eq_true rfl) dL_heavyOverLight_5 ⟨Nat.le_of_ble_eq_true rfl, Nat.le_of_ble_eq_true rfl⟩ (fun rv H locs ho hI => ?_) (fun En ce q H locs ho => nomatch ho)
    cases ho
    refine lv_i2l (v := b.toInt64) hx hb dL_heavyOverLight_8 rfl ?_
    refine g_lastX hC hI dL_heavyOverLight_9 (fun H locs hI => ?_)
    refine lv_goto (tgt := 21) hx hb dL_heavyOverLight_10 rfl ?_
    refine lv_iconst (v := 0) hx hb dL_heavyOverLight_21 (by decide) ?_
    exact kr _ _ _ _ _ _ _ _ nI_0.symm (by rw [gXo_0]) hI ⟨Nat.le_of_ble_eq_true rfl, Nat.le_of_ble_eq_true rfl⟩ dL_heavyOverLight_22
  · subst e1 e2
    refine g_xV hC hI hm Y_X6_heavyOverLight V_X6_heavyOverLight w1004 (rcv_X6 hC hI) ⟨rfl, rfl⟩ ⟨Nat.le_of_ble_eq_true rfl, Nat.le_of_ble_eq_true rfl⟩ rfl hl.1 rfl (Nat.le_of_ble_eq_true rfl) dL_heavyOverLight_5 ⟨Nat.le_of_ble_eq_true rfl, Nat.le_of_ble_eq_true rfl⟩ (fun rv H locs ho => nomatch ho) (fun En2 ce q H locs ho hI hce hcv hcl => ?_)
    cases ho
    match i, hi with
    | 0, hi =>
      cases hi
      refine g_catch hC hT [] ⟨0, 10, 13, 13⟩ [⟨0, 10, 17, 34⟩] rfl (fun _ h => absurd h List.not_mem_nil) (by decide) (by decide) w442 (by decide +kernel) hce hcv hcl ?_
      refine lv_astore (lv' := [(4, .ref q), (0, .ref (E.2.1 132)), (1, .int v1), (2, .int v2), (3, .ref (E.2.1 159))]) hx hb dL_heavyOverLight_13 hl (by decide) rfl (fun ls hl => ?_)
      refine lv_iconst (v := 1) hx hb dL_heavyOverLight_15 (by decide) ?_
      exact kr _ _ _ _ _ _ _ _ rfl (by rw [gXo_n x (by decide)]) hI ⟨Nat.le_of_ble_eq_true rfl, Nat.le_of_ble_eq_true rfl⟩ dL_heavyOverLight_16
    | 1, hi =>
      cases hi
      refine g_catch hC hT [⟨0, 10, 13, 13⟩] ⟨0, 10, 17, 34⟩ [] rfl (List.forall_mem_cons.mpr ⟨⟨by decide, _, w442, hN ("java/util/NoSuchElementException", "java/lang/IndexOutOfBoundsException") (by decide +kernel)⟩, (fun _ h => absurd h List.not_mem_nil)⟩) (by decide) (by decide) w682 (by decide +kernel) hce hcv hcl ?_
      refine lv_astore (lv' := [(4, .ref q), (0, .ref (E.2.1 132)), (1, .int v1), (2, .int v2), (3, .ref (E.2.1 159))]) hx hb dL_heavyOverLight_17 hl (by decide) rfl (fun ls hl => ?_)
      refine lv_iconst (v := 2) hx hb dL_heavyOverLight_19 (by decide) ?_
      exact kr _ _ _ _ _ _ _ _ rfl (by rw [gXo_n x (by decide)]) hI ⟨Nat.le_of_ble_eq_true rfl, Nat.le_of_ble_eq_true rfl⟩ dL_heavyOverLight_20
    | k + 2, hi => cases hi
theorem dL_yardAt_0 : decode cL_yardAt 0 = .ok (.aload_n 2, 1) := by decide +kernel
theorem dL_yardAt_1 : decode cL_yardAt 1 = .ok (.iconst 0, 1) := by decide +kernel
theorem dL_yardAt_2 : decode cL_yardAt 2 = .ok (.aload_n 0, 1) := by decide +kernel
theorem dL_yardAt_3 : decode cL_yardAt 3 = .ok (.iload_n 1, 1) := by decide +kernel
theorem dL_yardAt_4 : decode cL_yardAt 4 = .ok (.invokevirtual 129, 3) := by decide +kernel
theorem dL_yardAt_7 : decode cL_yardAt 7 = .ok (.i2l, 1) := by decide +kernel
theorem dL_yardAt_8 : decode cL_yardAt 8 = .ok (.lastore, 1) := by decide +kernel
theorem dL_yardAt_9 : decode cL_yardAt 9 = .ok (.goto 6, 3) := by decide +kernel
theorem dL_yardAt_12 : decode cL_yardAt 12 = .ok (.astore_n 3, 1) := by decide +kernel
theorem dL_yardAt_13 : decode cL_yardAt 13 = .ok (.iconst 1, 1) := by decide +kernel
theorem dL_yardAt_14 : decode cL_yardAt 14 = .ok (.ireturn, 1) := by decide +kernel
theorem dL_yardAt_15 : decode cL_yardAt 15 = .ok (.iconst 0, 1) := by decide +kernel
theorem dL_yardAt_16 : decode cL_yardAt 16 = .ok (.ireturn, 1) := by decide +kernel
set_option maxRecDepth 100000 in
set_option maxHeartbeats 4000000 in
theorem H_yardAt (l : Launch) (hst : l.stackTraces = false) (E : gE) (x : gX) {v1 : Int32} {M : gM} {oc : String ⊕ Int32} {M1 : gM} {z : Int32} {b : Int32} (hf : f_X6_yardAt v1 M = some (oc, M1)) (ha : gAns ["java/util/NoSuchElementException"] oc z b) : gH0 l E yL_yardAt (.codeWith yL_yardAt cL_yardAt 4 (some .int) [(0, 9, 12, 34)]) (gRX 9 151 1 6) M x [.ref (E.2.1 132), .int v1, .ref (E.2.1 159)] z M1 (gXo x z b.toInt64) 1 6 := by
  refine gMetH (by decide +kernel) (Nat.le_of_ble_eq_true rfl) ?_
  intro p e s m args below meth c H locs ls Q hC hN hT hl hI kr
  replace hC : gC p s m args c cL_yardAt 4 RL E := hC
  replace hl : lv_has ls 4 [(0, .ref (E.2.1 132)), (1, .int v1), (2, .ref (E.2.1 159))] := hl
  have hx := hC.1
  have hb := hC.2.1
  refine lv_aload_n hx hb dL_yardAt_0 rfl (lv_at hl 2 rfl) ?_
  refine lv_iconst (v := 0) hx hb dL_yardAt_1 (by decide) ?_
  refine lv_aload_n hx hb dL_yardAt_2 rfl (lv_at hl 0 rfl) ?_
  refine lv_iload_n hx hb dL_yardAt_3 rfl (lv_at hl 1 rfl) ?_
  have hm := C_X6_yardAt l hst E x hf
  rcases ha with ⟨e1, e2⟩ | ⟨i, En, hi, e1, e2⟩
  · subst e1 e2
    refine g_xV hC hI hm Y_X6_yardAt V_X6_yardAt w1015 (rcv_X6 hC hI) ⟨rfl, rfl⟩ ⟨Nat.le_of_ble_eq_true rfl, Nat.le_of_ble_eq_true rfl⟩ rfl hl.1 rfl (Nat.le_of_ble_eq_true rfl) dL_yardAt_4 ⟨Nat.le_of_ble_eq_true rfl, Nat.le_of_ble_eq_true rfl⟩ (fun rv H locs ho hI => ?_) (fun En ce q H locs ho => nomatch ho)
    cases ho
    refine lv_i2l (v := b.toInt64) hx hb dL_yardAt_7 rfl ?_
    refine g_lastX hC hI dL_yardAt_8 (fun H locs hI => ?_)
    refine lv_goto (tgt := 15) hx hb dL_yardAt_9 rfl ?_
    refine lv_iconst (v := 0) hx hb dL_yardAt_15 (by decide) ?_
    exact kr _ _ _ _ _ _ _ _ nI_0.symm (by rw [gXo_0]) hI ⟨Nat.le_of_ble_eq_true rfl, Nat.le_of_ble_eq_true rfl⟩ dL_yardAt_16
  · subst e1 e2
    refine g_xV hC hI hm Y_X6_yardAt V_X6_yardAt w1015 (rcv_X6 hC hI) ⟨rfl, rfl⟩ ⟨Nat.le_of_ble_eq_true rfl, Nat.le_of_ble_eq_true rfl⟩ rfl hl.1 rfl (Nat.le_of_ble_eq_true rfl) dL_yardAt_4 ⟨Nat.le_of_ble_eq_true rfl, Nat.le_of_ble_eq_true rfl⟩ (fun rv H locs ho => nomatch ho) (fun En2 ce q H locs ho hI hce hcv hcl => ?_)
    cases ho
    match i, hi with
    | 0, hi =>
      cases hi
      refine g_catch hC hT [] ⟨0, 9, 12, 34⟩ [] rfl (fun _ h => absurd h List.not_mem_nil) (by decide) (by decide) w682 (by decide +kernel) hce hcv hcl ?_
      refine lv_astore_n (lv' := [(3, .ref q), (0, .ref (E.2.1 132)), (1, .int v1), (2, .ref (E.2.1 159))]) hx hb dL_yardAt_12 rfl hl (by decide) rfl (fun ls hl => ?_)
      refine lv_iconst (v := 1) hx hb dL_yardAt_13 (by decide) ?_
      exact kr _ _ _ _ _ _ _ _ rfl (by rw [gXo_n x (by decide)]) hI ⟨Nat.le_of_ble_eq_true rfl, Nat.le_of_ble_eq_true rfl⟩ dL_yardAt_14
    | k + 1, hi => cases hi
